set_option maxHeartbeats 4000000 in
set_option maxRecDepth 100000 in
theorem rr_check (l : Launch) (G : va_G) (cA : Nat → ClassId) (mo : Nat) (mf : Nat) (m1 : Nat) (m2 : Nat) (so : Bool) (se : Int64) (sm : Int64) (sc : Int64) (sv : Nat) (ak : Bool) (cw : Int64) (dn : Int32) (an : Nat) (m3 : Nat) (m4 : Nat) (m5 : Nat) (sk : Nat) (m6 : Nat) (m7 : Nat) (m8 : Nat) (m9 : Nat) (t : Nat) (ma : Nat) (mb : Nat) (mc : Nat) (ee : Int64) (em : Int64) (ec : Int64) (mg : Nat) (mz : Nat) (gn : Bool) (c : Int32) (mr : Nat) (mi : Nat) (th : Int32) (v : Int32) (dg : Int32)  (sz : Nat) : Met l dn_y_Mod_check (.code dn_y_Mod_check dn_c_Mod_check 3 (some .int) :: dc_W) ({ frames := 1, cells := 0, slots := 0, locals := 25 }) (dc_pW G cA [(mo, .inr (9, [.ref mf, .ref m1, .ref m2, .int (dc_bI so), .long se, .long sm, .long sc, .int (dc_dn sv), .int (dc_bI ak), .long cw, .int dn, .int (nI an), .ref m3, .ref m4, .ref m5, .int (nI sk), .ref m6, .ref m7, .ref m8, .ref m9, .int (nI t), .ref ma, .ref mb, .ref mc, .long ee, .long em, .long ec, .ref mg, .ref mz, .int (dc_bI gn), .int c, .ref mr, .ref mi, .int th]))] sz [.ref mo, .int v, .int dg]) (dc_qi G (fun (r : Int32) (_ : Unit) => r = dc_check v dg) (fun (_ : Unit) => [(mo, .inr (9, [.ref mf, .ref m1, .ref m2, .int (dc_bI so), .long se, .long sm, .long sc, .int (dc_dn sv), .int (dc_bI ak), .long cw, .int dn, .int (nI an), .ref m3, .ref m4, .ref m5, .int (nI sk), .ref m6, .ref m7, .ref m8, .ref m9, .int (nI t), .ref ma, .ref mb, .ref mc, .long ee, .long em, .long ec, .ref mg, .ref mz, .int (dc_bI gn), .int c, .ref mr, .ref mi, .int 0]))]) sz [(mo, .inr (9, [.ref mf, .ref m1, .ref m2, .int (dc_bI so), .long se, .long sm, .long sc, .int (dc_dn sv), .int (dc_bI ak), .long cw, .int dn, .int (nI an), .ref m3, .ref m4, .ref m5, .int (nI sk), .ref m6, .ref m7, .ref m8, .ref m9, .int (nI t), .ref ma, .ref mb, .ref mc, .long ee, .long em, .long ec, .ref mg, .ref mz, .int (dc_bI gn), .int c, .ref mr, .ref mi, .int th]))]) 0 0 (va_A [(mo, .inr (9, [.ref mf, .ref m1, .ref m2, .int (dc_bI so), .long se, .long sm, .long sc, .int (dc_dn sv), .int (dc_bI ak), .long cw, .int dn, .int (nI an), .ref m3, .ref m4, .ref m5, .int (nI sk), .ref m6, .ref m7, .ref m8, .ref m9, .int (nI t), .ref ma, .ref mb, .ref mc, .long ee, .long em, .long ec, .ref mg, .ref mz, .int (dc_bI gn), .int c, .ref mr, .ref mi, .int th]))] sz) := by
  refine Met.ofW (cc := dn_c_Mod_check) (maxL := 3) (ret := (some .int)) (by decide) rfl ?_
  intro p9 en9 s m args9 below9 meth9 cd9 s9 B hml hv
  obtain ⟨rfl, hsz, hP, hK0, hD0⟩ := hv
  have hx := B.exec
  have hb := B.bytes
  have hr := B.returns
  have hts : ∀ w ∈ dc_W, w.before _ s = true := fun w h => atoms_spec (ws := (.code dn_y_Mod_check dn_c_Mod_check 3 (some .int) :: dc_W)) B.pre w (List.mem_cons_of_mem _ h)
  have hK := hK0.1
  have hN := hK0.2
  have hown : s.vm.findClass dn_R_Mod = some m.cls := findClass_of_methodNamed B.named
  have hlocks := B.notSynchronized
  subst hsz
  have hD := hD0.self (sz := s.heap.size)
  unfold dc_qi
  generalize hAe : va_A [(mo, .inr (9, [.ref mf, .ref m1, .ref m2, .int (dc_bI so), .long se, .long sm, .long sc, .int (dc_dn sv), .int (dc_bI ak), .long cw, .int dn, .int (nI an), .ref m3, .ref m4, .ref m5, .int (nI sk), .ref m6, .ref m7, .ref m8, .ref m9, .int (nI t), .ref ma, .ref mb, .ref mc, .long ee, .long em, .long ec, .ref mg, .ref mz, .int (dc_bI gn), .int c, .ref mr, .ref mi, .int th]))] s.heap.size = A at hD ⊢
  have hA : ∀ q : Nat, s.heap.size ≤ q → A q := fun q h => by rw [← hAe]; exact Or.inr h
  have hS : va_S A s.heap s.heap [] := va_S.rf
  have hl := lv_entry ([.ref mo, .int v, .int dg]) (n := 3) (Nat.le_of_ble_eq_true rfl)
  rw [lg_entry_eq]
  generalize (lg_sl ([.ref mo, .int v, .int dg]) ++ List.replicate (3 - (lg_sl ([.ref mo, .int v, .int dg])).length) Slot.unset).toArray = ls at hl ⊢
  have hl : lv_has ls 3 [(0, .ref mo), (1, .int v), (2, .int dg)] := hl
  refine lv_aload_n hx hb dn_d_Mod_check_0 rfl (lv_at hl 0 rfl) ?_
  refine lv_iconst (v := 0) hx hb dn_d_Mod_check_1 (by decide) ?_
  refine va_put (D := G) (ci := 9) (v := .int 0) (ty := (.int)) (C := dn_R_Mod) (T := dn_T_Mod) (N := 34) hx hb hts (dn_u_Mod) dn_t_Mod dn_o_Mod dn_n_Mod hown hK hP hD hS 0 rfl rfl 33 (by decide) (hts _ dn_w_891) (fun _ h9 => h9) rfl (by decide +kernel) rfl rfl (Nat.le_of_ble_eq_true rfl) dn_d_Mod_check_2 (fun H locs hP hD hS => ?_)
  have hP : va_P G vwCl [(mo, .inr (9, [.ref mf, .ref m1, .ref m2, .int (dc_bI so), .long se, .long sm, .long sc, .int (dc_dn sv), .int (dc_bI ak), .long cw, .int dn, .int (nI an), .ref m3, .ref m4, .ref m5, .int (nI sk), .ref m6, .ref m7, .ref m8, .ref m9, .int (nI t), .ref ma, .ref mb, .ref mc, .long ee, .long em, .long ec, .ref mg, .ref mz, .int (dc_bI gn), .int c, .ref mr, .ref mi, .int 0]))] H := hP
  have hD : va_D A [(mo, .inr (9, [.ref mf, .ref m1, .ref m2, .int (dc_bI so), .long se, .long sm, .long sc, .int (dc_dn sv), .int (dc_bI ak), .long cw, .int dn, .int (nI an), .ref m3, .ref m4, .ref m5, .int (nI sk), .ref m6, .ref m7, .ref m8, .ref m9, .int (nI t), .ref ma, .ref mb, .ref mc, .long ee, .long em, .long ec, .ref mg, .ref mz, .int (dc_bI gn), .int c, .ref mr, .ref mi, .int 0]))] := hD
  refine lv_iload_n hx hb dn_d_Mod_check_5 rfl (lv_at hl 2 rfl) ?_
  refine lv_iconst (v := 1) hx hb dn_d_Mod_check_6 (by decide) ?_
  refine lv_icmp_lt (tgt := 20) hx hb dn_d_Mod_check_7 (by decide) (fun h7 => ?_) (fun h7 => ?_)
  · -- 7: dg < 1
    refine lv_iconst (v := (-1)) hx hb dn_d_Mod_check_20 (by decide) ?_
    refine lv_goto (tgt := 29) hx hb dn_d_Mod_check_21 (by decide) ?_
    have hP9 := hP.sub (ws' := [(mo, .inr (9, [.ref mf, .ref m1, .ref m2, .int (dc_bI so), .long se, .long sm, .long sc, .int (dc_dn sv), .int (dc_bI ak), .long cw, .int dn, .int (nI an), .ref m3, .ref m4, .ref m5, .int (nI sk), .ref m6, .ref m7, .ref m8, .ref m9, .int (nI t), .ref ma, .ref mb, .ref mc, .long ee, .long em, .long ec, .ref mg, .ref mz, .int (dc_bI gn), .int c, .ref mr, .ref mi, .int 0]))]) [0] rfl
    have hD9 := hD.sub (ws' := [(mo, .inr (9, [.ref mf, .ref m1, .ref m2, .int (dc_bI so), .long se, .long sm, .long sc, .int (dc_dn sv), .int (dc_bI ak), .long cw, .int dn, .int (nI an), .ref m3, .ref m4, .ref m5, .int (nI sk), .ref m6, .ref m7, .ref m8, .ref m9, .int (nI t), .ref ma, .ref mb, .ref mc, .long ee, .long em, .long ec, .ref mg, .ref mz, .int (dc_bI gn), .int c, .ref mr, .ref mi, .int 0]))]) [0] (by decide) rfl
    exact W.iret (v := (-1)) hx hb hr (fun t ht hW => ⟨⟨_, (), rfl, (by unfold dc_check; rw [if_neg (fun z9 => z9.1 h7)]), by rw [ht]; exact hP9, hD9⟩, hS.F ht⟩) hS.2.2 dn_d_Mod_check_29
  · -- 7: ¬ dg < 1
    refine lv_iload_n hx hb dn_d_Mod_check_10 rfl (lv_at hl 2 rfl) ?_
    refine lv_bipush (v := 9) hx hb dn_d_Mod_check_11 (by decide) ?_
    refine lv_icmp_gt (tgt := 20) hx hb dn_d_Mod_check_13 (by decide) (fun h13 => ?_) (fun h13 => ?_)
    · -- 13: 9 < dg
      refine lv_iconst (v := (-1)) hx hb dn_d_Mod_check_20 (by decide) ?_
      refine lv_goto (tgt := 29) hx hb dn_d_Mod_check_21 (by decide) ?_
      have hP9 := hP.sub (ws' := [(mo, .inr (9, [.ref mf, .ref m1, .ref m2, .int (dc_bI so), .long se, .long sm, .long sc, .int (dc_dn sv), .int (dc_bI ak), .long cw, .int dn, .int (nI an), .ref m3, .ref m4, .ref m5, .int (nI sk), .ref m6, .ref m7, .ref m8, .ref m9, .int (nI t), .ref ma, .ref mb, .ref mc, .long ee, .long em, .long ec, .ref mg, .ref mz, .int (dc_bI gn), .int c, .ref mr, .ref mi, .int 0]))]) [0] rfl
      have hD9 := hD.sub (ws' := [(mo, .inr (9, [.ref mf, .ref m1, .ref m2, .int (dc_bI so), .long se, .long sm, .long sc, .int (dc_dn sv), .int (dc_bI ak), .long cw, .int dn, .int (nI an), .ref m3, .ref m4, .ref m5, .int (nI sk), .ref m6, .ref m7, .ref m8, .ref m9, .int (nI t), .ref ma, .ref mb, .ref mc, .long ee, .long em, .long ec, .ref mg, .ref mz, .int (dc_bI gn), .int c, .ref mr, .ref mi, .int 0]))]) [0] (by decide) rfl
      exact W.iret (v := (-1)) hx hb hr (fun t ht hW => ⟨⟨_, (), rfl, (by unfold dc_check; rw [if_neg (fun z9 => z9.2.1 h13)]), by rw [ht]; exact hP9, hD9⟩, hS.F ht⟩) hS.2.2 dn_d_Mod_check_29
    · -- 13: ¬ 9 < dg
      refine lv_iload_n hx hb dn_d_Mod_check_16 rfl (lv_at hl 1 rfl) ?_
      refine lv_if_ge (tgt := 24) hx hb dn_d_Mod_check_17 (by decide) (fun h17 => ?_) (fun h17 => ?_)
      · -- 17: 0 ≤ v
        obtain ⟨k, hk9, rfl⟩ := dc_ix9 h7 h13
        have hl : lv_has ls 3 [(0, .ref mo), (1, .int v), (2, .int (nI k))] := hl
        refine lv_iload_n hx hb dn_d_Mod_check_24 rfl (lv_at hl 1 rfl) ?_
        refine lv_iload_n hx hb dn_d_Mod_check_25 rfl (lv_at hl 2 rfl) ?_
        refine vp_callSi (va_Run.run (va_runS (As := [.int v, .int (nI k)]) (rest := []) ⟨hx, hb, hml, hown, hts⟩ (rr_digitOf l v k (Int32.not_lt.mpr h17) (dc_k1 h7) (hk9)) ⟨(callB_of 2 hts (dc_good dn_w_1000) rfl rfl rfl (hts _ dn_w_12) (hts _ dn_w_998) (by decide +kernel) ⟨Nat.le_of_ble_eq_true rfl, Nat.le_of_ble_eq_true rfl⟩), (hts _ dn_w_999)⟩ preEq rfl rfl hl.1 rfl (lv_room (Nat.le_of_ble_eq_true rfl)) dn_d_Mod_check_26 ⟨Nat.le_of_ble_eq_true rfl, Nat.le_of_ble_eq_true rfl⟩)) (fun r9 hr9 => ?_)
        subst hr9
        have hP9 := hP.sub (ws' := [(mo, .inr (9, [.ref mf, .ref m1, .ref m2, .int (dc_bI so), .long se, .long sm, .long sc, .int (dc_dn sv), .int (dc_bI ak), .long cw, .int dn, .int (nI an), .ref m3, .ref m4, .ref m5, .int (nI sk), .ref m6, .ref m7, .ref m8, .ref m9, .int (nI t), .ref ma, .ref mb, .ref mc, .long ee, .long em, .long ec, .ref mg, .ref mz, .int (dc_bI gn), .int c, .ref mr, .ref mi, .int 0]))]) [0] rfl
        have hD9 := hD.sub (ws' := [(mo, .inr (9, [.ref mf, .ref m1, .ref m2, .int (dc_bI so), .long se, .long sm, .long sc, .int (dc_dn sv), .int (dc_bI ak), .long cw, .int dn, .int (nI an), .ref m3, .ref m4, .ref m5, .int (nI sk), .ref m6, .ref m7, .ref m8, .ref m9, .int (nI t), .ref ma, .ref mb, .ref mc, .long ee, .long em, .long ec, .ref mg, .ref mz, .int (dc_bI gn), .int c, .ref mr, .ref mi, .int 0]))]) [0] (by decide) rfl
        exact W.iret (v := (dc_rd v k)) hx hb hr (fun t ht hW => ⟨⟨_, (), rfl, (by unfold dc_check; rw [if_pos ⟨h7, h13, h17⟩, nI_clamp (by omega)]), by rw [ht]; exact hP9, hD9⟩, hS.F ht⟩) hS.2.2 dn_d_Mod_check_29
      · -- 17: ¬ 0 ≤ v
        refine lv_iconst (v := (-1)) hx hb dn_d_Mod_check_20 (by decide) ?_
        refine lv_goto (tgt := 29) hx hb dn_d_Mod_check_21 (by decide) ?_
        have hP9 := hP.sub (ws' := [(mo, .inr (9, [.ref mf, .ref m1, .ref m2, .int (dc_bI so), .long se, .long sm, .long sc, .int (dc_dn sv), .int (dc_bI ak), .long cw, .int dn, .int (nI an), .ref m3, .ref m4, .ref m5, .int (nI sk), .ref m6, .ref m7, .ref m8, .ref m9, .int (nI t), .ref ma, .ref mb, .ref mc, .long ee, .long em, .long ec, .ref mg, .ref mz, .int (dc_bI gn), .int c, .ref mr, .ref mi, .int 0]))]) [0] rfl
        have hD9 := hD.sub (ws' := [(mo, .inr (9, [.ref mf, .ref m1, .ref m2, .int (dc_bI so), .long se, .long sm, .long sc, .int (dc_dn sv), .int (dc_bI ak), .long cw, .int dn, .int (nI an), .ref m3, .ref m4, .ref m5, .int (nI sk), .ref m6, .ref m7, .ref m8, .ref m9, .int (nI t), .ref ma, .ref mb, .ref mc, .long ee, .long em, .long ec, .ref mg, .ref mz, .int (dc_bI gn), .int c, .ref mr, .ref mi, .int 0]))]) [0] (by decide) rfl
        exact W.iret (v := (-1)) hx hb hr (fun t ht hW => ⟨⟨_, (), rfl, (by unfold dc_check; rw [if_neg (fun z9 => h17 z9.2.2)]), by rw [ht]; exact hP9, hD9⟩, hS.F ht⟩) hS.2.2 dn_d_Mod_check_29

set_option maxHeartbeats 4000000 in
set_option maxRecDepth 100000 in
theorem rr_chipSeed (l : Launch) (G : va_G) (cA : Nat → ClassId) (mo : Nat) (mf : Nat) (m1 : Nat) (m2 : Nat) (so : Bool) (se : Int64) (sm : Int64) (sc : Int64) (sv : Nat) (ak : Bool) (cw : Int64) (dn : Int32) (an : Nat) (m3 : Nat) (m4 : Nat) (m5 : Nat) (sk : Nat) (m6 : Nat) (m7 : Nat) (m8 : Nat) (m9 : Nat) (t : Nat) (ma : Nat) (mb : Nat) (mc : Nat) (ee : Int64) (em : Int64) (ec : Int64) (mg : Nat) (mz : Nat) (gn : Bool) (c : Int32) (mr : Nat) (mi : Nat) (th : Int32) (ff : Nat → Int32) (rw : Nat → Int64) (hff : ∀ j : Nat, ¬ ff j < 0) (sz : Nat) : Met l dn_y_Mod_chipSeed (.code dn_y_Mod_chipSeed dn_c_Mod_chipSeed 2 (some .long) :: dc_W) ({ frames := 1, cells := 0, slots := 0, locals := 25 }) (dc_pW G cA [(mo, .inr (9, [.ref mf, .ref m1, .ref m2, .int (dc_bI so), .long se, .long sm, .long sc, .int (dc_dn sv), .int (dc_bI ak), .long cw, .int dn, .int (nI an), .ref m3, .ref m4, .ref m5, .int (nI sk), .ref m6, .ref m7, .ref m8, .ref m9, .int (nI t), .ref ma, .ref mb, .ref mc, .long ee, .long em, .long ec, .ref mg, .ref mz, .int (dc_bI gn), .int c, .ref mr, .ref mi, .int th])), (mf, .inl (cA 0, 3, .inl ff)), (mr, .inl (cA 1, 24, .inr (.inl rw)))] sz [.ref mo]) (dc_ql G (fun (r : Int64) (_ : (Nat → Int64)) => r = dc_seed ff (fun j => dc_rd (ff j) (dc_wd j))) (fun (rw_ : (Nat → Int64)) => [(mo, .inr (9, [.ref mf, .ref m1, .ref m2, .int (dc_bI so), .long se, .long sm, .long sc, .int (dc_dn sv), .int (dc_bI ak), .long cw, .int dn, .int (nI an), .ref m3, .ref m4, .ref m5, .int (nI sk), .ref m6, .ref m7, .ref m8, .ref m9, .int (nI t), .ref ma, .ref mb, .ref mc, .long ee, .long em, .long ec, .ref mg, .ref mz, .int (dc_bI gn), .int c, .ref mr, .ref mi, .int th])), (mf, .inl (cA 0, 3, .inl ff)), (mr, .inl (cA 1, 24, .inr (.inl rw_)))]) sz [(mo, .inr (9, [.ref mf, .ref m1, .ref m2, .int (dc_bI so), .long se, .long sm, .long sc, .int (dc_dn sv), .int (dc_bI ak), .long cw, .int dn, .int (nI an), .ref m3, .ref m4, .ref m5, .int (nI sk), .ref m6, .ref m7, .ref m8, .ref m9, .int (nI t), .ref ma, .ref mb, .ref mc, .long ee, .long em, .long ec, .ref mg, .ref mz, .int (dc_bI gn), .int c, .ref mr, .ref mi, .int th])), (mf, .inl (cA 0, 3, .inl ff)), (mr, .inl (cA 1, 24, .inr (.inl rw)))]) 0 0 (va_A [(mo, .inr (9, [.ref mf, .ref m1, .ref m2, .int (dc_bI so), .long se, .long sm, .long sc, .int (dc_dn sv), .int (dc_bI ak), .long cw, .int dn, .int (nI an), .ref m3, .ref m4, .ref m5, .int (nI sk), .ref m6, .ref m7, .ref m8, .ref m9, .int (nI t), .ref ma, .ref mb, .ref mc, .long ee, .long em, .long ec, .ref mg, .ref mz, .int (dc_bI gn), .int c, .ref mr, .ref mi, .int th])), (mf, .inl (cA 0, 3, .inl ff)), (mr, .inl (cA 1, 24, .inr (.inl rw)))] sz) := by
  refine Met.ofW (cc := dn_c_Mod_chipSeed) (maxL := 2) (ret := (some .long)) (by decide) rfl ?_
  intro p9 en9 s m args9 below9 meth9 cd9 s9 B hml hv
  obtain ⟨rfl, hsz, hP, hK0, hD0⟩ := hv
  have hx := B.exec
  have hb := B.bytes
  have hr := B.returns
  have hts : ∀ w ∈ dc_W, w.before _ s = true := fun w h => atoms_spec (ws := (.code dn_y_Mod_chipSeed dn_c_Mod_chipSeed 2 (some .long) :: dc_W)) B.pre w (List.mem_cons_of_mem _ h)
  have hK := hK0.1
  have hN := hK0.2
  have hown : s.vm.findClass dn_R_Mod = some m.cls := findClass_of_methodNamed B.named
  have hlocks := B.notSynchronized
  subst hsz
  have hD := hD0.self (sz := s.heap.size)
  unfold dc_ql
  generalize hAe : va_A [(mo, .inr (9, [.ref mf, .ref m1, .ref m2, .int (dc_bI so), .long se, .long sm, .long sc, .int (dc_dn sv), .int (dc_bI ak), .long cw, .int dn, .int (nI an), .ref m3, .ref m4, .ref m5, .int (nI sk), .ref m6, .ref m7, .ref m8, .ref m9, .int (nI t), .ref ma, .ref mb, .ref mc, .long ee, .long em, .long ec, .ref mg, .ref mz, .int (dc_bI gn), .int c, .ref mr, .ref mi, .int th])), (mf, .inl (cA 0, 3, .inl ff)), (mr, .inl (cA 1, 24, .inr (.inl rw)))] s.heap.size = A at hD ⊢
  have hA : ∀ q : Nat, s.heap.size ≤ q → A q := fun q h => by rw [← hAe]; exact Or.inr h
  have hS : va_S A s.heap s.heap [] := va_S.rf
  have hl := lv_entry ([.ref mo]) (n := 2) (Nat.le_of_ble_eq_true rfl)
  rw [lg_entry_eq]
  generalize (lg_sl ([.ref mo]) ++ List.replicate (2 - (lg_sl ([.ref mo])).length) Slot.unset).toArray = ls at hl ⊢
  have hl : lv_has ls 2 [(0, .ref mo)] := hl
  refine lv_iconst (v := 0) hx hb dn_d_Mod_chipSeed_0 (by decide) ?_
  refine lv_istore_n hx hb dn_d_Mod_chipSeed_1 rfl hl (by decide) rfl (fun ls hl => ?_)
  have hl : lv_has ls 2 [(1, .int 0), (0, .ref mo)] := hl
  refine lv_iload_n hx hb dn_d_Mod_chipSeed_2 rfl (lv_at hl 0 rfl) ?_
  refine lv_iconst (v := 3) hx hb dn_d_Mod_chipSeed_3 (by decide) ?_
  refine lv_icmp_ge (tgt := 45) hx hb dn_d_Mod_chipSeed_4 (by decide) (fun h4 => ?_) (fun h4 => ?_)
  · exact absurd h4 (by decide)
  · -- 4: ¬ 3 ≤ 0
    refine lv_aload_n hx hb dn_d_Mod_chipSeed_7 rfl (lv_at hl 1 rfl) ?_
    refine va_get (D := G) (ci := 9) (v := .ref mr) (C := dn_R_Mod) (T := dn_T_Mod) (N := 34) hx hb hts (dn_u_Mod) hown hK hP 0 rfl rfl 31 (by decide) (hts _ dn_w_889) (fun _ h9 => h9) rfl dn_d_Mod_chipSeed_8 ?_
    refine lv_iload_n hx hb dn_d_Mod_chipSeed_11 rfl (lv_at hl 0 rfl) ?_
    refine lv_ldc2 (v := 10) hx hb hown (hts _ dn_w_1059) dn_d_Mod_chipSeed_12 ?_
    refine lv_aload_n hx hb dn_d_Mod_chipSeed_15 rfl (lv_at hl 1 rfl) ?_
    refine va_get (D := G) (ci := 9) (v := .ref mf) (C := dn_R_Mod) (T := dn_T_Mod) (N := 34) hx hb hts (dn_u_Mod) hown hK hP 0 rfl rfl 0 (by decide) (hts _ dn_w_858) (fun _ h9 => h9) rfl dn_d_Mod_chipSeed_16 ?_
    refine lv_iload_n hx hb dn_d_Mod_chipSeed_19 rfl (lv_at hl 0 rfl) ?_
    refine dc_iald (k := 0) hx hb hK hP 1 rfl (by omega) (by omega) dn_d_Mod_chipSeed_20 ?_
    refine lv_i2l (v := (ff 0).toInt64) hx hb dn_d_Mod_chipSeed_21 rfl ?_
    refine lv_lmul hx hb dn_d_Mod_chipSeed_22 ?_
    refine lv_aload_n hx hb dn_d_Mod_chipSeed_23 rfl (lv_at hl 1 rfl) ?_
    refine va_get (D := G) (ci := 9) (v := .ref mf) (C := dn_R_Mod) (T := dn_T_Mod) (N := 34) hx hb hts (dn_u_Mod) hown hK hP 0 rfl rfl 0 (by decide) (hts _ dn_w_858) (fun _ h9 => h9) rfl dn_d_Mod_chipSeed_24 ?_
    refine lv_iload_n hx hb dn_d_Mod_chipSeed_27 rfl (lv_at hl 0 rfl) ?_
    refine dc_iald (k := 0) hx hb hK hP 1 rfl (by omega) (by omega) dn_d_Mod_chipSeed_28 ?_
    refine lv_iload_n hx hb dn_d_Mod_chipSeed_29 rfl (lv_at hl 0 rfl) ?_
    refine vp_callSi (va_Run.run (va_runS (As := [.int 0]) (rest := [.int (ff 0), .long ((10 : Int64) * ((ff 0).toInt64)), .int 0, .ref mr]) ⟨hx, hb, hml, hown, hts⟩ (rr_digitsOf l 0 (by first | assumption | omega)) ⟨(callB_of 1 hts (dc_good dn_w_1021) rfl rfl rfl (hts _ dn_w_12) (hts _ dn_w_1019) (by decide +kernel) ⟨Nat.le_of_ble_eq_true rfl, Nat.le_of_ble_eq_true rfl⟩), (hts _ dn_w_1020)⟩ preEq rfl rfl hl.1 rfl (lv_room (Nat.le_of_ble_eq_true rfl)) dn_d_Mod_chipSeed_30 ⟨Nat.le_of_ble_eq_true rfl, Nat.le_of_ble_eq_true rfl⟩)) (fun r9 hr9 => ?_)
    subst hr9
    refine vp_callSi (va_Run.run (va_runS (As := [.int (ff 0), .int (nI (dc_wd 0))]) (rest := [.long ((10 : Int64) * ((ff 0).toInt64)), .int 0, .ref mr]) ⟨hx, hb, hml, hown, hts⟩ (rr_digitOf l (ff 0) (dc_wd 0) (hff _) (dc_wd1 _) (dc_wd9 _)) ⟨(callB_of 2 hts (dc_good dn_w_1000) rfl rfl rfl (hts _ dn_w_12) (hts _ dn_w_998) (by decide +kernel) ⟨Nat.le_of_ble_eq_true rfl, Nat.le_of_ble_eq_true rfl⟩), (hts _ dn_w_999)⟩ preEq rfl rfl hl.1 rfl (lv_room (Nat.le_of_ble_eq_true rfl)) dn_d_Mod_chipSeed_33 ⟨Nat.le_of_ble_eq_true rfl, Nat.le_of_ble_eq_true rfl⟩)) (fun r9 hr9 => ?_)
    subst hr9
    refine lv_i2l (v := (dc_rd (ff 0) (dc_wd 0)).toInt64) hx hb dn_d_Mod_chipSeed_36 rfl ?_
    refine lv_ladd hx hb dn_d_Mod_chipSeed_37 ?_
    refine dc_last (k := 0) hx hb hK hP hD hS 2 rfl (by omega) (by omega) dn_d_Mod_chipSeed_38 (fun H locs hP hD hS => ?_)
    have hP : va_P G vwCl [(mo, .inr (9, [.ref mf, .ref m1, .ref m2, .int (dc_bI so), .long se, .long sm, .long sc, .int (dc_dn sv), .int (dc_bI ak), .long cw, .int dn, .int (nI an), .ref m3, .ref m4, .ref m5, .int (nI sk), .ref m6, .ref m7, .ref m8, .ref m9, .int (nI t), .ref ma, .ref mb, .ref mc, .long ee, .long em, .long ec, .ref mg, .ref mz, .int (dc_bI gn), .int c, .ref mr, .ref mi, .int th])), (mf, .inl (cA 0, 3, .inl ff)), (mr, .inl (cA 1, 24, .inr (.inl (vp_updL rw 0 (((10 : Int64) * ((ff 0).toInt64)) + ((dc_rd (ff 0) (dc_wd 0)).toInt64))))))] H := hP
    have hD : va_D A [(mo, .inr (9, [.ref mf, .ref m1, .ref m2, .int (dc_bI so), .long se, .long sm, .long sc, .int (dc_dn sv), .int (dc_bI ak), .long cw, .int dn, .int (nI an), .ref m3, .ref m4, .ref m5, .int (nI sk), .ref m6, .ref m7, .ref m8, .ref m9, .int (nI t), .ref ma, .ref mb, .ref mc, .long ee, .long em, .long ec, .ref mg, .ref mz, .int (dc_bI gn), .int c, .ref mr, .ref mi, .int th])), (mf, .inl (cA 0, 3, .inl ff)), (mr, .inl (cA 1, 24, .inr (.inl (vp_updL rw 0 (((10 : Int64) * ((ff 0).toInt64)) + ((dc_rd (ff 0) (dc_wd 0)).toInt64))))))] := hD
    refine lv_iinc (k := 0) (v := 1) hx hb dn_d_Mod_chipSeed_39 hl rfl rfl (by decide) rfl (fun ls hl => ?_)
    have hl : lv_has ls 2 [(1, .int 1), (0, .ref mo)] := hl
    refine lv_goto (tgt := 2) hx hb dn_d_Mod_chipSeed_42 (by decide) ?_
    refine lv_iload_n hx hb dn_d_Mod_chipSeed_2 rfl (lv_at hl 0 rfl) ?_
    refine lv_iconst (v := 3) hx hb dn_d_Mod_chipSeed_3 (by decide) ?_
    refine lv_icmp_ge (tgt := 45) hx hb dn_d_Mod_chipSeed_4 (by decide) (fun h4_2 => ?_) (fun h4_2 => ?_)
    · exact absurd h4_2 (by decide)
    · -- 4: ¬ 3 ≤ 1
      refine lv_aload_n hx hb dn_d_Mod_chipSeed_7 rfl (lv_at hl 1 rfl) ?_
      refine va_get (D := G) (ci := 9) (v := .ref mr) (C := dn_R_Mod) (T := dn_T_Mod) (N := 34) hx hb hts (dn_u_Mod) hown hK hP 0 rfl rfl 31 (by decide) (hts _ dn_w_889) (fun _ h9 => h9) rfl dn_d_Mod_chipSeed_8 ?_
      refine lv_iload_n hx hb dn_d_Mod_chipSeed_11 rfl (lv_at hl 0 rfl) ?_
      refine lv_ldc2 (v := 10) hx hb hown (hts _ dn_w_1059) dn_d_Mod_chipSeed_12 ?_
      refine lv_aload_n hx hb dn_d_Mod_chipSeed_15 rfl (lv_at hl 1 rfl) ?_
      refine va_get (D := G) (ci := 9) (v := .ref mf) (C := dn_R_Mod) (T := dn_T_Mod) (N := 34) hx hb hts (dn_u_Mod) hown hK hP 0 rfl rfl 0 (by decide) (hts _ dn_w_858) (fun _ h9 => h9) rfl dn_d_Mod_chipSeed_16 ?_
      refine lv_iload_n hx hb dn_d_Mod_chipSeed_19 rfl (lv_at hl 0 rfl) ?_
      refine dc_iald (k := 1) hx hb hK hP 1 rfl (by omega) (by omega) dn_d_Mod_chipSeed_20 ?_
      refine lv_i2l (v := (ff 1).toInt64) hx hb dn_d_Mod_chipSeed_21 rfl ?_
      refine lv_lmul hx hb dn_d_Mod_chipSeed_22 ?_
      refine lv_aload_n hx hb dn_d_Mod_chipSeed_23 rfl (lv_at hl 1 rfl) ?_
      refine va_get (D := G) (ci := 9) (v := .ref mf) (C := dn_R_Mod) (T := dn_T_Mod) (N := 34) hx hb hts (dn_u_Mod) hown hK hP 0 rfl rfl 0 (by decide) (hts _ dn_w_858) (fun _ h9 => h9) rfl dn_d_Mod_chipSeed_24 ?_
      refine lv_iload_n hx hb dn_d_Mod_chipSeed_27 rfl (lv_at hl 0 rfl) ?_
      refine dc_iald (k := 1) hx hb hK hP 1 rfl (by omega) (by omega) dn_d_Mod_chipSeed_28 ?_
      refine lv_iload_n hx hb dn_d_Mod_chipSeed_29 rfl (lv_at hl 0 rfl) ?_
      refine vp_callSi (va_Run.run (va_runS (As := [.int 1]) (rest := [.int (ff 1), .long ((10 : Int64) * ((ff 1).toInt64)), .int 1, .ref mr]) ⟨hx, hb, hml, hown, hts⟩ (rr_digitsOf l 1 (by first | assumption | omega)) ⟨(callB_of 1 hts (dc_good dn_w_1021) rfl rfl rfl (hts _ dn_w_12) (hts _ dn_w_1019) (by decide +kernel) ⟨Nat.le_of_ble_eq_true rfl, Nat.le_of_ble_eq_true rfl⟩), (hts _ dn_w_1020)⟩ preEq rfl rfl hl.1 rfl (lv_room (Nat.le_of_ble_eq_true rfl)) dn_d_Mod_chipSeed_30 ⟨Nat.le_of_ble_eq_true rfl, Nat.le_of_ble_eq_true rfl⟩)) (fun r9 hr9 => ?_)
      subst hr9
      refine vp_callSi (va_Run.run (va_runS (As := [.int (ff 1), .int (nI (dc_wd 1))]) (rest := [.long ((10 : Int64) * ((ff 1).toInt64)), .int 1, .ref mr]) ⟨hx, hb, hml, hown, hts⟩ (rr_digitOf l (ff 1) (dc_wd 1) (hff _) (dc_wd1 _) (dc_wd9 _)) ⟨(callB_of 2 hts (dc_good dn_w_1000) rfl rfl rfl (hts _ dn_w_12) (hts _ dn_w_998) (by decide +kernel) ⟨Nat.le_of_ble_eq_true rfl, Nat.le_of_ble_eq_true rfl⟩), (hts _ dn_w_999)⟩ preEq rfl rfl hl.1 rfl (lv_room (Nat.le_of_ble_eq_true rfl)) dn_d_Mod_chipSeed_33 ⟨Nat.le_of_ble_eq_true rfl, Nat.le_of_ble_eq_true rfl⟩)) (fun r9 hr9 => ?_)
      subst hr9
      refine lv_i2l (v := (dc_rd (ff 1) (dc_wd 1)).toInt64) hx hb dn_d_Mod_chipSeed_36 rfl ?_
      refine lv_ladd hx hb dn_d_Mod_chipSeed_37 ?_
      refine dc_last (k := 1) hx hb hK hP hD hS 2 rfl (by omega) (by omega) dn_d_Mod_chipSeed_38 (fun H locs hP hD hS => ?_)
      have hP : va_P G vwCl [(mo, .inr (9, [.ref mf, .ref m1, .ref m2, .int (dc_bI so), .long se, .long sm, .long sc, .int (dc_dn sv), .int (dc_bI ak), .long cw, .int dn, .int (nI an), .ref m3, .ref m4, .ref m5, .int (nI sk), .ref m6, .ref m7, .ref m8, .ref m9, .int (nI t), .ref ma, .ref mb, .ref mc, .long ee, .long em, .long ec, .ref mg, .ref mz, .int (dc_bI gn), .int c, .ref mr, .ref mi, .int th])), (mf, .inl (cA 0, 3, .inl ff)), (mr, .inl (cA 1, 24, .inr (.inl (vp_updL (vp_updL rw 0 (((10 : Int64) * ((ff 0).toInt64)) + ((dc_rd (ff 0) (dc_wd 0)).toInt64))) 1 (((10 : Int64) * ((ff 1).toInt64)) + ((dc_rd (ff 1) (dc_wd 1)).toInt64))))))] H := hP
      have hD : va_D A [(mo, .inr (9, [.ref mf, .ref m1, .ref m2, .int (dc_bI so), .long se, .long sm, .long sc, .int (dc_dn sv), .int (dc_bI ak), .long cw, .int dn, .int (nI an), .ref m3, .ref m4, .ref m5, .int (nI sk), .ref m6, .ref m7, .ref m8, .ref m9, .int (nI t), .ref ma, .ref mb, .ref mc, .long ee, .long em, .long ec, .ref mg, .ref mz, .int (dc_bI gn), .int c, .ref mr, .ref mi, .int th])), (mf, .inl (cA 0, 3, .inl ff)), (mr, .inl (cA 1, 24, .inr (.inl (vp_updL (vp_updL rw 0 (((10 : Int64) * ((ff 0).toInt64)) + ((dc_rd (ff 0) (dc_wd 0)).toInt64))) 1 (((10 : Int64) * ((ff 1).toInt64)) + ((dc_rd (ff 1) (dc_wd 1)).toInt64))))))] := hD
      refine lv_iinc (k := 0) (v := 2) hx hb dn_d_Mod_chipSeed_39 hl rfl rfl (by decide) rfl (fun ls hl => ?_)
      have hl : lv_has ls 2 [(1, .int 2), (0, .ref mo)] := hl
      refine lv_goto (tgt := 2) hx hb dn_d_Mod_chipSeed_42 (by decide) ?_
      refine lv_iload_n hx hb dn_d_Mod_chipSeed_2 rfl (lv_at hl 0 rfl) ?_
      refine lv_iconst (v := 3) hx hb dn_d_Mod_chipSeed_3 (by decide) ?_
      refine lv_icmp_ge (tgt := 45) hx hb dn_d_Mod_chipSeed_4 (by decide) (fun h4_3 => ?_) (fun h4_3 => ?_)
      · exact absurd h4_3 (by decide)
      · -- 4: ¬ 3 ≤ 2
        refine lv_aload_n hx hb dn_d_Mod_chipSeed_7 rfl (lv_at hl 1 rfl) ?_
        refine va_get (D := G) (ci := 9) (v := .ref mr) (C := dn_R_Mod) (T := dn_T_Mod) (N := 34) hx hb hts (dn_u_Mod) hown hK hP 0 rfl rfl 31 (by decide) (hts _ dn_w_889) (fun _ h9 => h9) rfl dn_d_Mod_chipSeed_8 ?_
        refine lv_iload_n hx hb dn_d_Mod_chipSeed_11 rfl (lv_at hl 0 rfl) ?_
        refine lv_ldc2 (v := 10) hx hb hown (hts _ dn_w_1059) dn_d_Mod_chipSeed_12 ?_
        refine lv_aload_n hx hb dn_d_Mod_chipSeed_15 rfl (lv_at hl 1 rfl) ?_
        refine va_get (D := G) (ci := 9) (v := .ref mf) (C := dn_R_Mod) (T := dn_T_Mod) (N := 34) hx hb hts (dn_u_Mod) hown hK hP 0 rfl rfl 0 (by decide) (hts _ dn_w_858) (fun _ h9 => h9) rfl dn_d_Mod_chipSeed_16 ?_
        refine lv_iload_n hx hb dn_d_Mod_chipSeed_19 rfl (lv_at hl 0 rfl) ?_
        refine dc_iald (k := 2) hx hb hK hP 1 rfl (by omega) (by omega) dn_d_Mod_chipSeed_20 ?_
        refine lv_i2l (v := (ff 2).toInt64) hx hb dn_d_Mod_chipSeed_21 rfl ?_
        refine lv_lmul hx hb dn_d_Mod_chipSeed_22 ?_
        refine lv_aload_n hx hb dn_d_Mod_chipSeed_23 rfl (lv_at hl 1 rfl) ?_
        refine va_get (D := G) (ci := 9) (v := .ref mf) (C := dn_R_Mod) (T := dn_T_Mod) (N := 34) hx hb hts (dn_u_Mod) hown hK hP 0 rfl rfl 0 (by decide) (hts _ dn_w_858) (fun _ h9 => h9) rfl dn_d_Mod_chipSeed_24 ?_
        refine lv_iload_n hx hb dn_d_Mod_chipSeed_27 rfl (lv_at hl 0 rfl) ?_
        refine dc_iald (k := 2) hx hb hK hP 1 rfl (by omega) (by omega) dn_d_Mod_chipSeed_28 ?_
        refine lv_iload_n hx hb dn_d_Mod_chipSeed_29 rfl (lv_at hl 0 rfl) ?_
        refine vp_callSi (va_Run.run (va_runS (As := [.int 2]) (rest := [.int (ff 2), .long ((10 : Int64) * ((ff 2).toInt64)), .int 2, .ref mr]) ⟨hx, hb, hml, hown, hts⟩ (rr_digitsOf l 2 (by first | assumption | omega)) ⟨(callB_of 1 hts (dc_good dn_w_1021) rfl rfl rfl (hts _ dn_w_12) (hts _ dn_w_1019) (by decide +kernel) ⟨Nat.le_of_ble_eq_true rfl, Nat.le_of_ble_eq_true rfl⟩), (hts _ dn_w_1020)⟩ preEq rfl rfl hl.1 rfl (lv_room (Nat.le_of_ble_eq_true rfl)) dn_d_Mod_chipSeed_30 ⟨Nat.le_of_ble_eq_true rfl, Nat.le_of_ble_eq_true rfl⟩)) (fun r9 hr9 => ?_)
        subst hr9
        refine vp_callSi (va_Run.run (va_runS (As := [.int (ff 2), .int (nI (dc_wd 2))]) (rest := [.long ((10 : Int64) * ((ff 2).toInt64)), .int 2, .ref mr]) ⟨hx, hb, hml, hown, hts⟩ (rr_digitOf l (ff 2) (dc_wd 2) (hff _) (dc_wd1 _) (dc_wd9 _)) ⟨(callB_of 2 hts (dc_good dn_w_1000) rfl rfl rfl (hts _ dn_w_12) (hts _ dn_w_998) (by decide +kernel) ⟨Nat.le_of_ble_eq_true rfl, Nat.le_of_ble_eq_true rfl⟩), (hts _ dn_w_999)⟩ preEq rfl rfl hl.1 rfl (lv_room (Nat.le_of_ble_eq_true rfl)) dn_d_Mod_chipSeed_33 ⟨Nat.le_of_ble_eq_true rfl, Nat.le_of_ble_eq_true rfl⟩)) (fun r9 hr9 => ?_)
        subst hr9
        refine lv_i2l (v := (dc_rd (ff 2) (dc_wd 2)).toInt64) hx hb dn_d_Mod_chipSeed_36 rfl ?_
        refine lv_ladd hx hb dn_d_Mod_chipSeed_37 ?_
        refine dc_last (k := 2) hx hb hK hP hD hS 2 rfl (by omega) (by omega) dn_d_Mod_chipSeed_38 (fun H locs hP hD hS => ?_)
        have hP : va_P G vwCl [(mo, .inr (9, [.ref mf, .ref m1, .ref m2, .int (dc_bI so), .long se, .long sm, .long sc, .int (dc_dn sv), .int (dc_bI ak), .long cw, .int dn, .int (nI an), .ref m3, .ref m4, .ref m5, .int (nI sk), .ref m6, .ref m7, .ref m8, .ref m9, .int (nI t), .ref ma, .ref mb, .ref mc, .long ee, .long em, .long ec, .ref mg, .ref mz, .int (dc_bI gn), .int c, .ref mr, .ref mi, .int th])), (mf, .inl (cA 0, 3, .inl ff)), (mr, .inl (cA 1, 24, .inr (.inl (vp_updL (vp_updL (vp_updL rw 0 (((10 : Int64) * ((ff 0).toInt64)) + ((dc_rd (ff 0) (dc_wd 0)).toInt64))) 1 (((10 : Int64) * ((ff 1).toInt64)) + ((dc_rd (ff 1) (dc_wd 1)).toInt64))) 2 (((10 : Int64) * ((ff 2).toInt64)) + ((dc_rd (ff 2) (dc_wd 2)).toInt64))))))] H := hP
        have hD : va_D A [(mo, .inr (9, [.ref mf, .ref m1, .ref m2, .int (dc_bI so), .long se, .long sm, .long sc, .int (dc_dn sv), .int (dc_bI ak), .long cw, .int dn, .int (nI an), .ref m3, .ref m4, .ref m5, .int (nI sk), .ref m6, .ref m7, .ref m8, .ref m9, .int (nI t), .ref ma, .ref mb, .ref mc, .long ee, .long em, .long ec, .ref mg, .ref mz, .int (dc_bI gn), .int c, .ref mr, .ref mi, .int th])), (mf, .inl (cA 0, 3, .inl ff)), (mr, .inl (cA 1, 24, .inr (.inl (vp_updL (vp_updL (vp_updL rw 0 (((10 : Int64) * ((ff 0).toInt64)) + ((dc_rd (ff 0) (dc_wd 0)).toInt64))) 1 (((10 : Int64) * ((ff 1).toInt64)) + ((dc_rd (ff 1) (dc_wd 1)).toInt64))) 2 (((10 : Int64) * ((ff 2).toInt64)) + ((dc_rd (ff 2) (dc_wd 2)).toInt64))))))] := hD
        refine lv_iinc (k := 0) (v := 3) hx hb dn_d_Mod_chipSeed_39 hl rfl rfl (by decide) rfl (fun ls hl => ?_)
        have hl : lv_has ls 2 [(1, .int 3), (0, .ref mo)] := hl
        refine lv_goto (tgt := 2) hx hb dn_d_Mod_chipSeed_42 (by decide) ?_
        refine lv_iload_n hx hb dn_d_Mod_chipSeed_2 rfl (lv_at hl 0 rfl) ?_
        refine lv_iconst (v := 3) hx hb dn_d_Mod_chipSeed_3 (by decide) ?_
        refine lv_icmp_ge (tgt := 45) hx hb dn_d_Mod_chipSeed_4 (by decide) (fun h4_4 => ?_) (fun h4_4 => ?_)
        · -- 4: 3 ≤ 3
          refine lv_aload_n hx hb dn_d_Mod_chipSeed_45 rfl (lv_at hl 1 rfl) ?_
          refine lv_iconst (v := 3) hx hb dn_d_Mod_chipSeed_46 (by decide) ?_
          refine vp_callSl (va_Run.run (va_runV (b := mo) (As := [.int 3]) (rest := []) ⟨hx, hb, hml, hown, hts⟩ (rr_digRow l G cA mo mf m1 m2 so se sm sc sv ak cw dn an m3 m4 m5 sk m6 m7 m8 m9 t ma mb mc ee em ec mg mz gn c mr mi th (vp_updL (vp_updL (vp_updL rw 0 (((10 : Int64) * ((ff 0).toInt64)) + ((dc_rd (ff 0) (dc_wd 0)).toInt64))) 1 (((10 : Int64) * ((ff 1).toInt64)) + ((dc_rd (ff 1) (dc_wd 1)).toInt64))) 2 (((10 : Int64) * ((ff 2).toInt64)) + ((dc_rd (ff 2) (dc_wd 2)).toInt64))) 3 (by first | assumption | omega)) ⟨(callB_of 1 hts (dc_good dn_w_976) rfl rfl rfl (hts _ dn_w_12) (hts _ dn_w_973) (by decide +kernel) ⟨Nat.le_of_ble_eq_true rfl, Nat.le_of_ble_eq_true rfl⟩), (hts _ dn_w_975), (hts _ dn_s_Mod_digestRow)⟩ (dc_preVR (hP.sub [0, 2] rfl) hK0 (q0 := 0) rfl rfl) rfl rfl hl.1 rfl (lv_room (Nat.le_of_ble_eq_true rfl)) dn_d_Mod_chipSeed_47 ⟨Nat.le_of_ble_eq_true rfl, Nat.le_of_ble_eq_true rfl⟩)) (fun r9 hr9 => ?_)
          subst hr9
          have hP9 := hP.sub (ws' := [(mo, .inr (9, [.ref mf, .ref m1, .ref m2, .int (dc_bI so), .long se, .long sm, .long sc, .int (dc_dn sv), .int (dc_bI ak), .long cw, .int dn, .int (nI an), .ref m3, .ref m4, .ref m5, .int (nI sk), .ref m6, .ref m7, .ref m8, .ref m9, .int (nI t), .ref ma, .ref mb, .ref mc, .long ee, .long em, .long ec, .ref mg, .ref mz, .int (dc_bI gn), .int c, .ref mr, .ref mi, .int th])), (mf, .inl (cA 0, 3, .inl ff)), (mr, .inl (cA 1, 24, .inr (.inl (vp_updL (vp_updL (vp_updL rw 0 (((10 : Int64) * ((ff 0).toInt64)) + ((dc_rd (ff 0) (dc_wd 0)).toInt64))) 1 (((10 : Int64) * ((ff 1).toInt64)) + ((dc_rd (ff 1) (dc_wd 1)).toInt64))) 2 (((10 : Int64) * ((ff 2).toInt64)) + ((dc_rd (ff 2) (dc_wd 2)).toInt64))))))]) [0, 1, 2] rfl
          have hD9 := hD.sub (ws' := [(mo, .inr (9, [.ref mf, .ref m1, .ref m2, .int (dc_bI so), .long se, .long sm, .long sc, .int (dc_dn sv), .int (dc_bI ak), .long cw, .int dn, .int (nI an), .ref m3, .ref m4, .ref m5, .int (nI sk), .ref m6, .ref m7, .ref m8, .ref m9, .int (nI t), .ref ma, .ref mb, .ref mc, .long ee, .long em, .long ec, .ref mg, .ref mz, .int (dc_bI gn), .int c, .ref mr, .ref mi, .int th])), (mf, .inl (cA 0, 3, .inl ff)), (mr, .inl (cA 1, 24, .inr (.inl (vp_updL (vp_updL (vp_updL rw 0 (((10 : Int64) * ((ff 0).toInt64)) + ((dc_rd (ff 0) (dc_wd 0)).toInt64))) 1 (((10 : Int64) * ((ff 1).toInt64)) + ((dc_rd (ff 1) (dc_wd 1)).toInt64))) 2 (((10 : Int64) * ((ff 2).toInt64)) + ((dc_rd (ff 2) (dc_wd 2)).toInt64))))))]) [0, 1, 2] (by decide) rfl
          exact W.lret (v := (dc_digN (vp_updL (vp_updL (vp_updL rw 0 (((10 : Int64) * ((ff 0).toInt64)) + ((dc_rd (ff 0) (dc_wd 0)).toInt64))) 1 (((10 : Int64) * ((ff 1).toInt64)) + ((dc_rd (ff 1) (dc_wd 1)).toInt64))) 2 (((10 : Int64) * ((ff 2).toInt64)) + ((dc_rd (ff 2) (dc_wd 2)).toInt64))) 3)) hx hb hr (fun t ht hW => ⟨⟨_, vp_updL (vp_updL (vp_updL rw 0 (((10 : Int64) * ((ff 0).toInt64)) + ((dc_rd (ff 0) (dc_wd 0)).toInt64))) 1 (((10 : Int64) * ((ff 1).toInt64)) + ((dc_rd (ff 1) (dc_wd 1)).toInt64))) 2 (((10 : Int64) * ((ff 2).toInt64)) + ((dc_rd (ff 2) (dc_wd 2)).toInt64)), rfl, (by show _ = dc_dig3 ((ff 0).toInt64 * (10 : Int64) + (dc_rd (ff 0) (dc_wd 0)).toInt64) ((ff 1).toInt64 * (10 : Int64) + (dc_rd (ff 1) (dc_wd 1)).toInt64) ((ff 2).toInt64 * (10 : Int64) + (dc_rd (ff 2) (dc_wd 2)).toInt64); rw [Int64.mul_comm (ff 0).toInt64, Int64.mul_comm (ff 1).toInt64, Int64.mul_comm (ff 2).toInt64]; rfl), by rw [ht]; exact hP9, hD9⟩, hS.F ht⟩) hS.2.2 dn_d_Mod_chipSeed_50
        · exact absurd h4_4 (by decide)

set_option maxHeartbeats 4000000 in
set_option maxRecDepth 100000 in
theorem rr_load (l : Launch) (G : va_G) (cA : Nat → ClassId) (mo : Nat) (mf : Nat) (m1 : Nat) (m2 : Nat) (so : Bool) (se : Int64) (sm : Int64) (sc : Int64) (sv : Nat) (ak : Bool) (cw : Int64) (dn : Int32) (an : Nat) (m3 : Nat) (m4 : Nat) (m5 : Nat) (sk : Nat) (m6 : Nat) (m7 : Nat) (m8 : Nat) (m9 : Nat) (t : Nat) (ma : Nat) (mb : Nat) (mc : Nat) (ee : Int64) (em : Int64) (ec : Int64) (mg : Nat) (mz : Nat) (gn : Bool) (c : Int32) (mr : Nat) (mi : Nat) (th : Int32) (F : Nat → Int64) (zs : Nat → Int32) (w0 : Nat → Int64) (n0 : Nat) (w1 : Nat → Int64) (n1 : Nat) (w2 : Nat → Int64) (n2 : Nat) (w3 : Nat → Int64) (n3 : Nat) (f : Int32) (x : Int64) (hz : dc_szR zs n0 n1 n2 n3) (hF : dc_fiR F w0 n0 w1 n1 w2 n2 w3 n3) (hn0 : n0 ≤ 20) (hn1 : n1 ≤ 20) (hn2 : n2 ≤ 20) (hn3 : n3 ≤ 20) (sz : Nat) : Met l dn_y_Mod_load (.code dn_y_Mod_load dn_c_Mod_load 4 (some .int) :: dc_W) ({ frames := 0, cells := 0, slots := 0, locals := 0 }) (dc_pW G cA [(mo, .inr (9, [.ref mf, .ref m1, .ref m2, .int (dc_bI so), .long se, .long sm, .long sc, .int (dc_dn sv), .int (dc_bI ak), .long cw, .int dn, .int (nI an), .ref m3, .ref m4, .ref m5, .int (nI sk), .ref m6, .ref m7, .ref m8, .ref m9, .int (nI t), .ref ma, .ref mb, .ref mc, .long ee, .long em, .long ec, .ref mg, .ref mz, .int (dc_bI gn), .int c, .ref mr, .ref mi, .int th])), (m1, .inl (cA 1, 80, .inr (.inl F))), (m2, .inl (cA 0, 4, .inl zs))] sz [.ref mo, .int f, .long x]) (dc_qi G (fun (r : Int32) (u : (Nat → Int64) × (Nat → Int32)) => match u with | (F_, zs_) => r = dc_ldV f n0 n1 n2 n3 ∧ dc_ldS f x zs_ F_ w0 n0 w1 n1 w2 n2 w3 n3) (fun (u : (Nat → Int64) × (Nat → Int32)) => match u with | (F_, zs_) => [(mo, .inr (9, [.ref mf, .ref m1, .ref m2, .int (dc_bI so), .long se, .long sm, .long sc, .int (dc_dn sv), .int (dc_bI ak), .long cw, .int dn, .int (nI an), .ref m3, .ref m4, .ref m5, .int (nI sk), .ref m6, .ref m7, .ref m8, .ref m9, .int (nI t), .ref ma, .ref mb, .ref mc, .long ee, .long em, .long ec, .ref mg, .ref mz, .int (dc_bI gn), .int c, .ref mr, .ref mi, .int (dc_ldT f n0 n1 n2 n3)])), (m1, .inl (cA 1, 80, .inr (.inl F_))), (m2, .inl (cA 0, 4, .inl zs_))]) sz [(mo, .inr (9, [.ref mf, .ref m1, .ref m2, .int (dc_bI so), .long se, .long sm, .long sc, .int (dc_dn sv), .int (dc_bI ak), .long cw, .int dn, .int (nI an), .ref m3, .ref m4, .ref m5, .int (nI sk), .ref m6, .ref m7, .ref m8, .ref m9, .int (nI t), .ref ma, .ref mb, .ref mc, .long ee, .long em, .long ec, .ref mg, .ref mz, .int (dc_bI gn), .int c, .ref mr, .ref mi, .int th])), (m1, .inl (cA 1, 80, .inr (.inl F))), (m2, .inl (cA 0, 4, .inl zs))]) 0 0 (va_A [(mo, .inr (9, [.ref mf, .ref m1, .ref m2, .int (dc_bI so), .long se, .long sm, .long sc, .int (dc_dn sv), .int (dc_bI ak), .long cw, .int dn, .int (nI an), .ref m3, .ref m4, .ref m5, .int (nI sk), .ref m6, .ref m7, .ref m8, .ref m9, .int (nI t), .ref ma, .ref mb, .ref mc, .long ee, .long em, .long ec, .ref mg, .ref mz, .int (dc_bI gn), .int c, .ref mr, .ref mi, .int th])), (m1, .inl (cA 1, 80, .inr (.inl F))), (m2, .inl (cA 0, 4, .inl zs))] sz) := by
  refine Met.ofW (cc := dn_c_Mod_load) (maxL := 4) (ret := (some .int)) (by decide) rfl ?_
  intro p9 en9 s m args9 below9 meth9 cd9 s9 B hml hv
  obtain ⟨rfl, hsz, hP, hK0, hD0⟩ := hv
  have hx := B.exec
  have hb := B.bytes
  have hr := B.returns
  have hts : ∀ w ∈ dc_W, w.before _ s = true := fun w h => atoms_spec (ws := (.code dn_y_Mod_load dn_c_Mod_load 4 (some .int) :: dc_W)) B.pre w (List.mem_cons_of_mem _ h)
  have hK := hK0.1
  have hN := hK0.2
  have hown : s.vm.findClass dn_R_Mod = some m.cls := findClass_of_methodNamed B.named
  have hlocks := B.notSynchronized
  subst hsz
  have hD := hD0.self (sz := s.heap.size)
  unfold dc_qi
  generalize hAe : va_A [(mo, .inr (9, [.ref mf, .ref m1, .ref m2, .int (dc_bI so), .long se, .long sm, .long sc, .int (dc_dn sv), .int (dc_bI ak), .long cw, .int dn, .int (nI an), .ref m3, .ref m4, .ref m5, .int (nI sk), .ref m6, .ref m7, .ref m8, .ref m9, .int (nI t), .ref ma, .ref mb, .ref mc, .long ee, .long em, .long ec, .ref mg, .ref mz, .int (dc_bI gn), .int c, .ref mr, .ref mi, .int th])), (m1, .inl (cA 1, 80, .inr (.inl F))), (m2, .inl (cA 0, 4, .inl zs))] s.heap.size = A at hD ⊢
  have hA : ∀ q : Nat, s.heap.size ≤ q → A q := fun q h => by rw [← hAe]; exact Or.inr h
  have hS : va_S A s.heap s.heap [] := va_S.rf
  have hl := lv_entry ([.ref mo, .int f, .long x]) (n := 4) (Nat.le_of_ble_eq_true rfl)
  rw [lg_entry_eq]
  generalize (lg_sl ([.ref mo, .int f, .long x]) ++ List.replicate (4 - (lg_sl ([.ref mo, .int f, .long x])).length) Slot.unset).toArray = ls at hl ⊢
  have hl : lv_has ls 4 [(0, .ref mo), (1, .int f), (2, .long x)] := hl
  rcases dc_w4 f with hout | rfl | rfl | rfl | rfl
  ·
    have hl : lv_has ls 4 [(0, .ref mo), (1, .int f), (2, .long x)] := hl
    have hP : va_P G vwCl [(mo, .inr (9, [.ref mf, .ref m1, .ref m2, .int (dc_bI so), .long se, .long sm, .long sc, .int (dc_dn sv), .int (dc_bI ak), .long cw, .int dn, .int (nI an), .ref m3, .ref m4, .ref m5, .int (nI sk), .ref m6, .ref m7, .ref m8, .ref m9, .int (nI t), .ref ma, .ref mb, .ref mc, .long ee, .long em, .long ec, .ref mg, .ref mz, .int (dc_bI gn), .int c, .ref mr, .ref mi, .int th])), (m1, .inl (cA 1, 80, .inr (.inl F))), (m2, .inl (cA 0, 4, .inl zs))] s.heap := hP
    have hD : va_D A [(mo, .inr (9, [.ref mf, .ref m1, .ref m2, .int (dc_bI so), .long se, .long sm, .long sc, .int (dc_dn sv), .int (dc_bI ak), .long cw, .int dn, .int (nI an), .ref m3, .ref m4, .ref m5, .int (nI sk), .ref m6, .ref m7, .ref m8, .ref m9, .int (nI t), .ref ma, .ref mb, .ref mc, .long ee, .long em, .long ec, .ref mg, .ref mz, .int (dc_bI gn), .int c, .ref mr, .ref mi, .int th])), (m1, .inl (cA 1, 80, .inr (.inl F))), (m2, .inl (cA 0, 4, .inl zs))] := hD
    refine lv_aload_n hx hb dn_d_Mod_load_0 rfl (lv_at hl 0 rfl) ?_
    refine lv_iload_n hx hb dn_d_Mod_load_1 rfl (lv_at hl 1 rfl) ?_
    refine lv_if_lt (tgt := 10) hx hb dn_d_Mod_load_2 (by decide) (fun h2 => ?_) (fun h2 => ?_)
    · -- 2: f < 0
      refine lv_iconst (v := 1) hx hb dn_d_Mod_load_10 (by decide) ?_
      refine lv_goto (tgt := 30) hx hb dn_d_Mod_load_11 (by decide) ?_
      refine va_put (D := G) (ci := 9) (v := .int 1) (ty := (.int)) (C := dn_R_Mod) (T := dn_T_Mod) (N := 34) hx hb hts (dn_u_Mod) dn_t_Mod dn_o_Mod dn_n_Mod hown hK hP hD hS 0 rfl rfl 33 (by decide) (hts _ dn_w_891) (fun _ h9 => h9) rfl (by decide +kernel) rfl rfl (Nat.le_of_ble_eq_true rfl) dn_d_Mod_load_30 (fun H locs hP hD hS => ?_)
      have hP : va_P G vwCl [(mo, .inr (9, [.ref mf, .ref m1, .ref m2, .int (dc_bI so), .long se, .long sm, .long sc, .int (dc_dn sv), .int (dc_bI ak), .long cw, .int dn, .int (nI an), .ref m3, .ref m4, .ref m5, .int (nI sk), .ref m6, .ref m7, .ref m8, .ref m9, .int (nI t), .ref ma, .ref mb, .ref mc, .long ee, .long em, .long ec, .ref mg, .ref mz, .int (dc_bI gn), .int c, .ref mr, .ref mi, .int 1])), (m1, .inl (cA 1, 80, .inr (.inl F))), (m2, .inl (cA 0, 4, .inl zs))] H := hP
      have hD : va_D A [(mo, .inr (9, [.ref mf, .ref m1, .ref m2, .int (dc_bI so), .long se, .long sm, .long sc, .int (dc_dn sv), .int (dc_bI ak), .long cw, .int dn, .int (nI an), .ref m3, .ref m4, .ref m5, .int (nI sk), .ref m6, .ref m7, .ref m8, .ref m9, .int (nI t), .ref ma, .ref mb, .ref mc, .long ee, .long em, .long ec, .ref mg, .ref mz, .int (dc_bI gn), .int c, .ref mr, .ref mi, .int 1])), (m1, .inl (cA 1, 80, .inr (.inl F))), (m2, .inl (cA 0, 4, .inl zs))] := hD
      refine lv_aload_n hx hb dn_d_Mod_load_33 rfl (lv_at hl 0 rfl) ?_
      refine va_get (D := G) (ci := 9) (v := .int 1) (C := dn_R_Mod) (T := dn_T_Mod) (N := 34) hx hb hts (dn_u_Mod) hown hK hP 0 rfl rfl 33 (by decide) (hts _ dn_w_891) (fun _ h9 => h9) rfl dn_d_Mod_load_34 ?_
      refine lv_if_eq (tgt := 42) hx hb dn_d_Mod_load_37 (by decide) (fun h37 => ?_) (fun h37 => ?_)
      · exact absurd h37 (by decide)
      · -- 37: ¬ 1 = 0
        refine lv_iconst (v := 0) hx hb dn_d_Mod_load_40 (by decide) ?_
        have hT : dc_ldT f n0 n1 n2 n3 = 1 := dc_ldO hout
        have hT0 : ¬ dc_ldT f n0 n1 n2 n3 = 0 := by rw [hT]; decide
        have hP9 := hP.sub (ws' := [(mo, .inr (9, [.ref mf, .ref m1, .ref m2, .int (dc_bI so), .long se, .long sm, .long sc, .int (dc_dn sv), .int (dc_bI ak), .long cw, .int dn, .int (nI an), .ref m3, .ref m4, .ref m5, .int (nI sk), .ref m6, .ref m7, .ref m8, .ref m9, .int (nI t), .ref ma, .ref mb, .ref mc, .long ee, .long em, .long ec, .ref mg, .ref mz, .int (dc_bI gn), .int c, .ref mr, .ref mi, .int 1])), (m1, .inl (cA 1, 80, .inr (.inl F))), (m2, .inl (cA 0, 4, .inl zs))]) [0, 1, 2] rfl
        have hD9 := hD.sub (ws' := [(mo, .inr (9, [.ref mf, .ref m1, .ref m2, .int (dc_bI so), .long se, .long sm, .long sc, .int (dc_dn sv), .int (dc_bI ak), .long cw, .int dn, .int (nI an), .ref m3, .ref m4, .ref m5, .int (nI sk), .ref m6, .ref m7, .ref m8, .ref m9, .int (nI t), .ref ma, .ref mb, .ref mc, .long ee, .long em, .long ec, .ref mg, .ref mz, .int (dc_bI gn), .int c, .ref mr, .ref mi, .int 1])), (m1, .inl (cA 1, 80, .inr (.inl F))), (m2, .inl (cA 0, 4, .inl zs))]) [0, 1, 2] (by decide) rfl
        have hE9 : ([(mo, .inr (9, [.ref mf, .ref m1, .ref m2, .int (dc_bI so), .long se, .long sm, .long sc, .int (dc_dn sv), .int (dc_bI ak), .long cw, .int dn, .int (nI an), .ref m3, .ref m4, .ref m5, .int (nI sk), .ref m6, .ref m7, .ref m8, .ref m9, .int (nI t), .ref ma, .ref mb, .ref mc, .long ee, .long em, .long ec, .ref mg, .ref mz, .int (dc_bI gn), .int c, .ref mr, .ref mi, .int 1])), (m1, .inl (cA 1, 80, .inr (.inl F))), (m2, .inl (cA 0, 4, .inl zs))] : va_W) = [(mo, .inr (9, [.ref mf, .ref m1, .ref m2, .int (dc_bI so), .long se, .long sm, .long sc, .int (dc_dn sv), .int (dc_bI ak), .long cw, .int dn, .int (nI an), .ref m3, .ref m4, .ref m5, .int (nI sk), .ref m6, .ref m7, .ref m8, .ref m9, .int (nI t), .ref ma, .ref mb, .ref mc, .long ee, .long em, .long ec, .ref mg, .ref mz, .int (dc_bI gn), .int c, .ref mr, .ref mi, .int (dc_ldT f n0 n1 n2 n3)])), (m1, .inl (cA 1, 80, .inr (.inl F))), (m2, .inl (cA 0, 4, .inl zs))] := by rw [hT]
        rw [hE9] at hP9 hD9
        exact W.iret (v := 0) hx hb hr (fun t ht hW => ⟨⟨_, (F, zs), rfl, (⟨dc_ldV0 hT0, dc_ldS0 hT0 hz hF⟩), by rw [ht]; exact hP9, hD9⟩, hS.F ht⟩) hS.2.2 dn_d_Mod_load_41
    · -- 2: ¬ f < 0
      refine lv_iload_n hx hb dn_d_Mod_load_5 rfl (lv_at hl 1 rfl) ?_
      refine lv_iconst (v := 3) hx hb dn_d_Mod_load_6 (by decide) ?_
      refine lv_icmp_le (tgt := 14) hx hb dn_d_Mod_load_7 (by decide) (fun h7 => ?_) (fun h7 => ?_)
      · exact absurd h7 (dc_out3 hout h2)
      · -- 7: ¬ f ≤ 3
        refine lv_iconst (v := 1) hx hb dn_d_Mod_load_10 (by decide) ?_
        refine lv_goto (tgt := 30) hx hb dn_d_Mod_load_11 (by decide) ?_
        refine va_put (D := G) (ci := 9) (v := .int 1) (ty := (.int)) (C := dn_R_Mod) (T := dn_T_Mod) (N := 34) hx hb hts (dn_u_Mod) dn_t_Mod dn_o_Mod dn_n_Mod hown hK hP hD hS 0 rfl rfl 33 (by decide) (hts _ dn_w_891) (fun _ h9 => h9) rfl (by decide +kernel) rfl rfl (Nat.le_of_ble_eq_true rfl) dn_d_Mod_load_30 (fun H locs hP hD hS => ?_)
        have hP : va_P G vwCl [(mo, .inr (9, [.ref mf, .ref m1, .ref m2, .int (dc_bI so), .long se, .long sm, .long sc, .int (dc_dn sv), .int (dc_bI ak), .long cw, .int dn, .int (nI an), .ref m3, .ref m4, .ref m5, .int (nI sk), .ref m6, .ref m7, .ref m8, .ref m9, .int (nI t), .ref ma, .ref mb, .ref mc, .long ee, .long em, .long ec, .ref mg, .ref mz, .int (dc_bI gn), .int c, .ref mr, .ref mi, .int 1])), (m1, .inl (cA 1, 80, .inr (.inl F))), (m2, .inl (cA 0, 4, .inl zs))] H := hP
        have hD : va_D A [(mo, .inr (9, [.ref mf, .ref m1, .ref m2, .int (dc_bI so), .long se, .long sm, .long sc, .int (dc_dn sv), .int (dc_bI ak), .long cw, .int dn, .int (nI an), .ref m3, .ref m4, .ref m5, .int (nI sk), .ref m6, .ref m7, .ref m8, .ref m9, .int (nI t), .ref ma, .ref mb, .ref mc, .long ee, .long em, .long ec, .ref mg, .ref mz, .int (dc_bI gn), .int c, .ref mr, .ref mi, .int 1])), (m1, .inl (cA 1, 80, .inr (.inl F))), (m2, .inl (cA 0, 4, .inl zs))] := hD
        refine lv_aload_n hx hb dn_d_Mod_load_33 rfl (lv_at hl 0 rfl) ?_
        refine va_get (D := G) (ci := 9) (v := .int 1) (C := dn_R_Mod) (T := dn_T_Mod) (N := 34) hx hb hts (dn_u_Mod) hown hK hP 0 rfl rfl 33 (by decide) (hts _ dn_w_891) (fun _ h9 => h9) rfl dn_d_Mod_load_34 ?_
        refine lv_if_eq (tgt := 42) hx hb dn_d_Mod_load_37 (by decide) (fun h37 => ?_) (fun h37 => ?_)
        · exact absurd h37 (by decide)
        · -- 37: ¬ 1 = 0
          refine lv_iconst (v := 0) hx hb dn_d_Mod_load_40 (by decide) ?_
          have hT : dc_ldT f n0 n1 n2 n3 = 1 := dc_ldO hout
          have hT0 : ¬ dc_ldT f n0 n1 n2 n3 = 0 := by rw [hT]; decide
          have hP9 := hP.sub (ws' := [(mo, .inr (9, [.ref mf, .ref m1, .ref m2, .int (dc_bI so), .long se, .long sm, .long sc, .int (dc_dn sv), .int (dc_bI ak), .long cw, .int dn, .int (nI an), .ref m3, .ref m4, .ref m5, .int (nI sk), .ref m6, .ref m7, .ref m8, .ref m9, .int (nI t), .ref ma, .ref mb, .ref mc, .long ee, .long em, .long ec, .ref mg, .ref mz, .int (dc_bI gn), .int c, .ref mr, .ref mi, .int 1])), (m1, .inl (cA 1, 80, .inr (.inl F))), (m2, .inl (cA 0, 4, .inl zs))]) [0, 1, 2] rfl
          have hD9 := hD.sub (ws' := [(mo, .inr (9, [.ref mf, .ref m1, .ref m2, .int (dc_bI so), .long se, .long sm, .long sc, .int (dc_dn sv), .int (dc_bI ak), .long cw, .int dn, .int (nI an), .ref m3, .ref m4, .ref m5, .int (nI sk), .ref m6, .ref m7, .ref m8, .ref m9, .int (nI t), .ref ma, .ref mb, .ref mc, .long ee, .long em, .long ec, .ref mg, .ref mz, .int (dc_bI gn), .int c, .ref mr, .ref mi, .int 1])), (m1, .inl (cA 1, 80, .inr (.inl F))), (m2, .inl (cA 0, 4, .inl zs))]) [0, 1, 2] (by decide) rfl
          have hE9 : ([(mo, .inr (9, [.ref mf, .ref m1, .ref m2, .int (dc_bI so), .long se, .long sm, .long sc, .int (dc_dn sv), .int (dc_bI ak), .long cw, .int dn, .int (nI an), .ref m3, .ref m4, .ref m5, .int (nI sk), .ref m6, .ref m7, .ref m8, .ref m9, .int (nI t), .ref ma, .ref mb, .ref mc, .long ee, .long em, .long ec, .ref mg, .ref mz, .int (dc_bI gn), .int c, .ref mr, .ref mi, .int 1])), (m1, .inl (cA 1, 80, .inr (.inl F))), (m2, .inl (cA 0, 4, .inl zs))] : va_W) = [(mo, .inr (9, [.ref mf, .ref m1, .ref m2, .int (dc_bI so), .long se, .long sm, .long sc, .int (dc_dn sv), .int (dc_bI ak), .long cw, .int dn, .int (nI an), .ref m3, .ref m4, .ref m5, .int (nI sk), .ref m6, .ref m7, .ref m8, .ref m9, .int (nI t), .ref ma, .ref mb, .ref mc, .long ee, .long em, .long ec, .ref mg, .ref mz, .int (dc_bI gn), .int c, .ref mr, .ref mi, .int (dc_ldT f n0 n1 n2 n3)])), (m1, .inl (cA 1, 80, .inr (.inl F))), (m2, .inl (cA 0, 4, .inl zs))] := by rw [hT]
          rw [hE9] at hP9 hD9
          exact W.iret (v := 0) hx hb hr (fun t ht hW => ⟨⟨_, (F, zs), rfl, (⟨dc_ldV0 hT0, dc_ldS0 hT0 hz hF⟩), by rw [ht]; exact hP9, hD9⟩, hS.F ht⟩) hS.2.2 dn_d_Mod_load_41
  ·
    have hl : lv_has ls 4 [(0, .ref mo), (1, .int 0), (2, .long x)] := hl
    have hP : va_P G vwCl [(mo, .inr (9, [.ref mf, .ref m1, .ref m2, .int (dc_bI so), .long se, .long sm, .long sc, .int (dc_dn sv), .int (dc_bI ak), .long cw, .int dn, .int (nI an), .ref m3, .ref m4, .ref m5, .int (nI sk), .ref m6, .ref m7, .ref m8, .ref m9, .int (nI t), .ref ma, .ref mb, .ref mc, .long ee, .long em, .long ec, .ref mg, .ref mz, .int (dc_bI gn), .int c, .ref mr, .ref mi, .int th])), (m1, .inl (cA 1, 80, .inr (.inl F))), (m2, .inl (cA 0, 4, .inl zs))] s.heap := hP
    have hD : va_D A [(mo, .inr (9, [.ref mf, .ref m1, .ref m2, .int (dc_bI so), .long se, .long sm, .long sc, .int (dc_dn sv), .int (dc_bI ak), .long cw, .int dn, .int (nI an), .ref m3, .ref m4, .ref m5, .int (nI sk), .ref m6, .ref m7, .ref m8, .ref m9, .int (nI t), .ref ma, .ref mb, .ref mc, .long ee, .long em, .long ec, .ref mg, .ref mz, .int (dc_bI gn), .int c, .ref mr, .ref mi, .int th])), (m1, .inl (cA 1, 80, .inr (.inl F))), (m2, .inl (cA 0, 4, .inl zs))] := hD
    refine lv_aload_n hx hb dn_d_Mod_load_0 rfl (lv_at hl 0 rfl) ?_
    refine lv_iload_n hx hb dn_d_Mod_load_1 rfl (lv_at hl 1 rfl) ?_
    refine lv_if_lt (tgt := 10) hx hb dn_d_Mod_load_2 (by decide) (fun h2 => ?_) (fun h2 => ?_)
    · exact absurd h2 (by decide)
    · -- 2: ¬ 0 < 0
      refine lv_iload_n hx hb dn_d_Mod_load_5 rfl (lv_at hl 1 rfl) ?_
      refine lv_iconst (v := 3) hx hb dn_d_Mod_load_6 (by decide) ?_
      refine lv_icmp_le (tgt := 14) hx hb dn_d_Mod_load_7 (by decide) (fun h7 => ?_) (fun h7 => ?_)
      · -- 7: 0 ≤ 3
        refine lv_aload_n hx hb dn_d_Mod_load_14 rfl (lv_at hl 0 rfl) ?_
        refine va_get (D := G) (ci := 9) (v := .ref m2) (C := dn_R_Mod) (T := dn_T_Mod) (N := 34) hx hb hts (dn_u_Mod) hown hK hP 0 rfl rfl 2 (by decide) (hts _ dn_w_860) (fun _ h9 => h9) rfl dn_d_Mod_load_15 ?_
        refine lv_iload_n hx hb dn_d_Mod_load_18 rfl (lv_at hl 1 rfl) ?_
        refine dc_iald (k := 0) hx hb hK hP 2 rfl (by omega) (by omega) dn_d_Mod_load_19 ?_
        rw [hz.1]
        refine lv_bipush (v := 20) hx hb dn_d_Mod_load_20 (by decide) ?_
        refine lv_icmp_ne (tgt := 29) hx hb dn_d_Mod_load_22 (by decide) (fun h22 => ?_) (fun h22 => ?_)
        · -- 22: ¬ n0 = 20
          have h22 : ¬ n0 = 20 := fun z => h22 ((nI_eq (a := n0) (b := 20) (by omega) (by omega)).2 z)
          refine lv_iconst (v := 0) hx hb dn_d_Mod_load_29 (by decide) ?_
          refine va_put (D := G) (ci := 9) (v := .int 0) (ty := (.int)) (C := dn_R_Mod) (T := dn_T_Mod) (N := 34) hx hb hts (dn_u_Mod) dn_t_Mod dn_o_Mod dn_n_Mod hown hK hP hD hS 0 rfl rfl 33 (by decide) (hts _ dn_w_891) (fun _ h9 => h9) rfl (by decide +kernel) rfl rfl (Nat.le_of_ble_eq_true rfl) dn_d_Mod_load_30 (fun H locs hP hD hS => ?_)
          have hP : va_P G vwCl [(mo, .inr (9, [.ref mf, .ref m1, .ref m2, .int (dc_bI so), .long se, .long sm, .long sc, .int (dc_dn sv), .int (dc_bI ak), .long cw, .int dn, .int (nI an), .ref m3, .ref m4, .ref m5, .int (nI sk), .ref m6, .ref m7, .ref m8, .ref m9, .int (nI t), .ref ma, .ref mb, .ref mc, .long ee, .long em, .long ec, .ref mg, .ref mz, .int (dc_bI gn), .int c, .ref mr, .ref mi, .int 0])), (m1, .inl (cA 1, 80, .inr (.inl F))), (m2, .inl (cA 0, 4, .inl zs))] H := hP
          have hD : va_D A [(mo, .inr (9, [.ref mf, .ref m1, .ref m2, .int (dc_bI so), .long se, .long sm, .long sc, .int (dc_dn sv), .int (dc_bI ak), .long cw, .int dn, .int (nI an), .ref m3, .ref m4, .ref m5, .int (nI sk), .ref m6, .ref m7, .ref m8, .ref m9, .int (nI t), .ref ma, .ref mb, .ref mc, .long ee, .long em, .long ec, .ref mg, .ref mz, .int (dc_bI gn), .int c, .ref mr, .ref mi, .int 0])), (m1, .inl (cA 1, 80, .inr (.inl F))), (m2, .inl (cA 0, 4, .inl zs))] := hD
          refine lv_aload_n hx hb dn_d_Mod_load_33 rfl (lv_at hl 0 rfl) ?_
          refine va_get (D := G) (ci := 9) (v := .int 0) (C := dn_R_Mod) (T := dn_T_Mod) (N := 34) hx hb hts (dn_u_Mod) hown hK hP 0 rfl rfl 33 (by decide) (hts _ dn_w_891) (fun _ h9 => h9) rfl dn_d_Mod_load_34 ?_
          refine lv_if_eq (tgt := 42) hx hb dn_d_Mod_load_37 (by decide) (fun h37 => ?_) (fun h37 => ?_)
          · -- 37: 0 = 0
            refine lv_aload_n hx hb dn_d_Mod_load_42 rfl (lv_at hl 0 rfl) ?_
            refine va_get (D := G) (ci := 9) (v := .ref m1) (C := dn_R_Mod) (T := dn_T_Mod) (N := 34) hx hb hts (dn_u_Mod) hown hK hP 0 rfl rfl 1 (by decide) (hts _ dn_w_859) (fun _ h9 => h9) rfl dn_d_Mod_load_43 ?_
            refine lv_bipush (v := 20) hx hb dn_d_Mod_load_46 (by decide) ?_
            refine lv_iload_n hx hb dn_d_Mod_load_48 rfl (lv_at hl 1 rfl) ?_
            refine lv_imul hx hb dn_d_Mod_load_49 ?_
            rw [show (20 : Int32) * (0 : Int32) = (0 : Int32) from rfl]
            refine lv_aload_n hx hb dn_d_Mod_load_50 rfl (lv_at hl 0 rfl) ?_
            refine va_get (D := G) (ci := 9) (v := .ref m2) (C := dn_R_Mod) (T := dn_T_Mod) (N := 34) hx hb hts (dn_u_Mod) hown hK hP 0 rfl rfl 2 (by decide) (hts _ dn_w_860) (fun _ h9 => h9) rfl dn_d_Mod_load_51 ?_
            refine lv_iload_n hx hb dn_d_Mod_load_54 rfl (lv_at hl 1 rfl) ?_
            refine dc_iald (k := 0) hx hb hK hP 2 rfl (by omega) (by omega) dn_d_Mod_load_55 ?_
            rw [hz.1]
            refine lv_iadd hx hb dn_d_Mod_load_56 ?_
            rw [show (0 : Int32) + (nI n0) = nI (0 + n0) from nI_add 0 n0]
            refine lv_lload_n hx hb dn_d_Mod_load_57 rfl (lv_at hl 2 rfl) ?_
            refine dc_last (k := 0 + n0) hx hb hK hP hD hS 1 rfl (by omega) (by omega) dn_d_Mod_load_58 (fun H locs hP hD hS => ?_)
            have hP : va_P G vwCl [(mo, .inr (9, [.ref mf, .ref m1, .ref m2, .int (dc_bI so), .long se, .long sm, .long sc, .int (dc_dn sv), .int (dc_bI ak), .long cw, .int dn, .int (nI an), .ref m3, .ref m4, .ref m5, .int (nI sk), .ref m6, .ref m7, .ref m8, .ref m9, .int (nI t), .ref ma, .ref mb, .ref mc, .long ee, .long em, .long ec, .ref mg, .ref mz, .int (dc_bI gn), .int c, .ref mr, .ref mi, .int 0])), (m1, .inl (cA 1, 80, .inr (.inl (vp_updL F (0 + n0) x)))), (m2, .inl (cA 0, 4, .inl zs))] H := hP
            have hD : va_D A [(mo, .inr (9, [.ref mf, .ref m1, .ref m2, .int (dc_bI so), .long se, .long sm, .long sc, .int (dc_dn sv), .int (dc_bI ak), .long cw, .int dn, .int (nI an), .ref m3, .ref m4, .ref m5, .int (nI sk), .ref m6, .ref m7, .ref m8, .ref m9, .int (nI t), .ref ma, .ref mb, .ref mc, .long ee, .long em, .long ec, .ref mg, .ref mz, .int (dc_bI gn), .int c, .ref mr, .ref mi, .int 0])), (m1, .inl (cA 1, 80, .inr (.inl (vp_updL F (0 + n0) x)))), (m2, .inl (cA 0, 4, .inl zs))] := hD
            refine lv_aload_n hx hb dn_d_Mod_load_59 rfl (lv_at hl 0 rfl) ?_
            refine va_get (D := G) (ci := 9) (v := .ref m2) (C := dn_R_Mod) (T := dn_T_Mod) (N := 34) hx hb hts (dn_u_Mod) hown hK hP 0 rfl rfl 2 (by decide) (hts _ dn_w_860) (fun _ h9 => h9) rfl dn_d_Mod_load_60 ?_
            refine lv_iload_n hx hb dn_d_Mod_load_63 rfl (lv_at hl 1 rfl) ?_
            refine lv_dup2_11 hx hb dn_d_Mod_load_64 rfl rfl ?_
            refine dc_iald (k := 0) hx hb hK hP 2 rfl (by omega) (by omega) dn_d_Mod_load_65 ?_
            rw [hz.1]
            refine lv_iconst (v := 1) hx hb dn_d_Mod_load_66 (by decide) ?_
            refine lv_iadd hx hb dn_d_Mod_load_67 ?_
            rw [show (nI n0) + (1 : Int32) = nI (n0 + 1) from nI_add n0 1]
            refine dc_iast (k := 0) hx hb hK hP hD hS 2 rfl (by omega) (by omega) dn_d_Mod_load_68 (fun H locs hP hD hS => ?_)
            have hP : va_P G vwCl [(mo, .inr (9, [.ref mf, .ref m1, .ref m2, .int (dc_bI so), .long se, .long sm, .long sc, .int (dc_dn sv), .int (dc_bI ak), .long cw, .int dn, .int (nI an), .ref m3, .ref m4, .ref m5, .int (nI sk), .ref m6, .ref m7, .ref m8, .ref m9, .int (nI t), .ref ma, .ref mb, .ref mc, .long ee, .long em, .long ec, .ref mg, .ref mz, .int (dc_bI gn), .int c, .ref mr, .ref mi, .int 0])), (m1, .inl (cA 1, 80, .inr (.inl (vp_updL F (0 + n0) x)))), (m2, .inl (cA 0, 4, .inl (upd zs 0 (nI (n0 + 1)))))] H := hP
            have hD : va_D A [(mo, .inr (9, [.ref mf, .ref m1, .ref m2, .int (dc_bI so), .long se, .long sm, .long sc, .int (dc_dn sv), .int (dc_bI ak), .long cw, .int dn, .int (nI an), .ref m3, .ref m4, .ref m5, .int (nI sk), .ref m6, .ref m7, .ref m8, .ref m9, .int (nI t), .ref ma, .ref mb, .ref mc, .long ee, .long em, .long ec, .ref mg, .ref mz, .int (dc_bI gn), .int c, .ref mr, .ref mi, .int 0])), (m1, .inl (cA 1, 80, .inr (.inl (vp_updL F (0 + n0) x)))), (m2, .inl (cA 0, 4, .inl (upd zs 0 (nI (n0 + 1)))))] := hD
            refine lv_aload_n hx hb dn_d_Mod_load_69 rfl (lv_at hl 0 rfl) ?_
            refine va_get (D := G) (ci := 9) (v := .ref m2) (C := dn_R_Mod) (T := dn_T_Mod) (N := 34) hx hb hts (dn_u_Mod) hown hK hP 0 rfl rfl 2 (by decide) (hts _ dn_w_860) (fun _ h9 => h9) rfl dn_d_Mod_load_70 ?_
            refine lv_iload_n hx hb dn_d_Mod_load_73 rfl (lv_at hl 1 rfl) ?_
            refine dc_iald (k := 0) hx hb hK hP 2 rfl (by omega) (by omega) dn_d_Mod_load_74 ?_
            refine W.eq (g2 := F0 m 75 ls [.int (nI (n0 + 1))]) (rfl) ?_
            have hT : dc_ldT 0 n0 n1 n2 n3 = 0 := dc_ldG (j := 0) (by decide) h22
            have hP9 := hP.sub (ws' := [(mo, .inr (9, [.ref mf, .ref m1, .ref m2, .int (dc_bI so), .long se, .long sm, .long sc, .int (dc_dn sv), .int (dc_bI ak), .long cw, .int dn, .int (nI an), .ref m3, .ref m4, .ref m5, .int (nI sk), .ref m6, .ref m7, .ref m8, .ref m9, .int (nI t), .ref ma, .ref mb, .ref mc, .long ee, .long em, .long ec, .ref mg, .ref mz, .int (dc_bI gn), .int c, .ref mr, .ref mi, .int 0])), (m1, .inl (cA 1, 80, .inr (.inl (vp_updL F (0 + n0) x)))), (m2, .inl (cA 0, 4, .inl (upd zs 0 (nI (n0 + 1)))))]) [0, 1, 2] rfl
            have hD9 := hD.sub (ws' := [(mo, .inr (9, [.ref mf, .ref m1, .ref m2, .int (dc_bI so), .long se, .long sm, .long sc, .int (dc_dn sv), .int (dc_bI ak), .long cw, .int dn, .int (nI an), .ref m3, .ref m4, .ref m5, .int (nI sk), .ref m6, .ref m7, .ref m8, .ref m9, .int (nI t), .ref ma, .ref mb, .ref mc, .long ee, .long em, .long ec, .ref mg, .ref mz, .int (dc_bI gn), .int c, .ref mr, .ref mi, .int 0])), (m1, .inl (cA 1, 80, .inr (.inl (vp_updL F (0 + n0) x)))), (m2, .inl (cA 0, 4, .inl (upd zs 0 (nI (n0 + 1)))))]) [0, 1, 2] (by decide) rfl
            have hE9 : ([(mo, .inr (9, [.ref mf, .ref m1, .ref m2, .int (dc_bI so), .long se, .long sm, .long sc, .int (dc_dn sv), .int (dc_bI ak), .long cw, .int dn, .int (nI an), .ref m3, .ref m4, .ref m5, .int (nI sk), .ref m6, .ref m7, .ref m8, .ref m9, .int (nI t), .ref ma, .ref mb, .ref mc, .long ee, .long em, .long ec, .ref mg, .ref mz, .int (dc_bI gn), .int c, .ref mr, .ref mi, .int 0])), (m1, .inl (cA 1, 80, .inr (.inl (vp_updL F (0 + n0) x)))), (m2, .inl (cA 0, 4, .inl (upd zs 0 (nI (n0 + 1)))))] : va_W) = [(mo, .inr (9, [.ref mf, .ref m1, .ref m2, .int (dc_bI so), .long se, .long sm, .long sc, .int (dc_dn sv), .int (dc_bI ak), .long cw, .int dn, .int (nI an), .ref m3, .ref m4, .ref m5, .int (nI sk), .ref m6, .ref m7, .ref m8, .ref m9, .int (nI t), .ref ma, .ref mb, .ref mc, .long ee, .long em, .long ec, .ref mg, .ref mz, .int (dc_bI gn), .int c, .ref mr, .ref mi, .int (dc_ldT 0 n0 n1 n2 n3)])), (m1, .inl (cA 1, 80, .inr (.inl (vp_updL F (0 + n0) x)))), (m2, .inl (cA 0, 4, .inl (upd zs 0 (nI (n0 + 1)))))] := by rw [hT]
            rw [hE9] at hP9 hD9
            exact W.iret (v := (nI (n0 + 1))) hx hb hr (fun t ht hW => ⟨⟨_, (vp_updL F (0 + n0) x, upd zs 0 (nI (n0 + 1))), rfl, (⟨dc_ldV1 (j := 0) (by decide) hT, dc_ldS1 (j := 0) (by decide) hT (show n0 < 20 by omega) hn0 hn1 hn2 hn3 hz hF⟩), by rw [ht]; exact hP9, hD9⟩, hS.F ht⟩) hS.2.2 dn_d_Mod_load_75
          · exact absurd h37 (by decide)
        · -- 22: n0 = 20
          have h22 : n0 = 20 := (nI_eq (a := n0) (b := 20) (by omega) (by omega)).1 h22
          refine lv_iconst (v := 2) hx hb dn_d_Mod_load_25 (by decide) ?_
          refine lv_goto (tgt := 30) hx hb dn_d_Mod_load_26 (by decide) ?_
          refine va_put (D := G) (ci := 9) (v := .int 2) (ty := (.int)) (C := dn_R_Mod) (T := dn_T_Mod) (N := 34) hx hb hts (dn_u_Mod) dn_t_Mod dn_o_Mod dn_n_Mod hown hK hP hD hS 0 rfl rfl 33 (by decide) (hts _ dn_w_891) (fun _ h9 => h9) rfl (by decide +kernel) rfl rfl (Nat.le_of_ble_eq_true rfl) dn_d_Mod_load_30 (fun H locs hP hD hS => ?_)
          have hP : va_P G vwCl [(mo, .inr (9, [.ref mf, .ref m1, .ref m2, .int (dc_bI so), .long se, .long sm, .long sc, .int (dc_dn sv), .int (dc_bI ak), .long cw, .int dn, .int (nI an), .ref m3, .ref m4, .ref m5, .int (nI sk), .ref m6, .ref m7, .ref m8, .ref m9, .int (nI t), .ref ma, .ref mb, .ref mc, .long ee, .long em, .long ec, .ref mg, .ref mz, .int (dc_bI gn), .int c, .ref mr, .ref mi, .int 2])), (m1, .inl (cA 1, 80, .inr (.inl F))), (m2, .inl (cA 0, 4, .inl zs))] H := hP
          have hD : va_D A [(mo, .inr (9, [.ref mf, .ref m1, .ref m2, .int (dc_bI so), .long se, .long sm, .long sc, .int (dc_dn sv), .int (dc_bI ak), .long cw, .int dn, .int (nI an), .ref m3, .ref m4, .ref m5, .int (nI sk), .ref m6, .ref m7, .ref m8, .ref m9, .int (nI t), .ref ma, .ref mb, .ref mc, .long ee, .long em, .long ec, .ref mg, .ref mz, .int (dc_bI gn), .int c, .ref mr, .ref mi, .int 2])), (m1, .inl (cA 1, 80, .inr (.inl F))), (m2, .inl (cA 0, 4, .inl zs))] := hD
          refine lv_aload_n hx hb dn_d_Mod_load_33 rfl (lv_at hl 0 rfl) ?_
          refine va_get (D := G) (ci := 9) (v := .int 2) (C := dn_R_Mod) (T := dn_T_Mod) (N := 34) hx hb hts (dn_u_Mod) hown hK hP 0 rfl rfl 33 (by decide) (hts _ dn_w_891) (fun _ h9 => h9) rfl dn_d_Mod_load_34 ?_
          refine lv_if_eq (tgt := 42) hx hb dn_d_Mod_load_37 (by decide) (fun h37 => ?_) (fun h37 => ?_)
          · exact absurd h37 (by decide)
          · -- 37: ¬ 2 = 0
            refine lv_iconst (v := 0) hx hb dn_d_Mod_load_40 (by decide) ?_
            have hT : dc_ldT 0 n0 n1 n2 n3 = 2 := dc_ldF (j := 0) (by decide) h22
            have hT0 : ¬ dc_ldT 0 n0 n1 n2 n3 = 0 := by rw [hT]; decide
            have hP9 := hP.sub (ws' := [(mo, .inr (9, [.ref mf, .ref m1, .ref m2, .int (dc_bI so), .long se, .long sm, .long sc, .int (dc_dn sv), .int (dc_bI ak), .long cw, .int dn, .int (nI an), .ref m3, .ref m4, .ref m5, .int (nI sk), .ref m6, .ref m7, .ref m8, .ref m9, .int (nI t), .ref ma, .ref mb, .ref mc, .long ee, .long em, .long ec, .ref mg, .ref mz, .int (dc_bI gn), .int c, .ref mr, .ref mi, .int 2])), (m1, .inl (cA 1, 80, .inr (.inl F))), (m2, .inl (cA 0, 4, .inl zs))]) [0, 1, 2] rfl
            have hD9 := hD.sub (ws' := [(mo, .inr (9, [.ref mf, .ref m1, .ref m2, .int (dc_bI so), .long se, .long sm, .long sc, .int (dc_dn sv), .int (dc_bI ak), .long cw, .int dn, .int (nI an), .ref m3, .ref m4, .ref m5, .int (nI sk), .ref m6, .ref m7, .ref m8, .ref m9, .int (nI t), .ref ma, .ref mb, .ref mc, .long ee, .long em, .long ec, .ref mg, .ref mz, .int (dc_bI gn), .int c, .ref mr, .ref mi, .int 2])), (m1, .inl (cA 1, 80, .inr (.inl F))), (m2, .inl (cA 0, 4, .inl zs))]) [0, 1, 2] (by decide) rfl
            have hE9 : ([(mo, .inr (9, [.ref mf, .ref m1, .ref m2, .int (dc_bI so), .long se, .long sm, .long sc, .int (dc_dn sv), .int (dc_bI ak), .long cw, .int dn, .int (nI an), .ref m3, .ref m4, .ref m5, .int (nI sk), .ref m6, .ref m7, .ref m8, .ref m9, .int (nI t), .ref ma, .ref mb, .ref mc, .long ee, .long em, .long ec, .ref mg, .ref mz, .int (dc_bI gn), .int c, .ref mr, .ref mi, .int 2])), (m1, .inl (cA 1, 80, .inr (.inl F))), (m2, .inl (cA 0, 4, .inl zs))] : va_W) = [(mo, .inr (9, [.ref mf, .ref m1, .ref m2, .int (dc_bI so), .long se, .long sm, .long sc, .int (dc_dn sv), .int (dc_bI ak), .long cw, .int dn, .int (nI an), .ref m3, .ref m4, .ref m5, .int (nI sk), .ref m6, .ref m7, .ref m8, .ref m9, .int (nI t), .ref ma, .ref mb, .ref mc, .long ee, .long em, .long ec, .ref mg, .ref mz, .int (dc_bI gn), .int c, .ref mr, .ref mi, .int (dc_ldT 0 n0 n1 n2 n3)])), (m1, .inl (cA 1, 80, .inr (.inl F))), (m2, .inl (cA 0, 4, .inl zs))] := by rw [hT]
            rw [hE9] at hP9 hD9
            exact W.iret (v := 0) hx hb hr (fun t ht hW => ⟨⟨_, (F, zs), rfl, (⟨dc_ldV0 hT0, dc_ldS0 hT0 hz hF⟩), by rw [ht]; exact hP9, hD9⟩, hS.F ht⟩) hS.2.2 dn_d_Mod_load_41
      · exact absurd h7 (by decide)
  ·
    have hl : lv_has ls 4 [(0, .ref mo), (1, .int 1), (2, .long x)] := hl
    have hP : va_P G vwCl [(mo, .inr (9, [.ref mf, .ref m1, .ref m2, .int (dc_bI so), .long se, .long sm, .long sc, .int (dc_dn sv), .int (dc_bI ak), .long cw, .int dn, .int (nI an), .ref m3, .ref m4, .ref m5, .int (nI sk), .ref m6, .ref m7, .ref m8, .ref m9, .int (nI t), .ref ma, .ref mb, .ref mc, .long ee, .long em, .long ec, .ref mg, .ref mz, .int (dc_bI gn), .int c, .ref mr, .ref mi, .int th])), (m1, .inl (cA 1, 80, .inr (.inl F))), (m2, .inl (cA 0, 4, .inl zs))] s.heap := hP
    have hD : va_D A [(mo, .inr (9, [.ref mf, .ref m1, .ref m2, .int (dc_bI so), .long se, .long sm, .long sc, .int (dc_dn sv), .int (dc_bI ak), .long cw, .int dn, .int (nI an), .ref m3, .ref m4, .ref m5, .int (nI sk), .ref m6, .ref m7, .ref m8, .ref m9, .int (nI t), .ref ma, .ref mb, .ref mc, .long ee, .long em, .long ec, .ref mg, .ref mz, .int (dc_bI gn), .int c, .ref mr, .ref mi, .int th])), (m1, .inl (cA 1, 80, .inr (.inl F))), (m2, .inl (cA 0, 4, .inl zs))] := hD
    refine lv_aload_n hx hb dn_d_Mod_load_0 rfl (lv_at hl 0 rfl) ?_
    refine lv_iload_n hx hb dn_d_Mod_load_1 rfl (lv_at hl 1 rfl) ?_
    refine lv_if_lt (tgt := 10) hx hb dn_d_Mod_load_2 (by decide) (fun h2 => ?_) (fun h2 => ?_)
    · exact absurd h2 (by decide)
    · -- 2: ¬ 1 < 0
      refine lv_iload_n hx hb dn_d_Mod_load_5 rfl (lv_at hl 1 rfl) ?_
      refine lv_iconst (v := 3) hx hb dn_d_Mod_load_6 (by decide) ?_
      refine lv_icmp_le (tgt := 14) hx hb dn_d_Mod_load_7 (by decide) (fun h7 => ?_) (fun h7 => ?_)
      · -- 7: 1 ≤ 3
        refine lv_aload_n hx hb dn_d_Mod_load_14 rfl (lv_at hl 0 rfl) ?_
        refine va_get (D := G) (ci := 9) (v := .ref m2) (C := dn_R_Mod) (T := dn_T_Mod) (N := 34) hx hb hts (dn_u_Mod) hown hK hP 0 rfl rfl 2 (by decide) (hts _ dn_w_860) (fun _ h9 => h9) rfl dn_d_Mod_load_15 ?_
        refine lv_iload_n hx hb dn_d_Mod_load_18 rfl (lv_at hl 1 rfl) ?_
        refine dc_iald (k := 1) hx hb hK hP 2 rfl (by omega) (by omega) dn_d_Mod_load_19 ?_
        rw [hz.2.1]
        refine lv_bipush (v := 20) hx hb dn_d_Mod_load_20 (by decide) ?_
        refine lv_icmp_ne (tgt := 29) hx hb dn_d_Mod_load_22 (by decide) (fun h22 => ?_) (fun h22 => ?_)
        · -- 22: ¬ n1 = 20
          have h22 : ¬ n1 = 20 := fun z => h22 ((nI_eq (a := n1) (b := 20) (by omega) (by omega)).2 z)
          refine lv_iconst (v := 0) hx hb dn_d_Mod_load_29 (by decide) ?_
          refine va_put (D := G) (ci := 9) (v := .int 0) (ty := (.int)) (C := dn_R_Mod) (T := dn_T_Mod) (N := 34) hx hb hts (dn_u_Mod) dn_t_Mod dn_o_Mod dn_n_Mod hown hK hP hD hS 0 rfl rfl 33 (by decide) (hts _ dn_w_891) (fun _ h9 => h9) rfl (by decide +kernel) rfl rfl (Nat.le_of_ble_eq_true rfl) dn_d_Mod_load_30 (fun H locs hP hD hS => ?_)
          have hP : va_P G vwCl [(mo, .inr (9, [.ref mf, .ref m1, .ref m2, .int (dc_bI so), .long se, .long sm, .long sc, .int (dc_dn sv), .int (dc_bI ak), .long cw, .int dn, .int (nI an), .ref m3, .ref m4, .ref m5, .int (nI sk), .ref m6, .ref m7, .ref m8, .ref m9, .int (nI t), .ref ma, .ref mb, .ref mc, .long ee, .long em, .long ec, .ref mg, .ref mz, .int (dc_bI gn), .int c, .ref mr, .ref mi, .int 0])), (m1, .inl (cA 1, 80, .inr (.inl F))), (m2, .inl (cA 0, 4, .inl zs))] H := hP
          have hD : va_D A [(mo, .inr (9, [.ref mf, .ref m1, .ref m2, .int (dc_bI so), .long se, .long sm, .long sc, .int (dc_dn sv), .int (dc_bI ak), .long cw, .int dn, .int (nI an), .ref m3, .ref m4, .ref m5, .int (nI sk), .ref m6, .ref m7, .ref m8, .ref m9, .int (nI t), .ref ma, .ref mb, .ref mc, .long ee, .long em, .long ec, .ref mg, .ref mz, .int (dc_bI gn), .int c, .ref mr, .ref mi, .int 0])), (m1, .inl (cA 1, 80, .inr (.inl F))), (m2, .inl (cA 0, 4, .inl zs))] := hD
          refine lv_aload_n hx hb dn_d_Mod_load_33 rfl (lv_at hl 0 rfl) ?_
          refine va_get (D := G) (ci := 9) (v := .int 0) (C := dn_R_Mod) (T := dn_T_Mod) (N := 34) hx hb hts (dn_u_Mod) hown hK hP 0 rfl rfl 33 (by decide) (hts _ dn_w_891) (fun _ h9 => h9) rfl dn_d_Mod_load_34 ?_
          refine lv_if_eq (tgt := 42) hx hb dn_d_Mod_load_37 (by decide) (fun h37 => ?_) (fun h37 => ?_)
          · -- 37: 0 = 0
            refine lv_aload_n hx hb dn_d_Mod_load_42 rfl (lv_at hl 0 rfl) ?_
            refine va_get (D := G) (ci := 9) (v := .ref m1) (C := dn_R_Mod) (T := dn_T_Mod) (N := 34) hx hb hts (dn_u_Mod) hown hK hP 0 rfl rfl 1 (by decide) (hts _ dn_w_859) (fun _ h9 => h9) rfl dn_d_Mod_load_43 ?_
            refine lv_bipush (v := 20) hx hb dn_d_Mod_load_46 (by decide) ?_
            refine lv_iload_n hx hb dn_d_Mod_load_48 rfl (lv_at hl 1 rfl) ?_
            refine lv_imul hx hb dn_d_Mod_load_49 ?_
            rw [show (20 : Int32) * (1 : Int32) = (20 : Int32) from rfl]
            refine lv_aload_n hx hb dn_d_Mod_load_50 rfl (lv_at hl 0 rfl) ?_
            refine va_get (D := G) (ci := 9) (v := .ref m2) (C := dn_R_Mod) (T := dn_T_Mod) (N := 34) hx hb hts (dn_u_Mod) hown hK hP 0 rfl rfl 2 (by decide) (hts _ dn_w_860) (fun _ h9 => h9) rfl dn_d_Mod_load_51 ?_
            refine lv_iload_n hx hb dn_d_Mod_load_54 rfl (lv_at hl 1 rfl) ?_
            refine dc_iald (k := 1) hx hb hK hP 2 rfl (by omega) (by omega) dn_d_Mod_load_55 ?_
            rw [hz.2.1]
            refine lv_iadd hx hb dn_d_Mod_load_56 ?_
            rw [show (20 : Int32) + (nI n1) = nI (20 + n1) from nI_add 20 n1]
            refine lv_lload_n hx hb dn_d_Mod_load_57 rfl (lv_at hl 2 rfl) ?_
            refine dc_last (k := 20 + n1) hx hb hK hP hD hS 1 rfl (by omega) (by omega) dn_d_Mod_load_58 (fun H locs hP hD hS => ?_)
            have hP : va_P G vwCl [(mo, .inr (9, [.ref mf, .ref m1, .ref m2, .int (dc_bI so), .long se, .long sm, .long sc, .int (dc_dn sv), .int (dc_bI ak), .long cw, .int dn, .int (nI an), .ref m3, .ref m4, .ref m5, .int (nI sk), .ref m6, .ref m7, .ref m8, .ref m9, .int (nI t), .ref ma, .ref mb, .ref mc, .long ee, .long em, .long ec, .ref mg, .ref mz, .int (dc_bI gn), .int c, .ref mr, .ref mi, .int 0])), (m1, .inl (cA 1, 80, .inr (.inl (vp_updL F (20 + n1) x)))), (m2, .inl (cA 0, 4, .inl zs))] H := hP
            have hD : va_D A [(mo, .inr (9, [.ref mf, .ref m1, .ref m2, .int (dc_bI so), .long se, .long sm, .long sc, .int (dc_dn sv), .int (dc_bI ak), .long cw, .int dn, .int (nI an), .ref m3, .ref m4, .ref m5, .int (nI sk), .ref m6, .ref m7, .ref m8, .ref m9, .int (nI t), .ref ma, .ref mb, .ref mc, .long ee, .long em, .long ec, .ref mg, .ref mz, .int (dc_bI gn), .int c, .ref mr, .ref mi, .int 0])), (m1, .inl (cA 1, 80, .inr (.inl (vp_updL F (20 + n1) x)))), (m2, .inl (cA 0, 4, .inl zs))] := hD
            refine lv_aload_n hx hb dn_d_Mod_load_59 rfl (lv_at hl 0 rfl) ?_
            refine va_get (D := G) (ci := 9) (v := .ref m2) (C := dn_R_Mod) (T := dn_T_Mod) (N := 34) hx hb hts (dn_u_Mod) hown hK hP 0 rfl rfl 2 (by decide) (hts _ dn_w_860) (fun _ h9 => h9) rfl dn_d_Mod_load_60 ?_
            refine lv_iload_n hx hb dn_d_Mod_load_63 rfl (lv_at hl 1 rfl) ?_
            refine lv_dup2_11 hx hb dn_d_Mod_load_64 rfl rfl ?_
            refine dc_iald (k := 1) hx hb hK hP 2 rfl (by omega) (by omega) dn_d_Mod_load_65 ?_
            rw [hz.2.1]
            refine lv_iconst (v := 1) hx hb dn_d_Mod_load_66 (by decide) ?_
            refine lv_iadd hx hb dn_d_Mod_load_67 ?_
            rw [show (nI n1) + (1 : Int32) = nI (n1 + 1) from nI_add n1 1]
            refine dc_iast (k := 1) hx hb hK hP hD hS 2 rfl (by omega) (by omega) dn_d_Mod_load_68 (fun H locs hP hD hS => ?_)
            have hP : va_P G vwCl [(mo, .inr (9, [.ref mf, .ref m1, .ref m2, .int (dc_bI so), .long se, .long sm, .long sc, .int (dc_dn sv), .int (dc_bI ak), .long cw, .int dn, .int (nI an), .ref m3, .ref m4, .ref m5, .int (nI sk), .ref m6, .ref m7, .ref m8, .ref m9, .int (nI t), .ref ma, .ref mb, .ref mc, .long ee, .long em, .long ec, .ref mg, .ref mz, .int (dc_bI gn), .int c, .ref mr, .ref mi, .int 0])), (m1, .inl (cA 1, 80, .inr (.inl (vp_updL F (20 + n1) x)))), (m2, .inl (cA 0, 4, .inl (upd zs 1 (nI (n1 + 1)))))] H := hP
            have hD : va_D A [(mo, .inr (9, [.ref mf, .ref m1, .ref m2, .int (dc_bI so), .long se, .long sm, .long sc, .int (dc_dn sv), .int (dc_bI ak), .long cw, .int dn, .int (nI an), .ref m3, .ref m4, .ref m5, .int (nI sk), .ref m6, .ref m7, .ref m8, .ref m9, .int (nI t), .ref ma, .ref mb, .ref mc, .long ee, .long em, .long ec, .ref mg, .ref mz, .int (dc_bI gn), .int c, .ref mr, .ref mi, .int 0])), (m1, .inl (cA 1, 80, .inr (.inl (vp_updL F (20 + n1) x)))), (m2, .inl (cA 0, 4, .inl (upd zs 1 (nI (n1 + 1)))))] := hD
            refine lv_aload_n hx hb dn_d_Mod_load_69 rfl (lv_at hl 0 rfl) ?_
            refine va_get (D := G) (ci := 9) (v := .ref m2) (C := dn_R_Mod) (T := dn_T_Mod) (N := 34) hx hb hts (dn_u_Mod) hown hK hP 0 rfl rfl 2 (by decide) (hts _ dn_w_860) (fun _ h9 => h9) rfl dn_d_Mod_load_70 ?_
            refine lv_iload_n hx hb dn_d_Mod_load_73 rfl (lv_at hl 1 rfl) ?_
            refine dc_iald (k := 1) hx hb hK hP 2 rfl (by omega) (by omega) dn_d_Mod_load_74 ?_
            refine W.eq (g2 := F0 m 75 ls [.int (nI (n1 + 1))]) (rfl) ?_
            have hT : dc_ldT 1 n0 n1 n2 n3 = 0 := dc_ldG (j := 1) (by decide) h22
            have hP9 := hP.sub (ws' := [(mo, .inr (9, [.ref mf, .ref m1, .ref m2, .int (dc_bI so), .long se, .long sm, .long sc, .int (dc_dn sv), .int (dc_bI ak), .long cw, .int dn, .int (nI an), .ref m3, .ref m4, .ref m5, .int (nI sk), .ref m6, .ref m7, .ref m8, .ref m9, .int (nI t), .ref ma, .ref mb, .ref mc, .long ee, .long em, .long ec, .ref mg, .ref mz, .int (dc_bI gn), .int c, .ref mr, .ref mi, .int 0])), (m1, .inl (cA 1, 80, .inr (.inl (vp_updL F (20 + n1) x)))), (m2, .inl (cA 0, 4, .inl (upd zs 1 (nI (n1 + 1)))))]) [0, 1, 2] rfl
            have hD9 := hD.sub (ws' := [(mo, .inr (9, [.ref mf, .ref m1, .ref m2, .int (dc_bI so), .long se, .long sm, .long sc, .int (dc_dn sv), .int (dc_bI ak), .long cw, .int dn, .int (nI an), .ref m3, .ref m4, .ref m5, .int (nI sk), .ref m6, .ref m7, .ref m8, .ref m9, .int (nI t), .ref ma, .ref mb, .ref mc, .long ee, .long em, .long ec, .ref mg, .ref mz, .int (dc_bI gn), .int c, .ref mr, .ref mi, .int 0])), (m1, .inl (cA 1, 80, .inr (.inl (vp_updL F (20 + n1) x)))), (m2, .inl (cA 0, 4, .inl (upd zs 1 (nI (n1 + 1)))))]) [0, 1, 2] (by decide) rfl
            have hE9 : ([(mo, .inr (9, [.ref mf, .ref m1, .ref m2, .int (dc_bI so), .long se, .long sm, .long sc, .int (dc_dn sv), .int (dc_bI ak), .long cw, .int dn, .int (nI an), .ref m3, .ref m4, .ref m5, .int (nI sk), .ref m6, .ref m7, .ref m8, .ref m9, .int (nI t), .ref ma, .ref mb, .ref mc, .long ee, .long em, .long ec, .ref mg, .ref mz, .int (dc_bI gn), .int c, .ref mr, .ref mi, .int 0])), (m1, .inl (cA 1, 80, .inr (.inl (vp_updL F (20 + n1) x)))), (m2, .inl (cA 0, 4, .inl (upd zs 1 (nI (n1 + 1)))))] : va_W) = [(mo, .inr (9, [.ref mf, .ref m1, .ref m2, .int (dc_bI so), .long se, .long sm, .long sc, .int (dc_dn sv), .int (dc_bI ak), .long cw, .int dn, .int (nI an), .ref m3, .ref m4, .ref m5, .int (nI sk), .ref m6, .ref m7, .ref m8, .ref m9, .int (nI t), .ref ma, .ref mb, .ref mc, .long ee, .long em, .long ec, .ref mg, .ref mz, .int (dc_bI gn), .int c, .ref mr, .ref mi, .int (dc_ldT 1 n0 n1 n2 n3)])), (m1, .inl (cA 1, 80, .inr (.inl (vp_updL F (20 + n1) x)))), (m2, .inl (cA 0, 4, .inl (upd zs 1 (nI (n1 + 1)))))] := by rw [hT]
            rw [hE9] at hP9 hD9
            exact W.iret (v := (nI (n1 + 1))) hx hb hr (fun t ht hW => ⟨⟨_, (vp_updL F (20 + n1) x, upd zs 1 (nI (n1 + 1))), rfl, (⟨dc_ldV1 (j := 1) (by decide) hT, dc_ldS1 (j := 1) (by decide) hT (show n1 < 20 by omega) hn0 hn1 hn2 hn3 hz hF⟩), by rw [ht]; exact hP9, hD9⟩, hS.F ht⟩) hS.2.2 dn_d_Mod_load_75
          · exact absurd h37 (by decide)
        · -- 22: n1 = 20
          have h22 : n1 = 20 := (nI_eq (a := n1) (b := 20) (by omega) (by omega)).1 h22
          refine lv_iconst (v := 2) hx hb dn_d_Mod_load_25 (by decide) ?_
          refine lv_goto (tgt := 30) hx hb dn_d_Mod_load_26 (by decide) ?_
          refine va_put (D := G) (ci := 9) (v := .int 2) (ty := (.int)) (C := dn_R_Mod) (T := dn_T_Mod) (N := 34) hx hb hts (dn_u_Mod) dn_t_Mod dn_o_Mod dn_n_Mod hown hK hP hD hS 0 rfl rfl 33 (by decide) (hts _ dn_w_891) (fun _ h9 => h9) rfl (by decide +kernel) rfl rfl (Nat.le_of_ble_eq_true rfl) dn_d_Mod_load_30 (fun H locs hP hD hS => ?_)
          have hP : va_P G vwCl [(mo, .inr (9, [.ref mf, .ref m1, .ref m2, .int (dc_bI so), .long se, .long sm, .long sc, .int (dc_dn sv), .int (dc_bI ak), .long cw, .int dn, .int (nI an), .ref m3, .ref m4, .ref m5, .int (nI sk), .ref m6, .ref m7, .ref m8, .ref m9, .int (nI t), .ref ma, .ref mb, .ref mc, .long ee, .long em, .long ec, .ref mg, .ref mz, .int (dc_bI gn), .int c, .ref mr, .ref mi, .int 2])), (m1, .inl (cA 1, 80, .inr (.inl F))), (m2, .inl (cA 0, 4, .inl zs))] H := hP
          have hD : va_D A [(mo, .inr (9, [.ref mf, .ref m1, .ref m2, .int (dc_bI so), .long se, .long sm, .long sc, .int (dc_dn sv), .int (dc_bI ak), .long cw, .int dn, .int (nI an), .ref m3, .ref m4, .ref m5, .int (nI sk), .ref m6, .ref m7, .ref m8, .ref m9, .int (nI t), .ref ma, .ref mb, .ref mc, .long ee, .long em, .long ec, .ref mg, .ref mz, .int (dc_bI gn), .int c, .ref mr, .ref mi, .int 2])), (m1, .inl (cA 1, 80, .inr (.inl F))), (m2, .inl (cA 0, 4, .inl zs))] := hD
          refine lv_aload_n hx hb dn_d_Mod_load_33 rfl (lv_at hl 0 rfl) ?_
          refine va_get (D := G) (ci := 9) (v := .int 2) (C := dn_R_Mod) (T := dn_T_Mod) (N := 34) hx hb hts (dn_u_Mod) hown hK hP 0 rfl rfl 33 (by decide) (hts _ dn_w_891) (fun _ h9 => h9) rfl dn_d_Mod_load_34 ?_
          refine lv_if_eq (tgt := 42) hx hb dn_d_Mod_load_37 (by decide) (fun h37 => ?_) (fun h37 => ?_)
          · exact absurd h37 (by decide)
          · -- 37: ¬ 2 = 0
            refine lv_iconst (v := 0) hx hb dn_d_Mod_load_40 (by decide) ?_
            have hT : dc_ldT 1 n0 n1 n2 n3 = 2 := dc_ldF (j := 1) (by decide) h22
            have hT0 : ¬ dc_ldT 1 n0 n1 n2 n3 = 0 := by rw [hT]; decide
            have hP9 := hP.sub (ws' := [(mo, .inr (9, [.ref mf, .ref m1, .ref m2, .int (dc_bI so), .long se, .long sm, .long sc, .int (dc_dn sv), .int (dc_bI ak), .long cw, .int dn, .int (nI an), .ref m3, .ref m4, .ref m5, .int (nI sk), .ref m6, .ref m7, .ref m8, .ref m9, .int (nI t), .ref ma, .ref mb, .ref mc, .long ee, .long em, .long ec, .ref mg, .ref mz, .int (dc_bI gn), .int c, .ref mr, .ref mi, .int 2])), (m1, .inl (cA 1, 80, .inr (.inl F))), (m2, .inl (cA 0, 4, .inl zs))]) [0, 1, 2] rfl
            have hD9 := hD.sub (ws' := [(mo, .inr (9, [.ref mf, .ref m1, .ref m2, .int (dc_bI so), .long se, .long sm, .long sc, .int (dc_dn sv), .int (dc_bI ak), .long cw, .int dn, .int (nI an), .ref m3, .ref m4, .ref m5, .int (nI sk), .ref m6, .ref m7, .ref m8, .ref m9, .int (nI t), .ref ma, .ref mb, .ref mc, .long ee, .long em, .long ec, .ref mg, .ref mz, .int (dc_bI gn), .int c, .ref mr, .ref mi, .int 2])), (m1, .inl (cA 1, 80, .inr (.inl F))), (m2, .inl (cA 0, 4, .inl zs))]) [0, 1, 2] (by decide) rfl
            have hE9 : ([(mo, .inr (9, [.ref mf, .ref m1, .ref m2, .int (dc_bI so), .long se, .long sm, .long sc, .int (dc_dn sv), .int (dc_bI ak), .long cw, .int dn, .int (nI an), .ref m3, .ref m4, .ref m5, .int (nI sk), .ref m6, .ref m7, .ref m8, .ref m9, .int (nI t), .ref ma, .ref mb, .ref mc, .long ee, .long em, .long ec, .ref mg, .ref mz, .int (dc_bI gn), .int c, .ref mr, .ref mi, .int 2])), (m1, .inl (cA 1, 80, .inr (.inl F))), (m2, .inl (cA 0, 4, .inl zs))] : va_W) = [(mo, .inr (9, [.ref mf, .ref m1, .ref m2, .int (dc_bI so), .long se, .long sm, .long sc, .int (dc_dn sv), .int (dc_bI ak), .long cw, .int dn, .int (nI an), .ref m3, .ref m4, .ref m5, .int (nI sk), .ref m6, .ref m7, .ref m8, .ref m9, .int (nI t), .ref ma, .ref mb, .ref mc, .long ee, .long em, .long ec, .ref mg, .ref mz, .int (dc_bI gn), .int c, .ref mr, .ref mi, .int (dc_ldT 1 n0 n1 n2 n3)])), (m1, .inl (cA 1, 80, .inr (.inl F))), (m2, .inl (cA 0, 4, .inl zs))] := by rw [hT]
            rw [hE9] at hP9 hD9
            exact W.iret (v := 0) hx hb hr (fun t ht hW => ⟨⟨_, (F, zs), rfl, (⟨dc_ldV0 hT0, dc_ldS0 hT0 hz hF⟩), by rw [ht]; exact hP9, hD9⟩, hS.F ht⟩) hS.2.2 dn_d_Mod_load_41
      · exact absurd h7 (by decide)
  ·
    have hl : lv_has ls 4 [(0, .ref mo), (1, .int 2), (2, .long x)] := hl
    have hP : va_P G vwCl [(mo, .inr (9, [.ref mf, .ref m1, .ref m2, .int (dc_bI so), .long se, .long sm, .long sc, .int (dc_dn sv), .int (dc_bI ak), .long cw, .int dn, .int (nI an), .ref m3, .ref m4, .ref m5, .int (nI sk), .ref m6, .ref m7, .ref m8, .ref m9, .int (nI t), .ref ma, .ref mb, .ref mc, .long ee, .long em, .long ec, .ref mg, .ref mz, .int (dc_bI gn), .int c, .ref mr, .ref mi, .int th])), (m1, .inl (cA 1, 80, .inr (.inl F))), (m2, .inl (cA 0, 4, .inl zs))] s.heap := hP
    have hD : va_D A [(mo, .inr (9, [.ref mf, .ref m1, .ref m2, .int (dc_bI so), .long se, .long sm, .long sc, .int (dc_dn sv), .int (dc_bI ak), .long cw, .int dn, .int (nI an), .ref m3, .ref m4, .ref m5, .int (nI sk), .ref m6, .ref m7, .ref m8, .ref m9, .int (nI t), .ref ma, .ref mb, .ref mc, .long ee, .long em, .long ec, .ref mg, .ref mz, .int (dc_bI gn), .int c, .ref mr, .ref mi, .int th])), (m1, .inl (cA 1, 80, .inr (.inl F))), (m2, .inl (cA 0, 4, .inl zs))] := hD
    refine lv_aload_n hx hb dn_d_Mod_load_0 rfl (lv_at hl 0 rfl) ?_
    refine lv_iload_n hx hb dn_d_Mod_load_1 rfl (lv_at hl 1 rfl) ?_
    refine lv_if_lt (tgt := 10) hx hb dn_d_Mod_load_2 (by decide) (fun h2 => ?_) (fun h2 => ?_)
    · exact absurd h2 (by decide)
    · -- 2: ¬ 2 < 0
      refine lv_iload_n hx hb dn_d_Mod_load_5 rfl (lv_at hl 1 rfl) ?_
      refine lv_iconst (v := 3) hx hb dn_d_Mod_load_6 (by decide) ?_
      refine lv_icmp_le (tgt := 14) hx hb dn_d_Mod_load_7 (by decide) (fun h7 => ?_) (fun h7 => ?_)
      · -- 7: 2 ≤ 3
        refine lv_aload_n hx hb dn_d_Mod_load_14 rfl (lv_at hl 0 rfl) ?_
        refine va_get (D := G) (ci := 9) (v := .ref m2) (C := dn_R_Mod) (T := dn_T_Mod) (N := 34) hx hb hts (dn_u_Mod) hown hK hP 0 rfl rfl 2 (by decide) (hts _ dn_w_860) (fun _ h9 => h9) rfl dn_d_Mod_load_15 ?_
        refine lv_iload_n hx hb dn_d_Mod_load_18 rfl (lv_at hl 1 rfl) ?_
        refine dc_iald (k := 2) hx hb hK hP 2 rfl (by omega) (by omega) dn_d_Mod_load_19 ?_
        rw [hz.2.2.1]
        refine lv_bipush (v := 20) hx hb dn_d_Mod_load_20 (by decide) ?_
        refine lv_icmp_ne (tgt := 29) hx hb dn_d_Mod_load_22 (by decide) (fun h22 => ?_) (fun h22 => ?_)
        · -- 22: ¬ n2 = 20
          have h22 : ¬ n2 = 20 := fun z => h22 ((nI_eq (a := n2) (b := 20) (by omega) (by omega)).2 z)
          refine lv_iconst (v := 0) hx hb dn_d_Mod_load_29 (by decide) ?_
          refine va_put (D := G) (ci := 9) (v := .int 0) (ty := (.int)) (C := dn_R_Mod) (T := dn_T_Mod) (N := 34) hx hb hts (dn_u_Mod) dn_t_Mod dn_o_Mod dn_n_Mod hown hK hP hD hS 0 rfl rfl 33 (by decide) (hts _ dn_w_891) (fun _ h9 => h9) rfl (by decide +kernel) rfl rfl (Nat.le_of_ble_eq_true rfl) dn_d_Mod_load_30 (fun H locs hP hD hS => ?_)
          have hP : va_P G vwCl [(mo, .inr (9, [.ref mf, .ref m1, .ref m2, .int (dc_bI so), .long se, .long sm, .long sc, .int (dc_dn sv), .int (dc_bI ak), .long cw, .int dn, .int (nI an), .ref m3, .ref m4, .ref m5, .int (nI sk), .ref m6, .ref m7, .ref m8, .ref m9, .int (nI t), .ref ma, .ref mb, .ref mc, .long ee, .long em, .long ec, .ref mg, .ref mz, .int (dc_bI gn), .int c, .ref mr, .ref mi, .int 0])), (m1, .inl (cA 1, 80, .inr (.inl F))), (m2, .inl (cA 0, 4, .inl zs))] H := hP
          have hD : va_D A [(mo, .inr (9, [.ref mf, .ref m1, .ref m2, .int (dc_bI so), .long se, .long sm, .long sc, .int (dc_dn sv), .int (dc_bI ak), .long cw, .int dn, .int (nI an), .ref m3, .ref m4, .ref m5, .int (nI sk), .ref m6, .ref m7, .ref m8, .ref m9, .int (nI t), .ref ma, .ref mb, .ref mc, .long ee, .long em, .long ec, .ref mg, .ref mz, .int (dc_bI gn), .int c, .ref mr, .ref mi, .int 0])), (m1, .inl (cA 1, 80, .inr (.inl F))), (m2, .inl (cA 0, 4, .inl zs))] := hD
          refine lv_aload_n hx hb dn_d_Mod_load_33 rfl (lv_at hl 0 rfl) ?_
          refine va_get (D := G) (ci := 9) (v := .int 0) (C := dn_R_Mod) (T := dn_T_Mod) (N := 34) hx hb hts (dn_u_Mod) hown hK hP 0 rfl rfl 33 (by decide) (hts _ dn_w_891) (fun _ h9 => h9) rfl dn_d_Mod_load_34 ?_
          refine lv_if_eq (tgt := 42) hx hb dn_d_Mod_load_37 (by decide) (fun h37 => ?_) (fun h37 => ?_)
          · -- 37: 0 = 0
            refine lv_aload_n hx hb dn_d_Mod_load_42 rfl (lv_at hl 0 rfl) ?_
            refine va_get (D := G) (ci := 9) (v := .ref m1) (C := dn_R_Mod) (T := dn_T_Mod) (N := 34) hx hb hts (dn_u_Mod) hown hK hP 0 rfl rfl 1 (by decide) (hts _ dn_w_859) (fun _ h9 => h9) rfl dn_d_Mod_load_43 ?_
            refine lv_bipush (v := 20) hx hb dn_d_Mod_load_46 (by decide) ?_
            refine lv_iload_n hx hb dn_d_Mod_load_48 rfl (lv_at hl 1 rfl) ?_
            refine lv_imul hx hb dn_d_Mod_load_49 ?_
            rw [show (20 : Int32) * (2 : Int32) = (40 : Int32) from rfl]
            refine lv_aload_n hx hb dn_d_Mod_load_50 rfl (lv_at hl 0 rfl) ?_
            refine va_get (D := G) (ci := 9) (v := .ref m2) (C := dn_R_Mod) (T := dn_T_Mod) (N := 34) hx hb hts (dn_u_Mod) hown hK hP 0 rfl rfl 2 (by decide) (hts _ dn_w_860) (fun _ h9 => h9) rfl dn_d_Mod_load_51 ?_
            refine lv_iload_n hx hb dn_d_Mod_load_54 rfl (lv_at hl 1 rfl) ?_
            refine dc_iald (k := 2) hx hb hK hP 2 rfl (by omega) (by omega) dn_d_Mod_load_55 ?_
            rw [hz.2.2.1]
            refine lv_iadd hx hb dn_d_Mod_load_56 ?_
            rw [show (40 : Int32) + (nI n2) = nI (40 + n2) from nI_add 40 n2]
            refine lv_lload_n hx hb dn_d_Mod_load_57 rfl (lv_at hl 2 rfl) ?_
            refine dc_last (k := 40 + n2) hx hb hK hP hD hS 1 rfl (by omega) (by omega) dn_d_Mod_load_58 (fun H locs hP hD hS => ?_)
            have hP : va_P G vwCl [(mo, .inr (9, [.ref mf, .ref m1, .ref m2, .int (dc_bI so), .long se, .long sm, .long sc, .int (dc_dn sv), .int (dc_bI ak), .long cw, .int dn, .int (nI an), .ref m3, .ref m4, .ref m5, .int (nI sk), .ref m6, .ref m7, .ref m8, .ref m9, .int (nI t), .ref ma, .ref mb, .ref mc, .long ee, .long em, .long ec, .ref mg, .ref mz, .int (dc_bI gn), .int c, .ref mr, .ref mi, .int 0])), (m1, .inl (cA 1, 80, .inr (.inl (vp_updL F (40 + n2) x)))), (m2, .inl (cA 0, 4, .inl zs))] H := hP
            have hD : va_D A [(mo, .inr (9, [.ref mf, .ref m1, .ref m2, .int (dc_bI so), .long se, .long sm, .long sc, .int (dc_dn sv), .int (dc_bI ak), .long cw, .int dn, .int (nI an), .ref m3, .ref m4, .ref m5, .int (nI sk), .ref m6, .ref m7, .ref m8, .ref m9, .int (nI t), .ref ma, .ref mb, .ref mc, .long ee, .long em, .long ec, .ref mg, .ref mz, .int (dc_bI gn), .int c, .ref mr, .ref mi, .int 0])), (m1, .inl (cA 1, 80, .inr (.inl (vp_updL F (40 + n2) x)))), (m2, .inl (cA 0, 4, .inl zs))] := hD
            refine lv_aload_n hx hb dn_d_Mod_load_59 rfl (lv_at hl 0 rfl) ?_
            refine va_get (D := G) (ci := 9) (v := .ref m2) (C := dn_R_Mod) (T := dn_T_Mod) (N := 34) hx hb hts (dn_u_Mod) hown hK hP 0 rfl rfl 2 (by decide) (hts _ dn_w_860) (fun _ h9 => h9) rfl dn_d_Mod_load_60 ?_
            refine lv_iload_n hx hb dn_d_Mod_load_63 rfl (lv_at hl 1 rfl) ?_
            refine lv_dup2_11 hx hb dn_d_Mod_load_64 rfl rfl ?_
            refine dc_iald (k := 2) hx hb hK hP 2 rfl (by omega) (by omega) dn_d_Mod_load_65 ?_
            rw [hz.2.2.1]
            refine lv_iconst (v := 1) hx hb dn_d_Mod_load_66 (by decide) ?_
            refine lv_iadd hx hb dn_d_Mod_load_67 ?_
            rw [show (nI n2) + (1 : Int32) = nI (n2 + 1) from nI_add n2 1]
            refine dc_iast (k := 2) hx hb hK hP hD hS 2 rfl (by omega) (by omega) dn_d_Mod_load_68 (fun H locs hP hD hS => ?_)
            have hP : va_P G vwCl [(mo, .inr (9, [.ref mf, .ref m1, .ref m2, .int (dc_bI so), .long se, .long sm, .long sc, .int (dc_dn sv), .int (dc_bI ak), .long cw, .int dn, .int (nI an), .ref m3, .ref m4, .ref m5, .int (nI sk), .ref m6, .ref m7, .ref m8, .ref m9, .int (nI t), .ref ma, .ref mb, .ref mc, .long ee, .long em, .long ec, .ref mg, .ref mz, .int (dc_bI gn), .int c, .ref mr, .ref mi, .int 0])), (m1, .inl (cA 1, 80, .inr (.inl (vp_updL F (40 + n2) x)))), (m2, .inl (cA 0, 4, .inl (upd zs 2 (nI (n2 + 1)))))] H := hP
            have hD : va_D A [(mo, .inr (9, [.ref mf, .ref m1, .ref m2, .int (dc_bI so), .long se, .long sm, .long sc, .int (dc_dn sv), .int (dc_bI ak), .long cw, .int dn, .int (nI an), .ref m3, .ref m4, .ref m5, .int (nI sk), .ref m6, .ref m7, .ref m8, .ref m9, .int (nI t), .ref ma, .ref mb, .ref mc, .long ee, .long em, .long ec, .ref mg, .ref mz, .int (dc_bI gn), .int c, .ref mr, .ref mi, .int 0])), (m1, .inl (cA 1, 80, .inr (.inl (vp_updL F (40 + n2) x)))), (m2, .inl (cA 0, 4, .inl (upd zs 2 (nI (n2 + 1)))))] := hD
            refine lv_aload_n hx hb dn_d_Mod_load_69 rfl (lv_at hl 0 rfl) ?_
            refine va_get (D := G) (ci := 9) (v := .ref m2) (C := dn_R_Mod) (T := dn_T_Mod) (N := 34) hx hb hts (dn_u_Mod) hown hK hP 0 rfl rfl 2 (by decide) (hts _ dn_w_860) (fun _ h9 => h9) rfl dn_d_Mod_load_70 ?_
            refine lv_iload_n hx hb dn_d_Mod_load_73 rfl (lv_at hl 1 rfl) ?_
            refine dc_iald (k := 2) hx hb hK hP 2 rfl (by omega) (by omega) dn_d_Mod_load_74 ?_
            refine W.eq (g2 := F0 m 75 ls [.int (nI (n2 + 1))]) (rfl) ?_
            have hT : dc_ldT 2 n0 n1 n2 n3 = 0 := dc_ldG (j := 2) (by decide) h22
            have hP9 := hP.sub (ws' := [(mo, .inr (9, [.ref mf, .ref m1, .ref m2, .int (dc_bI so), .long se, .long sm, .long sc, .int (dc_dn sv), .int (dc_bI ak), .long cw, .int dn, .int (nI an), .ref m3, .ref m4, .ref m5, .int (nI sk), .ref m6, .ref m7, .ref m8, .ref m9, .int (nI t), .ref ma, .ref mb, .ref mc, .long ee, .long em, .long ec, .ref mg, .ref mz, .int (dc_bI gn), .int c, .ref mr, .ref mi, .int 0])), (m1, .inl (cA 1, 80, .inr (.inl (vp_updL F (40 + n2) x)))), (m2, .inl (cA 0, 4, .inl (upd zs 2 (nI (n2 + 1)))))]) [0, 1, 2] rfl
            have hD9 := hD.sub (ws' := [(mo, .inr (9, [.ref mf, .ref m1, .ref m2, .int (dc_bI so), .long se, .long sm, .long sc, .int (dc_dn sv), .int (dc_bI ak), .long cw, .int dn, .int (nI an), .ref m3, .ref m4, .ref m5, .int (nI sk), .ref m6, .ref m7, .ref m8, .ref m9, .int (nI t), .ref ma, .ref mb, .ref mc, .long ee, .long em, .long ec, .ref mg, .ref mz, .int (dc_bI gn), .int c, .ref mr, .ref mi, .int 0])), (m1, .inl (cA 1, 80, .inr (.inl (vp_updL F (40 + n2) x)))), (m2, .inl (cA 0, 4, .inl (upd zs 2 (nI (n2 + 1)))))]) [0, 1, 2] (by decide) rfl
            have hE9 : ([(mo, .inr (9, [.ref mf, .ref m1, .ref m2, .int (dc_bI so), .long se, .long sm, .long sc, .int (dc_dn sv), .int (dc_bI ak), .long cw, .int dn, .int (nI an), .ref m3, .ref m4, .ref m5, .int (nI sk), .ref m6, .ref m7, .ref m8, .ref m9, .int (nI t), .ref ma, .ref mb, .ref mc, .long ee, .long em, .long ec, .ref mg, .ref mz, .int (dc_bI gn), .int c, .ref mr, .ref mi, .int 0])), (m1, .inl (cA 1, 80, .inr (.inl (vp_updL F (40 + n2) x)))), (m2, .inl (cA 0, 4, .inl (upd zs 2 (nI (n2 + 1)))))] : va_W) = [(mo, .inr (9, [.ref mf, .ref m1, .ref m2, .int (dc_bI so), .long se, .long sm, .long sc, .int (dc_dn sv), .int (dc_bI ak), .long cw, .int dn, .int (nI an), .ref m3, .ref m4, .ref m5, .int (nI sk), .ref m6, .ref m7, .ref m8, .ref m9, .int (nI t), .ref ma, .ref mb, .ref mc, .long ee, .long em, .long ec, .ref mg, .ref mz, .int (dc_bI gn), .int c, .ref mr, .ref mi, .int (dc_ldT 2 n0 n1 n2 n3)])), (m1, .inl (cA 1, 80, .inr (.inl (vp_updL F (40 + n2) x)))), (m2, .inl (cA 0, 4, .inl (upd zs 2 (nI (n2 + 1)))))] := by rw [hT]
            rw [hE9] at hP9 hD9
            exact W.iret (v := (nI (n2 + 1))) hx hb hr (fun t ht hW => ⟨⟨_, (vp_updL F (40 + n2) x, upd zs 2 (nI (n2 + 1))), rfl, (⟨dc_ldV1 (j := 2) (by decide) hT, dc_ldS1 (j := 2) (by decide) hT (show n2 < 20 by omega) hn0 hn1 hn2 hn3 hz hF⟩), by rw [ht]; exact hP9, hD9⟩, hS.F ht⟩) hS.2.2 dn_d_Mod_load_75
          · exact absurd h37 (by decide)
        · -- 22: n2 = 20
          have h22 : n2 = 20 := (nI_eq (a := n2) (b := 20) (by omega) (by omega)).1 h22
          refine lv_iconst (v := 2) hx hb dn_d_Mod_load_25 (by decide) ?_
          refine lv_goto (tgt := 30) hx hb dn_d_Mod_load_26 (by decide) ?_
          refine va_put (D := G) (ci := 9) (v := .int 2) (ty := (.int)) (C := dn_R_Mod) (T := dn_T_Mod) (N := 34) hx hb hts (dn_u_Mod) dn_t_Mod dn_o_Mod dn_n_Mod hown hK hP hD hS 0 rfl rfl 33 (by decide) (hts _ dn_w_891) (fun _ h9 => h9) rfl (by decide +kernel) rfl rfl (Nat.le_of_ble_eq_true rfl) dn_d_Mod_load_30 (fun H locs hP hD hS => ?_)
          have hP : va_P G vwCl [(mo, .inr (9, [.ref mf, .ref m1, .ref m2, .int (dc_bI so), .long se, .long sm, .long sc, .int (dc_dn sv), .int (dc_bI ak), .long cw, .int dn, .int (nI an), .ref m3, .ref m4, .ref m5, .int (nI sk), .ref m6, .ref m7, .ref m8, .ref m9, .int (nI t), .ref ma, .ref mb, .ref mc, .long ee, .long em, .long ec, .ref mg, .ref mz, .int (dc_bI gn), .int c, .ref mr, .ref mi, .int 2])), (m1, .inl (cA 1, 80, .inr (.inl F))), (m2, .inl (cA 0, 4, .inl zs))] H := hP
          have hD : va_D A [(mo, .inr (9, [.ref mf, .ref m1, .ref m2, .int (dc_bI so), .long se, .long sm, .long sc, .int (dc_dn sv), .int (dc_bI ak), .long cw, .int dn, .int (nI an), .ref m3, .ref m4, .ref m5, .int (nI sk), .ref m6, .ref m7, .ref m8, .ref m9, .int (nI t), .ref ma, .ref mb, .ref mc, .long ee, .long em, .long ec, .ref mg, .ref mz, .int (dc_bI gn), .int c, .ref mr, .ref mi, .int 2])), (m1, .inl (cA 1, 80, .inr (.inl F))), (m2, .inl (cA 0, 4, .inl zs))] := hD
          refine lv_aload_n hx hb dn_d_Mod_load_33 rfl (lv_at hl 0 rfl) ?_
          refine va_get (D := G) (ci := 9) (v := .int 2) (C := dn_R_Mod) (T := dn_T_Mod) (N := 34) hx hb hts (dn_u_Mod) hown hK hP 0 rfl rfl 33 (by decide) (hts _ dn_w_891) (fun _ h9 => h9) rfl dn_d_Mod_load_34 ?_
          refine lv_if_eq (tgt := 42) hx hb dn_d_Mod_load_37 (by decide) (fun h37 => ?_) (fun h37 => ?_)
          · exact absurd h37 (by decide)
          · -- 37: ¬ 2 = 0
            refine lv_iconst (v := 0) hx hb dn_d_Mod_load_40 (by decide) ?_
            have hT : dc_ldT 2 n0 n1 n2 n3 = 2 := dc_ldF (j := 2) (by decide) h22
            have hT0 : ¬ dc_ldT 2 n0 n1 n2 n3 = 0 := by rw [hT]; decide
            have hP9 := hP.sub (ws' := [(mo, .inr (9, [.ref mf, .ref m1, .ref m2, .int (dc_bI so), .long se, .long sm, .long sc, .int (dc_dn sv), .int (dc_bI ak), .long cw, .int dn, .int (nI an), .ref m3, .ref m4, .ref m5, .int (nI sk), .ref m6, .ref m7, .ref m8, .ref m9, .int (nI t), .ref ma, .ref mb, .ref mc, .long ee, .long em, .long ec, .ref mg, .ref mz, .int (dc_bI gn), .int c, .ref mr, .ref mi, .int 2])), (m1, .inl (cA 1, 80, .inr (.inl F))), (m2, .inl (cA 0, 4, .inl zs))]) [0, 1, 2] rfl
            have hD9 := hD.sub (ws' := [(mo, .inr (9, [.ref mf, .ref m1, .ref m2, .int (dc_bI so), .long se, .long sm, .long sc, .int (dc_dn sv), .int (dc_bI ak), .long cw, .int dn, .int (nI an), .ref m3, .ref m4, .ref m5, .int (nI sk), .ref m6, .ref m7, .ref m8, .ref m9, .int (nI t), .ref ma, .ref mb, .ref mc, .long ee, .long em, .long ec, .ref mg, .ref mz, .int (dc_bI gn), .int c, .ref mr, .ref mi, .int 2])), (m1, .inl (cA 1, 80, .inr (.inl F))), (m2, .inl (cA 0, 4, .inl zs))]) [0, 1, 2] (by decide) rfl
            have hE9 : ([(mo, .inr (9, [.ref mf, .ref m1, .ref m2, .int (dc_bI so), .long se, .long sm, .long sc, .int (dc_dn sv), .int (dc_bI ak), .long cw, .int dn, .int (nI an), .ref m3, .ref m4, .ref m5, .int (nI sk), .ref m6, .ref m7, .ref m8, .ref m9, .int (nI t), .ref ma, .ref mb, .ref mc, .long ee, .long em, .long ec, .ref mg, .ref mz, .int (dc_bI gn), .int c, .ref mr, .ref mi, .int 2])), (m1, .inl (cA 1, 80, .inr (.inl F))), (m2, .inl (cA 0, 4, .inl zs))] : va_W) = [(mo, .inr (9, [.ref mf, .ref m1, .ref m2, .int (dc_bI so), .long se, .long sm, .long sc, .int (dc_dn sv), .int (dc_bI ak), .long cw, .int dn, .int (nI an), .ref m3, .ref m4, .ref m5, .int (nI sk), .ref m6, .ref m7, .ref m8, .ref m9, .int (nI t), .ref ma, .ref mb, .ref mc, .long ee, .long em, .long ec, .ref mg, .ref mz, .int (dc_bI gn), .int c, .ref mr, .ref mi, .int (dc_ldT 2 n0 n1 n2 n3)])), (m1, .inl (cA 1, 80, .inr (.inl F))), (m2, .inl (cA 0, 4, .inl zs))] := by rw [hT]
            rw [hE9] at hP9 hD9
            exact W.iret (v := 0) hx hb hr (fun t ht hW => ⟨⟨_, (F, zs), rfl, (⟨dc_ldV0 hT0, dc_ldS0 hT0 hz hF⟩), by rw [ht]; exact hP9, hD9⟩, hS.F ht⟩) hS.2.2 dn_d_Mod_load_41
      · exact absurd h7 (by decide)
  ·
    have hl : lv_has ls 4 [(0, .ref mo), (1, .int 3), (2, .long x)] := hl
    have hP : va_P G vwCl [(mo, .inr (9, [.ref mf, .ref m1, .ref m2, .int (dc_bI so), .long se, .long sm, .long sc, .int (dc_dn sv), .int (dc_bI ak), .long cw, .int dn, .int (nI an), .ref m3, .ref m4, .ref m5, .int (nI sk), .ref m6, .ref m7, .ref m8, .ref m9, .int (nI t), .ref ma, .ref mb, .ref mc, .long ee, .long em, .long ec, .ref mg, .ref mz, .int (dc_bI gn), .int c, .ref mr, .ref mi, .int th])), (m1, .inl (cA 1, 80, .inr (.inl F))), (m2, .inl (cA 0, 4, .inl zs))] s.heap := hP
    have hD : va_D A [(mo, .inr (9, [.ref mf, .ref m1, .ref m2, .int (dc_bI so), .long se, .long sm, .long sc, .int (dc_dn sv), .int (dc_bI ak), .long cw, .int dn, .int (nI an), .ref m3, .ref m4, .ref m5, .int (nI sk), .ref m6, .ref m7, .ref m8, .ref m9, .int (nI t), .ref ma, .ref mb, .ref mc, .long ee, .long em, .long ec, .ref mg, .ref mz, .int (dc_bI gn), .int c, .ref mr, .ref mi, .int th])), (m1, .inl (cA 1, 80, .inr (.inl F))), (m2, .inl (cA 0, 4, .inl zs))] := hD
    refine lv_aload_n hx hb dn_d_Mod_load_0 rfl (lv_at hl 0 rfl) ?_
    refine lv_iload_n hx hb dn_d_Mod_load_1 rfl (lv_at hl 1 rfl) ?_
    refine lv_if_lt (tgt := 10) hx hb dn_d_Mod_load_2 (by decide) (fun h2 => ?_) (fun h2 => ?_)
    · exact absurd h2 (by decide)
    · -- 2: ¬ 3 < 0
      refine lv_iload_n hx hb dn_d_Mod_load_5 rfl (lv_at hl 1 rfl) ?_
      refine lv_iconst (v := 3) hx hb dn_d_Mod_load_6 (by decide) ?_
      refine lv_icmp_le (tgt := 14) hx hb dn_d_Mod_load_7 (by decide) (fun h7 => ?_) (fun h7 => ?_)
      · -- 7: 3 ≤ 3
        refine lv_aload_n hx hb dn_d_Mod_load_14 rfl (lv_at hl 0 rfl) ?_
        refine va_get (D := G) (ci := 9) (v := .ref m2) (C := dn_R_Mod) (T := dn_T_Mod) (N := 34) hx hb hts (dn_u_Mod) hown hK hP 0 rfl rfl 2 (by decide) (hts _ dn_w_860) (fun _ h9 => h9) rfl dn_d_Mod_load_15 ?_
        refine lv_iload_n hx hb dn_d_Mod_load_18 rfl (lv_at hl 1 rfl) ?_
        refine dc_iald (k := 3) hx hb hK hP 2 rfl (by omega) (by omega) dn_d_Mod_load_19 ?_
        rw [hz.2.2.2]
        refine lv_bipush (v := 20) hx hb dn_d_Mod_load_20 (by decide) ?_
        refine lv_icmp_ne (tgt := 29) hx hb dn_d_Mod_load_22 (by decide) (fun h22 => ?_) (fun h22 => ?_)
        · -- 22: ¬ n3 = 20
          have h22 : ¬ n3 = 20 := fun z => h22 ((nI_eq (a := n3) (b := 20) (by omega) (by omega)).2 z)
          refine lv_iconst (v := 0) hx hb dn_d_Mod_load_29 (by decide) ?_
          refine va_put (D := G) (ci := 9) (v := .int 0) (ty := (.int)) (C := dn_R_Mod) (T := dn_T_Mod) (N := 34) hx hb hts (dn_u_Mod) dn_t_Mod dn_o_Mod dn_n_Mod hown hK hP hD hS 0 rfl rfl 33 (by decide) (hts _ dn_w_891) (fun _ h9 => h9) rfl (by decide +kernel) rfl rfl (Nat.le_of_ble_eq_true rfl) dn_d_Mod_load_30 (fun H locs hP hD hS => ?_)
          have hP : va_P G vwCl [(mo, .inr (9, [.ref mf, .ref m1, .ref m2, .int (dc_bI so), .long se, .long sm, .long sc, .int (dc_dn sv), .int (dc_bI ak), .long cw, .int dn, .int (nI an), .ref m3, .ref m4, .ref m5, .int (nI sk), .ref m6, .ref m7, .ref m8, .ref m9, .int (nI t), .ref ma, .ref mb, .ref mc, .long ee, .long em, .long ec, .ref mg, .ref mz, .int (dc_bI gn), .int c, .ref mr, .ref mi, .int 0])), (m1, .inl (cA 1, 80, .inr (.inl F))), (m2, .inl (cA 0, 4, .inl zs))] H := hP
          have hD : va_D A [(mo, .inr (9, [.ref mf, .ref m1, .ref m2, .int (dc_bI so), .long se, .long sm, .long sc, .int (dc_dn sv), .int (dc_bI ak), .long cw, .int dn, .int (nI an), .ref m3, .ref m4, .ref m5, .int (nI sk), .ref m6, .ref m7, .ref m8, .ref m9, .int (nI t), .ref ma, .ref mb, .ref mc, .long ee, .long em, .long ec, .ref mg, .ref mz, .int (dc_bI gn), .int c, .ref mr, .ref mi, .int 0])), (m1, .inl (cA 1, 80, .inr (.inl F))), (m2, .inl (cA 0, 4, .inl zs))] := hD
          refine lv_aload_n hx hb dn_d_Mod_load_33 rfl (lv_at hl 0 rfl) ?_
          refine va_get (D := G) (ci := 9) (v := .int 0) (C := dn_R_Mod) (T := dn_T_Mod) (N := 34) hx hb hts (dn_u_Mod) hown hK hP 0 rfl rfl 33 (by decide) (hts _ dn_w_891) (fun _ h9 => h9) rfl dn_d_Mod_load_34 ?_
          refine lv_if_eq (tgt := 42) hx hb dn_d_Mod_load_37 (by decide) (fun h37 => ?_) (fun h37 => ?_)
          · -- 37: 0 = 0
            refine lv_aload_n hx hb dn_d_Mod_load_42 rfl (lv_at hl 0 rfl) ?_
            refine va_get (D := G) (ci := 9) (v := .ref m1) (C := dn_R_Mod) (T := dn_T_Mod) (N := 34) hx hb hts (dn_u_Mod) hown hK hP 0 rfl rfl 1 (by decide) (hts _ dn_w_859) (fun _ h9 => h9) rfl dn_d_Mod_load_43 ?_
            refine lv_bipush (v := 20) hx hb dn_d_Mod_load_46 (by decide) ?_
            refine lv_iload_n hx hb dn_d_Mod_load_48 rfl (lv_at hl 1 rfl) ?_
            refine lv_imul hx hb dn_d_Mod_load_49 ?_
            rw [show (20 : Int32) * (3 : Int32) = (60 : Int32) from rfl]
            refine lv_aload_n hx hb dn_d_Mod_load_50 rfl (lv_at hl 0 rfl) ?_
            refine va_get (D := G) (ci := 9) (v := .ref m2) (C := dn_R_Mod) (T := dn_T_Mod) (N := 34) hx hb hts (dn_u_Mod) hown hK hP 0 rfl rfl 2 (by decide) (hts _ dn_w_860) (fun _ h9 => h9) rfl dn_d_Mod_load_51 ?_
            refine lv_iload_n hx hb dn_d_Mod_load_54 rfl (lv_at hl 1 rfl) ?_
            refine dc_iald (k := 3) hx hb hK hP 2 rfl (by omega) (by omega) dn_d_Mod_load_55 ?_
            rw [hz.2.2.2]
            refine lv_iadd hx hb dn_d_Mod_load_56 ?_
            rw [show (60 : Int32) + (nI n3) = nI (60 + n3) from nI_add 60 n3]
            refine lv_lload_n hx hb dn_d_Mod_load_57 rfl (lv_at hl 2 rfl) ?_
            refine dc_last (k := 60 + n3) hx hb hK hP hD hS 1 rfl (by omega) (by omega) dn_d_Mod_load_58 (fun H locs hP hD hS => ?_)
            have hP : va_P G vwCl [(mo, .inr (9, [.ref mf, .ref m1, .ref m2, .int (dc_bI so), .long se, .long sm, .long sc, .int (dc_dn sv), .int (dc_bI ak), .long cw, .int dn, .int (nI an), .ref m3, .ref m4, .ref m5, .int (nI sk), .ref m6, .ref m7, .ref m8, .ref m9, .int (nI t), .ref ma, .ref mb, .ref mc, .long ee, .long em, .long ec, .ref mg, .ref mz, .int (dc_bI gn), .int c, .ref mr, .ref mi, .int 0])), (m1, .inl (cA 1, 80, .inr (.inl (vp_updL F (60 + n3) x)))), (m2, .inl (cA 0, 4, .inl zs))] H := hP
            have hD : va_D A [(mo, .inr (9, [.ref mf, .ref m1, .ref m2, .int (dc_bI so), .long se, .long sm, .long sc, .int (dc_dn sv), .int (dc_bI ak), .long cw, .int dn, .int (nI an), .ref m3, .ref m4, .ref m5, .int (nI sk), .ref m6, .ref m7, .ref m8, .ref m9, .int (nI t), .ref ma, .ref mb, .ref mc, .long ee, .long em, .long ec, .ref mg, .ref mz, .int (dc_bI gn), .int c, .ref mr, .ref mi, .int 0])), (m1, .inl (cA 1, 80, .inr (.inl (vp_updL F (60 + n3) x)))), (m2, .inl (cA 0, 4, .inl zs))] := hD
            refine lv_aload_n hx hb dn_d_Mod_load_59 rfl (lv_at hl 0 rfl) ?_
            refine va_get (D := G) (ci := 9) (v := .ref m2) (C := dn_R_Mod) (T := dn_T_Mod) (N := 34) hx hb hts (dn_u_Mod) hown hK hP 0 rfl rfl 2 (by decide) (hts _ dn_w_860) (fun _ h9 => h9) rfl dn_d_Mod_load_60 ?_
            refine lv_iload_n hx hb dn_d_Mod_load_63 rfl (lv_at hl 1 rfl) ?_
            refine lv_dup2_11 hx hb dn_d_Mod_load_64 rfl rfl ?_
            refine dc_iald (k := 3) hx hb hK hP 2 rfl (by omega) (by omega) dn_d_Mod_load_65 ?_
            rw [hz.2.2.2]
            refine lv_iconst (v := 1) hx hb dn_d_Mod_load_66 (by decide) ?_
            refine lv_iadd hx hb dn_d_Mod_load_67 ?_
            rw [show (nI n3) + (1 : Int32) = nI (n3 + 1) from nI_add n3 1]
            refine dc_iast (k := 3) hx hb hK hP hD hS 2 rfl (by omega) (by omega) dn_d_Mod_load_68 (fun H locs hP hD hS => ?_)
            have hP : va_P G vwCl [(mo, .inr (9, [.ref mf, .ref m1, .ref m2, .int (dc_bI so), .long se, .long sm, .long sc, .int (dc_dn sv), .int (dc_bI ak), .long cw, .int dn, .int (nI an), .ref m3, .ref m4, .ref m5, .int (nI sk), .ref m6, .ref m7, .ref m8, .ref m9, .int (nI t), .ref ma, .ref mb, .ref mc, .long ee, .long em, .long ec, .ref mg, .ref mz, .int (dc_bI gn), .int c, .ref mr, .ref mi, .int 0])), (m1, .inl (cA 1, 80, .inr (.inl (vp_updL F (60 + n3) x)))), (m2, .inl (cA 0, 4, .inl (upd zs 3 (nI (n3 + 1)))))] H := hP
            have hD : va_D A [(mo, .inr (9, [.ref mf, .ref m1, .ref m2, .int (dc_bI so), .long se, .long sm, .long sc, .int (dc_dn sv), .int (dc_bI ak), .long cw, .int dn, .int (nI an), .ref m3, .ref m4, .ref m5, .int (nI sk), .ref m6, .ref m7, .ref m8, .ref m9, .int (nI t), .ref ma, .ref mb, .ref mc, .long ee, .long em, .long ec, .ref mg, .ref mz, .int (dc_bI gn), .int c, .ref mr, .ref mi, .int 0])), (m1, .inl (cA 1, 80, .inr (.inl (vp_updL F (60 + n3) x)))), (m2, .inl (cA 0, 4, .inl (upd zs 3 (nI (n3 + 1)))))] := hD
            refine lv_aload_n hx hb dn_d_Mod_load_69 rfl (lv_at hl 0 rfl) ?_
            refine va_get (D := G) (ci := 9) (v := .ref m2) (C := dn_R_Mod) (T := dn_T_Mod) (N := 34) hx hb hts (dn_u_Mod) hown hK hP 0 rfl rfl 2 (by decide) (hts _ dn_w_860) (fun _ h9 => h9) rfl dn_d_Mod_load_70 ?_
            refine lv_iload_n hx hb dn_d_Mod_load_73 rfl (lv_at hl 1 rfl) ?_
            refine dc_iald (k := 3) hx hb hK hP 2 rfl (by omega) (by omega) dn_d_Mod_load_74 ?_
            refine W.eq (g2 := F0 m 75 ls [.int (nI (n3 + 1))]) (rfl) ?_
            have hT : dc_ldT 3 n0 n1 n2 n3 = 0 := dc_ldG (j := 3) (by decide) h22
            have hP9 := hP.sub (ws' := [(mo, .inr (9, [.ref mf, .ref m1, .ref m2, .int (dc_bI so), .long se, .long sm, .long sc, .int (dc_dn sv), .int (dc_bI ak), .long cw, .int dn, .int (nI an), .ref m3, .ref m4, .ref m5, .int (nI sk), .ref m6, .ref m7, .ref m8, .ref m9, .int (nI t), .ref ma, .ref mb, .ref mc, .long ee, .long em, .long ec, .ref mg, .ref mz, .int (dc_bI gn), .int c, .ref mr, .ref mi, .int 0])), (m1, .inl (cA 1, 80, .inr (.inl (vp_updL F (60 + n3) x)))), (m2, .inl (cA 0, 4, .inl (upd zs 3 (nI (n3 + 1)))))]) [0, 1, 2] rfl
            have hD9 := hD.sub (ws' := [(mo, .inr (9, [.ref mf, .ref m1, .ref m2, .int (dc_bI so), .long se, .long sm, .long sc, .int (dc_dn sv), .int (dc_bI ak), .long cw, .int dn, .int (nI an), .ref m3, .ref m4, .ref m5, .int (nI sk), .ref m6, .ref m7, .ref m8, .ref m9, .int (nI t), .ref ma, .ref mb, .ref mc, .long ee, .long em, .long ec, .ref mg, .ref mz, .int (dc_bI gn), .int c, .ref mr, .ref mi, .int 0])), (m1, .inl (cA 1, 80, .inr (.inl (vp_updL F (60 + n3) x)))), (m2, .inl (cA 0, 4, .inl (upd zs 3 (nI (n3 + 1)))))]) [0, 1, 2] (by decide) rfl
            have hE9 : ([(mo, .inr (9, [.ref mf, .ref m1, .ref m2, .int (dc_bI so), .long se, .long sm, .long sc, .int (dc_dn sv), .int (dc_bI ak), .long cw, .int dn, .int (nI an), .ref m3, .ref m4, .ref m5, .int (nI sk), .ref m6, .ref m7, .ref m8, .ref m9, .int (nI t), .ref ma, .ref mb, .ref mc, .long ee, .long em, .long ec, .ref mg, .ref mz, .int (dc_bI gn), .int c, .ref mr, .ref mi, .int 0])), (m1, .inl (cA 1, 80, .inr (.inl (vp_updL F (60 + n3) x)))), (m2, .inl (cA 0, 4, .inl (upd zs 3 (nI (n3 + 1)))))] : va_W) = [(mo, .inr (9, [.ref mf, .ref m1, .ref m2, .int (dc_bI so), .long se, .long sm, .long sc, .int (dc_dn sv), .int (dc_bI ak), .long cw, .int dn, .int (nI an), .ref m3, .ref m4, .ref m5, .int (nI sk), .ref m6, .ref m7, .ref m8, .ref m9, .int (nI t), .ref ma, .ref mb, .ref mc, .long ee, .long em, .long ec, .ref mg, .ref mz, .int (dc_bI gn), .int c, .ref mr, .ref mi, .int (dc_ldT 3 n0 n1 n2 n3)])), (m1, .inl (cA 1, 80, .inr (.inl (vp_updL F (60 + n3) x)))), (m2, .inl (cA 0, 4, .inl (upd zs 3 (nI (n3 + 1)))))] := by rw [hT]
            rw [hE9] at hP9 hD9
            exact W.iret (v := (nI (n3 + 1))) hx hb hr (fun t ht hW => ⟨⟨_, (vp_updL F (60 + n3) x, upd zs 3 (nI (n3 + 1))), rfl, (⟨dc_ldV1 (j := 3) (by decide) hT, dc_ldS1 (j := 3) (by decide) hT (show n3 < 20 by omega) hn0 hn1 hn2 hn3 hz hF⟩), by rw [ht]; exact hP9, hD9⟩, hS.F ht⟩) hS.2.2 dn_d_Mod_load_75
          · exact absurd h37 (by decide)
        · -- 22: n3 = 20
          have h22 : n3 = 20 := (nI_eq (a := n3) (b := 20) (by omega) (by omega)).1 h22
          refine lv_iconst (v := 2) hx hb dn_d_Mod_load_25 (by decide) ?_
          refine lv_goto (tgt := 30) hx hb dn_d_Mod_load_26 (by decide) ?_
          refine va_put (D := G) (ci := 9) (v := .int 2) (ty := (.int)) (C := dn_R_Mod) (T := dn_T_Mod) (N := 34) hx hb hts (dn_u_Mod) dn_t_Mod dn_o_Mod dn_n_Mod hown hK hP hD hS 0 rfl rfl 33 (by decide) (hts _ dn_w_891) (fun _ h9 => h9) rfl (by decide +kernel) rfl rfl (Nat.le_of_ble_eq_true rfl) dn_d_Mod_load_30 (fun H locs hP hD hS => ?_)
          have hP : va_P G vwCl [(mo, .inr (9, [.ref mf, .ref m1, .ref m2, .int (dc_bI so), .long se, .long sm, .long sc, .int (dc_dn sv), .int (dc_bI ak), .long cw, .int dn, .int (nI an), .ref m3, .ref m4, .ref m5, .int (nI sk), .ref m6, .ref m7, .ref m8, .ref m9, .int (nI t), .ref ma, .ref mb, .ref mc, .long ee, .long em, .long ec, .ref mg, .ref mz, .int (dc_bI gn), .int c, .ref mr, .ref mi, .int 2])), (m1, .inl (cA 1, 80, .inr (.inl F))), (m2, .inl (cA 0, 4, .inl zs))] H := hP
          have hD : va_D A [(mo, .inr (9, [.ref mf, .ref m1, .ref m2, .int (dc_bI so), .long se, .long sm, .long sc, .int (dc_dn sv), .int (dc_bI ak), .long cw, .int dn, .int (nI an), .ref m3, .ref m4, .ref m5, .int (nI sk), .ref m6, .ref m7, .ref m8, .ref m9, .int (nI t), .ref ma, .ref mb, .ref mc, .long ee, .long em, .long ec, .ref mg, .ref mz, .int (dc_bI gn), .int c, .ref mr, .ref mi, .int 2])), (m1, .inl (cA 1, 80, .inr (.inl F))), (m2, .inl (cA 0, 4, .inl zs))] := hD
          refine lv_aload_n hx hb dn_d_Mod_load_33 rfl (lv_at hl 0 rfl) ?_
          refine va_get (D := G) (ci := 9) (v := .int 2) (C := dn_R_Mod) (T := dn_T_Mod) (N := 34) hx hb hts (dn_u_Mod) hown hK hP 0 rfl rfl 33 (by decide) (hts _ dn_w_891) (fun _ h9 => h9) rfl dn_d_Mod_load_34 ?_
          refine lv_if_eq (tgt := 42) hx hb dn_d_Mod_load_37 (by decide) (fun h37 => ?_) (fun h37 => ?_)
          · exact absurd h37 (by decide)
          · -- 37: ¬ 2 = 0
            refine lv_iconst (v := 0) hx hb dn_d_Mod_load_40 (by decide) ?_
            have hT : dc_ldT 3 n0 n1 n2 n3 = 2 := dc_ldF (j := 3) (by decide) h22
            have hT0 : ¬ dc_ldT 3 n0 n1 n2 n3 = 0 := by rw [hT]; decide
            have hP9 := hP.sub (ws' := [(mo, .inr (9, [.ref mf, .ref m1, .ref m2, .int (dc_bI so), .long se, .long sm, .long sc, .int (dc_dn sv), .int (dc_bI ak), .long cw, .int dn, .int (nI an), .ref m3, .ref m4, .ref m5, .int (nI sk), .ref m6, .ref m7, .ref m8, .ref m9, .int (nI t), .ref ma, .ref mb, .ref mc, .long ee, .long em, .long ec, .ref mg, .ref mz, .int (dc_bI gn), .int c, .ref mr, .ref mi, .int 2])), (m1, .inl (cA 1, 80, .inr (.inl F))), (m2, .inl (cA 0, 4, .inl zs))]) [0, 1, 2] rfl
            have hD9 := hD.sub (ws' := [(mo, .inr (9, [.ref mf, .ref m1, .ref m2, .int (dc_bI so), .long se, .long sm, .long sc, .int (dc_dn sv), .int (dc_bI ak), .long cw, .int dn, .int (nI an), .ref m3, .ref m4, .ref m5, .int (nI sk), .ref m6, .ref m7, .ref m8, .ref m9, .int (nI t), .ref ma, .ref mb, .ref mc, .long ee, .long em, .long ec, .ref mg, .ref mz, .int (dc_bI gn), .int c, .ref mr, .ref mi, .int 2])), (m1, .inl (cA 1, 80, .inr (.inl F))), (m2, .inl (cA 0, 4, .inl zs))]) [0, 1, 2] (by decide) rfl
            have hE9 : ([(mo, .inr (9, [.ref mf, .ref m1, .ref m2, .int (dc_bI so), .long se, .long sm, .long sc, .int (dc_dn sv), .int (dc_bI ak), .long cw, .int dn, .int (nI an), .ref m3, .ref m4, .ref m5, .int (nI sk), .ref m6, .ref m7, .ref m8, .ref m9, .int (nI t), .ref ma, .ref mb, .ref mc, .long ee, .long em, .long ec, .ref mg, .ref mz, .int (dc_bI gn), .int c, .ref mr, .ref mi, .int 2])), (m1, .inl (cA 1, 80, .inr (.inl F))), (m2, .inl (cA 0, 4, .inl zs))] : va_W) = [(mo, .inr (9, [.ref mf, .ref m1, .ref m2, .int (dc_bI so), .long se, .long sm, .long sc, .int (dc_dn sv), .int (dc_bI ak), .long cw, .int dn, .int (nI an), .ref m3, .ref m4, .ref m5, .int (nI sk), .ref m6, .ref m7, .ref m8, .ref m9, .int (nI t), .ref ma, .ref mb, .ref mc, .long ee, .long em, .long ec, .ref mg, .ref mz, .int (dc_bI gn), .int c, .ref mr, .ref mi, .int (dc_ldT 3 n0 n1 n2 n3)])), (m1, .inl (cA 1, 80, .inr (.inl F))), (m2, .inl (cA 0, 4, .inl zs))] := by rw [hT]
            rw [hE9] at hP9 hD9
            exact W.iret (v := 0) hx hb hr (fun t ht hW => ⟨⟨_, (F, zs), rfl, (⟨dc_ldV0 hT0, dc_ldS0 hT0 hz hF⟩), by rw [ht]; exact hP9, hD9⟩, hS.F ht⟩) hS.2.2 dn_d_Mod_load_41
      · exact absurd h7 (by decide)

set_option maxHeartbeats 4000000 in
set_option maxRecDepth 100000 in
theorem rr_print (l : Launch) (G : va_G) (cA : Nat → ClassId) (mo : Nat) (mf : Nat) (m1 : Nat) (m2 : Nat) (so : Bool) (se : Int64) (sm : Int64) (sc : Int64) (sv : Nat) (ak : Bool) (cw : Int64) (dn : Int32) (an : Nat) (m3 : Nat) (m4 : Nat) (m5 : Nat) (sk : Nat) (m6 : Nat) (m7 : Nat) (m8 : Nat) (m9 : Nat) (t : Nat) (ma : Nat) (mb : Nat) (mc : Nat) (ee : Int64) (em : Int64) (ec : Int64) (mg : Nat) (mz : Nat) (gn : Bool) (c : Int32) (mr : Nat) (mi : Nat) (th : Int32) (fv : Nat → Int32) (fd : Nat → Int32) (f : Int32) (v : Int32) (d : Int32)  (sz : Nat) : Met l dn_y_Mod_print (.code dn_y_Mod_print dn_c_Mod_print 6 (some .boolean) :: dc_W) ({ frames := 1, cells := 0, slots := 0, locals := 25 }) (dc_pW G cA [(mo, .inr (9, [.ref mf, .ref m1, .ref m2, .int (dc_bI so), .long se, .long sm, .long sc, .int (dc_dn sv), .int (dc_bI ak), .long cw, .int dn, .int (nI an), .ref m3, .ref m4, .ref m5, .int (nI sk), .ref m6, .ref m7, .ref m8, .ref m9, .int (nI t), .ref ma, .ref mb, .ref mc, .long ee, .long em, .long ec, .ref mg, .ref mz, .int (dc_bI gn), .int c, .ref mr, .ref mi, .int th])), (m4, .inl (cA 0, 3, .inl fv)), (m5, .inl (cA 0, 3, .inl fd))] sz [.ref mo, .int f, .int v, .int d]) (dc_qi G (fun (r : Int32) (_ : Unit) => r = dc_bI (dc_prV f v d)) (fun (_ : Unit) => [(mo, .inr (9, [.ref mf, .ref m1, .ref m2, .int (dc_bI so), .long se, .long sm, .long sc, .int (dc_dn sv), .int (dc_bI ak), .long cw, .int dn, .int (nI an), .ref m3, .ref m4, .ref m5, .int (nI sk), .ref m6, .ref m7, .ref m8, .ref m9, .int (nI t), .ref ma, .ref mb, .ref mc, .long ee, .long em, .long ec, .ref mg, .ref mz, .int (dc_bI gn), .int c, .ref mr, .ref mi, .int (dc_prT f v d)])), (m4, .inl (cA 0, 3, .inl (dc_sel (decide (dc_prT f v d = 0)) (upd fv (Int32.toNatClampNeg f) v) fv))), (m5, .inl (cA 0, 3, .inl (dc_sel (decide (dc_prT f v d = 0)) (upd fd (Int32.toNatClampNeg f) d) fd)))]) sz [(mo, .inr (9, [.ref mf, .ref m1, .ref m2, .int (dc_bI so), .long se, .long sm, .long sc, .int (dc_dn sv), .int (dc_bI ak), .long cw, .int dn, .int (nI an), .ref m3, .ref m4, .ref m5, .int (nI sk), .ref m6, .ref m7, .ref m8, .ref m9, .int (nI t), .ref ma, .ref mb, .ref mc, .long ee, .long em, .long ec, .ref mg, .ref mz, .int (dc_bI gn), .int c, .ref mr, .ref mi, .int th])), (m4, .inl (cA 0, 3, .inl fv)), (m5, .inl (cA 0, 3, .inl fd))]) 0 0 (va_A [(mo, .inr (9, [.ref mf, .ref m1, .ref m2, .int (dc_bI so), .long se, .long sm, .long sc, .int (dc_dn sv), .int (dc_bI ak), .long cw, .int dn, .int (nI an), .ref m3, .ref m4, .ref m5, .int (nI sk), .ref m6, .ref m7, .ref m8, .ref m9, .int (nI t), .ref ma, .ref mb, .ref mc, .long ee, .long em, .long ec, .ref mg, .ref mz, .int (dc_bI gn), .int c, .ref mr, .ref mi, .int th])), (m4, .inl (cA 0, 3, .inl fv)), (m5, .inl (cA 0, 3, .inl fd))] sz) := by
  refine Met.ofW (cc := dn_c_Mod_print) (maxL := 6) (ret := (some .boolean)) (by decide) rfl ?_
  intro p9 en9 s m args9 below9 meth9 cd9 s9 B hml hv
  obtain ⟨rfl, hsz, hP, hK0, hD0⟩ := hv
  have hx := B.exec
  have hb := B.bytes
  have hr := B.returns
  have hts : ∀ w ∈ dc_W, w.before _ s = true := fun w h => atoms_spec (ws := (.code dn_y_Mod_print dn_c_Mod_print 6 (some .boolean) :: dc_W)) B.pre w (List.mem_cons_of_mem _ h)
  have hK := hK0.1
  have hN := hK0.2
  have hown : s.vm.findClass dn_R_Mod = some m.cls := findClass_of_methodNamed B.named
  have hlocks := B.notSynchronized
  subst hsz
  have hD := hD0.self (sz := s.heap.size)
  unfold dc_qi
  generalize hAe : va_A [(mo, .inr (9, [.ref mf, .ref m1, .ref m2, .int (dc_bI so), .long se, .long sm, .long sc, .int (dc_dn sv), .int (dc_bI ak), .long cw, .int dn, .int (nI an), .ref m3, .ref m4, .ref m5, .int (nI sk), .ref m6, .ref m7, .ref m8, .ref m9, .int (nI t), .ref ma, .ref mb, .ref mc, .long ee, .long em, .long ec, .ref mg, .ref mz, .int (dc_bI gn), .int c, .ref mr, .ref mi, .int th])), (m4, .inl (cA 0, 3, .inl fv)), (m5, .inl (cA 0, 3, .inl fd))] s.heap.size = A at hD ⊢
  have hA : ∀ q : Nat, s.heap.size ≤ q → A q := fun q h => by rw [← hAe]; exact Or.inr h
  have hS : va_S A s.heap s.heap [] := va_S.rf
  have hl := lv_entry ([.ref mo, .int f, .int v, .int d]) (n := 6) (Nat.le_of_ble_eq_true rfl)
  rw [lg_entry_eq]
  generalize (lg_sl ([.ref mo, .int f, .int v, .int d]) ++ List.replicate (6 - (lg_sl ([.ref mo, .int f, .int v, .int d])).length) Slot.unset).toArray = ls at hl ⊢
  have hl : lv_has ls 6 [(0, .ref mo), (1, .int f), (2, .int v), (3, .int d)] := hl
  rcases dc_w3 f with hout | rfl | rfl | rfl
  ·
    have hl : lv_has ls 6 [(0, .ref mo), (1, .int f), (2, .int v), (3, .int d)] := hl
    have hP : va_P G vwCl [(mo, .inr (9, [.ref mf, .ref m1, .ref m2, .int (dc_bI so), .long se, .long sm, .long sc, .int (dc_dn sv), .int (dc_bI ak), .long cw, .int dn, .int (nI an), .ref m3, .ref m4, .ref m5, .int (nI sk), .ref m6, .ref m7, .ref m8, .ref m9, .int (nI t), .ref ma, .ref mb, .ref mc, .long ee, .long em, .long ec, .ref mg, .ref mz, .int (dc_bI gn), .int c, .ref mr, .ref mi, .int th])), (m4, .inl (cA 0, 3, .inl fv)), (m5, .inl (cA 0, 3, .inl fd))] s.heap := hP
    have hD : va_D A [(mo, .inr (9, [.ref mf, .ref m1, .ref m2, .int (dc_bI so), .long se, .long sm, .long sc, .int (dc_dn sv), .int (dc_bI ak), .long cw, .int dn, .int (nI an), .ref m3, .ref m4, .ref m5, .int (nI sk), .ref m6, .ref m7, .ref m8, .ref m9, .int (nI t), .ref ma, .ref mb, .ref mc, .long ee, .long em, .long ec, .ref mg, .ref mz, .int (dc_bI gn), .int c, .ref mr, .ref mi, .int th])), (m4, .inl (cA 0, 3, .inl fv)), (m5, .inl (cA 0, 3, .inl fd))] := hD
    refine lv_iload_n hx hb dn_d_Mod_print_0 rfl (lv_at hl 1 rfl) ?_
    refine lv_if_lt (tgt := 13) hx hb dn_d_Mod_print_1 (by decide) (fun h1 => ?_) (fun h1 => ?_)
    · -- 1: f < 0
      refine lv_iconst (v := 0) hx hb dn_d_Mod_print_13 (by decide) ?_
      refine lv_istore hx hb dn_d_Mod_print_14 hl (by decide) rfl (fun ls hl => ?_)
      have hl : lv_has ls 6 [(4, .int 0), (0, .ref mo), (1, .int f), (2, .int v), (3, .int d)] := hl
      refine lv_iload_n hx hb dn_d_Mod_print_16 rfl (lv_at hl 2 rfl) ?_
      refine lv_if_ne (tgt := 25) hx hb dn_d_Mod_print_17 (by decide) (fun h17 => ?_) (fun h17 => ?_)
      · -- 17: ¬ f = 0
        refine lv_ldc (v := 999999) hx hb hown (hts _ dn_w_1018) dn_d_Mod_print_25 ?_
        refine lv_istore hx hb dn_d_Mod_print_27 hl (by decide) rfl (fun ls hl => ?_)
        have hl : lv_has ls 6 [(5, .int 999999), (4, .int 0), (0, .ref mo), (1, .int f), (2, .int v), (3, .int d)] := hl
        refine lv_aload_n hx hb dn_d_Mod_print_29 rfl (lv_at hl 2 rfl) ?_
        refine lv_iload hx hb dn_d_Mod_print_30 (lv_at hl 1 rfl) ?_
        refine lv_if_ne (tgt := 39) hx hb dn_d_Mod_print_32 (by decide) (fun h32 => ?_) (fun h32 => ?_)
        · exact absurd h32 (by decide)
        · -- 32: 0 = 0
          refine lv_iconst (v := 1) hx hb dn_d_Mod_print_35 (by decide) ?_
          refine lv_goto (tgt := 64) hx hb dn_d_Mod_print_36 (by decide) ?_
          refine va_put (D := G) (ci := 9) (v := .int 1) (ty := (.int)) (C := dn_R_Mod) (T := dn_T_Mod) (N := 34) hx hb hts (dn_u_Mod) dn_t_Mod dn_o_Mod dn_n_Mod hown hK hP hD hS 0 rfl rfl 33 (by decide) (hts _ dn_w_891) (fun _ h9 => h9) rfl (by decide +kernel) rfl rfl (Nat.le_of_ble_eq_true rfl) dn_d_Mod_print_64 (fun H locs hP hD hS => ?_)
          have hP : va_P G vwCl [(mo, .inr (9, [.ref mf, .ref m1, .ref m2, .int (dc_bI so), .long se, .long sm, .long sc, .int (dc_dn sv), .int (dc_bI ak), .long cw, .int dn, .int (nI an), .ref m3, .ref m4, .ref m5, .int (nI sk), .ref m6, .ref m7, .ref m8, .ref m9, .int (nI t), .ref ma, .ref mb, .ref mc, .long ee, .long em, .long ec, .ref mg, .ref mz, .int (dc_bI gn), .int c, .ref mr, .ref mi, .int 1])), (m4, .inl (cA 0, 3, .inl fv)), (m5, .inl (cA 0, 3, .inl fd))] H := hP
          have hD : va_D A [(mo, .inr (9, [.ref mf, .ref m1, .ref m2, .int (dc_bI so), .long se, .long sm, .long sc, .int (dc_dn sv), .int (dc_bI ak), .long cw, .int dn, .int (nI an), .ref m3, .ref m4, .ref m5, .int (nI sk), .ref m6, .ref m7, .ref m8, .ref m9, .int (nI t), .ref ma, .ref mb, .ref mc, .long ee, .long em, .long ec, .ref mg, .ref mz, .int (dc_bI gn), .int c, .ref mr, .ref mi, .int 1])), (m4, .inl (cA 0, 3, .inl fv)), (m5, .inl (cA 0, 3, .inl fd))] := hD
          refine lv_aload_n hx hb dn_d_Mod_print_67 rfl (lv_at hl 2 rfl) ?_
          refine va_get (D := G) (ci := 9) (v := .int 1) (C := dn_R_Mod) (T := dn_T_Mod) (N := 34) hx hb hts (dn_u_Mod) hown hK hP 0 rfl rfl 33 (by decide) (hts _ dn_w_891) (fun _ h9 => h9) rfl dn_d_Mod_print_68 ?_
          refine lv_if_eq (tgt := 76) hx hb dn_d_Mod_print_71 (by decide) (fun h71 => ?_) (fun h71 => ?_)
          · exact absurd h71 (by decide)
          · -- 71: ¬ 1 = 0
            refine lv_iconst (v := 0) hx hb dn_d_Mod_print_74 (by decide) ?_
            have hT : dc_prT f v d = 1 := dc_prO hout
            have hT0 : ¬ dc_prT f v d = 0 := by rw [hT]; decide
            have hz9 : decide (dc_prT f v d = 0) = false := decide_eq_false hT0
            have hV : dc_prV f v d = false := decide_eq_false (fun z9 => hT0 z9.1)
            have hP9 := hP.sub (ws' := [(mo, .inr (9, [.ref mf, .ref m1, .ref m2, .int (dc_bI so), .long se, .long sm, .long sc, .int (dc_dn sv), .int (dc_bI ak), .long cw, .int dn, .int (nI an), .ref m3, .ref m4, .ref m5, .int (nI sk), .ref m6, .ref m7, .ref m8, .ref m9, .int (nI t), .ref ma, .ref mb, .ref mc, .long ee, .long em, .long ec, .ref mg, .ref mz, .int (dc_bI gn), .int c, .ref mr, .ref mi, .int 1])), (m4, .inl (cA 0, 3, .inl fv)), (m5, .inl (cA 0, 3, .inl fd))]) [0, 1, 2] rfl
            have hD9 := hD.sub (ws' := [(mo, .inr (9, [.ref mf, .ref m1, .ref m2, .int (dc_bI so), .long se, .long sm, .long sc, .int (dc_dn sv), .int (dc_bI ak), .long cw, .int dn, .int (nI an), .ref m3, .ref m4, .ref m5, .int (nI sk), .ref m6, .ref m7, .ref m8, .ref m9, .int (nI t), .ref ma, .ref mb, .ref mc, .long ee, .long em, .long ec, .ref mg, .ref mz, .int (dc_bI gn), .int c, .ref mr, .ref mi, .int 1])), (m4, .inl (cA 0, 3, .inl fv)), (m5, .inl (cA 0, 3, .inl fd))]) [0, 1, 2] (by decide) rfl
            have hE9 : ([(mo, .inr (9, [.ref mf, .ref m1, .ref m2, .int (dc_bI so), .long se, .long sm, .long sc, .int (dc_dn sv), .int (dc_bI ak), .long cw, .int dn, .int (nI an), .ref m3, .ref m4, .ref m5, .int (nI sk), .ref m6, .ref m7, .ref m8, .ref m9, .int (nI t), .ref ma, .ref mb, .ref mc, .long ee, .long em, .long ec, .ref mg, .ref mz, .int (dc_bI gn), .int c, .ref mr, .ref mi, .int 1])), (m4, .inl (cA 0, 3, .inl fv)), (m5, .inl (cA 0, 3, .inl fd))] : va_W) = [(mo, .inr (9, [.ref mf, .ref m1, .ref m2, .int (dc_bI so), .long se, .long sm, .long sc, .int (dc_dn sv), .int (dc_bI ak), .long cw, .int dn, .int (nI an), .ref m3, .ref m4, .ref m5, .int (nI sk), .ref m6, .ref m7, .ref m8, .ref m9, .int (nI t), .ref ma, .ref mb, .ref mc, .long ee, .long em, .long ec, .ref mg, .ref mz, .int (dc_bI gn), .int c, .ref mr, .ref mi, .int (dc_prT f v d)])), (m4, .inl (cA 0, 3, .inl (dc_sel (decide (dc_prT f v d = 0)) (upd fv (Int32.toNatClampNeg f) v) fv))), (m5, .inl (cA 0, 3, .inl (dc_sel (decide (dc_prT f v d = 0)) (upd fd (Int32.toNatClampNeg f) d) fd)))] := by rw [hz9, hT]; rfl
            rw [hE9] at hP9 hD9
            exact W.zret (ty := .boolean) (v := 0) hx hb hr (rfl) (fun t ht hW => ⟨⟨_, (), rfl, (by rw [hV]; rfl), by rw [ht]; exact hP9, hD9⟩, hS.F ht⟩) hS.2.2 dn_d_Mod_print_75
      · -- 17: f = 0
        refine lv_ldc (v := 999999999) hx hb hown (hts _ dn_w_1017) dn_d_Mod_print_20 ?_
        refine lv_goto (tgt := 27) hx hb dn_d_Mod_print_22 (by decide) ?_
        refine lv_istore hx hb dn_d_Mod_print_27 hl (by decide) rfl (fun ls hl => ?_)
        have hl : lv_has ls 6 [(5, .int 999999999), (4, .int 0), (0, .ref mo), (1, .int f), (2, .int v), (3, .int d)] := hl
        refine lv_aload_n hx hb dn_d_Mod_print_29 rfl (lv_at hl 2 rfl) ?_
        refine lv_iload hx hb dn_d_Mod_print_30 (lv_at hl 1 rfl) ?_
        refine lv_if_ne (tgt := 39) hx hb dn_d_Mod_print_32 (by decide) (fun h32 => ?_) (fun h32 => ?_)
        · exact absurd h32 (by decide)
        · -- 32: 0 = 0
          refine lv_iconst (v := 1) hx hb dn_d_Mod_print_35 (by decide) ?_
          refine lv_goto (tgt := 64) hx hb dn_d_Mod_print_36 (by decide) ?_
          refine va_put (D := G) (ci := 9) (v := .int 1) (ty := (.int)) (C := dn_R_Mod) (T := dn_T_Mod) (N := 34) hx hb hts (dn_u_Mod) dn_t_Mod dn_o_Mod dn_n_Mod hown hK hP hD hS 0 rfl rfl 33 (by decide) (hts _ dn_w_891) (fun _ h9 => h9) rfl (by decide +kernel) rfl rfl (Nat.le_of_ble_eq_true rfl) dn_d_Mod_print_64 (fun H locs hP hD hS => ?_)
          have hP : va_P G vwCl [(mo, .inr (9, [.ref mf, .ref m1, .ref m2, .int (dc_bI so), .long se, .long sm, .long sc, .int (dc_dn sv), .int (dc_bI ak), .long cw, .int dn, .int (nI an), .ref m3, .ref m4, .ref m5, .int (nI sk), .ref m6, .ref m7, .ref m8, .ref m9, .int (nI t), .ref ma, .ref mb, .ref mc, .long ee, .long em, .long ec, .ref mg, .ref mz, .int (dc_bI gn), .int c, .ref mr, .ref mi, .int 1])), (m4, .inl (cA 0, 3, .inl fv)), (m5, .inl (cA 0, 3, .inl fd))] H := hP
          have hD : va_D A [(mo, .inr (9, [.ref mf, .ref m1, .ref m2, .int (dc_bI so), .long se, .long sm, .long sc, .int (dc_dn sv), .int (dc_bI ak), .long cw, .int dn, .int (nI an), .ref m3, .ref m4, .ref m5, .int (nI sk), .ref m6, .ref m7, .ref m8, .ref m9, .int (nI t), .ref ma, .ref mb, .ref mc, .long ee, .long em, .long ec, .ref mg, .ref mz, .int (dc_bI gn), .int c, .ref mr, .ref mi, .int 1])), (m4, .inl (cA 0, 3, .inl fv)), (m5, .inl (cA 0, 3, .inl fd))] := hD
          refine lv_aload_n hx hb dn_d_Mod_print_67 rfl (lv_at hl 2 rfl) ?_
          refine va_get (D := G) (ci := 9) (v := .int 1) (C := dn_R_Mod) (T := dn_T_Mod) (N := 34) hx hb hts (dn_u_Mod) hown hK hP 0 rfl rfl 33 (by decide) (hts _ dn_w_891) (fun _ h9 => h9) rfl dn_d_Mod_print_68 ?_
          refine lv_if_eq (tgt := 76) hx hb dn_d_Mod_print_71 (by decide) (fun h71 => ?_) (fun h71 => ?_)
          · exact absurd h71 (by decide)
          · -- 71: ¬ 1 = 0
            refine lv_iconst (v := 0) hx hb dn_d_Mod_print_74 (by decide) ?_
            have hT : dc_prT f v d = 1 := dc_prO hout
            have hT0 : ¬ dc_prT f v d = 0 := by rw [hT]; decide
            have hz9 : decide (dc_prT f v d = 0) = false := decide_eq_false hT0
            have hV : dc_prV f v d = false := decide_eq_false (fun z9 => hT0 z9.1)
            have hP9 := hP.sub (ws' := [(mo, .inr (9, [.ref mf, .ref m1, .ref m2, .int (dc_bI so), .long se, .long sm, .long sc, .int (dc_dn sv), .int (dc_bI ak), .long cw, .int dn, .int (nI an), .ref m3, .ref m4, .ref m5, .int (nI sk), .ref m6, .ref m7, .ref m8, .ref m9, .int (nI t), .ref ma, .ref mb, .ref mc, .long ee, .long em, .long ec, .ref mg, .ref mz, .int (dc_bI gn), .int c, .ref mr, .ref mi, .int 1])), (m4, .inl (cA 0, 3, .inl fv)), (m5, .inl (cA 0, 3, .inl fd))]) [0, 1, 2] rfl
            have hD9 := hD.sub (ws' := [(mo, .inr (9, [.ref mf, .ref m1, .ref m2, .int (dc_bI so), .long se, .long sm, .long sc, .int (dc_dn sv), .int (dc_bI ak), .long cw, .int dn, .int (nI an), .ref m3, .ref m4, .ref m5, .int (nI sk), .ref m6, .ref m7, .ref m8, .ref m9, .int (nI t), .ref ma, .ref mb, .ref mc, .long ee, .long em, .long ec, .ref mg, .ref mz, .int (dc_bI gn), .int c, .ref mr, .ref mi, .int 1])), (m4, .inl (cA 0, 3, .inl fv)), (m5, .inl (cA 0, 3, .inl fd))]) [0, 1, 2] (by decide) rfl
            have hE9 : ([(mo, .inr (9, [.ref mf, .ref m1, .ref m2, .int (dc_bI so), .long se, .long sm, .long sc, .int (dc_dn sv), .int (dc_bI ak), .long cw, .int dn, .int (nI an), .ref m3, .ref m4, .ref m5, .int (nI sk), .ref m6, .ref m7, .ref m8, .ref m9, .int (nI t), .ref ma, .ref mb, .ref mc, .long ee, .long em, .long ec, .ref mg, .ref mz, .int (dc_bI gn), .int c, .ref mr, .ref mi, .int 1])), (m4, .inl (cA 0, 3, .inl fv)), (m5, .inl (cA 0, 3, .inl fd))] : va_W) = [(mo, .inr (9, [.ref mf, .ref m1, .ref m2, .int (dc_bI so), .long se, .long sm, .long sc, .int (dc_dn sv), .int (dc_bI ak), .long cw, .int dn, .int (nI an), .ref m3, .ref m4, .ref m5, .int (nI sk), .ref m6, .ref m7, .ref m8, .ref m9, .int (nI t), .ref ma, .ref mb, .ref mc, .long ee, .long em, .long ec, .ref mg, .ref mz, .int (dc_bI gn), .int c, .ref mr, .ref mi, .int (dc_prT f v d)])), (m4, .inl (cA 0, 3, .inl (dc_sel (decide (dc_prT f v d = 0)) (upd fv (Int32.toNatClampNeg f) v) fv))), (m5, .inl (cA 0, 3, .inl (dc_sel (decide (dc_prT f v d = 0)) (upd fd (Int32.toNatClampNeg f) d) fd)))] := by rw [hz9, hT]; rfl
            rw [hE9] at hP9 hD9
            exact W.zret (ty := .boolean) (v := 0) hx hb hr (rfl) (fun t ht hW => ⟨⟨_, (), rfl, (by rw [hV]; rfl), by rw [ht]; exact hP9, hD9⟩, hS.F ht⟩) hS.2.2 dn_d_Mod_print_75
    · -- 1: ¬ f < 0
      refine lv_iload_n hx hb dn_d_Mod_print_4 rfl (lv_at hl 1 rfl) ?_
      refine lv_iconst (v := 3) hx hb dn_d_Mod_print_5 (by decide) ?_
      refine lv_icmp_ge (tgt := 13) hx hb dn_d_Mod_print_6 (by decide) (fun h6 => ?_) (fun h6 => ?_)
      · -- 6: 3 ≤ f
        refine lv_iconst (v := 0) hx hb dn_d_Mod_print_13 (by decide) ?_
        refine lv_istore hx hb dn_d_Mod_print_14 hl (by decide) rfl (fun ls hl => ?_)
        have hl : lv_has ls 6 [(4, .int 0), (0, .ref mo), (1, .int f), (2, .int v), (3, .int d)] := hl
        refine lv_iload_n hx hb dn_d_Mod_print_16 rfl (lv_at hl 2 rfl) ?_
        refine lv_if_ne (tgt := 25) hx hb dn_d_Mod_print_17 (by decide) (fun h17 => ?_) (fun h17 => ?_)
        · -- 17: ¬ f = 0
          refine lv_ldc (v := 999999) hx hb hown (hts _ dn_w_1018) dn_d_Mod_print_25 ?_
          refine lv_istore hx hb dn_d_Mod_print_27 hl (by decide) rfl (fun ls hl => ?_)
          have hl : lv_has ls 6 [(5, .int 999999), (4, .int 0), (0, .ref mo), (1, .int f), (2, .int v), (3, .int d)] := hl
          refine lv_aload_n hx hb dn_d_Mod_print_29 rfl (lv_at hl 2 rfl) ?_
          refine lv_iload hx hb dn_d_Mod_print_30 (lv_at hl 1 rfl) ?_
          refine lv_if_ne (tgt := 39) hx hb dn_d_Mod_print_32 (by decide) (fun h32 => ?_) (fun h32 => ?_)
          · exact absurd h32 (by decide)
          · -- 32: 0 = 0
            refine lv_iconst (v := 1) hx hb dn_d_Mod_print_35 (by decide) ?_
            refine lv_goto (tgt := 64) hx hb dn_d_Mod_print_36 (by decide) ?_
            refine va_put (D := G) (ci := 9) (v := .int 1) (ty := (.int)) (C := dn_R_Mod) (T := dn_T_Mod) (N := 34) hx hb hts (dn_u_Mod) dn_t_Mod dn_o_Mod dn_n_Mod hown hK hP hD hS 0 rfl rfl 33 (by decide) (hts _ dn_w_891) (fun _ h9 => h9) rfl (by decide +kernel) rfl rfl (Nat.le_of_ble_eq_true rfl) dn_d_Mod_print_64 (fun H locs hP hD hS => ?_)
            have hP : va_P G vwCl [(mo, .inr (9, [.ref mf, .ref m1, .ref m2, .int (dc_bI so), .long se, .long sm, .long sc, .int (dc_dn sv), .int (dc_bI ak), .long cw, .int dn, .int (nI an), .ref m3, .ref m4, .ref m5, .int (nI sk), .ref m6, .ref m7, .ref m8, .ref m9, .int (nI t), .ref ma, .ref mb, .ref mc, .long ee, .long em, .long ec, .ref mg, .ref mz, .int (dc_bI gn), .int c, .ref mr, .ref mi, .int 1])), (m4, .inl (cA 0, 3, .inl fv)), (m5, .inl (cA 0, 3, .inl fd))] H := hP
            have hD : va_D A [(mo, .inr (9, [.ref mf, .ref m1, .ref m2, .int (dc_bI so), .long se, .long sm, .long sc, .int (dc_dn sv), .int (dc_bI ak), .long cw, .int dn, .int (nI an), .ref m3, .ref m4, .ref m5, .int (nI sk), .ref m6, .ref m7, .ref m8, .ref m9, .int (nI t), .ref ma, .ref mb, .ref mc, .long ee, .long em, .long ec, .ref mg, .ref mz, .int (dc_bI gn), .int c, .ref mr, .ref mi, .int 1])), (m4, .inl (cA 0, 3, .inl fv)), (m5, .inl (cA 0, 3, .inl fd))] := hD
            refine lv_aload_n hx hb dn_d_Mod_print_67 rfl (lv_at hl 2 rfl) ?_
            refine va_get (D := G) (ci := 9) (v := .int 1) (C := dn_R_Mod) (T := dn_T_Mod) (N := 34) hx hb hts (dn_u_Mod) hown hK hP 0 rfl rfl 33 (by decide) (hts _ dn_w_891) (fun _ h9 => h9) rfl dn_d_Mod_print_68 ?_
            refine lv_if_eq (tgt := 76) hx hb dn_d_Mod_print_71 (by decide) (fun h71 => ?_) (fun h71 => ?_)
            · exact absurd h71 (by decide)
            · -- 71: ¬ 1 = 0
              refine lv_iconst (v := 0) hx hb dn_d_Mod_print_74 (by decide) ?_
              have hT : dc_prT f v d = 1 := dc_prO hout
              have hT0 : ¬ dc_prT f v d = 0 := by rw [hT]; decide
              have hz9 : decide (dc_prT f v d = 0) = false := decide_eq_false hT0
              have hV : dc_prV f v d = false := decide_eq_false (fun z9 => hT0 z9.1)
              have hP9 := hP.sub (ws' := [(mo, .inr (9, [.ref mf, .ref m1, .ref m2, .int (dc_bI so), .long se, .long sm, .long sc, .int (dc_dn sv), .int (dc_bI ak), .long cw, .int dn, .int (nI an), .ref m3, .ref m4, .ref m5, .int (nI sk), .ref m6, .ref m7, .ref m8, .ref m9, .int (nI t), .ref ma, .ref mb, .ref mc, .long ee, .long em, .long ec, .ref mg, .ref mz, .int (dc_bI gn), .int c, .ref mr, .ref mi, .int 1])), (m4, .inl (cA 0, 3, .inl fv)), (m5, .inl (cA 0, 3, .inl fd))]) [0, 1, 2] rfl
              have hD9 := hD.sub (ws' := [(mo, .inr (9, [.ref mf, .ref m1, .ref m2, .int (dc_bI so), .long se, .long sm, .long sc, .int (dc_dn sv), .int (dc_bI ak), .long cw, .int dn, .int (nI an), .ref m3, .ref m4, .ref m5, .int (nI sk), .ref m6, .ref m7, .ref m8, .ref m9, .int (nI t), .ref ma, .ref mb, .ref mc, .long ee, .long em, .long ec, .ref mg, .ref mz, .int (dc_bI gn), .int c, .ref mr, .ref mi, .int 1])), (m4, .inl (cA 0, 3, .inl fv)), (m5, .inl (cA 0, 3, .inl fd))]) [0, 1, 2] (by decide) rfl
              have hE9 : ([(mo, .inr (9, [.ref mf, .ref m1, .ref m2, .int (dc_bI so), .long se, .long sm, .long sc, .int (dc_dn sv), .int (dc_bI ak), .long cw, .int dn, .int (nI an), .ref m3, .ref m4, .ref m5, .int (nI sk), .ref m6, .ref m7, .ref m8, .ref m9, .int (nI t), .ref ma, .ref mb, .ref mc, .long ee, .long em, .long ec, .ref mg, .ref mz, .int (dc_bI gn), .int c, .ref mr, .ref mi, .int 1])), (m4, .inl (cA 0, 3, .inl fv)), (m5, .inl (cA 0, 3, .inl fd))] : va_W) = [(mo, .inr (9, [.ref mf, .ref m1, .ref m2, .int (dc_bI so), .long se, .long sm, .long sc, .int (dc_dn sv), .int (dc_bI ak), .long cw, .int dn, .int (nI an), .ref m3, .ref m4, .ref m5, .int (nI sk), .ref m6, .ref m7, .ref m8, .ref m9, .int (nI t), .ref ma, .ref mb, .ref mc, .long ee, .long em, .long ec, .ref mg, .ref mz, .int (dc_bI gn), .int c, .ref mr, .ref mi, .int (dc_prT f v d)])), (m4, .inl (cA 0, 3, .inl (dc_sel (decide (dc_prT f v d = 0)) (upd fv (Int32.toNatClampNeg f) v) fv))), (m5, .inl (cA 0, 3, .inl (dc_sel (decide (dc_prT f v d = 0)) (upd fd (Int32.toNatClampNeg f) d) fd)))] := by rw [hz9, hT]; rfl
              rw [hE9] at hP9 hD9
              exact W.zret (ty := .boolean) (v := 0) hx hb hr (rfl) (fun t ht hW => ⟨⟨_, (), rfl, (by rw [hV]; rfl), by rw [ht]; exact hP9, hD9⟩, hS.F ht⟩) hS.2.2 dn_d_Mod_print_75
        · -- 17: f = 0
          refine lv_ldc (v := 999999999) hx hb hown (hts _ dn_w_1017) dn_d_Mod_print_20 ?_
          refine lv_goto (tgt := 27) hx hb dn_d_Mod_print_22 (by decide) ?_
          refine lv_istore hx hb dn_d_Mod_print_27 hl (by decide) rfl (fun ls hl => ?_)
          have hl : lv_has ls 6 [(5, .int 999999999), (4, .int 0), (0, .ref mo), (1, .int f), (2, .int v), (3, .int d)] := hl
          refine lv_aload_n hx hb dn_d_Mod_print_29 rfl (lv_at hl 2 rfl) ?_
          refine lv_iload hx hb dn_d_Mod_print_30 (lv_at hl 1 rfl) ?_
          refine lv_if_ne (tgt := 39) hx hb dn_d_Mod_print_32 (by decide) (fun h32 => ?_) (fun h32 => ?_)
          · exact absurd h32 (by decide)
          · -- 32: 0 = 0
            refine lv_iconst (v := 1) hx hb dn_d_Mod_print_35 (by decide) ?_
            refine lv_goto (tgt := 64) hx hb dn_d_Mod_print_36 (by decide) ?_
            refine va_put (D := G) (ci := 9) (v := .int 1) (ty := (.int)) (C := dn_R_Mod) (T := dn_T_Mod) (N := 34) hx hb hts (dn_u_Mod) dn_t_Mod dn_o_Mod dn_n_Mod hown hK hP hD hS 0 rfl rfl 33 (by decide) (hts _ dn_w_891) (fun _ h9 => h9) rfl (by decide +kernel) rfl rfl (Nat.le_of_ble_eq_true rfl) dn_d_Mod_print_64 (fun H locs hP hD hS => ?_)
            have hP : va_P G vwCl [(mo, .inr (9, [.ref mf, .ref m1, .ref m2, .int (dc_bI so), .long se, .long sm, .long sc, .int (dc_dn sv), .int (dc_bI ak), .long cw, .int dn, .int (nI an), .ref m3, .ref m4, .ref m5, .int (nI sk), .ref m6, .ref m7, .ref m8, .ref m9, .int (nI t), .ref ma, .ref mb, .ref mc, .long ee, .long em, .long ec, .ref mg, .ref mz, .int (dc_bI gn), .int c, .ref mr, .ref mi, .int 1])), (m4, .inl (cA 0, 3, .inl fv)), (m5, .inl (cA 0, 3, .inl fd))] H := hP
            have hD : va_D A [(mo, .inr (9, [.ref mf, .ref m1, .ref m2, .int (dc_bI so), .long se, .long sm, .long sc, .int (dc_dn sv), .int (dc_bI ak), .long cw, .int dn, .int (nI an), .ref m3, .ref m4, .ref m5, .int (nI sk), .ref m6, .ref m7, .ref m8, .ref m9, .int (nI t), .ref ma, .ref mb, .ref mc, .long ee, .long em, .long ec, .ref mg, .ref mz, .int (dc_bI gn), .int c, .ref mr, .ref mi, .int 1])), (m4, .inl (cA 0, 3, .inl fv)), (m5, .inl (cA 0, 3, .inl fd))] := hD
            refine lv_aload_n hx hb dn_d_Mod_print_67 rfl (lv_at hl 2 rfl) ?_
            refine va_get (D := G) (ci := 9) (v := .int 1) (C := dn_R_Mod) (T := dn_T_Mod) (N := 34) hx hb hts (dn_u_Mod) hown hK hP 0 rfl rfl 33 (by decide) (hts _ dn_w_891) (fun _ h9 => h9) rfl dn_d_Mod_print_68 ?_
            refine lv_if_eq (tgt := 76) hx hb dn_d_Mod_print_71 (by decide) (fun h71 => ?_) (fun h71 => ?_)
            · exact absurd h71 (by decide)
            · -- 71: ¬ 1 = 0
              refine lv_iconst (v := 0) hx hb dn_d_Mod_print_74 (by decide) ?_
              have hT : dc_prT f v d = 1 := dc_prO hout
              have hT0 : ¬ dc_prT f v d = 0 := by rw [hT]; decide
              have hz9 : decide (dc_prT f v d = 0) = false := decide_eq_false hT0
              have hV : dc_prV f v d = false := decide_eq_false (fun z9 => hT0 z9.1)
              have hP9 := hP.sub (ws' := [(mo, .inr (9, [.ref mf, .ref m1, .ref m2, .int (dc_bI so), .long se, .long sm, .long sc, .int (dc_dn sv), .int (dc_bI ak), .long cw, .int dn, .int (nI an), .ref m3, .ref m4, .ref m5, .int (nI sk), .ref m6, .ref m7, .ref m8, .ref m9, .int (nI t), .ref ma, .ref mb, .ref mc, .long ee, .long em, .long ec, .ref mg, .ref mz, .int (dc_bI gn), .int c, .ref mr, .ref mi, .int 1])), (m4, .inl (cA 0, 3, .inl fv)), (m5, .inl (cA 0, 3, .inl fd))]) [0, 1, 2] rfl
              have hD9 := hD.sub (ws' := [(mo, .inr (9, [.ref mf, .ref m1, .ref m2, .int (dc_bI so), .long se, .long sm, .long sc, .int (dc_dn sv), .int (dc_bI ak), .long cw, .int dn, .int (nI an), .ref m3, .ref m4, .ref m5, .int (nI sk), .ref m6, .ref m7, .ref m8, .ref m9, .int (nI t), .ref ma, .ref mb, .ref mc, .long ee, .long em, .long ec, .ref mg, .ref mz, .int (dc_bI gn), .int c, .ref mr, .ref mi, .int 1])), (m4, .inl (cA 0, 3, .inl fv)), (m5, .inl (cA 0, 3, .inl fd))]) [0, 1, 2] (by decide) rfl
              have hE9 : ([(mo, .inr (9, [.ref mf, .ref m1, .ref m2, .int (dc_bI so), .long se, .long sm, .long sc, .int (dc_dn sv), .int (dc_bI ak), .long cw, .int dn, .int (nI an), .ref m3, .ref m4, .ref m5, .int (nI sk), .ref m6, .ref m7, .ref m8, .ref m9, .int (nI t), .ref ma, .ref mb, .ref mc, .long ee, .long em, .long ec, .ref mg, .ref mz, .int (dc_bI gn), .int c, .ref mr, .ref mi, .int 1])), (m4, .inl (cA 0, 3, .inl fv)), (m5, .inl (cA 0, 3, .inl fd))] : va_W) = [(mo, .inr (9, [.ref mf, .ref m1, .ref m2, .int (dc_bI so), .long se, .long sm, .long sc, .int (dc_dn sv), .int (dc_bI ak), .long cw, .int dn, .int (nI an), .ref m3, .ref m4, .ref m5, .int (nI sk), .ref m6, .ref m7, .ref m8, .ref m9, .int (nI t), .ref ma, .ref mb, .ref mc, .long ee, .long em, .long ec, .ref mg, .ref mz, .int (dc_bI gn), .int c, .ref mr, .ref mi, .int (dc_prT f v d)])), (m4, .inl (cA 0, 3, .inl (dc_sel (decide (dc_prT f v d = 0)) (upd fv (Int32.toNatClampNeg f) v) fv))), (m5, .inl (cA 0, 3, .inl (dc_sel (decide (dc_prT f v d = 0)) (upd fd (Int32.toNatClampNeg f) d) fd)))] := by rw [hz9, hT]; rfl
              rw [hE9] at hP9 hD9
              exact W.zret (ty := .boolean) (v := 0) hx hb hr (rfl) (fun t ht hW => ⟨⟨_, (), rfl, (by rw [hV]; rfl), by rw [ht]; exact hP9, hD9⟩, hS.F ht⟩) hS.2.2 dn_d_Mod_print_75
      · exact absurd h6 (not_not_intro (dc_out2 hout h1))
  ·
    have hl : lv_has ls 6 [(0, .ref mo), (1, .int 0), (2, .int v), (3, .int d)] := hl
    have hP : va_P G vwCl [(mo, .inr (9, [.ref mf, .ref m1, .ref m2, .int (dc_bI so), .long se, .long sm, .long sc, .int (dc_dn sv), .int (dc_bI ak), .long cw, .int dn, .int (nI an), .ref m3, .ref m4, .ref m5, .int (nI sk), .ref m6, .ref m7, .ref m8, .ref m9, .int (nI t), .ref ma, .ref mb, .ref mc, .long ee, .long em, .long ec, .ref mg, .ref mz, .int (dc_bI gn), .int c, .ref mr, .ref mi, .int th])), (m4, .inl (cA 0, 3, .inl fv)), (m5, .inl (cA 0, 3, .inl fd))] s.heap := hP
    have hD : va_D A [(mo, .inr (9, [.ref mf, .ref m1, .ref m2, .int (dc_bI so), .long se, .long sm, .long sc, .int (dc_dn sv), .int (dc_bI ak), .long cw, .int dn, .int (nI an), .ref m3, .ref m4, .ref m5, .int (nI sk), .ref m6, .ref m7, .ref m8, .ref m9, .int (nI t), .ref ma, .ref mb, .ref mc, .long ee, .long em, .long ec, .ref mg, .ref mz, .int (dc_bI gn), .int c, .ref mr, .ref mi, .int th])), (m4, .inl (cA 0, 3, .inl fv)), (m5, .inl (cA 0, 3, .inl fd))] := hD
    refine lv_iload_n hx hb dn_d_Mod_print_0 rfl (lv_at hl 1 rfl) ?_
    refine lv_if_lt (tgt := 13) hx hb dn_d_Mod_print_1 (by decide) (fun h1 => ?_) (fun h1 => ?_)
    · exact absurd h1 (by decide)
    · -- 1: ¬ 0 < 0
      refine lv_iload_n hx hb dn_d_Mod_print_4 rfl (lv_at hl 1 rfl) ?_
      refine lv_iconst (v := 3) hx hb dn_d_Mod_print_5 (by decide) ?_
      refine lv_icmp_ge (tgt := 13) hx hb dn_d_Mod_print_6 (by decide) (fun h6 => ?_) (fun h6 => ?_)
      · exact absurd h6 (by decide)
      · -- 6: ¬ 3 ≤ 0
        refine lv_iconst (v := 1) hx hb dn_d_Mod_print_9 (by decide) ?_
        refine lv_goto (tgt := 14) hx hb dn_d_Mod_print_10 (by decide) ?_
        refine lv_istore hx hb dn_d_Mod_print_14 hl (by decide) rfl (fun ls hl => ?_)
        have hl : lv_has ls 6 [(4, .int 1), (0, .ref mo), (1, .int 0), (2, .int v), (3, .int d)] := hl
        refine lv_iload_n hx hb dn_d_Mod_print_16 rfl (lv_at hl 2 rfl) ?_
        refine lv_if_ne (tgt := 25) hx hb dn_d_Mod_print_17 (by decide) (fun h17 => ?_) (fun h17 => ?_)
        · exact absurd h17 (by decide)
        · -- 17: 0 = 0
          refine lv_ldc (v := 999999999) hx hb hown (hts _ dn_w_1017) dn_d_Mod_print_20 ?_
          refine lv_goto (tgt := 27) hx hb dn_d_Mod_print_22 (by decide) ?_
          refine lv_istore hx hb dn_d_Mod_print_27 hl (by decide) rfl (fun ls hl => ?_)
          have hl : lv_has ls 6 [(5, .int 999999999), (4, .int 1), (0, .ref mo), (1, .int 0), (2, .int v), (3, .int d)] := hl
          refine lv_aload_n hx hb dn_d_Mod_print_29 rfl (lv_at hl 2 rfl) ?_
          refine lv_iload hx hb dn_d_Mod_print_30 (lv_at hl 1 rfl) ?_
          refine lv_if_ne (tgt := 39) hx hb dn_d_Mod_print_32 (by decide) (fun h32 => ?_) (fun h32 => ?_)
          · -- 32: ¬ 1 = 0
            refine lv_iload_n hx hb dn_d_Mod_print_39 rfl (lv_at hl 4 rfl) ?_
            refine lv_if_lt (tgt := 59) hx hb dn_d_Mod_print_40 (by decide) (fun h40 => ?_) (fun h40 => ?_)
            · -- 40: v < 0
              refine lv_iconst (v := 2) hx hb dn_d_Mod_print_59 (by decide) ?_
              refine lv_goto (tgt := 64) hx hb dn_d_Mod_print_60 (by decide) ?_
              refine va_put (D := G) (ci := 9) (v := .int 2) (ty := (.int)) (C := dn_R_Mod) (T := dn_T_Mod) (N := 34) hx hb hts (dn_u_Mod) dn_t_Mod dn_o_Mod dn_n_Mod hown hK hP hD hS 0 rfl rfl 33 (by decide) (hts _ dn_w_891) (fun _ h9 => h9) rfl (by decide +kernel) rfl rfl (Nat.le_of_ble_eq_true rfl) dn_d_Mod_print_64 (fun H locs hP hD hS => ?_)
              have hP : va_P G vwCl [(mo, .inr (9, [.ref mf, .ref m1, .ref m2, .int (dc_bI so), .long se, .long sm, .long sc, .int (dc_dn sv), .int (dc_bI ak), .long cw, .int dn, .int (nI an), .ref m3, .ref m4, .ref m5, .int (nI sk), .ref m6, .ref m7, .ref m8, .ref m9, .int (nI t), .ref ma, .ref mb, .ref mc, .long ee, .long em, .long ec, .ref mg, .ref mz, .int (dc_bI gn), .int c, .ref mr, .ref mi, .int 2])), (m4, .inl (cA 0, 3, .inl fv)), (m5, .inl (cA 0, 3, .inl fd))] H := hP
              have hD : va_D A [(mo, .inr (9, [.ref mf, .ref m1, .ref m2, .int (dc_bI so), .long se, .long sm, .long sc, .int (dc_dn sv), .int (dc_bI ak), .long cw, .int dn, .int (nI an), .ref m3, .ref m4, .ref m5, .int (nI sk), .ref m6, .ref m7, .ref m8, .ref m9, .int (nI t), .ref ma, .ref mb, .ref mc, .long ee, .long em, .long ec, .ref mg, .ref mz, .int (dc_bI gn), .int c, .ref mr, .ref mi, .int 2])), (m4, .inl (cA 0, 3, .inl fv)), (m5, .inl (cA 0, 3, .inl fd))] := hD
              refine lv_aload_n hx hb dn_d_Mod_print_67 rfl (lv_at hl 2 rfl) ?_
              refine va_get (D := G) (ci := 9) (v := .int 2) (C := dn_R_Mod) (T := dn_T_Mod) (N := 34) hx hb hts (dn_u_Mod) hown hK hP 0 rfl rfl 33 (by decide) (hts _ dn_w_891) (fun _ h9 => h9) rfl dn_d_Mod_print_68 ?_
              refine lv_if_eq (tgt := 76) hx hb dn_d_Mod_print_71 (by decide) (fun h71 => ?_) (fun h71 => ?_)
              · exact absurd h71 (by decide)
              · -- 71: ¬ 2 = 0
                refine lv_iconst (v := 0) hx hb dn_d_Mod_print_74 (by decide) ?_
                have hT : dc_prT 0 v d = 2 := dc_prF (j := 0) (by decide) (fun z9 => z9.1 h40)
                have hT0 : ¬ dc_prT 0 v d = 0 := by rw [hT]; decide
                have hz9 : decide (dc_prT 0 v d = 0) = false := decide_eq_false hT0
                have hV : dc_prV 0 v d = false := decide_eq_false (fun z9 => hT0 z9.1)
                have hP9 := hP.sub (ws' := [(mo, .inr (9, [.ref mf, .ref m1, .ref m2, .int (dc_bI so), .long se, .long sm, .long sc, .int (dc_dn sv), .int (dc_bI ak), .long cw, .int dn, .int (nI an), .ref m3, .ref m4, .ref m5, .int (nI sk), .ref m6, .ref m7, .ref m8, .ref m9, .int (nI t), .ref ma, .ref mb, .ref mc, .long ee, .long em, .long ec, .ref mg, .ref mz, .int (dc_bI gn), .int c, .ref mr, .ref mi, .int 2])), (m4, .inl (cA 0, 3, .inl fv)), (m5, .inl (cA 0, 3, .inl fd))]) [0, 1, 2] rfl
                have hD9 := hD.sub (ws' := [(mo, .inr (9, [.ref mf, .ref m1, .ref m2, .int (dc_bI so), .long se, .long sm, .long sc, .int (dc_dn sv), .int (dc_bI ak), .long cw, .int dn, .int (nI an), .ref m3, .ref m4, .ref m5, .int (nI sk), .ref m6, .ref m7, .ref m8, .ref m9, .int (nI t), .ref ma, .ref mb, .ref mc, .long ee, .long em, .long ec, .ref mg, .ref mz, .int (dc_bI gn), .int c, .ref mr, .ref mi, .int 2])), (m4, .inl (cA 0, 3, .inl fv)), (m5, .inl (cA 0, 3, .inl fd))]) [0, 1, 2] (by decide) rfl
                have hE9 : ([(mo, .inr (9, [.ref mf, .ref m1, .ref m2, .int (dc_bI so), .long se, .long sm, .long sc, .int (dc_dn sv), .int (dc_bI ak), .long cw, .int dn, .int (nI an), .ref m3, .ref m4, .ref m5, .int (nI sk), .ref m6, .ref m7, .ref m8, .ref m9, .int (nI t), .ref ma, .ref mb, .ref mc, .long ee, .long em, .long ec, .ref mg, .ref mz, .int (dc_bI gn), .int c, .ref mr, .ref mi, .int 2])), (m4, .inl (cA 0, 3, .inl fv)), (m5, .inl (cA 0, 3, .inl fd))] : va_W) = [(mo, .inr (9, [.ref mf, .ref m1, .ref m2, .int (dc_bI so), .long se, .long sm, .long sc, .int (dc_dn sv), .int (dc_bI ak), .long cw, .int dn, .int (nI an), .ref m3, .ref m4, .ref m5, .int (nI sk), .ref m6, .ref m7, .ref m8, .ref m9, .int (nI t), .ref ma, .ref mb, .ref mc, .long ee, .long em, .long ec, .ref mg, .ref mz, .int (dc_bI gn), .int c, .ref mr, .ref mi, .int (dc_prT 0 v d)])), (m4, .inl (cA 0, 3, .inl (dc_sel (decide (dc_prT 0 v d = 0)) (upd fv (Int32.toNatClampNeg 0) v) fv))), (m5, .inl (cA 0, 3, .inl (dc_sel (decide (dc_prT 0 v d = 0)) (upd fd (Int32.toNatClampNeg 0) d) fd)))] := by rw [hz9, hT]; rfl
                rw [hE9] at hP9 hD9
                exact W.zret (ty := .boolean) (v := 0) hx hb hr (rfl) (fun t ht hW => ⟨⟨_, (), rfl, (by rw [hV]; rfl), by rw [ht]; exact hP9, hD9⟩, hS.F ht⟩) hS.2.2 dn_d_Mod_print_75
            · -- 40: ¬ v < 0
              refine lv_iload_n hx hb dn_d_Mod_print_43 rfl (lv_at hl 4 rfl) ?_
              refine lv_iload hx hb dn_d_Mod_print_44 (lv_at hl 0 rfl) ?_
              refine lv_icmp_gt (tgt := 59) hx hb dn_d_Mod_print_46 (by decide) (fun h46 => ?_) (fun h46 => ?_)
              · -- 46: 999999999 < v
                refine lv_iconst (v := 2) hx hb dn_d_Mod_print_59 (by decide) ?_
                refine lv_goto (tgt := 64) hx hb dn_d_Mod_print_60 (by decide) ?_
                refine va_put (D := G) (ci := 9) (v := .int 2) (ty := (.int)) (C := dn_R_Mod) (T := dn_T_Mod) (N := 34) hx hb hts (dn_u_Mod) dn_t_Mod dn_o_Mod dn_n_Mod hown hK hP hD hS 0 rfl rfl 33 (by decide) (hts _ dn_w_891) (fun _ h9 => h9) rfl (by decide +kernel) rfl rfl (Nat.le_of_ble_eq_true rfl) dn_d_Mod_print_64 (fun H locs hP hD hS => ?_)
                have hP : va_P G vwCl [(mo, .inr (9, [.ref mf, .ref m1, .ref m2, .int (dc_bI so), .long se, .long sm, .long sc, .int (dc_dn sv), .int (dc_bI ak), .long cw, .int dn, .int (nI an), .ref m3, .ref m4, .ref m5, .int (nI sk), .ref m6, .ref m7, .ref m8, .ref m9, .int (nI t), .ref ma, .ref mb, .ref mc, .long ee, .long em, .long ec, .ref mg, .ref mz, .int (dc_bI gn), .int c, .ref mr, .ref mi, .int 2])), (m4, .inl (cA 0, 3, .inl fv)), (m5, .inl (cA 0, 3, .inl fd))] H := hP
                have hD : va_D A [(mo, .inr (9, [.ref mf, .ref m1, .ref m2, .int (dc_bI so), .long se, .long sm, .long sc, .int (dc_dn sv), .int (dc_bI ak), .long cw, .int dn, .int (nI an), .ref m3, .ref m4, .ref m5, .int (nI sk), .ref m6, .ref m7, .ref m8, .ref m9, .int (nI t), .ref ma, .ref mb, .ref mc, .long ee, .long em, .long ec, .ref mg, .ref mz, .int (dc_bI gn), .int c, .ref mr, .ref mi, .int 2])), (m4, .inl (cA 0, 3, .inl fv)), (m5, .inl (cA 0, 3, .inl fd))] := hD
                refine lv_aload_n hx hb dn_d_Mod_print_67 rfl (lv_at hl 2 rfl) ?_
                refine va_get (D := G) (ci := 9) (v := .int 2) (C := dn_R_Mod) (T := dn_T_Mod) (N := 34) hx hb hts (dn_u_Mod) hown hK hP 0 rfl rfl 33 (by decide) (hts _ dn_w_891) (fun _ h9 => h9) rfl dn_d_Mod_print_68 ?_
                refine lv_if_eq (tgt := 76) hx hb dn_d_Mod_print_71 (by decide) (fun h71 => ?_) (fun h71 => ?_)
                · exact absurd h71 (by decide)
                · -- 71: ¬ 2 = 0
                  refine lv_iconst (v := 0) hx hb dn_d_Mod_print_74 (by decide) ?_
                  have hT : dc_prT 0 v d = 2 := dc_prF (j := 0) (by decide) (fun z9 => (dc_lt0).1 h46 z9.2.1)
                  have hT0 : ¬ dc_prT 0 v d = 0 := by rw [hT]; decide
                  have hz9 : decide (dc_prT 0 v d = 0) = false := decide_eq_false hT0
                  have hV : dc_prV 0 v d = false := decide_eq_false (fun z9 => hT0 z9.1)
                  have hP9 := hP.sub (ws' := [(mo, .inr (9, [.ref mf, .ref m1, .ref m2, .int (dc_bI so), .long se, .long sm, .long sc, .int (dc_dn sv), .int (dc_bI ak), .long cw, .int dn, .int (nI an), .ref m3, .ref m4, .ref m5, .int (nI sk), .ref m6, .ref m7, .ref m8, .ref m9, .int (nI t), .ref ma, .ref mb, .ref mc, .long ee, .long em, .long ec, .ref mg, .ref mz, .int (dc_bI gn), .int c, .ref mr, .ref mi, .int 2])), (m4, .inl (cA 0, 3, .inl fv)), (m5, .inl (cA 0, 3, .inl fd))]) [0, 1, 2] rfl
                  have hD9 := hD.sub (ws' := [(mo, .inr (9, [.ref mf, .ref m1, .ref m2, .int (dc_bI so), .long se, .long sm, .long sc, .int (dc_dn sv), .int (dc_bI ak), .long cw, .int dn, .int (nI an), .ref m3, .ref m4, .ref m5, .int (nI sk), .ref m6, .ref m7, .ref m8, .ref m9, .int (nI t), .ref ma, .ref mb, .ref mc, .long ee, .long em, .long ec, .ref mg, .ref mz, .int (dc_bI gn), .int c, .ref mr, .ref mi, .int 2])), (m4, .inl (cA 0, 3, .inl fv)), (m5, .inl (cA 0, 3, .inl fd))]) [0, 1, 2] (by decide) rfl
                  have hE9 : ([(mo, .inr (9, [.ref mf, .ref m1, .ref m2, .int (dc_bI so), .long se, .long sm, .long sc, .int (dc_dn sv), .int (dc_bI ak), .long cw, .int dn, .int (nI an), .ref m3, .ref m4, .ref m5, .int (nI sk), .ref m6, .ref m7, .ref m8, .ref m9, .int (nI t), .ref ma, .ref mb, .ref mc, .long ee, .long em, .long ec, .ref mg, .ref mz, .int (dc_bI gn), .int c, .ref mr, .ref mi, .int 2])), (m4, .inl (cA 0, 3, .inl fv)), (m5, .inl (cA 0, 3, .inl fd))] : va_W) = [(mo, .inr (9, [.ref mf, .ref m1, .ref m2, .int (dc_bI so), .long se, .long sm, .long sc, .int (dc_dn sv), .int (dc_bI ak), .long cw, .int dn, .int (nI an), .ref m3, .ref m4, .ref m5, .int (nI sk), .ref m6, .ref m7, .ref m8, .ref m9, .int (nI t), .ref ma, .ref mb, .ref mc, .long ee, .long em, .long ec, .ref mg, .ref mz, .int (dc_bI gn), .int c, .ref mr, .ref mi, .int (dc_prT 0 v d)])), (m4, .inl (cA 0, 3, .inl (dc_sel (decide (dc_prT 0 v d = 0)) (upd fv (Int32.toNatClampNeg 0) v) fv))), (m5, .inl (cA 0, 3, .inl (dc_sel (decide (dc_prT 0 v d = 0)) (upd fd (Int32.toNatClampNeg 0) d) fd)))] := by rw [hz9, hT]; rfl
                  rw [hE9] at hP9 hD9
                  exact W.zret (ty := .boolean) (v := 0) hx hb hr (rfl) (fun t ht hW => ⟨⟨_, (), rfl, (by rw [hV]; rfl), by rw [ht]; exact hP9, hD9⟩, hS.F ht⟩) hS.2.2 dn_d_Mod_print_75
              · -- 46: ¬ 999999999 < v
                refine lv_iload_n hx hb dn_d_Mod_print_49 rfl (lv_at hl 5 rfl) ?_
                refine lv_if_lt (tgt := 59) hx hb dn_d_Mod_print_50 (by decide) (fun h50 => ?_) (fun h50 => ?_)
                · -- 50: d < 0
                  refine lv_iconst (v := 2) hx hb dn_d_Mod_print_59 (by decide) ?_
                  refine lv_goto (tgt := 64) hx hb dn_d_Mod_print_60 (by decide) ?_
                  refine va_put (D := G) (ci := 9) (v := .int 2) (ty := (.int)) (C := dn_R_Mod) (T := dn_T_Mod) (N := 34) hx hb hts (dn_u_Mod) dn_t_Mod dn_o_Mod dn_n_Mod hown hK hP hD hS 0 rfl rfl 33 (by decide) (hts _ dn_w_891) (fun _ h9 => h9) rfl (by decide +kernel) rfl rfl (Nat.le_of_ble_eq_true rfl) dn_d_Mod_print_64 (fun H locs hP hD hS => ?_)
                  have hP : va_P G vwCl [(mo, .inr (9, [.ref mf, .ref m1, .ref m2, .int (dc_bI so), .long se, .long sm, .long sc, .int (dc_dn sv), .int (dc_bI ak), .long cw, .int dn, .int (nI an), .ref m3, .ref m4, .ref m5, .int (nI sk), .ref m6, .ref m7, .ref m8, .ref m9, .int (nI t), .ref ma, .ref mb, .ref mc, .long ee, .long em, .long ec, .ref mg, .ref mz, .int (dc_bI gn), .int c, .ref mr, .ref mi, .int 2])), (m4, .inl (cA 0, 3, .inl fv)), (m5, .inl (cA 0, 3, .inl fd))] H := hP
                  have hD : va_D A [(mo, .inr (9, [.ref mf, .ref m1, .ref m2, .int (dc_bI so), .long se, .long sm, .long sc, .int (dc_dn sv), .int (dc_bI ak), .long cw, .int dn, .int (nI an), .ref m3, .ref m4, .ref m5, .int (nI sk), .ref m6, .ref m7, .ref m8, .ref m9, .int (nI t), .ref ma, .ref mb, .ref mc, .long ee, .long em, .long ec, .ref mg, .ref mz, .int (dc_bI gn), .int c, .ref mr, .ref mi, .int 2])), (m4, .inl (cA 0, 3, .inl fv)), (m5, .inl (cA 0, 3, .inl fd))] := hD
                  refine lv_aload_n hx hb dn_d_Mod_print_67 rfl (lv_at hl 2 rfl) ?_
                  refine va_get (D := G) (ci := 9) (v := .int 2) (C := dn_R_Mod) (T := dn_T_Mod) (N := 34) hx hb hts (dn_u_Mod) hown hK hP 0 rfl rfl 33 (by decide) (hts _ dn_w_891) (fun _ h9 => h9) rfl dn_d_Mod_print_68 ?_
                  refine lv_if_eq (tgt := 76) hx hb dn_d_Mod_print_71 (by decide) (fun h71 => ?_) (fun h71 => ?_)
                  · exact absurd h71 (by decide)
                  · -- 71: ¬ 2 = 0
                    refine lv_iconst (v := 0) hx hb dn_d_Mod_print_74 (by decide) ?_
                    have hT : dc_prT 0 v d = 2 := dc_prF (j := 0) (by decide) (fun z9 => z9.2.2.1 h50)
                    have hT0 : ¬ dc_prT 0 v d = 0 := by rw [hT]; decide
                    have hz9 : decide (dc_prT 0 v d = 0) = false := decide_eq_false hT0
                    have hV : dc_prV 0 v d = false := decide_eq_false (fun z9 => hT0 z9.1)
                    have hP9 := hP.sub (ws' := [(mo, .inr (9, [.ref mf, .ref m1, .ref m2, .int (dc_bI so), .long se, .long sm, .long sc, .int (dc_dn sv), .int (dc_bI ak), .long cw, .int dn, .int (nI an), .ref m3, .ref m4, .ref m5, .int (nI sk), .ref m6, .ref m7, .ref m8, .ref m9, .int (nI t), .ref ma, .ref mb, .ref mc, .long ee, .long em, .long ec, .ref mg, .ref mz, .int (dc_bI gn), .int c, .ref mr, .ref mi, .int 2])), (m4, .inl (cA 0, 3, .inl fv)), (m5, .inl (cA 0, 3, .inl fd))]) [0, 1, 2] rfl
                    have hD9 := hD.sub (ws' := [(mo, .inr (9, [.ref mf, .ref m1, .ref m2, .int (dc_bI so), .long se, .long sm, .long sc, .int (dc_dn sv), .int (dc_bI ak), .long cw, .int dn, .int (nI an), .ref m3, .ref m4, .ref m5, .int (nI sk), .ref m6, .ref m7, .ref m8, .ref m9, .int (nI t), .ref ma, .ref mb, .ref mc, .long ee, .long em, .long ec, .ref mg, .ref mz, .int (dc_bI gn), .int c, .ref mr, .ref mi, .int 2])), (m4, .inl (cA 0, 3, .inl fv)), (m5, .inl (cA 0, 3, .inl fd))]) [0, 1, 2] (by decide) rfl
                    have hE9 : ([(mo, .inr (9, [.ref mf, .ref m1, .ref m2, .int (dc_bI so), .long se, .long sm, .long sc, .int (dc_dn sv), .int (dc_bI ak), .long cw, .int dn, .int (nI an), .ref m3, .ref m4, .ref m5, .int (nI sk), .ref m6, .ref m7, .ref m8, .ref m9, .int (nI t), .ref ma, .ref mb, .ref mc, .long ee, .long em, .long ec, .ref mg, .ref mz, .int (dc_bI gn), .int c, .ref mr, .ref mi, .int 2])), (m4, .inl (cA 0, 3, .inl fv)), (m5, .inl (cA 0, 3, .inl fd))] : va_W) = [(mo, .inr (9, [.ref mf, .ref m1, .ref m2, .int (dc_bI so), .long se, .long sm, .long sc, .int (dc_dn sv), .int (dc_bI ak), .long cw, .int dn, .int (nI an), .ref m3, .ref m4, .ref m5, .int (nI sk), .ref m6, .ref m7, .ref m8, .ref m9, .int (nI t), .ref ma, .ref mb, .ref mc, .long ee, .long em, .long ec, .ref mg, .ref mz, .int (dc_bI gn), .int c, .ref mr, .ref mi, .int (dc_prT 0 v d)])), (m4, .inl (cA 0, 3, .inl (dc_sel (decide (dc_prT 0 v d = 0)) (upd fv (Int32.toNatClampNeg 0) v) fv))), (m5, .inl (cA 0, 3, .inl (dc_sel (decide (dc_prT 0 v d = 0)) (upd fd (Int32.toNatClampNeg 0) d) fd)))] := by rw [hz9, hT]; rfl
                    rw [hE9] at hP9 hD9
                    exact W.zret (ty := .boolean) (v := 0) hx hb hr (rfl) (fun t ht hW => ⟨⟨_, (), rfl, (by rw [hV]; rfl), by rw [ht]; exact hP9, hD9⟩, hS.F ht⟩) hS.2.2 dn_d_Mod_print_75
                · -- 50: ¬ d < 0
                  refine lv_iload_n hx hb dn_d_Mod_print_53 rfl (lv_at hl 5 rfl) ?_
                  refine lv_bipush (v := 9) hx hb dn_d_Mod_print_54 (by decide) ?_
                  refine lv_icmp_le (tgt := 63) hx hb dn_d_Mod_print_56 (by decide) (fun h56 => ?_) (fun h56 => ?_)
                  · -- 56: d ≤ 9
                    refine lv_iconst (v := 0) hx hb dn_d_Mod_print_63 (by decide) ?_
                    refine va_put (D := G) (ci := 9) (v := .int 0) (ty := (.int)) (C := dn_R_Mod) (T := dn_T_Mod) (N := 34) hx hb hts (dn_u_Mod) dn_t_Mod dn_o_Mod dn_n_Mod hown hK hP hD hS 0 rfl rfl 33 (by decide) (hts _ dn_w_891) (fun _ h9 => h9) rfl (by decide +kernel) rfl rfl (Nat.le_of_ble_eq_true rfl) dn_d_Mod_print_64 (fun H locs hP hD hS => ?_)
                    have hP : va_P G vwCl [(mo, .inr (9, [.ref mf, .ref m1, .ref m2, .int (dc_bI so), .long se, .long sm, .long sc, .int (dc_dn sv), .int (dc_bI ak), .long cw, .int dn, .int (nI an), .ref m3, .ref m4, .ref m5, .int (nI sk), .ref m6, .ref m7, .ref m8, .ref m9, .int (nI t), .ref ma, .ref mb, .ref mc, .long ee, .long em, .long ec, .ref mg, .ref mz, .int (dc_bI gn), .int c, .ref mr, .ref mi, .int 0])), (m4, .inl (cA 0, 3, .inl fv)), (m5, .inl (cA 0, 3, .inl fd))] H := hP
                    have hD : va_D A [(mo, .inr (9, [.ref mf, .ref m1, .ref m2, .int (dc_bI so), .long se, .long sm, .long sc, .int (dc_dn sv), .int (dc_bI ak), .long cw, .int dn, .int (nI an), .ref m3, .ref m4, .ref m5, .int (nI sk), .ref m6, .ref m7, .ref m8, .ref m9, .int (nI t), .ref ma, .ref mb, .ref mc, .long ee, .long em, .long ec, .ref mg, .ref mz, .int (dc_bI gn), .int c, .ref mr, .ref mi, .int 0])), (m4, .inl (cA 0, 3, .inl fv)), (m5, .inl (cA 0, 3, .inl fd))] := hD
                    refine lv_aload_n hx hb dn_d_Mod_print_67 rfl (lv_at hl 2 rfl) ?_
                    refine va_get (D := G) (ci := 9) (v := .int 0) (C := dn_R_Mod) (T := dn_T_Mod) (N := 34) hx hb hts (dn_u_Mod) hown hK hP 0 rfl rfl 33 (by decide) (hts _ dn_w_891) (fun _ h9 => h9) rfl dn_d_Mod_print_68 ?_
                    refine lv_if_eq (tgt := 76) hx hb dn_d_Mod_print_71 (by decide) (fun h71 => ?_) (fun h71 => ?_)
                    · -- 71: 0 = 0
                      refine lv_aload_n hx hb dn_d_Mod_print_76 rfl (lv_at hl 2 rfl) ?_
                      refine va_get (D := G) (ci := 9) (v := .ref m4) (C := dn_R_Mod) (T := dn_T_Mod) (N := 34) hx hb hts (dn_u_Mod) hown hK hP 0 rfl rfl 13 (by decide) (hts _ dn_w_871) (fun _ h9 => h9) rfl dn_d_Mod_print_77 ?_
                      refine lv_iload_n hx hb dn_d_Mod_print_80 rfl (lv_at hl 3 rfl) ?_
                      refine lv_iload_n hx hb dn_d_Mod_print_81 rfl (lv_at hl 4 rfl) ?_
                      refine dc_iast (k := 0) hx hb hK hP hD hS 1 rfl (by omega) (by omega) dn_d_Mod_print_82 (fun H locs hP hD hS => ?_)
                      have hP : va_P G vwCl [(mo, .inr (9, [.ref mf, .ref m1, .ref m2, .int (dc_bI so), .long se, .long sm, .long sc, .int (dc_dn sv), .int (dc_bI ak), .long cw, .int dn, .int (nI an), .ref m3, .ref m4, .ref m5, .int (nI sk), .ref m6, .ref m7, .ref m8, .ref m9, .int (nI t), .ref ma, .ref mb, .ref mc, .long ee, .long em, .long ec, .ref mg, .ref mz, .int (dc_bI gn), .int c, .ref mr, .ref mi, .int 0])), (m4, .inl (cA 0, 3, .inl (upd fv 0 v))), (m5, .inl (cA 0, 3, .inl fd))] H := hP
                      have hD : va_D A [(mo, .inr (9, [.ref mf, .ref m1, .ref m2, .int (dc_bI so), .long se, .long sm, .long sc, .int (dc_dn sv), .int (dc_bI ak), .long cw, .int dn, .int (nI an), .ref m3, .ref m4, .ref m5, .int (nI sk), .ref m6, .ref m7, .ref m8, .ref m9, .int (nI t), .ref ma, .ref mb, .ref mc, .long ee, .long em, .long ec, .ref mg, .ref mz, .int (dc_bI gn), .int c, .ref mr, .ref mi, .int 0])), (m4, .inl (cA 0, 3, .inl (upd fv 0 v))), (m5, .inl (cA 0, 3, .inl fd))] := hD
                      refine lv_aload_n hx hb dn_d_Mod_print_83 rfl (lv_at hl 2 rfl) ?_
                      refine va_get (D := G) (ci := 9) (v := .ref m5) (C := dn_R_Mod) (T := dn_T_Mod) (N := 34) hx hb hts (dn_u_Mod) hown hK hP 0 rfl rfl 14 (by decide) (hts _ dn_w_872) (fun _ h9 => h9) rfl dn_d_Mod_print_84 ?_
                      refine lv_iload_n hx hb dn_d_Mod_print_87 rfl (lv_at hl 3 rfl) ?_
                      refine lv_iload_n hx hb dn_d_Mod_print_88 rfl (lv_at hl 5 rfl) ?_
                      refine dc_iast (k := 0) hx hb hK hP hD hS 2 rfl (by omega) (by omega) dn_d_Mod_print_89 (fun H locs hP hD hS => ?_)
                      have hP : va_P G vwCl [(mo, .inr (9, [.ref mf, .ref m1, .ref m2, .int (dc_bI so), .long se, .long sm, .long sc, .int (dc_dn sv), .int (dc_bI ak), .long cw, .int dn, .int (nI an), .ref m3, .ref m4, .ref m5, .int (nI sk), .ref m6, .ref m7, .ref m8, .ref m9, .int (nI t), .ref ma, .ref mb, .ref mc, .long ee, .long em, .long ec, .ref mg, .ref mz, .int (dc_bI gn), .int c, .ref mr, .ref mi, .int 0])), (m4, .inl (cA 0, 3, .inl (upd fv 0 v))), (m5, .inl (cA 0, 3, .inl (upd fd 0 d)))] H := hP
                      have hD : va_D A [(mo, .inr (9, [.ref mf, .ref m1, .ref m2, .int (dc_bI so), .long se, .long sm, .long sc, .int (dc_dn sv), .int (dc_bI ak), .long cw, .int dn, .int (nI an), .ref m3, .ref m4, .ref m5, .int (nI sk), .ref m6, .ref m7, .ref m8, .ref m9, .int (nI t), .ref ma, .ref mb, .ref mc, .long ee, .long em, .long ec, .ref mg, .ref mz, .int (dc_bI gn), .int c, .ref mr, .ref mi, .int 0])), (m4, .inl (cA 0, 3, .inl (upd fv 0 v))), (m5, .inl (cA 0, 3, .inl (upd fd 0 d)))] := hD
                      refine lv_iload_n hx hb dn_d_Mod_print_90 rfl (lv_at hl 4 rfl) ?_
                      refine lv_iload_n hx hb dn_d_Mod_print_91 rfl (lv_at hl 3 rfl) ?_
                      refine vp_callSi (va_Run.run (va_runS (As := [.int 0]) (rest := [.int v]) ⟨hx, hb, hml, hown, hts⟩ (rr_digitsOf l 0 (by first | assumption | omega)) ⟨(callB_of 1 hts (dc_good dn_w_1021) rfl rfl rfl (hts _ dn_w_12) (hts _ dn_w_1019) (by decide +kernel) ⟨Nat.le_of_ble_eq_true rfl, Nat.le_of_ble_eq_true rfl⟩), (hts _ dn_w_1020)⟩ preEq rfl rfl hl.1 rfl (lv_room (Nat.le_of_ble_eq_true rfl)) dn_d_Mod_print_92 ⟨Nat.le_of_ble_eq_true rfl, Nat.le_of_ble_eq_true rfl⟩)) (fun r9 hr9 => ?_)
                      subst hr9
                      refine vp_callSi (va_Run.run (va_runS (As := [.int v, .int (nI (dc_wd 0))]) (rest := []) ⟨hx, hb, hml, hown, hts⟩ (rr_digitOf l v (dc_wd 0) (h40) (dc_wd1 _) (dc_wd9 _)) ⟨(callB_of 2 hts (dc_good dn_w_1000) rfl rfl rfl (hts _ dn_w_12) (hts _ dn_w_998) (by decide +kernel) ⟨Nat.le_of_ble_eq_true rfl, Nat.le_of_ble_eq_true rfl⟩), (hts _ dn_w_999)⟩ preEq rfl rfl hl.1 rfl (lv_room (Nat.le_of_ble_eq_true rfl)) dn_d_Mod_print_95 ⟨Nat.le_of_ble_eq_true rfl, Nat.le_of_ble_eq_true rfl⟩)) (fun r9 hr9 => ?_)
                      subst hr9
                      refine lv_iload_n hx hb dn_d_Mod_print_98 rfl (lv_at hl 5 rfl) ?_
                      refine lv_icmp_ne (tgt := 106) hx hb dn_d_Mod_print_99 (by decide) (fun h99 => ?_) (fun h99 => ?_)
                      · -- 99: ¬ (dc_rd v (dc_wd 0)) = d
                        refine lv_iconst (v := 0) hx hb dn_d_Mod_print_106 (by decide) ?_
                        have hT : dc_prT 0 v d = 0 := dc_prG (j := 0) (by decide) ⟨h40, Decidable.not_not.mp (fun z9 => h46 ((dc_lt0).2 z9)), h50, Int32.not_lt.mpr h56⟩
                        have hz9 : decide (dc_prT 0 v d = 0) = true := decide_eq_true hT
                        have hV : dc_prV 0 v d = false := decide_eq_false (fun z9 => h99 z9.2.symm)
                        have hP9 := hP.sub (ws' := [(mo, .inr (9, [.ref mf, .ref m1, .ref m2, .int (dc_bI so), .long se, .long sm, .long sc, .int (dc_dn sv), .int (dc_bI ak), .long cw, .int dn, .int (nI an), .ref m3, .ref m4, .ref m5, .int (nI sk), .ref m6, .ref m7, .ref m8, .ref m9, .int (nI t), .ref ma, .ref mb, .ref mc, .long ee, .long em, .long ec, .ref mg, .ref mz, .int (dc_bI gn), .int c, .ref mr, .ref mi, .int 0])), (m4, .inl (cA 0, 3, .inl (upd fv 0 v))), (m5, .inl (cA 0, 3, .inl (upd fd 0 d)))]) [0, 1, 2] rfl
                        have hD9 := hD.sub (ws' := [(mo, .inr (9, [.ref mf, .ref m1, .ref m2, .int (dc_bI so), .long se, .long sm, .long sc, .int (dc_dn sv), .int (dc_bI ak), .long cw, .int dn, .int (nI an), .ref m3, .ref m4, .ref m5, .int (nI sk), .ref m6, .ref m7, .ref m8, .ref m9, .int (nI t), .ref ma, .ref mb, .ref mc, .long ee, .long em, .long ec, .ref mg, .ref mz, .int (dc_bI gn), .int c, .ref mr, .ref mi, .int 0])), (m4, .inl (cA 0, 3, .inl (upd fv 0 v))), (m5, .inl (cA 0, 3, .inl (upd fd 0 d)))]) [0, 1, 2] (by decide) rfl
                        have hE9 : ([(mo, .inr (9, [.ref mf, .ref m1, .ref m2, .int (dc_bI so), .long se, .long sm, .long sc, .int (dc_dn sv), .int (dc_bI ak), .long cw, .int dn, .int (nI an), .ref m3, .ref m4, .ref m5, .int (nI sk), .ref m6, .ref m7, .ref m8, .ref m9, .int (nI t), .ref ma, .ref mb, .ref mc, .long ee, .long em, .long ec, .ref mg, .ref mz, .int (dc_bI gn), .int c, .ref mr, .ref mi, .int 0])), (m4, .inl (cA 0, 3, .inl (upd fv 0 v))), (m5, .inl (cA 0, 3, .inl (upd fd 0 d)))] : va_W) = [(mo, .inr (9, [.ref mf, .ref m1, .ref m2, .int (dc_bI so), .long se, .long sm, .long sc, .int (dc_dn sv), .int (dc_bI ak), .long cw, .int dn, .int (nI an), .ref m3, .ref m4, .ref m5, .int (nI sk), .ref m6, .ref m7, .ref m8, .ref m9, .int (nI t), .ref ma, .ref mb, .ref mc, .long ee, .long em, .long ec, .ref mg, .ref mz, .int (dc_bI gn), .int c, .ref mr, .ref mi, .int (dc_prT 0 v d)])), (m4, .inl (cA 0, 3, .inl (dc_sel (decide (dc_prT 0 v d = 0)) (upd fv (Int32.toNatClampNeg 0) v) fv))), (m5, .inl (cA 0, 3, .inl (dc_sel (decide (dc_prT 0 v d = 0)) (upd fd (Int32.toNatClampNeg 0) d) fd)))] := by rw [hz9, hT]; rfl
                        rw [hE9] at hP9 hD9
                        exact W.zret (ty := .boolean) (v := 0) hx hb hr (rfl) (fun t ht hW => ⟨⟨_, (), rfl, (by rw [hV]; rfl), by rw [ht]; exact hP9, hD9⟩, hS.F ht⟩) hS.2.2 dn_d_Mod_print_107
                      · -- 99: (dc_rd v (dc_wd 0)) = d
                        refine lv_iconst (v := 1) hx hb dn_d_Mod_print_102 (by decide) ?_
                        refine lv_goto (tgt := 107) hx hb dn_d_Mod_print_103 (by decide) ?_
                        have hT : dc_prT 0 v d = 0 := dc_prG (j := 0) (by decide) ⟨h40, Decidable.not_not.mp (fun z9 => h46 ((dc_lt0).2 z9)), h50, Int32.not_lt.mpr h56⟩
                        have hz9 : decide (dc_prT 0 v d = 0) = true := decide_eq_true hT
                        have hV : dc_prV 0 v d = true := decide_eq_true ⟨hT, h99.symm⟩
                        have hP9 := hP.sub (ws' := [(mo, .inr (9, [.ref mf, .ref m1, .ref m2, .int (dc_bI so), .long se, .long sm, .long sc, .int (dc_dn sv), .int (dc_bI ak), .long cw, .int dn, .int (nI an), .ref m3, .ref m4, .ref m5, .int (nI sk), .ref m6, .ref m7, .ref m8, .ref m9, .int (nI t), .ref ma, .ref mb, .ref mc, .long ee, .long em, .long ec, .ref mg, .ref mz, .int (dc_bI gn), .int c, .ref mr, .ref mi, .int 0])), (m4, .inl (cA 0, 3, .inl (upd fv 0 v))), (m5, .inl (cA 0, 3, .inl (upd fd 0 d)))]) [0, 1, 2] rfl
                        have hD9 := hD.sub (ws' := [(mo, .inr (9, [.ref mf, .ref m1, .ref m2, .int (dc_bI so), .long se, .long sm, .long sc, .int (dc_dn sv), .int (dc_bI ak), .long cw, .int dn, .int (nI an), .ref m3, .ref m4, .ref m5, .int (nI sk), .ref m6, .ref m7, .ref m8, .ref m9, .int (nI t), .ref ma, .ref mb, .ref mc, .long ee, .long em, .long ec, .ref mg, .ref mz, .int (dc_bI gn), .int c, .ref mr, .ref mi, .int 0])), (m4, .inl (cA 0, 3, .inl (upd fv 0 v))), (m5, .inl (cA 0, 3, .inl (upd fd 0 d)))]) [0, 1, 2] (by decide) rfl
                        have hE9 : ([(mo, .inr (9, [.ref mf, .ref m1, .ref m2, .int (dc_bI so), .long se, .long sm, .long sc, .int (dc_dn sv), .int (dc_bI ak), .long cw, .int dn, .int (nI an), .ref m3, .ref m4, .ref m5, .int (nI sk), .ref m6, .ref m7, .ref m8, .ref m9, .int (nI t), .ref ma, .ref mb, .ref mc, .long ee, .long em, .long ec, .ref mg, .ref mz, .int (dc_bI gn), .int c, .ref mr, .ref mi, .int 0])), (m4, .inl (cA 0, 3, .inl (upd fv 0 v))), (m5, .inl (cA 0, 3, .inl (upd fd 0 d)))] : va_W) = [(mo, .inr (9, [.ref mf, .ref m1, .ref m2, .int (dc_bI so), .long se, .long sm, .long sc, .int (dc_dn sv), .int (dc_bI ak), .long cw, .int dn, .int (nI an), .ref m3, .ref m4, .ref m5, .int (nI sk), .ref m6, .ref m7, .ref m8, .ref m9, .int (nI t), .ref ma, .ref mb, .ref mc, .long ee, .long em, .long ec, .ref mg, .ref mz, .int (dc_bI gn), .int c, .ref mr, .ref mi, .int (dc_prT 0 v d)])), (m4, .inl (cA 0, 3, .inl (dc_sel (decide (dc_prT 0 v d = 0)) (upd fv (Int32.toNatClampNeg 0) v) fv))), (m5, .inl (cA 0, 3, .inl (dc_sel (decide (dc_prT 0 v d = 0)) (upd fd (Int32.toNatClampNeg 0) d) fd)))] := by rw [hz9, hT]; rfl
                        rw [hE9] at hP9 hD9
                        exact W.zret (ty := .boolean) (v := 1) hx hb hr (rfl) (fun t ht hW => ⟨⟨_, (), rfl, (by rw [hV]; rfl), by rw [ht]; exact hP9, hD9⟩, hS.F ht⟩) hS.2.2 dn_d_Mod_print_107
                    · exact absurd h71 (by decide)
                  · -- 56: ¬ d ≤ 9
                    refine lv_iconst (v := 2) hx hb dn_d_Mod_print_59 (by decide) ?_
                    refine lv_goto (tgt := 64) hx hb dn_d_Mod_print_60 (by decide) ?_
                    refine va_put (D := G) (ci := 9) (v := .int 2) (ty := (.int)) (C := dn_R_Mod) (T := dn_T_Mod) (N := 34) hx hb hts (dn_u_Mod) dn_t_Mod dn_o_Mod dn_n_Mod hown hK hP hD hS 0 rfl rfl 33 (by decide) (hts _ dn_w_891) (fun _ h9 => h9) rfl (by decide +kernel) rfl rfl (Nat.le_of_ble_eq_true rfl) dn_d_Mod_print_64 (fun H locs hP hD hS => ?_)
                    have hP : va_P G vwCl [(mo, .inr (9, [.ref mf, .ref m1, .ref m2, .int (dc_bI so), .long se, .long sm, .long sc, .int (dc_dn sv), .int (dc_bI ak), .long cw, .int dn, .int (nI an), .ref m3, .ref m4, .ref m5, .int (nI sk), .ref m6, .ref m7, .ref m8, .ref m9, .int (nI t), .ref ma, .ref mb, .ref mc, .long ee, .long em, .long ec, .ref mg, .ref mz, .int (dc_bI gn), .int c, .ref mr, .ref mi, .int 2])), (m4, .inl (cA 0, 3, .inl fv)), (m5, .inl (cA 0, 3, .inl fd))] H := hP
                    have hD : va_D A [(mo, .inr (9, [.ref mf, .ref m1, .ref m2, .int (dc_bI so), .long se, .long sm, .long sc, .int (dc_dn sv), .int (dc_bI ak), .long cw, .int dn, .int (nI an), .ref m3, .ref m4, .ref m5, .int (nI sk), .ref m6, .ref m7, .ref m8, .ref m9, .int (nI t), .ref ma, .ref mb, .ref mc, .long ee, .long em, .long ec, .ref mg, .ref mz, .int (dc_bI gn), .int c, .ref mr, .ref mi, .int 2])), (m4, .inl (cA 0, 3, .inl fv)), (m5, .inl (cA 0, 3, .inl fd))] := hD
                    refine lv_aload_n hx hb dn_d_Mod_print_67 rfl (lv_at hl 2 rfl) ?_
                    refine va_get (D := G) (ci := 9) (v := .int 2) (C := dn_R_Mod) (T := dn_T_Mod) (N := 34) hx hb hts (dn_u_Mod) hown hK hP 0 rfl rfl 33 (by decide) (hts _ dn_w_891) (fun _ h9 => h9) rfl dn_d_Mod_print_68 ?_
                    refine lv_if_eq (tgt := 76) hx hb dn_d_Mod_print_71 (by decide) (fun h71 => ?_) (fun h71 => ?_)
                    · exact absurd h71 (by decide)
                    · -- 71: ¬ 2 = 0
                      refine lv_iconst (v := 0) hx hb dn_d_Mod_print_74 (by decide) ?_
                      have hT : dc_prT 0 v d = 2 := dc_prF (j := 0) (by decide) (fun z9 => z9.2.2.2 (Int32.not_le.mp h56))
                      have hT0 : ¬ dc_prT 0 v d = 0 := by rw [hT]; decide
                      have hz9 : decide (dc_prT 0 v d = 0) = false := decide_eq_false hT0
                      have hV : dc_prV 0 v d = false := decide_eq_false (fun z9 => hT0 z9.1)
                      have hP9 := hP.sub (ws' := [(mo, .inr (9, [.ref mf, .ref m1, .ref m2, .int (dc_bI so), .long se, .long sm, .long sc, .int (dc_dn sv), .int (dc_bI ak), .long cw, .int dn, .int (nI an), .ref m3, .ref m4, .ref m5, .int (nI sk), .ref m6, .ref m7, .ref m8, .ref m9, .int (nI t), .ref ma, .ref mb, .ref mc, .long ee, .long em, .long ec, .ref mg, .ref mz, .int (dc_bI gn), .int c, .ref mr, .ref mi, .int 2])), (m4, .inl (cA 0, 3, .inl fv)), (m5, .inl (cA 0, 3, .inl fd))]) [0, 1, 2] rfl
                      have hD9 := hD.sub (ws' := [(mo, .inr (9, [.ref mf, .ref m1, .ref m2, .int (dc_bI so), .long se, .long sm, .long sc, .int (dc_dn sv), .int (dc_bI ak), .long cw, .int dn, .int (nI an), .ref m3, .ref m4, .ref m5, .int (nI sk), .ref m6, .ref m7, .ref m8, .ref m9, .int (nI t), .ref ma, .ref mb, .ref mc, .long ee, .long em, .long ec, .ref mg, .ref mz, .int (dc_bI gn), .int c, .ref mr, .ref mi, .int 2])), (m4, .inl (cA 0, 3, .inl fv)), (m5, .inl (cA 0, 3, .inl fd))]) [0, 1, 2] (by decide) rfl
                      have hE9 : ([(mo, .inr (9, [.ref mf, .ref m1, .ref m2, .int (dc_bI so), .long se, .long sm, .long sc, .int (dc_dn sv), .int (dc_bI ak), .long cw, .int dn, .int (nI an), .ref m3, .ref m4, .ref m5, .int (nI sk), .ref m6, .ref m7, .ref m8, .ref m9, .int (nI t), .ref ma, .ref mb, .ref mc, .long ee, .long em, .long ec, .ref mg, .ref mz, .int (dc_bI gn), .int c, .ref mr, .ref mi, .int 2])), (m4, .inl (cA 0, 3, .inl fv)), (m5, .inl (cA 0, 3, .inl fd))] : va_W) = [(mo, .inr (9, [.ref mf, .ref m1, .ref m2, .int (dc_bI so), .long se, .long sm, .long sc, .int (dc_dn sv), .int (dc_bI ak), .long cw, .int dn, .int (nI an), .ref m3, .ref m4, .ref m5, .int (nI sk), .ref m6, .ref m7, .ref m8, .ref m9, .int (nI t), .ref ma, .ref mb, .ref mc, .long ee, .long em, .long ec, .ref mg, .ref mz, .int (dc_bI gn), .int c, .ref mr, .ref mi, .int (dc_prT 0 v d)])), (m4, .inl (cA 0, 3, .inl (dc_sel (decide (dc_prT 0 v d = 0)) (upd fv (Int32.toNatClampNeg 0) v) fv))), (m5, .inl (cA 0, 3, .inl (dc_sel (decide (dc_prT 0 v d = 0)) (upd fd (Int32.toNatClampNeg 0) d) fd)))] := by rw [hz9, hT]; rfl
                      rw [hE9] at hP9 hD9
                      exact W.zret (ty := .boolean) (v := 0) hx hb hr (rfl) (fun t ht hW => ⟨⟨_, (), rfl, (by rw [hV]; rfl), by rw [ht]; exact hP9, hD9⟩, hS.F ht⟩) hS.2.2 dn_d_Mod_print_75
          · exact absurd h32 (by decide)
  ·
    have hl : lv_has ls 6 [(0, .ref mo), (1, .int 1), (2, .int v), (3, .int d)] := hl
    have hP : va_P G vwCl [(mo, .inr (9, [.ref mf, .ref m1, .ref m2, .int (dc_bI so), .long se, .long sm, .long sc, .int (dc_dn sv), .int (dc_bI ak), .long cw, .int dn, .int (nI an), .ref m3, .ref m4, .ref m5, .int (nI sk), .ref m6, .ref m7, .ref m8, .ref m9, .int (nI t), .ref ma, .ref mb, .ref mc, .long ee, .long em, .long ec, .ref mg, .ref mz, .int (dc_bI gn), .int c, .ref mr, .ref mi, .int th])), (m4, .inl (cA 0, 3, .inl fv)), (m5, .inl (cA 0, 3, .inl fd))] s.heap := hP
    have hD : va_D A [(mo, .inr (9, [.ref mf, .ref m1, .ref m2, .int (dc_bI so), .long se, .long sm, .long sc, .int (dc_dn sv), .int (dc_bI ak), .long cw, .int dn, .int (nI an), .ref m3, .ref m4, .ref m5, .int (nI sk), .ref m6, .ref m7, .ref m8, .ref m9, .int (nI t), .ref ma, .ref mb, .ref mc, .long ee, .long em, .long ec, .ref mg, .ref mz, .int (dc_bI gn), .int c, .ref mr, .ref mi, .int th])), (m4, .inl (cA 0, 3, .inl fv)), (m5, .inl (cA 0, 3, .inl fd))] := hD
    refine lv_iload_n hx hb dn_d_Mod_print_0 rfl (lv_at hl 1 rfl) ?_
    refine lv_if_lt (tgt := 13) hx hb dn_d_Mod_print_1 (by decide) (fun h1 => ?_) (fun h1 => ?_)
    · exact absurd h1 (by decide)
    · -- 1: ¬ 1 < 0
      refine lv_iload_n hx hb dn_d_Mod_print_4 rfl (lv_at hl 1 rfl) ?_
      refine lv_iconst (v := 3) hx hb dn_d_Mod_print_5 (by decide) ?_
      refine lv_icmp_ge (tgt := 13) hx hb dn_d_Mod_print_6 (by decide) (fun h6 => ?_) (fun h6 => ?_)
      · exact absurd h6 (by decide)
      · -- 6: ¬ 3 ≤ 1
        refine lv_iconst (v := 1) hx hb dn_d_Mod_print_9 (by decide) ?_
        refine lv_goto (tgt := 14) hx hb dn_d_Mod_print_10 (by decide) ?_
        refine lv_istore hx hb dn_d_Mod_print_14 hl (by decide) rfl (fun ls hl => ?_)
        have hl : lv_has ls 6 [(4, .int 1), (0, .ref mo), (1, .int 1), (2, .int v), (3, .int d)] := hl
        refine lv_iload_n hx hb dn_d_Mod_print_16 rfl (lv_at hl 2 rfl) ?_
        refine lv_if_ne (tgt := 25) hx hb dn_d_Mod_print_17 (by decide) (fun h17 => ?_) (fun h17 => ?_)
        · -- 17: ¬ 1 = 0
          refine lv_ldc (v := 999999) hx hb hown (hts _ dn_w_1018) dn_d_Mod_print_25 ?_
          refine lv_istore hx hb dn_d_Mod_print_27 hl (by decide) rfl (fun ls hl => ?_)
          have hl : lv_has ls 6 [(5, .int 999999), (4, .int 1), (0, .ref mo), (1, .int 1), (2, .int v), (3, .int d)] := hl
          refine lv_aload_n hx hb dn_d_Mod_print_29 rfl (lv_at hl 2 rfl) ?_
          refine lv_iload hx hb dn_d_Mod_print_30 (lv_at hl 1 rfl) ?_
          refine lv_if_ne (tgt := 39) hx hb dn_d_Mod_print_32 (by decide) (fun h32 => ?_) (fun h32 => ?_)
          · -- 32: ¬ 1 = 0
            refine lv_iload_n hx hb dn_d_Mod_print_39 rfl (lv_at hl 4 rfl) ?_
            refine lv_if_lt (tgt := 59) hx hb dn_d_Mod_print_40 (by decide) (fun h40 => ?_) (fun h40 => ?_)
            · -- 40: v < 0
              refine lv_iconst (v := 2) hx hb dn_d_Mod_print_59 (by decide) ?_
              refine lv_goto (tgt := 64) hx hb dn_d_Mod_print_60 (by decide) ?_
              refine va_put (D := G) (ci := 9) (v := .int 2) (ty := (.int)) (C := dn_R_Mod) (T := dn_T_Mod) (N := 34) hx hb hts (dn_u_Mod) dn_t_Mod dn_o_Mod dn_n_Mod hown hK hP hD hS 0 rfl rfl 33 (by decide) (hts _ dn_w_891) (fun _ h9 => h9) rfl (by decide +kernel) rfl rfl (Nat.le_of_ble_eq_true rfl) dn_d_Mod_print_64 (fun H locs hP hD hS => ?_)
              have hP : va_P G vwCl [(mo, .inr (9, [.ref mf, .ref m1, .ref m2, .int (dc_bI so), .long se, .long sm, .long sc, .int (dc_dn sv), .int (dc_bI ak), .long cw, .int dn, .int (nI an), .ref m3, .ref m4, .ref m5, .int (nI sk), .ref m6, .ref m7, .ref m8, .ref m9, .int (nI t), .ref ma, .ref mb, .ref mc, .long ee, .long em, .long ec, .ref mg, .ref mz, .int (dc_bI gn), .int c, .ref mr, .ref mi, .int 2])), (m4, .inl (cA 0, 3, .inl fv)), (m5, .inl (cA 0, 3, .inl fd))] H := hP
              have hD : va_D A [(mo, .inr (9, [.ref mf, .ref m1, .ref m2, .int (dc_bI so), .long se, .long sm, .long sc, .int (dc_dn sv), .int (dc_bI ak), .long cw, .int dn, .int (nI an), .ref m3, .ref m4, .ref m5, .int (nI sk), .ref m6, .ref m7, .ref m8, .ref m9, .int (nI t), .ref ma, .ref mb, .ref mc, .long ee, .long em, .long ec, .ref mg, .ref mz, .int (dc_bI gn), .int c, .ref mr, .ref mi, .int 2])), (m4, .inl (cA 0, 3, .inl fv)), (m5, .inl (cA 0, 3, .inl fd))] := hD
              refine lv_aload_n hx hb dn_d_Mod_print_67 rfl (lv_at hl 2 rfl) ?_
              refine va_get (D := G) (ci := 9) (v := .int 2) (C := dn_R_Mod) (T := dn_T_Mod) (N := 34) hx hb hts (dn_u_Mod) hown hK hP 0 rfl rfl 33 (by decide) (hts _ dn_w_891) (fun _ h9 => h9) rfl dn_d_Mod_print_68 ?_
              refine lv_if_eq (tgt := 76) hx hb dn_d_Mod_print_71 (by decide) (fun h71 => ?_) (fun h71 => ?_)
              · exact absurd h71 (by decide)
              · -- 71: ¬ 2 = 0
                refine lv_iconst (v := 0) hx hb dn_d_Mod_print_74 (by decide) ?_
                have hT : dc_prT 1 v d = 2 := dc_prF (j := 1) (by decide) (fun z9 => z9.1 h40)
                have hT0 : ¬ dc_prT 1 v d = 0 := by rw [hT]; decide
                have hz9 : decide (dc_prT 1 v d = 0) = false := decide_eq_false hT0
                have hV : dc_prV 1 v d = false := decide_eq_false (fun z9 => hT0 z9.1)
                have hP9 := hP.sub (ws' := [(mo, .inr (9, [.ref mf, .ref m1, .ref m2, .int (dc_bI so), .long se, .long sm, .long sc, .int (dc_dn sv), .int (dc_bI ak), .long cw, .int dn, .int (nI an), .ref m3, .ref m4, .ref m5, .int (nI sk), .ref m6, .ref m7, .ref m8, .ref m9, .int (nI t), .ref ma, .ref mb, .ref mc, .long ee, .long em, .long ec, .ref mg, .ref mz, .int (dc_bI gn), .int c, .ref mr, .ref mi, .int 2])), (m4, .inl (cA 0, 3, .inl fv)), (m5, .inl (cA 0, 3, .inl fd))]) [0, 1, 2] rfl
                have hD9 := hD.sub (ws' := [(mo, .inr (9, [.ref mf, .ref m1, .ref m2, .int (dc_bI so), .long se, .long sm, .long sc, .int (dc_dn sv), .int (dc_bI ak), .long cw, .int dn, .int (nI an), .ref m3, .ref m4, .ref m5, .int (nI sk), .ref m6, .ref m7, .ref m8, .ref m9, .int (nI t), .ref ma, .ref mb, .ref mc, .long ee, .long em, .long ec, .ref mg, .ref mz, .int (dc_bI gn), .int c, .ref mr, .ref mi, .int 2])), (m4, .inl (cA 0, 3, .inl fv)), (m5, .inl (cA 0, 3, .inl fd))]) [0, 1, 2] (by decide) rfl
                have hE9 : ([(mo, .inr (9, [.ref mf, .ref m1, .ref m2, .int (dc_bI so), .long se, .long sm, .long sc, .int (dc_dn sv), .int (dc_bI ak), .long cw, .int dn, .int (nI an), .ref m3, .ref m4, .ref m5, .int (nI sk), .ref m6, .ref m7, .ref m8, .ref m9, .int (nI t), .ref ma, .ref mb, .ref mc, .long ee, .long em, .long ec, .ref mg, .ref mz, .int (dc_bI gn), .int c, .ref mr, .ref mi, .int 2])), (m4, .inl (cA 0, 3, .inl fv)), (m5, .inl (cA 0, 3, .inl fd))] : va_W) = [(mo, .inr (9, [.ref mf, .ref m1, .ref m2, .int (dc_bI so), .long se, .long sm, .long sc, .int (dc_dn sv), .int (dc_bI ak), .long cw, .int dn, .int (nI an), .ref m3, .ref m4, .ref m5, .int (nI sk), .ref m6, .ref m7, .ref m8, .ref m9, .int (nI t), .ref ma, .ref mb, .ref mc, .long ee, .long em, .long ec, .ref mg, .ref mz, .int (dc_bI gn), .int c, .ref mr, .ref mi, .int (dc_prT 1 v d)])), (m4, .inl (cA 0, 3, .inl (dc_sel (decide (dc_prT 1 v d = 0)) (upd fv (Int32.toNatClampNeg 1) v) fv))), (m5, .inl (cA 0, 3, .inl (dc_sel (decide (dc_prT 1 v d = 0)) (upd fd (Int32.toNatClampNeg 1) d) fd)))] := by rw [hz9, hT]; rfl
                rw [hE9] at hP9 hD9
                exact W.zret (ty := .boolean) (v := 0) hx hb hr (rfl) (fun t ht hW => ⟨⟨_, (), rfl, (by rw [hV]; rfl), by rw [ht]; exact hP9, hD9⟩, hS.F ht⟩) hS.2.2 dn_d_Mod_print_75
            · -- 40: ¬ v < 0
              refine lv_iload_n hx hb dn_d_Mod_print_43 rfl (lv_at hl 4 rfl) ?_
              refine lv_iload hx hb dn_d_Mod_print_44 (lv_at hl 0 rfl) ?_
              refine lv_icmp_gt (tgt := 59) hx hb dn_d_Mod_print_46 (by decide) (fun h46 => ?_) (fun h46 => ?_)
              · -- 46: 999999 < v
                refine lv_iconst (v := 2) hx hb dn_d_Mod_print_59 (by decide) ?_
                refine lv_goto (tgt := 64) hx hb dn_d_Mod_print_60 (by decide) ?_
                refine va_put (D := G) (ci := 9) (v := .int 2) (ty := (.int)) (C := dn_R_Mod) (T := dn_T_Mod) (N := 34) hx hb hts (dn_u_Mod) dn_t_Mod dn_o_Mod dn_n_Mod hown hK hP hD hS 0 rfl rfl 33 (by decide) (hts _ dn_w_891) (fun _ h9 => h9) rfl (by decide +kernel) rfl rfl (Nat.le_of_ble_eq_true rfl) dn_d_Mod_print_64 (fun H locs hP hD hS => ?_)
                have hP : va_P G vwCl [(mo, .inr (9, [.ref mf, .ref m1, .ref m2, .int (dc_bI so), .long se, .long sm, .long sc, .int (dc_dn sv), .int (dc_bI ak), .long cw, .int dn, .int (nI an), .ref m3, .ref m4, .ref m5, .int (nI sk), .ref m6, .ref m7, .ref m8, .ref m9, .int (nI t), .ref ma, .ref mb, .ref mc, .long ee, .long em, .long ec, .ref mg, .ref mz, .int (dc_bI gn), .int c, .ref mr, .ref mi, .int 2])), (m4, .inl (cA 0, 3, .inl fv)), (m5, .inl (cA 0, 3, .inl fd))] H := hP
                have hD : va_D A [(mo, .inr (9, [.ref mf, .ref m1, .ref m2, .int (dc_bI so), .long se, .long sm, .long sc, .int (dc_dn sv), .int (dc_bI ak), .long cw, .int dn, .int (nI an), .ref m3, .ref m4, .ref m5, .int (nI sk), .ref m6, .ref m7, .ref m8, .ref m9, .int (nI t), .ref ma, .ref mb, .ref mc, .long ee, .long em, .long ec, .ref mg, .ref mz, .int (dc_bI gn), .int c, .ref mr, .ref mi, .int 2])), (m4, .inl (cA 0, 3, .inl fv)), (m5, .inl (cA 0, 3, .inl fd))] := hD
                refine lv_aload_n hx hb dn_d_Mod_print_67 rfl (lv_at hl 2 rfl) ?_
                refine va_get (D := G) (ci := 9) (v := .int 2) (C := dn_R_Mod) (T := dn_T_Mod) (N := 34) hx hb hts (dn_u_Mod) hown hK hP 0 rfl rfl 33 (by decide) (hts _ dn_w_891) (fun _ h9 => h9) rfl dn_d_Mod_print_68 ?_
                refine lv_if_eq (tgt := 76) hx hb dn_d_Mod_print_71 (by decide) (fun h71 => ?_) (fun h71 => ?_)
                · exact absurd h71 (by decide)
                · -- 71: ¬ 2 = 0
                  refine lv_iconst (v := 0) hx hb dn_d_Mod_print_74 (by decide) ?_
                  have hT : dc_prT 1 v d = 2 := dc_prF (j := 1) (by decide) (fun z9 => (dc_lt1 (j := 0)).1 h46 z9.2.1)
                  have hT0 : ¬ dc_prT 1 v d = 0 := by rw [hT]; decide
                  have hz9 : decide (dc_prT 1 v d = 0) = false := decide_eq_false hT0
                  have hV : dc_prV 1 v d = false := decide_eq_false (fun z9 => hT0 z9.1)
                  have hP9 := hP.sub (ws' := [(mo, .inr (9, [.ref mf, .ref m1, .ref m2, .int (dc_bI so), .long se, .long sm, .long sc, .int (dc_dn sv), .int (dc_bI ak), .long cw, .int dn, .int (nI an), .ref m3, .ref m4, .ref m5, .int (nI sk), .ref m6, .ref m7, .ref m8, .ref m9, .int (nI t), .ref ma, .ref mb, .ref mc, .long ee, .long em, .long ec, .ref mg, .ref mz, .int (dc_bI gn), .int c, .ref mr, .ref mi, .int 2])), (m4, .inl (cA 0, 3, .inl fv)), (m5, .inl (cA 0, 3, .inl fd))]) [0, 1, 2] rfl
                  have hD9 := hD.sub (ws' := [(mo, .inr (9, [.ref mf, .ref m1, .ref m2, .int (dc_bI so), .long se, .long sm, .long sc, .int (dc_dn sv), .int (dc_bI ak), .long cw, .int dn, .int (nI an), .ref m3, .ref m4, .ref m5, .int (nI sk), .ref m6, .ref m7, .ref m8, .ref m9, .int (nI t), .ref ma, .ref mb, .ref mc, .long ee, .long em, .long ec, .ref mg, .ref mz, .int (dc_bI gn), .int c, .ref mr, .ref mi, .int 2])), (m4, .inl (cA 0, 3, .inl fv)), (m5, .inl (cA 0, 3, .inl fd))]) [0, 1, 2] (by decide) rfl
                  have hE9 : ([(mo, .inr (9, [.ref mf, .ref m1, .ref m2, .int (dc_bI so), .long se, .long sm, .long sc, .int (dc_dn sv), .int (dc_bI ak), .long cw, .int dn, .int (nI an), .ref m3, .ref m4, .ref m5, .int (nI sk), .ref m6, .ref m7, .ref m8, .ref m9, .int (nI t), .ref ma, .ref mb, .ref mc, .long ee, .long em, .long ec, .ref mg, .ref mz, .int (dc_bI gn), .int c, .ref mr, .ref mi, .int 2])), (m4, .inl (cA 0, 3, .inl fv)), (m5, .inl (cA 0, 3, .inl fd))] : va_W) = [(mo, .inr (9, [.ref mf, .ref m1, .ref m2, .int (dc_bI so), .long se, .long sm, .long sc, .int (dc_dn sv), .int (dc_bI ak), .long cw, .int dn, .int (nI an), .ref m3, .ref m4, .ref m5, .int (nI sk), .ref m6, .ref m7, .ref m8, .ref m9, .int (nI t), .ref ma, .ref mb, .ref mc, .long ee, .long em, .long ec, .ref mg, .ref mz, .int (dc_bI gn), .int c, .ref mr, .ref mi, .int (dc_prT 1 v d)])), (m4, .inl (cA 0, 3, .inl (dc_sel (decide (dc_prT 1 v d = 0)) (upd fv (Int32.toNatClampNeg 1) v) fv))), (m5, .inl (cA 0, 3, .inl (dc_sel (decide (dc_prT 1 v d = 0)) (upd fd (Int32.toNatClampNeg 1) d) fd)))] := by rw [hz9, hT]; rfl
                  rw [hE9] at hP9 hD9
                  exact W.zret (ty := .boolean) (v := 0) hx hb hr (rfl) (fun t ht hW => ⟨⟨_, (), rfl, (by rw [hV]; rfl), by rw [ht]; exact hP9, hD9⟩, hS.F ht⟩) hS.2.2 dn_d_Mod_print_75
              · -- 46: ¬ 999999 < v
                refine lv_iload_n hx hb dn_d_Mod_print_49 rfl (lv_at hl 5 rfl) ?_
                refine lv_if_lt (tgt := 59) hx hb dn_d_Mod_print_50 (by decide) (fun h50 => ?_) (fun h50 => ?_)
                · -- 50: d < 0
                  refine lv_iconst (v := 2) hx hb dn_d_Mod_print_59 (by decide) ?_
                  refine lv_goto (tgt := 64) hx hb dn_d_Mod_print_60 (by decide) ?_
                  refine va_put (D := G) (ci := 9) (v := .int 2) (ty := (.int)) (C := dn_R_Mod) (T := dn_T_Mod) (N := 34) hx hb hts (dn_u_Mod) dn_t_Mod dn_o_Mod dn_n_Mod hown hK hP hD hS 0 rfl rfl 33 (by decide) (hts _ dn_w_891) (fun _ h9 => h9) rfl (by decide +kernel) rfl rfl (Nat.le_of_ble_eq_true rfl) dn_d_Mod_print_64 (fun H locs hP hD hS => ?_)
                  have hP : va_P G vwCl [(mo, .inr (9, [.ref mf, .ref m1, .ref m2, .int (dc_bI so), .long se, .long sm, .long sc, .int (dc_dn sv), .int (dc_bI ak), .long cw, .int dn, .int (nI an), .ref m3, .ref m4, .ref m5, .int (nI sk), .ref m6, .ref m7, .ref m8, .ref m9, .int (nI t), .ref ma, .ref mb, .ref mc, .long ee, .long em, .long ec, .ref mg, .ref mz, .int (dc_bI gn), .int c, .ref mr, .ref mi, .int 2])), (m4, .inl (cA 0, 3, .inl fv)), (m5, .inl (cA 0, 3, .inl fd))] H := hP
                  have hD : va_D A [(mo, .inr (9, [.ref mf, .ref m1, .ref m2, .int (dc_bI so), .long se, .long sm, .long sc, .int (dc_dn sv), .int (dc_bI ak), .long cw, .int dn, .int (nI an), .ref m3, .ref m4, .ref m5, .int (nI sk), .ref m6, .ref m7, .ref m8, .ref m9, .int (nI t), .ref ma, .ref mb, .ref mc, .long ee, .long em, .long ec, .ref mg, .ref mz, .int (dc_bI gn), .int c, .ref mr, .ref mi, .int 2])), (m4, .inl (cA 0, 3, .inl fv)), (m5, .inl (cA 0, 3, .inl fd))] := hD
                  refine lv_aload_n hx hb dn_d_Mod_print_67 rfl (lv_at hl 2 rfl) ?_
                  refine va_get (D := G) (ci := 9) (v := .int 2) (C := dn_R_Mod) (T := dn_T_Mod) (N := 34) hx hb hts (dn_u_Mod) hown hK hP 0 rfl rfl 33 (by decide) (hts _ dn_w_891) (fun _ h9 => h9) rfl dn_d_Mod_print_68 ?_
                  refine lv_if_eq (tgt := 76) hx hb dn_d_Mod_print_71 (by decide) (fun h71 => ?_) (fun h71 => ?_)
                  · exact absurd h71 (by decide)
                  · -- 71: ¬ 2 = 0
                    refine lv_iconst (v := 0) hx hb dn_d_Mod_print_74 (by decide) ?_
                    have hT : dc_prT 1 v d = 2 := dc_prF (j := 1) (by decide) (fun z9 => z9.2.2.1 h50)
                    have hT0 : ¬ dc_prT 1 v d = 0 := by rw [hT]; decide
                    have hz9 : decide (dc_prT 1 v d = 0) = false := decide_eq_false hT0
                    have hV : dc_prV 1 v d = false := decide_eq_false (fun z9 => hT0 z9.1)
                    have hP9 := hP.sub (ws' := [(mo, .inr (9, [.ref mf, .ref m1, .ref m2, .int (dc_bI so), .long se, .long sm, .long sc, .int (dc_dn sv), .int (dc_bI ak), .long cw, .int dn, .int (nI an), .ref m3, .ref m4, .ref m5, .int (nI sk), .ref m6, .ref m7, .ref m8, .ref m9, .int (nI t), .ref ma, .ref mb, .ref mc, .long ee, .long em, .long ec, .ref mg, .ref mz, .int (dc_bI gn), .int c, .ref mr, .ref mi, .int 2])), (m4, .inl (cA 0, 3, .inl fv)), (m5, .inl (cA 0, 3, .inl fd))]) [0, 1, 2] rfl
                    have hD9 := hD.sub (ws' := [(mo, .inr (9, [.ref mf, .ref m1, .ref m2, .int (dc_bI so), .long se, .long sm, .long sc, .int (dc_dn sv), .int (dc_bI ak), .long cw, .int dn, .int (nI an), .ref m3, .ref m4, .ref m5, .int (nI sk), .ref m6, .ref m7, .ref m8, .ref m9, .int (nI t), .ref ma, .ref mb, .ref mc, .long ee, .long em, .long ec, .ref mg, .ref mz, .int (dc_bI gn), .int c, .ref mr, .ref mi, .int 2])), (m4, .inl (cA 0, 3, .inl fv)), (m5, .inl (cA 0, 3, .inl fd))]) [0, 1, 2] (by decide) rfl
                    have hE9 : ([(mo, .inr (9, [.ref mf, .ref m1, .ref m2, .int (dc_bI so), .long se, .long sm, .long sc, .int (dc_dn sv), .int (dc_bI ak), .long cw, .int dn, .int (nI an), .ref m3, .ref m4, .ref m5, .int (nI sk), .ref m6, .ref m7, .ref m8, .ref m9, .int (nI t), .ref ma, .ref mb, .ref mc, .long ee, .long em, .long ec, .ref mg, .ref mz, .int (dc_bI gn), .int c, .ref mr, .ref mi, .int 2])), (m4, .inl (cA 0, 3, .inl fv)), (m5, .inl (cA 0, 3, .inl fd))] : va_W) = [(mo, .inr (9, [.ref mf, .ref m1, .ref m2, .int (dc_bI so), .long se, .long sm, .long sc, .int (dc_dn sv), .int (dc_bI ak), .long cw, .int dn, .int (nI an), .ref m3, .ref m4, .ref m5, .int (nI sk), .ref m6, .ref m7, .ref m8, .ref m9, .int (nI t), .ref ma, .ref mb, .ref mc, .long ee, .long em, .long ec, .ref mg, .ref mz, .int (dc_bI gn), .int c, .ref mr, .ref mi, .int (dc_prT 1 v d)])), (m4, .inl (cA 0, 3, .inl (dc_sel (decide (dc_prT 1 v d = 0)) (upd fv (Int32.toNatClampNeg 1) v) fv))), (m5, .inl (cA 0, 3, .inl (dc_sel (decide (dc_prT 1 v d = 0)) (upd fd (Int32.toNatClampNeg 1) d) fd)))] := by rw [hz9, hT]; rfl
                    rw [hE9] at hP9 hD9
                    exact W.zret (ty := .boolean) (v := 0) hx hb hr (rfl) (fun t ht hW => ⟨⟨_, (), rfl, (by rw [hV]; rfl), by rw [ht]; exact hP9, hD9⟩, hS.F ht⟩) hS.2.2 dn_d_Mod_print_75
                · -- 50: ¬ d < 0
                  refine lv_iload_n hx hb dn_d_Mod_print_53 rfl (lv_at hl 5 rfl) ?_
                  refine lv_bipush (v := 9) hx hb dn_d_Mod_print_54 (by decide) ?_
                  refine lv_icmp_le (tgt := 63) hx hb dn_d_Mod_print_56 (by decide) (fun h56 => ?_) (fun h56 => ?_)
                  · -- 56: d ≤ 9
                    refine lv_iconst (v := 0) hx hb dn_d_Mod_print_63 (by decide) ?_
                    refine va_put (D := G) (ci := 9) (v := .int 0) (ty := (.int)) (C := dn_R_Mod) (T := dn_T_Mod) (N := 34) hx hb hts (dn_u_Mod) dn_t_Mod dn_o_Mod dn_n_Mod hown hK hP hD hS 0 rfl rfl 33 (by decide) (hts _ dn_w_891) (fun _ h9 => h9) rfl (by decide +kernel) rfl rfl (Nat.le_of_ble_eq_true rfl) dn_d_Mod_print_64 (fun H locs hP hD hS => ?_)
                    have hP : va_P G vwCl [(mo, .inr (9, [.ref mf, .ref m1, .ref m2, .int (dc_bI so), .long se, .long sm, .long sc, .int (dc_dn sv), .int (dc_bI ak), .long cw, .int dn, .int (nI an), .ref m3, .ref m4, .ref m5, .int (nI sk), .ref m6, .ref m7, .ref m8, .ref m9, .int (nI t), .ref ma, .ref mb, .ref mc, .long ee, .long em, .long ec, .ref mg, .ref mz, .int (dc_bI gn), .int c, .ref mr, .ref mi, .int 0])), (m4, .inl (cA 0, 3, .inl fv)), (m5, .inl (cA 0, 3, .inl fd))] H := hP
                    have hD : va_D A [(mo, .inr (9, [.ref mf, .ref m1, .ref m2, .int (dc_bI so), .long se, .long sm, .long sc, .int (dc_dn sv), .int (dc_bI ak), .long cw, .int dn, .int (nI an), .ref m3, .ref m4, .ref m5, .int (nI sk), .ref m6, .ref m7, .ref m8, .ref m9, .int (nI t), .ref ma, .ref mb, .ref mc, .long ee, .long em, .long ec, .ref mg, .ref mz, .int (dc_bI gn), .int c, .ref mr, .ref mi, .int 0])), (m4, .inl (cA 0, 3, .inl fv)), (m5, .inl (cA 0, 3, .inl fd))] := hD
                    refine lv_aload_n hx hb dn_d_Mod_print_67 rfl (lv_at hl 2 rfl) ?_
                    refine va_get (D := G) (ci := 9) (v := .int 0) (C := dn_R_Mod) (T := dn_T_Mod) (N := 34) hx hb hts (dn_u_Mod) hown hK hP 0 rfl rfl 33 (by decide) (hts _ dn_w_891) (fun _ h9 => h9) rfl dn_d_Mod_print_68 ?_
                    refine lv_if_eq (tgt := 76) hx hb dn_d_Mod_print_71 (by decide) (fun h71 => ?_) (fun h71 => ?_)
                    · -- 71: 0 = 0
                      refine lv_aload_n hx hb dn_d_Mod_print_76 rfl (lv_at hl 2 rfl) ?_
                      refine va_get (D := G) (ci := 9) (v := .ref m4) (C := dn_R_Mod) (T := dn_T_Mod) (N := 34) hx hb hts (dn_u_Mod) hown hK hP 0 rfl rfl 13 (by decide) (hts _ dn_w_871) (fun _ h9 => h9) rfl dn_d_Mod_print_77 ?_
                      refine lv_iload_n hx hb dn_d_Mod_print_80 rfl (lv_at hl 3 rfl) ?_
                      refine lv_iload_n hx hb dn_d_Mod_print_81 rfl (lv_at hl 4 rfl) ?_
                      refine dc_iast (k := 1) hx hb hK hP hD hS 1 rfl (by omega) (by omega) dn_d_Mod_print_82 (fun H locs hP hD hS => ?_)
                      have hP : va_P G vwCl [(mo, .inr (9, [.ref mf, .ref m1, .ref m2, .int (dc_bI so), .long se, .long sm, .long sc, .int (dc_dn sv), .int (dc_bI ak), .long cw, .int dn, .int (nI an), .ref m3, .ref m4, .ref m5, .int (nI sk), .ref m6, .ref m7, .ref m8, .ref m9, .int (nI t), .ref ma, .ref mb, .ref mc, .long ee, .long em, .long ec, .ref mg, .ref mz, .int (dc_bI gn), .int c, .ref mr, .ref mi, .int 0])), (m4, .inl (cA 0, 3, .inl (upd fv 1 v))), (m5, .inl (cA 0, 3, .inl fd))] H := hP
                      have hD : va_D A [(mo, .inr (9, [.ref mf, .ref m1, .ref m2, .int (dc_bI so), .long se, .long sm, .long sc, .int (dc_dn sv), .int (dc_bI ak), .long cw, .int dn, .int (nI an), .ref m3, .ref m4, .ref m5, .int (nI sk), .ref m6, .ref m7, .ref m8, .ref m9, .int (nI t), .ref ma, .ref mb, .ref mc, .long ee, .long em, .long ec, .ref mg, .ref mz, .int (dc_bI gn), .int c, .ref mr, .ref mi, .int 0])), (m4, .inl (cA 0, 3, .inl (upd fv 1 v))), (m5, .inl (cA 0, 3, .inl fd))] := hD
                      refine lv_aload_n hx hb dn_d_Mod_print_83 rfl (lv_at hl 2 rfl) ?_
                      refine va_get (D := G) (ci := 9) (v := .ref m5) (C := dn_R_Mod) (T := dn_T_Mod) (N := 34) hx hb hts (dn_u_Mod) hown hK hP 0 rfl rfl 14 (by decide) (hts _ dn_w_872) (fun _ h9 => h9) rfl dn_d_Mod_print_84 ?_
                      refine lv_iload_n hx hb dn_d_Mod_print_87 rfl (lv_at hl 3 rfl) ?_
                      refine lv_iload_n hx hb dn_d_Mod_print_88 rfl (lv_at hl 5 rfl) ?_
                      refine dc_iast (k := 1) hx hb hK hP hD hS 2 rfl (by omega) (by omega) dn_d_Mod_print_89 (fun H locs hP hD hS => ?_)
                      have hP : va_P G vwCl [(mo, .inr (9, [.ref mf, .ref m1, .ref m2, .int (dc_bI so), .long se, .long sm, .long sc, .int (dc_dn sv), .int (dc_bI ak), .long cw, .int dn, .int (nI an), .ref m3, .ref m4, .ref m5, .int (nI sk), .ref m6, .ref m7, .ref m8, .ref m9, .int (nI t), .ref ma, .ref mb, .ref mc, .long ee, .long em, .long ec, .ref mg, .ref mz, .int (dc_bI gn), .int c, .ref mr, .ref mi, .int 0])), (m4, .inl (cA 0, 3, .inl (upd fv 1 v))), (m5, .inl (cA 0, 3, .inl (upd fd 1 d)))] H := hP
                      have hD : va_D A [(mo, .inr (9, [.ref mf, .ref m1, .ref m2, .int (dc_bI so), .long se, .long sm, .long sc, .int (dc_dn sv), .int (dc_bI ak), .long cw, .int dn, .int (nI an), .ref m3, .ref m4, .ref m5, .int (nI sk), .ref m6, .ref m7, .ref m8, .ref m9, .int (nI t), .ref ma, .ref mb, .ref mc, .long ee, .long em, .long ec, .ref mg, .ref mz, .int (dc_bI gn), .int c, .ref mr, .ref mi, .int 0])), (m4, .inl (cA 0, 3, .inl (upd fv 1 v))), (m5, .inl (cA 0, 3, .inl (upd fd 1 d)))] := hD
                      refine lv_iload_n hx hb dn_d_Mod_print_90 rfl (lv_at hl 4 rfl) ?_
                      refine lv_iload_n hx hb dn_d_Mod_print_91 rfl (lv_at hl 3 rfl) ?_
                      refine vp_callSi (va_Run.run (va_runS (As := [.int 1]) (rest := [.int v]) ⟨hx, hb, hml, hown, hts⟩ (rr_digitsOf l 1 (by first | assumption | omega)) ⟨(callB_of 1 hts (dc_good dn_w_1021) rfl rfl rfl (hts _ dn_w_12) (hts _ dn_w_1019) (by decide +kernel) ⟨Nat.le_of_ble_eq_true rfl, Nat.le_of_ble_eq_true rfl⟩), (hts _ dn_w_1020)⟩ preEq rfl rfl hl.1 rfl (lv_room (Nat.le_of_ble_eq_true rfl)) dn_d_Mod_print_92 ⟨Nat.le_of_ble_eq_true rfl, Nat.le_of_ble_eq_true rfl⟩)) (fun r9 hr9 => ?_)
                      subst hr9
                      refine vp_callSi (va_Run.run (va_runS (As := [.int v, .int (nI (dc_wd 1))]) (rest := []) ⟨hx, hb, hml, hown, hts⟩ (rr_digitOf l v (dc_wd 1) (h40) (dc_wd1 _) (dc_wd9 _)) ⟨(callB_of 2 hts (dc_good dn_w_1000) rfl rfl rfl (hts _ dn_w_12) (hts _ dn_w_998) (by decide +kernel) ⟨Nat.le_of_ble_eq_true rfl, Nat.le_of_ble_eq_true rfl⟩), (hts _ dn_w_999)⟩ preEq rfl rfl hl.1 rfl (lv_room (Nat.le_of_ble_eq_true rfl)) dn_d_Mod_print_95 ⟨Nat.le_of_ble_eq_true rfl, Nat.le_of_ble_eq_true rfl⟩)) (fun r9 hr9 => ?_)
                      subst hr9
                      refine lv_iload_n hx hb dn_d_Mod_print_98 rfl (lv_at hl 5 rfl) ?_
                      refine lv_icmp_ne (tgt := 106) hx hb dn_d_Mod_print_99 (by decide) (fun h99 => ?_) (fun h99 => ?_)
                      · -- 99: ¬ (dc_rd v (dc_wd 1)) = d
                        refine lv_iconst (v := 0) hx hb dn_d_Mod_print_106 (by decide) ?_
                        have hT : dc_prT 1 v d = 0 := dc_prG (j := 1) (by decide) ⟨h40, Decidable.not_not.mp (fun z9 => h46 ((dc_lt1 (j := 0)).2 z9)), h50, Int32.not_lt.mpr h56⟩
                        have hz9 : decide (dc_prT 1 v d = 0) = true := decide_eq_true hT
                        have hV : dc_prV 1 v d = false := decide_eq_false (fun z9 => h99 z9.2.symm)
                        have hP9 := hP.sub (ws' := [(mo, .inr (9, [.ref mf, .ref m1, .ref m2, .int (dc_bI so), .long se, .long sm, .long sc, .int (dc_dn sv), .int (dc_bI ak), .long cw, .int dn, .int (nI an), .ref m3, .ref m4, .ref m5, .int (nI sk), .ref m6, .ref m7, .ref m8, .ref m9, .int (nI t), .ref ma, .ref mb, .ref mc, .long ee, .long em, .long ec, .ref mg, .ref mz, .int (dc_bI gn), .int c, .ref mr, .ref mi, .int 0])), (m4, .inl (cA 0, 3, .inl (upd fv 1 v))), (m5, .inl (cA 0, 3, .inl (upd fd 1 d)))]) [0, 1, 2] rfl
                        have hD9 := hD.sub (ws' := [(mo, .inr (9, [.ref mf, .ref m1, .ref m2, .int (dc_bI so), .long se, .long sm, .long sc, .int (dc_dn sv), .int (dc_bI ak), .long cw, .int dn, .int (nI an), .ref m3, .ref m4, .ref m5, .int (nI sk), .ref m6, .ref m7, .ref m8, .ref m9, .int (nI t), .ref ma, .ref mb, .ref mc, .long ee, .long em, .long ec, .ref mg, .ref mz, .int (dc_bI gn), .int c, .ref mr, .ref mi, .int 0])), (m4, .inl (cA 0, 3, .inl (upd fv 1 v))), (m5, .inl (cA 0, 3, .inl (upd fd 1 d)))]) [0, 1, 2] (by decide) rfl
                        have hE9 : ([(mo, .inr (9, [.ref mf, .ref m1, .ref m2, .int (dc_bI so), .long se, .long sm, .long sc, .int (dc_dn sv), .int (dc_bI ak), .long cw, .int dn, .int (nI an), .ref m3, .ref m4, .ref m5, .int (nI sk), .ref m6, .ref m7, .ref m8, .ref m9, .int (nI t), .ref ma, .ref mb, .ref mc, .long ee, .long em, .long ec, .ref mg, .ref mz, .int (dc_bI gn), .int c, .ref mr, .ref mi, .int 0])), (m4, .inl (cA 0, 3, .inl (upd fv 1 v))), (m5, .inl (cA 0, 3, .inl (upd fd 1 d)))] : va_W) = [(mo, .inr (9, [.ref mf, .ref m1, .ref m2, .int (dc_bI so), .long se, .long sm, .long sc, .int (dc_dn sv), .int (dc_bI ak), .long cw, .int dn, .int (nI an), .ref m3, .ref m4, .ref m5, .int (nI sk), .ref m6, .ref m7, .ref m8, .ref m9, .int (nI t), .ref ma, .ref mb, .ref mc, .long ee, .long em, .long ec, .ref mg, .ref mz, .int (dc_bI gn), .int c, .ref mr, .ref mi, .int (dc_prT 1 v d)])), (m4, .inl (cA 0, 3, .inl (dc_sel (decide (dc_prT 1 v d = 0)) (upd fv (Int32.toNatClampNeg 1) v) fv))), (m5, .inl (cA 0, 3, .inl (dc_sel (decide (dc_prT 1 v d = 0)) (upd fd (Int32.toNatClampNeg 1) d) fd)))] := by rw [hz9, hT]; rfl
                        rw [hE9] at hP9 hD9
                        exact W.zret (ty := .boolean) (v := 0) hx hb hr (rfl) (fun t ht hW => ⟨⟨_, (), rfl, (by rw [hV]; rfl), by rw [ht]; exact hP9, hD9⟩, hS.F ht⟩) hS.2.2 dn_d_Mod_print_107
                      · -- 99: (dc_rd v (dc_wd 1)) = d
                        refine lv_iconst (v := 1) hx hb dn_d_Mod_print_102 (by decide) ?_
                        refine lv_goto (tgt := 107) hx hb dn_d_Mod_print_103 (by decide) ?_
                        have hT : dc_prT 1 v d = 0 := dc_prG (j := 1) (by decide) ⟨h40, Decidable.not_not.mp (fun z9 => h46 ((dc_lt1 (j := 0)).2 z9)), h50, Int32.not_lt.mpr h56⟩
                        have hz9 : decide (dc_prT 1 v d = 0) = true := decide_eq_true hT
                        have hV : dc_prV 1 v d = true := decide_eq_true ⟨hT, h99.symm⟩
                        have hP9 := hP.sub (ws' := [(mo, .inr (9, [.ref mf, .ref m1, .ref m2, .int (dc_bI so), .long se, .long sm, .long sc, .int (dc_dn sv), .int (dc_bI ak), .long cw, .int dn, .int (nI an), .ref m3, .ref m4, .ref m5, .int (nI sk), .ref m6, .ref m7, .ref m8, .ref m9, .int (nI t), .ref ma, .ref mb, .ref mc, .long ee, .long em, .long ec, .ref mg, .ref mz, .int (dc_bI gn), .int c, .ref mr, .ref mi, .int 0])), (m4, .inl (cA 0, 3, .inl (upd fv 1 v))), (m5, .inl (cA 0, 3, .inl (upd fd 1 d)))]) [0, 1, 2] rfl
                        have hD9 := hD.sub (ws' := [(mo, .inr (9, [.ref mf, .ref m1, .ref m2, .int (dc_bI so), .long se, .long sm, .long sc, .int (dc_dn sv), .int (dc_bI ak), .long cw, .int dn, .int (nI an), .ref m3, .ref m4, .ref m5, .int (nI sk), .ref m6, .ref m7, .ref m8, .ref m9, .int (nI t), .ref ma, .ref mb, .ref mc, .long ee, .long em, .long ec, .ref mg, .ref mz, .int (dc_bI gn), .int c, .ref mr, .ref mi, .int 0])), (m4, .inl (cA 0, 3, .inl (upd fv 1 v))), (m5, .inl (cA 0, 3, .inl (upd fd 1 d)))]) [0, 1, 2] (by decide) rfl
                        have hE9 : ([(mo, .inr (9, [.ref mf, .ref m1, .ref m2, .int (dc_bI so), .long se, .long sm, .long sc, .int (dc_dn sv), .int (dc_bI ak), .long cw, .int dn, .int (nI an), .ref m3, .ref m4, .ref m5, .int (nI sk), .ref m6, .ref m7, .ref m8, .ref m9, .int (nI t), .ref ma, .ref mb, .ref mc, .long ee, .long em, .long ec, .ref mg, .ref mz, .int (dc_bI gn), .int c, .ref mr, .ref mi, .int 0])), (m4, .inl (cA 0, 3, .inl (upd fv 1 v))), (m5, .inl (cA 0, 3, .inl (upd fd 1 d)))] : va_W) = [(mo, .inr (9, [.ref mf, .ref m1, .ref m2, .int (dc_bI so), .long se, .long sm, .long sc, .int (dc_dn sv), .int (dc_bI ak), .long cw, .int dn, .int (nI an), .ref m3, .ref m4, .ref m5, .int (nI sk), .ref m6, .ref m7, .ref m8, .ref m9, .int (nI t), .ref ma, .ref mb, .ref mc, .long ee, .long em, .long ec, .ref mg, .ref mz, .int (dc_bI gn), .int c, .ref mr, .ref mi, .int (dc_prT 1 v d)])), (m4, .inl (cA 0, 3, .inl (dc_sel (decide (dc_prT 1 v d = 0)) (upd fv (Int32.toNatClampNeg 1) v) fv))), (m5, .inl (cA 0, 3, .inl (dc_sel (decide (dc_prT 1 v d = 0)) (upd fd (Int32.toNatClampNeg 1) d) fd)))] := by rw [hz9, hT]; rfl
                        rw [hE9] at hP9 hD9
                        exact W.zret (ty := .boolean) (v := 1) hx hb hr (rfl) (fun t ht hW => ⟨⟨_, (), rfl, (by rw [hV]; rfl), by rw [ht]; exact hP9, hD9⟩, hS.F ht⟩) hS.2.2 dn_d_Mod_print_107
                    · exact absurd h71 (by decide)
                  · -- 56: ¬ d ≤ 9
                    refine lv_iconst (v := 2) hx hb dn_d_Mod_print_59 (by decide) ?_
                    refine lv_goto (tgt := 64) hx hb dn_d_Mod_print_60 (by decide) ?_
                    refine va_put (D := G) (ci := 9) (v := .int 2) (ty := (.int)) (C := dn_R_Mod) (T := dn_T_Mod) (N := 34) hx hb hts (dn_u_Mod) dn_t_Mod dn_o_Mod dn_n_Mod hown hK hP hD hS 0 rfl rfl 33 (by decide) (hts _ dn_w_891) (fun _ h9 => h9) rfl (by decide +kernel) rfl rfl (Nat.le_of_ble_eq_true rfl) dn_d_Mod_print_64 (fun H locs hP hD hS => ?_)
                    have hP : va_P G vwCl [(mo, .inr (9, [.ref mf, .ref m1, .ref m2, .int (dc_bI so), .long se, .long sm, .long sc, .int (dc_dn sv), .int (dc_bI ak), .long cw, .int dn, .int (nI an), .ref m3, .ref m4, .ref m5, .int (nI sk), .ref m6, .ref m7, .ref m8, .ref m9, .int (nI t), .ref ma, .ref mb, .ref mc, .long ee, .long em, .long ec, .ref mg, .ref mz, .int (dc_bI gn), .int c, .ref mr, .ref mi, .int 2])), (m4, .inl (cA 0, 3, .inl fv)), (m5, .inl (cA 0, 3, .inl fd))] H := hP
                    have hD : va_D A [(mo, .inr (9, [.ref mf, .ref m1, .ref m2, .int (dc_bI so), .long se, .long sm, .long sc, .int (dc_dn sv), .int (dc_bI ak), .long cw, .int dn, .int (nI an), .ref m3, .ref m4, .ref m5, .int (nI sk), .ref m6, .ref m7, .ref m8, .ref m9, .int (nI t), .ref ma, .ref mb, .ref mc, .long ee, .long em, .long ec, .ref mg, .ref mz, .int (dc_bI gn), .int c, .ref mr, .ref mi, .int 2])), (m4, .inl (cA 0, 3, .inl fv)), (m5, .inl (cA 0, 3, .inl fd))] := hD
                    refine lv_aload_n hx hb dn_d_Mod_print_67 rfl (lv_at hl 2 rfl) ?_
                    refine va_get (D := G) (ci := 9) (v := .int 2) (C := dn_R_Mod) (T := dn_T_Mod) (N := 34) hx hb hts (dn_u_Mod) hown hK hP 0 rfl rfl 33 (by decide) (hts _ dn_w_891) (fun _ h9 => h9) rfl dn_d_Mod_print_68 ?_
                    refine lv_if_eq (tgt := 76) hx hb dn_d_Mod_print_71 (by decide) (fun h71 => ?_) (fun h71 => ?_)
                    · exact absurd h71 (by decide)
                    · -- 71: ¬ 2 = 0
                      refine lv_iconst (v := 0) hx hb dn_d_Mod_print_74 (by decide) ?_
                      have hT : dc_prT 1 v d = 2 := dc_prF (j := 1) (by decide) (fun z9 => z9.2.2.2 (Int32.not_le.mp h56))
                      have hT0 : ¬ dc_prT 1 v d = 0 := by rw [hT]; decide
                      have hz9 : decide (dc_prT 1 v d = 0) = false := decide_eq_false hT0
                      have hV : dc_prV 1 v d = false := decide_eq_false (fun z9 => hT0 z9.1)
                      have hP9 := hP.sub (ws' := [(mo, .inr (9, [.ref mf, .ref m1, .ref m2, .int (dc_bI so), .long se, .long sm, .long sc, .int (dc_dn sv), .int (dc_bI ak), .long cw, .int dn, .int (nI an), .ref m3, .ref m4, .ref m5, .int (nI sk), .ref m6, .ref m7, .ref m8, .ref m9, .int (nI t), .ref ma, .ref mb, .ref mc, .long ee, .long em, .long ec, .ref mg, .ref mz, .int (dc_bI gn), .int c, .ref mr, .ref mi, .int 2])), (m4, .inl (cA 0, 3, .inl fv)), (m5, .inl (cA 0, 3, .inl fd))]) [0, 1, 2] rfl
                      have hD9 := hD.sub (ws' := [(mo, .inr (9, [.ref mf, .ref m1, .ref m2, .int (dc_bI so), .long se, .long sm, .long sc, .int (dc_dn sv), .int (dc_bI ak), .long cw, .int dn, .int (nI an), .ref m3, .ref m4, .ref m5, .int (nI sk), .ref m6, .ref m7, .ref m8, .ref m9, .int (nI t), .ref ma, .ref mb, .ref mc, .long ee, .long em, .long ec, .ref mg, .ref mz, .int (dc_bI gn), .int c, .ref mr, .ref mi, .int 2])), (m4, .inl (cA 0, 3, .inl fv)), (m5, .inl (cA 0, 3, .inl fd))]) [0, 1, 2] (by decide) rfl
                      have hE9 : ([(mo, .inr (9, [.ref mf, .ref m1, .ref m2, .int (dc_bI so), .long se, .long sm, .long sc, .int (dc_dn sv), .int (dc_bI ak), .long cw, .int dn, .int (nI an), .ref m3, .ref m4, .ref m5, .int (nI sk), .ref m6, .ref m7, .ref m8, .ref m9, .int (nI t), .ref ma, .ref mb, .ref mc, .long ee, .long em, .long ec, .ref mg, .ref mz, .int (dc_bI gn), .int c, .ref mr, .ref mi, .int 2])), (m4, .inl (cA 0, 3, .inl fv)), (m5, .inl (cA 0, 3, .inl fd))] : va_W) = [(mo, .inr (9, [.ref mf, .ref m1, .ref m2, .int (dc_bI so), .long se, .long sm, .long sc, .int (dc_dn sv), .int (dc_bI ak), .long cw, .int dn, .int (nI an), .ref m3, .ref m4, .ref m5, .int (nI sk), .ref m6, .ref m7, .ref m8, .ref m9, .int (nI t), .ref ma, .ref mb, .ref mc, .long ee, .long em, .long ec, .ref mg, .ref mz, .int (dc_bI gn), .int c, .ref mr, .ref mi, .int (dc_prT 1 v d)])), (m4, .inl (cA 0, 3, .inl (dc_sel (decide (dc_prT 1 v d = 0)) (upd fv (Int32.toNatClampNeg 1) v) fv))), (m5, .inl (cA 0, 3, .inl (dc_sel (decide (dc_prT 1 v d = 0)) (upd fd (Int32.toNatClampNeg 1) d) fd)))] := by rw [hz9, hT]; rfl
                      rw [hE9] at hP9 hD9
                      exact W.zret (ty := .boolean) (v := 0) hx hb hr (rfl) (fun t ht hW => ⟨⟨_, (), rfl, (by rw [hV]; rfl), by rw [ht]; exact hP9, hD9⟩, hS.F ht⟩) hS.2.2 dn_d_Mod_print_75
          · exact absurd h32 (by decide)
        · exact absurd h17 (by decide)
  ·
    have hl : lv_has ls 6 [(0, .ref mo), (1, .int 2), (2, .int v), (3, .int d)] := hl
    have hP : va_P G vwCl [(mo, .inr (9, [.ref mf, .ref m1, .ref m2, .int (dc_bI so), .long se, .long sm, .long sc, .int (dc_dn sv), .int (dc_bI ak), .long cw, .int dn, .int (nI an), .ref m3, .ref m4, .ref m5, .int (nI sk), .ref m6, .ref m7, .ref m8, .ref m9, .int (nI t), .ref ma, .ref mb, .ref mc, .long ee, .long em, .long ec, .ref mg, .ref mz, .int (dc_bI gn), .int c, .ref mr, .ref mi, .int th])), (m4, .inl (cA 0, 3, .inl fv)), (m5, .inl (cA 0, 3, .inl fd))] s.heap := hP
    have hD : va_D A [(mo, .inr (9, [.ref mf, .ref m1, .ref m2, .int (dc_bI so), .long se, .long sm, .long sc, .int (dc_dn sv), .int (dc_bI ak), .long cw, .int dn, .int (nI an), .ref m3, .ref m4, .ref m5, .int (nI sk), .ref m6, .ref m7, .ref m8, .ref m9, .int (nI t), .ref ma, .ref mb, .ref mc, .long ee, .long em, .long ec, .ref mg, .ref mz, .int (dc_bI gn), .int c, .ref mr, .ref mi, .int th])), (m4, .inl (cA 0, 3, .inl fv)), (m5, .inl (cA 0, 3, .inl fd))] := hD
    refine lv_iload_n hx hb dn_d_Mod_print_0 rfl (lv_at hl 1 rfl) ?_
    refine lv_if_lt (tgt := 13) hx hb dn_d_Mod_print_1 (by decide) (fun h1 => ?_) (fun h1 => ?_)
    · exact absurd h1 (by decide)
    · -- 1: ¬ 2 < 0
      refine lv_iload_n hx hb dn_d_Mod_print_4 rfl (lv_at hl 1 rfl) ?_
      refine lv_iconst (v := 3) hx hb dn_d_Mod_print_5 (by decide) ?_
      refine lv_icmp_ge (tgt := 13) hx hb dn_d_Mod_print_6 (by decide) (fun h6 => ?_) (fun h6 => ?_)
      · exact absurd h6 (by decide)
      · -- 6: ¬ 3 ≤ 2
        refine lv_iconst (v := 1) hx hb dn_d_Mod_print_9 (by decide) ?_
        refine lv_goto (tgt := 14) hx hb dn_d_Mod_print_10 (by decide) ?_
        refine lv_istore hx hb dn_d_Mod_print_14 hl (by decide) rfl (fun ls hl => ?_)
        have hl : lv_has ls 6 [(4, .int 1), (0, .ref mo), (1, .int 2), (2, .int v), (3, .int d)] := hl
        refine lv_iload_n hx hb dn_d_Mod_print_16 rfl (lv_at hl 2 rfl) ?_
        refine lv_if_ne (tgt := 25) hx hb dn_d_Mod_print_17 (by decide) (fun h17 => ?_) (fun h17 => ?_)
        · -- 17: ¬ 2 = 0
          refine lv_ldc (v := 999999) hx hb hown (hts _ dn_w_1018) dn_d_Mod_print_25 ?_
          refine lv_istore hx hb dn_d_Mod_print_27 hl (by decide) rfl (fun ls hl => ?_)
          have hl : lv_has ls 6 [(5, .int 999999), (4, .int 1), (0, .ref mo), (1, .int 2), (2, .int v), (3, .int d)] := hl
          refine lv_aload_n hx hb dn_d_Mod_print_29 rfl (lv_at hl 2 rfl) ?_
          refine lv_iload hx hb dn_d_Mod_print_30 (lv_at hl 1 rfl) ?_
          refine lv_if_ne (tgt := 39) hx hb dn_d_Mod_print_32 (by decide) (fun h32 => ?_) (fun h32 => ?_)
          · -- 32: ¬ 1 = 0
            refine lv_iload_n hx hb dn_d_Mod_print_39 rfl (lv_at hl 4 rfl) ?_
            refine lv_if_lt (tgt := 59) hx hb dn_d_Mod_print_40 (by decide) (fun h40 => ?_) (fun h40 => ?_)
            · -- 40: v < 0
              refine lv_iconst (v := 2) hx hb dn_d_Mod_print_59 (by decide) ?_
              refine lv_goto (tgt := 64) hx hb dn_d_Mod_print_60 (by decide) ?_
              refine va_put (D := G) (ci := 9) (v := .int 2) (ty := (.int)) (C := dn_R_Mod) (T := dn_T_Mod) (N := 34) hx hb hts (dn_u_Mod) dn_t_Mod dn_o_Mod dn_n_Mod hown hK hP hD hS 0 rfl rfl 33 (by decide) (hts _ dn_w_891) (fun _ h9 => h9) rfl (by decide +kernel) rfl rfl (Nat.le_of_ble_eq_true rfl) dn_d_Mod_print_64 (fun H locs hP hD hS => ?_)
              have hP : va_P G vwCl [(mo, .inr (9, [.ref mf, .ref m1, .ref m2, .int (dc_bI so), .long se, .long sm, .long sc, .int (dc_dn sv), .int (dc_bI ak), .long cw, .int dn, .int (nI an), .ref m3, .ref m4, .ref m5, .int (nI sk), .ref m6, .ref m7, .ref m8, .ref m9, .int (nI t), .ref ma, .ref mb, .ref mc, .long ee, .long em, .long ec, .ref mg, .ref mz, .int (dc_bI gn), .int c, .ref mr, .ref mi, .int 2])), (m4, .inl (cA 0, 3, .inl fv)), (m5, .inl (cA 0, 3, .inl fd))] H := hP
              have hD : va_D A [(mo, .inr (9, [.ref mf, .ref m1, .ref m2, .int (dc_bI so), .long se, .long sm, .long sc, .int (dc_dn sv), .int (dc_bI ak), .long cw, .int dn, .int (nI an), .ref m3, .ref m4, .ref m5, .int (nI sk), .ref m6, .ref m7, .ref m8, .ref m9, .int (nI t), .ref ma, .ref mb, .ref mc, .long ee, .long em, .long ec, .ref mg, .ref mz, .int (dc_bI gn), .int c, .ref mr, .ref mi, .int 2])), (m4, .inl (cA 0, 3, .inl fv)), (m5, .inl (cA 0, 3, .inl fd))] := hD
              refine lv_aload_n hx hb dn_d_Mod_print_67 rfl (lv_at hl 2 rfl) ?_
              refine va_get (D := G) (ci := 9) (v := .int 2) (C := dn_R_Mod) (T := dn_T_Mod) (N := 34) hx hb hts (dn_u_Mod) hown hK hP 0 rfl rfl 33 (by decide) (hts _ dn_w_891) (fun _ h9 => h9) rfl dn_d_Mod_print_68 ?_
              refine lv_if_eq (tgt := 76) hx hb dn_d_Mod_print_71 (by decide) (fun h71 => ?_) (fun h71 => ?_)
              · exact absurd h71 (by decide)
              · -- 71: ¬ 2 = 0
                refine lv_iconst (v := 0) hx hb dn_d_Mod_print_74 (by decide) ?_
                have hT : dc_prT 2 v d = 2 := dc_prF (j := 2) (by decide) (fun z9 => z9.1 h40)
                have hT0 : ¬ dc_prT 2 v d = 0 := by rw [hT]; decide
                have hz9 : decide (dc_prT 2 v d = 0) = false := decide_eq_false hT0
                have hV : dc_prV 2 v d = false := decide_eq_false (fun z9 => hT0 z9.1)
                have hP9 := hP.sub (ws' := [(mo, .inr (9, [.ref mf, .ref m1, .ref m2, .int (dc_bI so), .long se, .long sm, .long sc, .int (dc_dn sv), .int (dc_bI ak), .long cw, .int dn, .int (nI an), .ref m3, .ref m4, .ref m5, .int (nI sk), .ref m6, .ref m7, .ref m8, .ref m9, .int (nI t), .ref ma, .ref mb, .ref mc, .long ee, .long em, .long ec, .ref mg, .ref mz, .int (dc_bI gn), .int c, .ref mr, .ref mi, .int 2])), (m4, .inl (cA 0, 3, .inl fv)), (m5, .inl (cA 0, 3, .inl fd))]) [0, 1, 2] rfl
                have hD9 := hD.sub (ws' := [(mo, .inr (9, [.ref mf, .ref m1, .ref m2, .int (dc_bI so), .long se, .long sm, .long sc, .int (dc_dn sv), .int (dc_bI ak), .long cw, .int dn, .int (nI an), .ref m3, .ref m4, .ref m5, .int (nI sk), .ref m6, .ref m7, .ref m8, .ref m9, .int (nI t), .ref ma, .ref mb, .ref mc, .long ee, .long em, .long ec, .ref mg, .ref mz, .int (dc_bI gn), .int c, .ref mr, .ref mi, .int 2])), (m4, .inl (cA 0, 3, .inl fv)), (m5, .inl (cA 0, 3, .inl fd))]) [0, 1, 2] (by decide) rfl
                have hE9 : ([(mo, .inr (9, [.ref mf, .ref m1, .ref m2, .int (dc_bI so), .long se, .long sm, .long sc, .int (dc_dn sv), .int (dc_bI ak), .long cw, .int dn, .int (nI an), .ref m3, .ref m4, .ref m5, .int (nI sk), .ref m6, .ref m7, .ref m8, .ref m9, .int (nI t), .ref ma, .ref mb, .ref mc, .long ee, .long em, .long ec, .ref mg, .ref mz, .int (dc_bI gn), .int c, .ref mr, .ref mi, .int 2])), (m4, .inl (cA 0, 3, .inl fv)), (m5, .inl (cA 0, 3, .inl fd))] : va_W) = [(mo, .inr (9, [.ref mf, .ref m1, .ref m2, .int (dc_bI so), .long se, .long sm, .long sc, .int (dc_dn sv), .int (dc_bI ak), .long cw, .int dn, .int (nI an), .ref m3, .ref m4, .ref m5, .int (nI sk), .ref m6, .ref m7, .ref m8, .ref m9, .int (nI t), .ref ma, .ref mb, .ref mc, .long ee, .long em, .long ec, .ref mg, .ref mz, .int (dc_bI gn), .int c, .ref mr, .ref mi, .int (dc_prT 2 v d)])), (m4, .inl (cA 0, 3, .inl (dc_sel (decide (dc_prT 2 v d = 0)) (upd fv (Int32.toNatClampNeg 2) v) fv))), (m5, .inl (cA 0, 3, .inl (dc_sel (decide (dc_prT 2 v d = 0)) (upd fd (Int32.toNatClampNeg 2) d) fd)))] := by rw [hz9, hT]; rfl
                rw [hE9] at hP9 hD9
                exact W.zret (ty := .boolean) (v := 0) hx hb hr (rfl) (fun t ht hW => ⟨⟨_, (), rfl, (by rw [hV]; rfl), by rw [ht]; exact hP9, hD9⟩, hS.F ht⟩) hS.2.2 dn_d_Mod_print_75
            · -- 40: ¬ v < 0
              refine lv_iload_n hx hb dn_d_Mod_print_43 rfl (lv_at hl 4 rfl) ?_
              refine lv_iload hx hb dn_d_Mod_print_44 (lv_at hl 0 rfl) ?_
              refine lv_icmp_gt (tgt := 59) hx hb dn_d_Mod_print_46 (by decide) (fun h46 => ?_) (fun h46 => ?_)
              · -- 46: 999999 < v
                refine lv_iconst (v := 2) hx hb dn_d_Mod_print_59 (by decide) ?_
                refine lv_goto (tgt := 64) hx hb dn_d_Mod_print_60 (by decide) ?_
                refine va_put (D := G) (ci := 9) (v := .int 2) (ty := (.int)) (C := dn_R_Mod) (T := dn_T_Mod) (N := 34) hx hb hts (dn_u_Mod) dn_t_Mod dn_o_Mod dn_n_Mod hown hK hP hD hS 0 rfl rfl 33 (by decide) (hts _ dn_w_891) (fun _ h9 => h9) rfl (by decide +kernel) rfl rfl (Nat.le_of_ble_eq_true rfl) dn_d_Mod_print_64 (fun H locs hP hD hS => ?_)
                have hP : va_P G vwCl [(mo, .inr (9, [.ref mf, .ref m1, .ref m2, .int (dc_bI so), .long se, .long sm, .long sc, .int (dc_dn sv), .int (dc_bI ak), .long cw, .int dn, .int (nI an), .ref m3, .ref m4, .ref m5, .int (nI sk), .ref m6, .ref m7, .ref m8, .ref m9, .int (nI t), .ref ma, .ref mb, .ref mc, .long ee, .long em, .long ec, .ref mg, .ref mz, .int (dc_bI gn), .int c, .ref mr, .ref mi, .int 2])), (m4, .inl (cA 0, 3, .inl fv)), (m5, .inl (cA 0, 3, .inl fd))] H := hP
                have hD : va_D A [(mo, .inr (9, [.ref mf, .ref m1, .ref m2, .int (dc_bI so), .long se, .long sm, .long sc, .int (dc_dn sv), .int (dc_bI ak), .long cw, .int dn, .int (nI an), .ref m3, .ref m4, .ref m5, .int (nI sk), .ref m6, .ref m7, .ref m8, .ref m9, .int (nI t), .ref ma, .ref mb, .ref mc, .long ee, .long em, .long ec, .ref mg, .ref mz, .int (dc_bI gn), .int c, .ref mr, .ref mi, .int 2])), (m4, .inl (cA 0, 3, .inl fv)), (m5, .inl (cA 0, 3, .inl fd))] := hD
                refine lv_aload_n hx hb dn_d_Mod_print_67 rfl (lv_at hl 2 rfl) ?_
                refine va_get (D := G) (ci := 9) (v := .int 2) (C := dn_R_Mod) (T := dn_T_Mod) (N := 34) hx hb hts (dn_u_Mod) hown hK hP 0 rfl rfl 33 (by decide) (hts _ dn_w_891) (fun _ h9 => h9) rfl dn_d_Mod_print_68 ?_
                refine lv_if_eq (tgt := 76) hx hb dn_d_Mod_print_71 (by decide) (fun h71 => ?_) (fun h71 => ?_)
                · exact absurd h71 (by decide)
                · -- 71: ¬ 2 = 0
                  refine lv_iconst (v := 0) hx hb dn_d_Mod_print_74 (by decide) ?_
                  have hT : dc_prT 2 v d = 2 := dc_prF (j := 2) (by decide) (fun z9 => (dc_lt1 (j := 1)).1 h46 z9.2.1)
                  have hT0 : ¬ dc_prT 2 v d = 0 := by rw [hT]; decide
                  have hz9 : decide (dc_prT 2 v d = 0) = false := decide_eq_false hT0
                  have hV : dc_prV 2 v d = false := decide_eq_false (fun z9 => hT0 z9.1)
                  have hP9 := hP.sub (ws' := [(mo, .inr (9, [.ref mf, .ref m1, .ref m2, .int (dc_bI so), .long se, .long sm, .long sc, .int (dc_dn sv), .int (dc_bI ak), .long cw, .int dn, .int (nI an), .ref m3, .ref m4, .ref m5, .int (nI sk), .ref m6, .ref m7, .ref m8, .ref m9, .int (nI t), .ref ma, .ref mb, .ref mc, .long ee, .long em, .long ec, .ref mg, .ref mz, .int (dc_bI gn), .int c, .ref mr, .ref mi, .int 2])), (m4, .inl (cA 0, 3, .inl fv)), (m5, .inl (cA 0, 3, .inl fd))]) [0, 1, 2] rfl
                  have hD9 := hD.sub (ws' := [(mo, .inr (9, [.ref mf, .ref m1, .ref m2, .int (dc_bI so), .long se, .long sm, .long sc, .int (dc_dn sv), .int (dc_bI ak), .long cw, .int dn, .int (nI an), .ref m3, .ref m4, .ref m5, .int (nI sk), .ref m6, .ref m7, .ref m8, .ref m9, .int (nI t), .ref ma, .ref mb, .ref mc, .long ee, .long em, .long ec, .ref mg, .ref mz, .int (dc_bI gn), .int c, .ref mr, .ref mi, .int 2])), (m4, .inl (cA 0, 3, .inl fv)), (m5, .inl (cA 0, 3, .inl fd))]) [0, 1, 2] (by decide) rfl
                  have hE9 : ([(mo, .inr (9, [.ref mf, .ref m1, .ref m2, .int (dc_bI so), .long se, .long sm, .long sc, .int (dc_dn sv), .int (dc_bI ak), .long cw, .int dn, .int (nI an), .ref m3, .ref m4, .ref m5, .int (nI sk), .ref m6, .ref m7, .ref m8, .ref m9, .int (nI t), .ref ma, .ref mb, .ref mc, .long ee, .long em, .long ec, .ref mg, .ref mz, .int (dc_bI gn), .int c, .ref mr, .ref mi, .int 2])), (m4, .inl (cA 0, 3, .inl fv)), (m5, .inl (cA 0, 3, .inl fd))] : va_W) = [(mo, .inr (9, [.ref mf, .ref m1, .ref m2, .int (dc_bI so), .long se, .long sm, .long sc, .int (dc_dn sv), .int (dc_bI ak), .long cw, .int dn, .int (nI an), .ref m3, .ref m4, .ref m5, .int (nI sk), .ref m6, .ref m7, .ref m8, .ref m9, .int (nI t), .ref ma, .ref mb, .ref mc, .long ee, .long em, .long ec, .ref mg, .ref mz, .int (dc_bI gn), .int c, .ref mr, .ref mi, .int (dc_prT 2 v d)])), (m4, .inl (cA 0, 3, .inl (dc_sel (decide (dc_prT 2 v d = 0)) (upd fv (Int32.toNatClampNeg 2) v) fv))), (m5, .inl (cA 0, 3, .inl (dc_sel (decide (dc_prT 2 v d = 0)) (upd fd (Int32.toNatClampNeg 2) d) fd)))] := by rw [hz9, hT]; rfl
                  rw [hE9] at hP9 hD9
                  exact W.zret (ty := .boolean) (v := 0) hx hb hr (rfl) (fun t ht hW => ⟨⟨_, (), rfl, (by rw [hV]; rfl), by rw [ht]; exact hP9, hD9⟩, hS.F ht⟩) hS.2.2 dn_d_Mod_print_75
              · -- 46: ¬ 999999 < v
                refine lv_iload_n hx hb dn_d_Mod_print_49 rfl (lv_at hl 5 rfl) ?_
                refine lv_if_lt (tgt := 59) hx hb dn_d_Mod_print_50 (by decide) (fun h50 => ?_) (fun h50 => ?_)
                · -- 50: d < 0
                  refine lv_iconst (v := 2) hx hb dn_d_Mod_print_59 (by decide) ?_
                  refine lv_goto (tgt := 64) hx hb dn_d_Mod_print_60 (by decide) ?_
                  refine va_put (D := G) (ci := 9) (v := .int 2) (ty := (.int)) (C := dn_R_Mod) (T := dn_T_Mod) (N := 34) hx hb hts (dn_u_Mod) dn_t_Mod dn_o_Mod dn_n_Mod hown hK hP hD hS 0 rfl rfl 33 (by decide) (hts _ dn_w_891) (fun _ h9 => h9) rfl (by decide +kernel) rfl rfl (Nat.le_of_ble_eq_true rfl) dn_d_Mod_print_64 (fun H locs hP hD hS => ?_)
                  have hP : va_P G vwCl [(mo, .inr (9, [.ref mf, .ref m1, .ref m2, .int (dc_bI so), .long se, .long sm, .long sc, .int (dc_dn sv), .int (dc_bI ak), .long cw, .int dn, .int (nI an), .ref m3, .ref m4, .ref m5, .int (nI sk), .ref m6, .ref m7, .ref m8, .ref m9, .int (nI t), .ref ma, .ref mb, .ref mc, .long ee, .long em, .long ec, .ref mg, .ref mz, .int (dc_bI gn), .int c, .ref mr, .ref mi, .int 2])), (m4, .inl (cA 0, 3, .inl fv)), (m5, .inl (cA 0, 3, .inl fd))] H := hP
                  have hD : va_D A [(mo, .inr (9, [.ref mf, .ref m1, .ref m2, .int (dc_bI so), .long se, .long sm, .long sc, .int (dc_dn sv), .int (dc_bI ak), .long cw, .int dn, .int (nI an), .ref m3, .ref m4, .ref m5, .int (nI sk), .ref m6, .ref m7, .ref m8, .ref m9, .int (nI t), .ref ma, .ref mb, .ref mc, .long ee, .long em, .long ec, .ref mg, .ref mz, .int (dc_bI gn), .int c, .ref mr, .ref mi, .int 2])), (m4, .inl (cA 0, 3, .inl fv)), (m5, .inl (cA 0, 3, .inl fd))] := hD
                  refine lv_aload_n hx hb dn_d_Mod_print_67 rfl (lv_at hl 2 rfl) ?_
                  refine va_get (D := G) (ci := 9) (v := .int 2) (C := dn_R_Mod) (T := dn_T_Mod) (N := 34) hx hb hts (dn_u_Mod) hown hK hP 0 rfl rfl 33 (by decide) (hts _ dn_w_891) (fun _ h9 => h9) rfl dn_d_Mod_print_68 ?_
                  refine lv_if_eq (tgt := 76) hx hb dn_d_Mod_print_71 (by decide) (fun h71 => ?_) (fun h71 => ?_)
                  · exact absurd h71 (by decide)
                  · -- 71: ¬ 2 = 0
                    refine lv_iconst (v := 0) hx hb dn_d_Mod_print_74 (by decide) ?_
                    have hT : dc_prT 2 v d = 2 := dc_prF (j := 2) (by decide) (fun z9 => z9.2.2.1 h50)
                    have hT0 : ¬ dc_prT 2 v d = 0 := by rw [hT]; decide
                    have hz9 : decide (dc_prT 2 v d = 0) = false := decide_eq_false hT0
                    have hV : dc_prV 2 v d = false := decide_eq_false (fun z9 => hT0 z9.1)
                    have hP9 := hP.sub (ws' := [(mo, .inr (9, [.ref mf, .ref m1, .ref m2, .int (dc_bI so), .long se, .long sm, .long sc, .int (dc_dn sv), .int (dc_bI ak), .long cw, .int dn, .int (nI an), .ref m3, .ref m4, .ref m5, .int (nI sk), .ref m6, .ref m7, .ref m8, .ref m9, .int (nI t), .ref ma, .ref mb, .ref mc, .long ee, .long em, .long ec, .ref mg, .ref mz, .int (dc_bI gn), .int c, .ref mr, .ref mi, .int 2])), (m4, .inl (cA 0, 3, .inl fv)), (m5, .inl (cA 0, 3, .inl fd))]) [0, 1, 2] rfl
                    have hD9 := hD.sub (ws' := [(mo, .inr (9, [.ref mf, .ref m1, .ref m2, .int (dc_bI so), .long se, .long sm, .long sc, .int (dc_dn sv), .int (dc_bI ak), .long cw, .int dn, .int (nI an), .ref m3, .ref m4, .ref m5, .int (nI sk), .ref m6, .ref m7, .ref m8, .ref m9, .int (nI t), .ref ma, .ref mb, .ref mc, .long ee, .long em, .long ec, .ref mg, .ref mz, .int (dc_bI gn), .int c, .ref mr, .ref mi, .int 2])), (m4, .inl (cA 0, 3, .inl fv)), (m5, .inl (cA 0, 3, .inl fd))]) [0, 1, 2] (by decide) rfl
                    have hE9 : ([(mo, .inr (9, [.ref mf, .ref m1, .ref m2, .int (dc_bI so), .long se, .long sm, .long sc, .int (dc_dn sv), .int (dc_bI ak), .long cw, .int dn, .int (nI an), .ref m3, .ref m4, .ref m5, .int (nI sk), .ref m6, .ref m7, .ref m8, .ref m9, .int (nI t), .ref ma, .ref mb, .ref mc, .long ee, .long em, .long ec, .ref mg, .ref mz, .int (dc_bI gn), .int c, .ref mr, .ref mi, .int 2])), (m4, .inl (cA 0, 3, .inl fv)), (m5, .inl (cA 0, 3, .inl fd))] : va_W) = [(mo, .inr (9, [.ref mf, .ref m1, .ref m2, .int (dc_bI so), .long se, .long sm, .long sc, .int (dc_dn sv), .int (dc_bI ak), .long cw, .int dn, .int (nI an), .ref m3, .ref m4, .ref m5, .int (nI sk), .ref m6, .ref m7, .ref m8, .ref m9, .int (nI t), .ref ma, .ref mb, .ref mc, .long ee, .long em, .long ec, .ref mg, .ref mz, .int (dc_bI gn), .int c, .ref mr, .ref mi, .int (dc_prT 2 v d)])), (m4, .inl (cA 0, 3, .inl (dc_sel (decide (dc_prT 2 v d = 0)) (upd fv (Int32.toNatClampNeg 2) v) fv))), (m5, .inl (cA 0, 3, .inl (dc_sel (decide (dc_prT 2 v d = 0)) (upd fd (Int32.toNatClampNeg 2) d) fd)))] := by rw [hz9, hT]; rfl
                    rw [hE9] at hP9 hD9
                    exact W.zret (ty := .boolean) (v := 0) hx hb hr (rfl) (fun t ht hW => ⟨⟨_, (), rfl, (by rw [hV]; rfl), by rw [ht]; exact hP9, hD9⟩, hS.F ht⟩) hS.2.2 dn_d_Mod_print_75
                · -- 50: ¬ d < 0
                  refine lv_iload_n hx hb dn_d_Mod_print_53 rfl (lv_at hl 5 rfl) ?_
                  refine lv_bipush (v := 9) hx hb dn_d_Mod_print_54 (by decide) ?_
                  refine lv_icmp_le (tgt := 63) hx hb dn_d_Mod_print_56 (by decide) (fun h56 => ?_) (fun h56 => ?_)
                  · -- 56: d ≤ 9
                    refine lv_iconst (v := 0) hx hb dn_d_Mod_print_63 (by decide) ?_
                    refine va_put (D := G) (ci := 9) (v := .int 0) (ty := (.int)) (C := dn_R_Mod) (T := dn_T_Mod) (N := 34) hx hb hts (dn_u_Mod) dn_t_Mod dn_o_Mod dn_n_Mod hown hK hP hD hS 0 rfl rfl 33 (by decide) (hts _ dn_w_891) (fun _ h9 => h9) rfl (by decide +kernel) rfl rfl (Nat.le_of_ble_eq_true rfl) dn_d_Mod_print_64 (fun H locs hP hD hS => ?_)
                    have hP : va_P G vwCl [(mo, .inr (9, [.ref mf, .ref m1, .ref m2, .int (dc_bI so), .long se, .long sm, .long sc, .int (dc_dn sv), .int (dc_bI ak), .long cw, .int dn, .int (nI an), .ref m3, .ref m4, .ref m5, .int (nI sk), .ref m6, .ref m7, .ref m8, .ref m9, .int (nI t), .ref ma, .ref mb, .ref mc, .long ee, .long em, .long ec, .ref mg, .ref mz, .int (dc_bI gn), .int c, .ref mr, .ref mi, .int 0])), (m4, .inl (cA 0, 3, .inl fv)), (m5, .inl (cA 0, 3, .inl fd))] H := hP
                    have hD : va_D A [(mo, .inr (9, [.ref mf, .ref m1, .ref m2, .int (dc_bI so), .long se, .long sm, .long sc, .int (dc_dn sv), .int (dc_bI ak), .long cw, .int dn, .int (nI an), .ref m3, .ref m4, .ref m5, .int (nI sk), .ref m6, .ref m7, .ref m8, .ref m9, .int (nI t), .ref ma, .ref mb, .ref mc, .long ee, .long em, .long ec, .ref mg, .ref mz, .int (dc_bI gn), .int c, .ref mr, .ref mi, .int 0])), (m4, .inl (cA 0, 3, .inl fv)), (m5, .inl (cA 0, 3, .inl fd))] := hD
                    refine lv_aload_n hx hb dn_d_Mod_print_67 rfl (lv_at hl 2 rfl) ?_
                    refine va_get (D := G) (ci := 9) (v := .int 0) (C := dn_R_Mod) (T := dn_T_Mod) (N := 34) hx hb hts (dn_u_Mod) hown hK hP 0 rfl rfl 33 (by decide) (hts _ dn_w_891) (fun _ h9 => h9) rfl dn_d_Mod_print_68 ?_
                    refine lv_if_eq (tgt := 76) hx hb dn_d_Mod_print_71 (by decide) (fun h71 => ?_) (fun h71 => ?_)
                    · -- 71: 0 = 0
                      refine lv_aload_n hx hb dn_d_Mod_print_76 rfl (lv_at hl 2 rfl) ?_
                      refine va_get (D := G) (ci := 9) (v := .ref m4) (C := dn_R_Mod) (T := dn_T_Mod) (N := 34) hx hb hts (dn_u_Mod) hown hK hP 0 rfl rfl 13 (by decide) (hts _ dn_w_871) (fun _ h9 => h9) rfl dn_d_Mod_print_77 ?_
                      refine lv_iload_n hx hb dn_d_Mod_print_80 rfl (lv_at hl 3 rfl) ?_
                      refine lv_iload_n hx hb dn_d_Mod_print_81 rfl (lv_at hl 4 rfl) ?_
                      refine dc_iast (k := 2) hx hb hK hP hD hS 1 rfl (by omega) (by omega) dn_d_Mod_print_82 (fun H locs hP hD hS => ?_)
                      have hP : va_P G vwCl [(mo, .inr (9, [.ref mf, .ref m1, .ref m2, .int (dc_bI so), .long se, .long sm, .long sc, .int (dc_dn sv), .int (dc_bI ak), .long cw, .int dn, .int (nI an), .ref m3, .ref m4, .ref m5, .int (nI sk), .ref m6, .ref m7, .ref m8, .ref m9, .int (nI t), .ref ma, .ref mb, .ref mc, .long ee, .long em, .long ec, .ref mg, .ref mz, .int (dc_bI gn), .int c, .ref mr, .ref mi, .int 0])), (m4, .inl (cA 0, 3, .inl (upd fv 2 v))), (m5, .inl (cA 0, 3, .inl fd))] H := hP
                      have hD : va_D A [(mo, .inr (9, [.ref mf, .ref m1, .ref m2, .int (dc_bI so), .long se, .long sm, .long sc, .int (dc_dn sv), .int (dc_bI ak), .long cw, .int dn, .int (nI an), .ref m3, .ref m4, .ref m5, .int (nI sk), .ref m6, .ref m7, .ref m8, .ref m9, .int (nI t), .ref ma, .ref mb, .ref mc, .long ee, .long em, .long ec, .ref mg, .ref mz, .int (dc_bI gn), .int c, .ref mr, .ref mi, .int 0])), (m4, .inl (cA 0, 3, .inl (upd fv 2 v))), (m5, .inl (cA 0, 3, .inl fd))] := hD
                      refine lv_aload_n hx hb dn_d_Mod_print_83 rfl (lv_at hl 2 rfl) ?_
                      refine va_get (D := G) (ci := 9) (v := .ref m5) (C := dn_R_Mod) (T := dn_T_Mod) (N := 34) hx hb hts (dn_u_Mod) hown hK hP 0 rfl rfl 14 (by decide) (hts _ dn_w_872) (fun _ h9 => h9) rfl dn_d_Mod_print_84 ?_
                      refine lv_iload_n hx hb dn_d_Mod_print_87 rfl (lv_at hl 3 rfl) ?_
                      refine lv_iload_n hx hb dn_d_Mod_print_88 rfl (lv_at hl 5 rfl) ?_
                      refine dc_iast (k := 2) hx hb hK hP hD hS 2 rfl (by omega) (by omega) dn_d_Mod_print_89 (fun H locs hP hD hS => ?_)
                      have hP : va_P G vwCl [(mo, .inr (9, [.ref mf, .ref m1, .ref m2, .int (dc_bI so), .long se, .long sm, .long sc, .int (dc_dn sv), .int (dc_bI ak), .long cw, .int dn, .int (nI an), .ref m3, .ref m4, .ref m5, .int (nI sk), .ref m6, .ref m7, .ref m8, .ref m9, .int (nI t), .ref ma, .ref mb, .ref mc, .long ee, .long em, .long ec, .ref mg, .ref mz, .int (dc_bI gn), .int c, .ref mr, .ref mi, .int 0])), (m4, .inl (cA 0, 3, .inl (upd fv 2 v))), (m5, .inl (cA 0, 3, .inl (upd fd 2 d)))] H := hP
                      have hD : va_D A [(mo, .inr (9, [.ref mf, .ref m1, .ref m2, .int (dc_bI so), .long se, .long sm, .long sc, .int (dc_dn sv), .int (dc_bI ak), .long cw, .int dn, .int (nI an), .ref m3, .ref m4, .ref m5, .int (nI sk), .ref m6, .ref m7, .ref m8, .ref m9, .int (nI t), .ref ma, .ref mb, .ref mc, .long ee, .long em, .long ec, .ref mg, .ref mz, .int (dc_bI gn), .int c, .ref mr, .ref mi, .int 0])), (m4, .inl (cA 0, 3, .inl (upd fv 2 v))), (m5, .inl (cA 0, 3, .inl (upd fd 2 d)))] := hD
                      refine lv_iload_n hx hb dn_d_Mod_print_90 rfl (lv_at hl 4 rfl) ?_
                      refine lv_iload_n hx hb dn_d_Mod_print_91 rfl (lv_at hl 3 rfl) ?_
                      refine vp_callSi (va_Run.run (va_runS (As := [.int 2]) (rest := [.int v]) ⟨hx, hb, hml, hown, hts⟩ (rr_digitsOf l 2 (by first | assumption | omega)) ⟨(callB_of 1 hts (dc_good dn_w_1021) rfl rfl rfl (hts _ dn_w_12) (hts _ dn_w_1019) (by decide +kernel) ⟨Nat.le_of_ble_eq_true rfl, Nat.le_of_ble_eq_true rfl⟩), (hts _ dn_w_1020)⟩ preEq rfl rfl hl.1 rfl (lv_room (Nat.le_of_ble_eq_true rfl)) dn_d_Mod_print_92 ⟨Nat.le_of_ble_eq_true rfl, Nat.le_of_ble_eq_true rfl⟩)) (fun r9 hr9 => ?_)
                      subst hr9
                      refine vp_callSi (va_Run.run (va_runS (As := [.int v, .int (nI (dc_wd 2))]) (rest := []) ⟨hx, hb, hml, hown, hts⟩ (rr_digitOf l v (dc_wd 2) (h40) (dc_wd1 _) (dc_wd9 _)) ⟨(callB_of 2 hts (dc_good dn_w_1000) rfl rfl rfl (hts _ dn_w_12) (hts _ dn_w_998) (by decide +kernel) ⟨Nat.le_of_ble_eq_true rfl, Nat.le_of_ble_eq_true rfl⟩), (hts _ dn_w_999)⟩ preEq rfl rfl hl.1 rfl (lv_room (Nat.le_of_ble_eq_true rfl)) dn_d_Mod_print_95 ⟨Nat.le_of_ble_eq_true rfl, Nat.le_of_ble_eq_true rfl⟩)) (fun r9 hr9 => ?_)
                      subst hr9
                      refine lv_iload_n hx hb dn_d_Mod_print_98 rfl (lv_at hl 5 rfl) ?_
                      refine lv_icmp_ne (tgt := 106) hx hb dn_d_Mod_print_99 (by decide) (fun h99 => ?_) (fun h99 => ?_)
                      · -- 99: ¬ (dc_rd v (dc_wd 2)) = d
                        refine lv_iconst (v := 0) hx hb dn_d_Mod_print_106 (by decide) ?_
                        have hT : dc_prT 2 v d = 0 := dc_prG (j := 2) (by decide) ⟨h40, Decidable.not_not.mp (fun z9 => h46 ((dc_lt1 (j := 1)).2 z9)), h50, Int32.not_lt.mpr h56⟩
                        have hz9 : decide (dc_prT 2 v d = 0) = true := decide_eq_true hT
                        have hV : dc_prV 2 v d = false := decide_eq_false (fun z9 => h99 z9.2.symm)
                        have hP9 := hP.sub (ws' := [(mo, .inr (9, [.ref mf, .ref m1, .ref m2, .int (dc_bI so), .long se, .long sm, .long sc, .int (dc_dn sv), .int (dc_bI ak), .long cw, .int dn, .int (nI an), .ref m3, .ref m4, .ref m5, .int (nI sk), .ref m6, .ref m7, .ref m8, .ref m9, .int (nI t), .ref ma, .ref mb, .ref mc, .long ee, .long em, .long ec, .ref mg, .ref mz, .int (dc_bI gn), .int c, .ref mr, .ref mi, .int 0])), (m4, .inl (cA 0, 3, .inl (upd fv 2 v))), (m5, .inl (cA 0, 3, .inl (upd fd 2 d)))]) [0, 1, 2] rfl
                        have hD9 := hD.sub (ws' := [(mo, .inr (9, [.ref mf, .ref m1, .ref m2, .int (dc_bI so), .long se, .long sm, .long sc, .int (dc_dn sv), .int (dc_bI ak), .long cw, .int dn, .int (nI an), .ref m3, .ref m4, .ref m5, .int (nI sk), .ref m6, .ref m7, .ref m8, .ref m9, .int (nI t), .ref ma, .ref mb, .ref mc, .long ee, .long em, .long ec, .ref mg, .ref mz, .int (dc_bI gn), .int c, .ref mr, .ref mi, .int 0])), (m4, .inl (cA 0, 3, .inl (upd fv 2 v))), (m5, .inl (cA 0, 3, .inl (upd fd 2 d)))]) [0, 1, 2] (by decide) rfl
                        have hE9 : ([(mo, .inr (9, [.ref mf, .ref m1, .ref m2, .int (dc_bI so), .long se, .long sm, .long sc, .int (dc_dn sv), .int (dc_bI ak), .long cw, .int dn, .int (nI an), .ref m3, .ref m4, .ref m5, .int (nI sk), .ref m6, .ref m7, .ref m8, .ref m9, .int (nI t), .ref ma, .ref mb, .ref mc, .long ee, .long em, .long ec, .ref mg, .ref mz, .int (dc_bI gn), .int c, .ref mr, .ref mi, .int 0])), (m4, .inl (cA 0, 3, .inl (upd fv 2 v))), (m5, .inl (cA 0, 3, .inl (upd fd 2 d)))] : va_W) = [(mo, .inr (9, [.ref mf, .ref m1, .ref m2, .int (dc_bI so), .long se, .long sm, .long sc, .int (dc_dn sv), .int (dc_bI ak), .long cw, .int dn, .int (nI an), .ref m3, .ref m4, .ref m5, .int (nI sk), .ref m6, .ref m7, .ref m8, .ref m9, .int (nI t), .ref ma, .ref mb, .ref mc, .long ee, .long em, .long ec, .ref mg, .ref mz, .int (dc_bI gn), .int c, .ref mr, .ref mi, .int (dc_prT 2 v d)])), (m4, .inl (cA 0, 3, .inl (dc_sel (decide (dc_prT 2 v d = 0)) (upd fv (Int32.toNatClampNeg 2) v) fv))), (m5, .inl (cA 0, 3, .inl (dc_sel (decide (dc_prT 2 v d = 0)) (upd fd (Int32.toNatClampNeg 2) d) fd)))] := by rw [hz9, hT]; rfl
                        rw [hE9] at hP9 hD9
                        exact W.zret (ty := .boolean) (v := 0) hx hb hr (rfl) (fun t ht hW => ⟨⟨_, (), rfl, (by rw [hV]; rfl), by rw [ht]; exact hP9, hD9⟩, hS.F ht⟩) hS.2.2 dn_d_Mod_print_107
                      · -- 99: (dc_rd v (dc_wd 2)) = d
                        refine lv_iconst (v := 1) hx hb dn_d_Mod_print_102 (by decide) ?_
                        refine lv_goto (tgt := 107) hx hb dn_d_Mod_print_103 (by decide) ?_
                        have hT : dc_prT 2 v d = 0 := dc_prG (j := 2) (by decide) ⟨h40, Decidable.not_not.mp (fun z9 => h46 ((dc_lt1 (j := 1)).2 z9)), h50, Int32.not_lt.mpr h56⟩
                        have hz9 : decide (dc_prT 2 v d = 0) = true := decide_eq_true hT
                        have hV : dc_prV 2 v d = true := decide_eq_true ⟨hT, h99.symm⟩
                        have hP9 := hP.sub (ws' := [(mo, .inr (9, [.ref mf, .ref m1, .ref m2, .int (dc_bI so), .long se, .long sm, .long sc, .int (dc_dn sv), .int (dc_bI ak), .long cw, .int dn, .int (nI an), .ref m3, .ref m4, .ref m5, .int (nI sk), .ref m6, .ref m7, .ref m8, .ref m9, .int (nI t), .ref ma, .ref mb, .ref mc, .long ee, .long em, .long ec, .ref mg, .ref mz, .int (dc_bI gn), .int c, .ref mr, .ref mi, .int 0])), (m4, .inl (cA 0, 3, .inl (upd fv 2 v))), (m5, .inl (cA 0, 3, .inl (upd fd 2 d)))]) [0, 1, 2] rfl
                        have hD9 := hD.sub (ws' := [(mo, .inr (9, [.ref mf, .ref m1, .ref m2, .int (dc_bI so), .long se, .long sm, .long sc, .int (dc_dn sv), .int (dc_bI ak), .long cw, .int dn, .int (nI an), .ref m3, .ref m4, .ref m5, .int (nI sk), .ref m6, .ref m7, .ref m8, .ref m9, .int (nI t), .ref ma, .ref mb, .ref mc, .long ee, .long em, .long ec, .ref mg, .ref mz, .int (dc_bI gn), .int c, .ref mr, .ref mi, .int 0])), (m4, .inl (cA 0, 3, .inl (upd fv 2 v))), (m5, .inl (cA 0, 3, .inl (upd fd 2 d)))]) [0, 1, 2] (by decide) rfl
                        have hE9 : ([(mo, .inr (9, [.ref mf, .ref m1, .ref m2, .int (dc_bI so), .long se, .long sm, .long sc, .int (dc_dn sv), .int (dc_bI ak), .long cw, .int dn, .int (nI an), .ref m3, .ref m4, .ref m5, .int (nI sk), .ref m6, .ref m7, .ref m8, .ref m9, .int (nI t), .ref ma, .ref mb, .ref mc, .long ee, .long em, .long ec, .ref mg, .ref mz, .int (dc_bI gn), .int c, .ref mr, .ref mi, .int 0])), (m4, .inl (cA 0, 3, .inl (upd fv 2 v))), (m5, .inl (cA 0, 3, .inl (upd fd 2 d)))] : va_W) = [(mo, .inr (9, [.ref mf, .ref m1, .ref m2, .int (dc_bI so), .long se, .long sm, .long sc, .int (dc_dn sv), .int (dc_bI ak), .long cw, .int dn, .int (nI an), .ref m3, .ref m4, .ref m5, .int (nI sk), .ref m6, .ref m7, .ref m8, .ref m9, .int (nI t), .ref ma, .ref mb, .ref mc, .long ee, .long em, .long ec, .ref mg, .ref mz, .int (dc_bI gn), .int c, .ref mr, .ref mi, .int (dc_prT 2 v d)])), (m4, .inl (cA 0, 3, .inl (dc_sel (decide (dc_prT 2 v d = 0)) (upd fv (Int32.toNatClampNeg 2) v) fv))), (m5, .inl (cA 0, 3, .inl (dc_sel (decide (dc_prT 2 v d = 0)) (upd fd (Int32.toNatClampNeg 2) d) fd)))] := by rw [hz9, hT]; rfl
                        rw [hE9] at hP9 hD9
                        exact W.zret (ty := .boolean) (v := 1) hx hb hr (rfl) (fun t ht hW => ⟨⟨_, (), rfl, (by rw [hV]; rfl), by rw [ht]; exact hP9, hD9⟩, hS.F ht⟩) hS.2.2 dn_d_Mod_print_107
                    · exact absurd h71 (by decide)
                  · -- 56: ¬ d ≤ 9
                    refine lv_iconst (v := 2) hx hb dn_d_Mod_print_59 (by decide) ?_
                    refine lv_goto (tgt := 64) hx hb dn_d_Mod_print_60 (by decide) ?_
                    refine va_put (D := G) (ci := 9) (v := .int 2) (ty := (.int)) (C := dn_R_Mod) (T := dn_T_Mod) (N := 34) hx hb hts (dn_u_Mod) dn_t_Mod dn_o_Mod dn_n_Mod hown hK hP hD hS 0 rfl rfl 33 (by decide) (hts _ dn_w_891) (fun _ h9 => h9) rfl (by decide +kernel) rfl rfl (Nat.le_of_ble_eq_true rfl) dn_d_Mod_print_64 (fun H locs hP hD hS => ?_)
                    have hP : va_P G vwCl [(mo, .inr (9, [.ref mf, .ref m1, .ref m2, .int (dc_bI so), .long se, .long sm, .long sc, .int (dc_dn sv), .int (dc_bI ak), .long cw, .int dn, .int (nI an), .ref m3, .ref m4, .ref m5, .int (nI sk), .ref m6, .ref m7, .ref m8, .ref m9, .int (nI t), .ref ma, .ref mb, .ref mc, .long ee, .long em, .long ec, .ref mg, .ref mz, .int (dc_bI gn), .int c, .ref mr, .ref mi, .int 2])), (m4, .inl (cA 0, 3, .inl fv)), (m5, .inl (cA 0, 3, .inl fd))] H := hP
                    have hD : va_D A [(mo, .inr (9, [.ref mf, .ref m1, .ref m2, .int (dc_bI so), .long se, .long sm, .long sc, .int (dc_dn sv), .int (dc_bI ak), .long cw, .int dn, .int (nI an), .ref m3, .ref m4, .ref m5, .int (nI sk), .ref m6, .ref m7, .ref m8, .ref m9, .int (nI t), .ref ma, .ref mb, .ref mc, .long ee, .long em, .long ec, .ref mg, .ref mz, .int (dc_bI gn), .int c, .ref mr, .ref mi, .int 2])), (m4, .inl (cA 0, 3, .inl fv)), (m5, .inl (cA 0, 3, .inl fd))] := hD
                    refine lv_aload_n hx hb dn_d_Mod_print_67 rfl (lv_at hl 2 rfl) ?_
                    refine va_get (D := G) (ci := 9) (v := .int 2) (C := dn_R_Mod) (T := dn_T_Mod) (N := 34) hx hb hts (dn_u_Mod) hown hK hP 0 rfl rfl 33 (by decide) (hts _ dn_w_891) (fun _ h9 => h9) rfl dn_d_Mod_print_68 ?_
                    refine lv_if_eq (tgt := 76) hx hb dn_d_Mod_print_71 (by decide) (fun h71 => ?_) (fun h71 => ?_)
                    · exact absurd h71 (by decide)
                    · -- 71: ¬ 2 = 0
                      refine lv_iconst (v := 0) hx hb dn_d_Mod_print_74 (by decide) ?_
                      have hT : dc_prT 2 v d = 2 := dc_prF (j := 2) (by decide) (fun z9 => z9.2.2.2 (Int32.not_le.mp h56))
                      have hT0 : ¬ dc_prT 2 v d = 0 := by rw [hT]; decide
                      have hz9 : decide (dc_prT 2 v d = 0) = false := decide_eq_false hT0
                      have hV : dc_prV 2 v d = false := decide_eq_false (fun z9 => hT0 z9.1)
                      have hP9 := hP.sub (ws' := [(mo, .inr (9, [.ref mf, .ref m1, .ref m2, .int (dc_bI so), .long se, .long sm, .long sc, .int (dc_dn sv), .int (dc_bI ak), .long cw, .int dn, .int (nI an), .ref m3, .ref m4, .ref m5, .int (nI sk), .ref m6, .ref m7, .ref m8, .ref m9, .int (nI t), .ref ma, .ref mb, .ref mc, .long ee, .long em, .long ec, .ref mg, .ref mz, .int (dc_bI gn), .int c, .ref mr, .ref mi, .int 2])), (m4, .inl (cA 0, 3, .inl fv)), (m5, .inl (cA 0, 3, .inl fd))]) [0, 1, 2] rfl
                      have hD9 := hD.sub (ws' := [(mo, .inr (9, [.ref mf, .ref m1, .ref m2, .int (dc_bI so), .long se, .long sm, .long sc, .int (dc_dn sv), .int (dc_bI ak), .long cw, .int dn, .int (nI an), .ref m3, .ref m4, .ref m5, .int (nI sk), .ref m6, .ref m7, .ref m8, .ref m9, .int (nI t), .ref ma, .ref mb, .ref mc, .long ee, .long em, .long ec, .ref mg, .ref mz, .int (dc_bI gn), .int c, .ref mr, .ref mi, .int 2])), (m4, .inl (cA 0, 3, .inl fv)), (m5, .inl (cA 0, 3, .inl fd))]) [0, 1, 2] (by decide) rfl
                      have hE9 : ([(mo, .inr (9, [.ref mf, .ref m1, .ref m2, .int (dc_bI so), .long se, .long sm, .long sc, .int (dc_dn sv), .int (dc_bI ak), .long cw, .int dn, .int (nI an), .ref m3, .ref m4, .ref m5, .int (nI sk), .ref m6, .ref m7, .ref m8, .ref m9, .int (nI t), .ref ma, .ref mb, .ref mc, .long ee, .long em, .long ec, .ref mg, .ref mz, .int (dc_bI gn), .int c, .ref mr, .ref mi, .int 2])), (m4, .inl (cA 0, 3, .inl fv)), (m5, .inl (cA 0, 3, .inl fd))] : va_W) = [(mo, .inr (9, [.ref mf, .ref m1, .ref m2, .int (dc_bI so), .long se, .long sm, .long sc, .int (dc_dn sv), .int (dc_bI ak), .long cw, .int dn, .int (nI an), .ref m3, .ref m4, .ref m5, .int (nI sk), .ref m6, .ref m7, .ref m8, .ref m9, .int (nI t), .ref ma, .ref mb, .ref mc, .long ee, .long em, .long ec, .ref mg, .ref mz, .int (dc_bI gn), .int c, .ref mr, .ref mi, .int (dc_prT 2 v d)])), (m4, .inl (cA 0, 3, .inl (dc_sel (decide (dc_prT 2 v d = 0)) (upd fv (Int32.toNatClampNeg 2) v) fv))), (m5, .inl (cA 0, 3, .inl (dc_sel (decide (dc_prT 2 v d = 0)) (upd fd (Int32.toNatClampNeg 2) d) fd)))] := by rw [hz9, hT]; rfl
                      rw [hE9] at hP9 hD9
                      exact W.zret (ty := .boolean) (v := 0) hx hb hr (rfl) (fun t ht hW => ⟨⟨_, (), rfl, (by rw [hV]; rfl), by rw [ht]; exact hP9, hD9⟩, hS.F ht⟩) hS.2.2 dn_d_Mod_print_75
          · exact absurd h32 (by decide)
        · exact absurd h17 (by decide)

set_option maxHeartbeats 4000000 in
set_option maxRecDepth 100000 in
theorem rr_chip (l : Launch) (G : va_G) (cA : Nat → ClassId) (mo : Nat) (mf : Nat) (m1 : Nat) (m2 : Nat) (so : Bool) (se : Int64) (sm : Int64) (sc : Int64) (sv : Nat) (ak : Bool) (cw : Int64) (dn : Int32) (an : Nat) (m3 : Nat) (m4 : Nat) (m5 : Nat) (sk : Nat) (m6 : Nat) (m7 : Nat) (m8 : Nat) (m9 : Nat) (t : Nat) (ma : Nat) (mb : Nat) (mc : Nat) (ee : Int64) (em : Int64) (ec : Int64) (mg : Nat) (mz : Nat) (gn : Bool) (c : Int32) (mr : Nat) (mi : Nat) (th : Int32) (zs : Nat → Int32) (n0 : Nat) (n1 : Nat) (n2 : Nat) (n3 : Nat) (x : Int32) (hz : dc_szR zs n0 n1 n2 n3) (hn0 : n0 ≤ 20) (hn1 : n1 ≤ 20) (hn2 : n2 ≤ 20) (hn3 : n3 ≤ 20) (sz : Nat) : Met l dn_y_Mod_chip (.code dn_y_Mod_chip dn_c_Mod_chip 2 (some .int) :: dc_W) ({ frames := 0, cells := 0, slots := 0, locals := 0 }) (dc_pW G cA [(mo, .inr (9, [.ref mf, .ref m1, .ref m2, .int (dc_bI so), .long se, .long sm, .long sc, .int (dc_dn sv), .int (dc_bI ak), .long cw, .int dn, .int (nI an), .ref m3, .ref m4, .ref m5, .int (nI sk), .ref m6, .ref m7, .ref m8, .ref m9, .int (nI t), .ref ma, .ref mb, .ref mc, .long ee, .long em, .long ec, .ref mg, .ref mz, .int (dc_bI gn), .int c, .ref mr, .ref mi, .int th])), (m2, .inl (cA 0, 4, .inl zs))] sz [.ref mo, .int x]) (dc_qi G (fun (r : Int32) (_ : Unit) => r = dc_chipF so ak sv dn n0 n1 n2 n3 x) (fun (_ : Unit) => [(mo, .inr (9, [.ref mf, .ref m1, .ref m2, .int (dc_bI so), .long se, .long sm, .long sc, .int (dc_dn sv), .int (dc_bI ak), .long cw, .int dn, .int (nI an), .ref m3, .ref m4, .ref m5, .int (nI sk), .ref m6, .ref m7, .ref m8, .ref m9, .int (nI t), .ref ma, .ref mb, .ref mc, .long ee, .long em, .long ec, .ref mg, .ref mz, .int (dc_bI gn), .int c, .ref mr, .ref mi, .int 0])), (m2, .inl (cA 0, 4, .inl zs))]) sz [(mo, .inr (9, [.ref mf, .ref m1, .ref m2, .int (dc_bI so), .long se, .long sm, .long sc, .int (dc_dn sv), .int (dc_bI ak), .long cw, .int dn, .int (nI an), .ref m3, .ref m4, .ref m5, .int (nI sk), .ref m6, .ref m7, .ref m8, .ref m9, .int (nI t), .ref ma, .ref mb, .ref mc, .long ee, .long em, .long ec, .ref mg, .ref mz, .int (dc_bI gn), .int c, .ref mr, .ref mi, .int th])), (m2, .inl (cA 0, 4, .inl zs))]) 0 0 (va_A [(mo, .inr (9, [.ref mf, .ref m1, .ref m2, .int (dc_bI so), .long se, .long sm, .long sc, .int (dc_dn sv), .int (dc_bI ak), .long cw, .int dn, .int (nI an), .ref m3, .ref m4, .ref m5, .int (nI sk), .ref m6, .ref m7, .ref m8, .ref m9, .int (nI t), .ref ma, .ref mb, .ref mc, .long ee, .long em, .long ec, .ref mg, .ref mz, .int (dc_bI gn), .int c, .ref mr, .ref mi, .int th])), (m2, .inl (cA 0, 4, .inl zs))] sz) := by
  refine Met.ofW (cc := dn_c_Mod_chip) (maxL := 2) (ret := (some .int)) (by decide) rfl ?_
  intro p9 en9 s m args9 below9 meth9 cd9 s9 B hml hv
  obtain ⟨rfl, hsz, hP, hK0, hD0⟩ := hv
  have hx := B.exec
  have hb := B.bytes
  have hr := B.returns
  have hts : ∀ w ∈ dc_W, w.before _ s = true := fun w h => atoms_spec (ws := (.code dn_y_Mod_chip dn_c_Mod_chip 2 (some .int) :: dc_W)) B.pre w (List.mem_cons_of_mem _ h)
  have hK := hK0.1
  have hN := hK0.2
  have hown : s.vm.findClass dn_R_Mod = some m.cls := findClass_of_methodNamed B.named
  have hlocks := B.notSynchronized
  subst hsz
  have hD := hD0.self (sz := s.heap.size)
  unfold dc_qi
  generalize hAe : va_A [(mo, .inr (9, [.ref mf, .ref m1, .ref m2, .int (dc_bI so), .long se, .long sm, .long sc, .int (dc_dn sv), .int (dc_bI ak), .long cw, .int dn, .int (nI an), .ref m3, .ref m4, .ref m5, .int (nI sk), .ref m6, .ref m7, .ref m8, .ref m9, .int (nI t), .ref ma, .ref mb, .ref mc, .long ee, .long em, .long ec, .ref mg, .ref mz, .int (dc_bI gn), .int c, .ref mr, .ref mi, .int th])), (m2, .inl (cA 0, 4, .inl zs))] s.heap.size = A at hD ⊢
  have hA : ∀ q : Nat, s.heap.size ≤ q → A q := fun q h => by rw [← hAe]; exact Or.inr h
  have hS : va_S A s.heap s.heap [] := va_S.rf
  have hl := lv_entry ([.ref mo, .int x]) (n := 2) (Nat.le_of_ble_eq_true rfl)
  rw [lg_entry_eq]
  generalize (lg_sl ([.ref mo, .int x]) ++ List.replicate (2 - (lg_sl ([.ref mo, .int x])).length) Slot.unset).toArray = ls at hl ⊢
  have hl : lv_has ls 2 [(0, .ref mo), (1, .int x)] := hl
  rcases dc_w8 x with rfl | rfl | rfl | rfl | rfl | rfl | rfl | rfl | hout
  ·
    have hl : lv_has ls 2 [(0, .ref mo), (1, .int 0)] := hl
    have hP : va_P G vwCl [(mo, .inr (9, [.ref mf, .ref m1, .ref m2, .int (dc_bI so), .long se, .long sm, .long sc, .int (dc_dn sv), .int (dc_bI ak), .long cw, .int dn, .int (nI an), .ref m3, .ref m4, .ref m5, .int (nI sk), .ref m6, .ref m7, .ref m8, .ref m9, .int (nI t), .ref ma, .ref mb, .ref mc, .long ee, .long em, .long ec, .ref mg, .ref mz, .int (dc_bI gn), .int c, .ref mr, .ref mi, .int th])), (m2, .inl (cA 0, 4, .inl zs))] s.heap := hP
    have hD : va_D A [(mo, .inr (9, [.ref mf, .ref m1, .ref m2, .int (dc_bI so), .long se, .long sm, .long sc, .int (dc_dn sv), .int (dc_bI ak), .long cw, .int dn, .int (nI an), .ref m3, .ref m4, .ref m5, .int (nI sk), .ref m6, .ref m7, .ref m8, .ref m9, .int (nI t), .ref ma, .ref mb, .ref mc, .long ee, .long em, .long ec, .ref mg, .ref mz, .int (dc_bI gn), .int c, .ref mr, .ref mi, .int th])), (m2, .inl (cA 0, 4, .inl zs))] := hD
    refine lv_aload_n hx hb dn_d_Mod_chip_0 rfl (lv_at hl 0 rfl) ?_
    refine lv_iconst (v := 0) hx hb dn_d_Mod_chip_1 (by decide) ?_
    refine va_put (D := G) (ci := 9) (v := .int 0) (ty := (.int)) (C := dn_R_Mod) (T := dn_T_Mod) (N := 34) hx hb hts (dn_u_Mod) dn_t_Mod dn_o_Mod dn_n_Mod hown hK hP hD hS 0 rfl rfl 33 (by decide) (hts _ dn_w_891) (fun _ h9 => h9) rfl (by decide +kernel) rfl rfl (Nat.le_of_ble_eq_true rfl) dn_d_Mod_chip_2 (fun H locs hP hD hS => ?_)
    have hP : va_P G vwCl [(mo, .inr (9, [.ref mf, .ref m1, .ref m2, .int (dc_bI so), .long se, .long sm, .long sc, .int (dc_dn sv), .int (dc_bI ak), .long cw, .int dn, .int (nI an), .ref m3, .ref m4, .ref m5, .int (nI sk), .ref m6, .ref m7, .ref m8, .ref m9, .int (nI t), .ref ma, .ref mb, .ref mc, .long ee, .long em, .long ec, .ref mg, .ref mz, .int (dc_bI gn), .int c, .ref mr, .ref mi, .int 0])), (m2, .inl (cA 0, 4, .inl zs))] H := hP
    have hD : va_D A [(mo, .inr (9, [.ref mf, .ref m1, .ref m2, .int (dc_bI so), .long se, .long sm, .long sc, .int (dc_dn sv), .int (dc_bI ak), .long cw, .int dn, .int (nI an), .ref m3, .ref m4, .ref m5, .int (nI sk), .ref m6, .ref m7, .ref m8, .ref m9, .int (nI t), .ref ma, .ref mb, .ref mc, .long ee, .long em, .long ec, .ref mg, .ref mz, .int (dc_bI gn), .int c, .ref mr, .ref mi, .int 0])), (m2, .inl (cA 0, 4, .inl zs))] := hD
    refine lv_iload_n hx hb dn_d_Mod_chip_5 rfl (lv_at hl 1 rfl) ?_
    refine lv_tableIn (x := 0) (off := 46) (tgt := 52) hx hb dn_d_Mod_chip_6 (by decide) (by decide) rfl (by decide) ?_
    refine lv_aload_n hx hb dn_d_Mod_chip_52 rfl (lv_at hl 0 rfl) ?_
    refine va_get (D := G) (ci := 9) (v := .int (dc_bI so)) (C := dn_R_Mod) (T := dn_T_Mod) (N := 34) hx hb hts (dn_u_Mod) hown hK hP 0 rfl rfl 3 (by decide) (hts _ dn_w_861) (fun _ h9 => h9) rfl dn_d_Mod_chip_53 ?_
    refine lv_if_eq (tgt := 63) hx hb dn_d_Mod_chip_56 (by decide) (fun h56 => ?_) (fun h56 => ?_)
    · -- 56: so = false
      have h56 : so = false := dc_bI0.1 h56
      refine lv_iconst (v := 0) hx hb dn_d_Mod_chip_63 (by decide) ?_
      have hP9 := hP.sub (ws' := [(mo, .inr (9, [.ref mf, .ref m1, .ref m2, .int (dc_bI so), .long se, .long sm, .long sc, .int (dc_dn sv), .int (dc_bI ak), .long cw, .int dn, .int (nI an), .ref m3, .ref m4, .ref m5, .int (nI sk), .ref m6, .ref m7, .ref m8, .ref m9, .int (nI t), .ref ma, .ref mb, .ref mc, .long ee, .long em, .long ec, .ref mg, .ref mz, .int (dc_bI gn), .int c, .ref mr, .ref mi, .int 0])), (m2, .inl (cA 0, 4, .inl zs))]) [0, 1] rfl
      have hD9 := hD.sub (ws' := [(mo, .inr (9, [.ref mf, .ref m1, .ref m2, .int (dc_bI so), .long se, .long sm, .long sc, .int (dc_dn sv), .int (dc_bI ak), .long cw, .int dn, .int (nI an), .ref m3, .ref m4, .ref m5, .int (nI sk), .ref m6, .ref m7, .ref m8, .ref m9, .int (nI t), .ref ma, .ref mb, .ref mc, .long ee, .long em, .long ec, .ref mg, .ref mz, .int (dc_bI gn), .int c, .ref mr, .ref mi, .int 0])), (m2, .inl (cA 0, 4, .inl zs))]) [0, 1] (by decide) rfl
      exact W.iret (v := 0) hx hb hr (fun t ht hW => ⟨⟨_, (), rfl, (by rw [h56]; rfl), by rw [ht]; exact hP9, hD9⟩, hS.F ht⟩) hS.2.2 dn_d_Mod_chip_64
    · -- 56: so = true
      have h56 : so = true := dc_bI1.1 h56
      refine lv_iconst (v := 1) hx hb dn_d_Mod_chip_59 (by decide) ?_
      refine lv_goto (tgt := 64) hx hb dn_d_Mod_chip_60 (by decide) ?_
      have hP9 := hP.sub (ws' := [(mo, .inr (9, [.ref mf, .ref m1, .ref m2, .int (dc_bI so), .long se, .long sm, .long sc, .int (dc_dn sv), .int (dc_bI ak), .long cw, .int dn, .int (nI an), .ref m3, .ref m4, .ref m5, .int (nI sk), .ref m6, .ref m7, .ref m8, .ref m9, .int (nI t), .ref ma, .ref mb, .ref mc, .long ee, .long em, .long ec, .ref mg, .ref mz, .int (dc_bI gn), .int c, .ref mr, .ref mi, .int 0])), (m2, .inl (cA 0, 4, .inl zs))]) [0, 1] rfl
      have hD9 := hD.sub (ws' := [(mo, .inr (9, [.ref mf, .ref m1, .ref m2, .int (dc_bI so), .long se, .long sm, .long sc, .int (dc_dn sv), .int (dc_bI ak), .long cw, .int dn, .int (nI an), .ref m3, .ref m4, .ref m5, .int (nI sk), .ref m6, .ref m7, .ref m8, .ref m9, .int (nI t), .ref ma, .ref mb, .ref mc, .long ee, .long em, .long ec, .ref mg, .ref mz, .int (dc_bI gn), .int c, .ref mr, .ref mi, .int 0])), (m2, .inl (cA 0, 4, .inl zs))]) [0, 1] (by decide) rfl
      exact W.iret (v := 1) hx hb hr (fun t ht hW => ⟨⟨_, (), rfl, (by rw [h56]; rfl), by rw [ht]; exact hP9, hD9⟩, hS.F ht⟩) hS.2.2 dn_d_Mod_chip_64
  ·
    have hl : lv_has ls 2 [(0, .ref mo), (1, .int 1)] := hl
    have hP : va_P G vwCl [(mo, .inr (9, [.ref mf, .ref m1, .ref m2, .int (dc_bI so), .long se, .long sm, .long sc, .int (dc_dn sv), .int (dc_bI ak), .long cw, .int dn, .int (nI an), .ref m3, .ref m4, .ref m5, .int (nI sk), .ref m6, .ref m7, .ref m8, .ref m9, .int (nI t), .ref ma, .ref mb, .ref mc, .long ee, .long em, .long ec, .ref mg, .ref mz, .int (dc_bI gn), .int c, .ref mr, .ref mi, .int th])), (m2, .inl (cA 0, 4, .inl zs))] s.heap := hP
    have hD : va_D A [(mo, .inr (9, [.ref mf, .ref m1, .ref m2, .int (dc_bI so), .long se, .long sm, .long sc, .int (dc_dn sv), .int (dc_bI ak), .long cw, .int dn, .int (nI an), .ref m3, .ref m4, .ref m5, .int (nI sk), .ref m6, .ref m7, .ref m8, .ref m9, .int (nI t), .ref ma, .ref mb, .ref mc, .long ee, .long em, .long ec, .ref mg, .ref mz, .int (dc_bI gn), .int c, .ref mr, .ref mi, .int th])), (m2, .inl (cA 0, 4, .inl zs))] := hD
    refine lv_aload_n hx hb dn_d_Mod_chip_0 rfl (lv_at hl 0 rfl) ?_
    refine lv_iconst (v := 0) hx hb dn_d_Mod_chip_1 (by decide) ?_
    refine va_put (D := G) (ci := 9) (v := .int 0) (ty := (.int)) (C := dn_R_Mod) (T := dn_T_Mod) (N := 34) hx hb hts (dn_u_Mod) dn_t_Mod dn_o_Mod dn_n_Mod hown hK hP hD hS 0 rfl rfl 33 (by decide) (hts _ dn_w_891) (fun _ h9 => h9) rfl (by decide +kernel) rfl rfl (Nat.le_of_ble_eq_true rfl) dn_d_Mod_chip_2 (fun H locs hP hD hS => ?_)
    have hP : va_P G vwCl [(mo, .inr (9, [.ref mf, .ref m1, .ref m2, .int (dc_bI so), .long se, .long sm, .long sc, .int (dc_dn sv), .int (dc_bI ak), .long cw, .int dn, .int (nI an), .ref m3, .ref m4, .ref m5, .int (nI sk), .ref m6, .ref m7, .ref m8, .ref m9, .int (nI t), .ref ma, .ref mb, .ref mc, .long ee, .long em, .long ec, .ref mg, .ref mz, .int (dc_bI gn), .int c, .ref mr, .ref mi, .int 0])), (m2, .inl (cA 0, 4, .inl zs))] H := hP
    have hD : va_D A [(mo, .inr (9, [.ref mf, .ref m1, .ref m2, .int (dc_bI so), .long se, .long sm, .long sc, .int (dc_dn sv), .int (dc_bI ak), .long cw, .int dn, .int (nI an), .ref m3, .ref m4, .ref m5, .int (nI sk), .ref m6, .ref m7, .ref m8, .ref m9, .int (nI t), .ref ma, .ref mb, .ref mc, .long ee, .long em, .long ec, .ref mg, .ref mz, .int (dc_bI gn), .int c, .ref mr, .ref mi, .int 0])), (m2, .inl (cA 0, 4, .inl zs))] := hD
    refine lv_iload_n hx hb dn_d_Mod_chip_5 rfl (lv_at hl 1 rfl) ?_
    refine lv_tableIn (x := 1) (off := 59) (tgt := 65) hx hb dn_d_Mod_chip_6 (by decide) (by decide) rfl (by decide) ?_
    refine lv_aload_n hx hb dn_d_Mod_chip_65 rfl (lv_at hl 0 rfl) ?_
    refine va_get (D := G) (ci := 9) (v := .int (dc_bI ak)) (C := dn_R_Mod) (T := dn_T_Mod) (N := 34) hx hb hts (dn_u_Mod) hown hK hP 0 rfl rfl 8 (by decide) (hts _ dn_w_866) (fun _ h9 => h9) rfl dn_d_Mod_chip_66 ?_
    refine lv_if_eq (tgt := 76) hx hb dn_d_Mod_chip_69 (by decide) (fun h69 => ?_) (fun h69 => ?_)
    · -- 69: ak = false
      have h69 : ak = false := dc_bI0.1 h69
      refine lv_iconst (v := 0) hx hb dn_d_Mod_chip_76 (by decide) ?_
      have hP9 := hP.sub (ws' := [(mo, .inr (9, [.ref mf, .ref m1, .ref m2, .int (dc_bI so), .long se, .long sm, .long sc, .int (dc_dn sv), .int (dc_bI ak), .long cw, .int dn, .int (nI an), .ref m3, .ref m4, .ref m5, .int (nI sk), .ref m6, .ref m7, .ref m8, .ref m9, .int (nI t), .ref ma, .ref mb, .ref mc, .long ee, .long em, .long ec, .ref mg, .ref mz, .int (dc_bI gn), .int c, .ref mr, .ref mi, .int 0])), (m2, .inl (cA 0, 4, .inl zs))]) [0, 1] rfl
      have hD9 := hD.sub (ws' := [(mo, .inr (9, [.ref mf, .ref m1, .ref m2, .int (dc_bI so), .long se, .long sm, .long sc, .int (dc_dn sv), .int (dc_bI ak), .long cw, .int dn, .int (nI an), .ref m3, .ref m4, .ref m5, .int (nI sk), .ref m6, .ref m7, .ref m8, .ref m9, .int (nI t), .ref ma, .ref mb, .ref mc, .long ee, .long em, .long ec, .ref mg, .ref mz, .int (dc_bI gn), .int c, .ref mr, .ref mi, .int 0])), (m2, .inl (cA 0, 4, .inl zs))]) [0, 1] (by decide) rfl
      exact W.iret (v := 0) hx hb hr (fun t ht hW => ⟨⟨_, (), rfl, (by rw [h69]; rfl), by rw [ht]; exact hP9, hD9⟩, hS.F ht⟩) hS.2.2 dn_d_Mod_chip_77
    · -- 69: ak = true
      have h69 : ak = true := dc_bI1.1 h69
      refine lv_iconst (v := 1) hx hb dn_d_Mod_chip_72 (by decide) ?_
      refine lv_goto (tgt := 77) hx hb dn_d_Mod_chip_73 (by decide) ?_
      have hP9 := hP.sub (ws' := [(mo, .inr (9, [.ref mf, .ref m1, .ref m2, .int (dc_bI so), .long se, .long sm, .long sc, .int (dc_dn sv), .int (dc_bI ak), .long cw, .int dn, .int (nI an), .ref m3, .ref m4, .ref m5, .int (nI sk), .ref m6, .ref m7, .ref m8, .ref m9, .int (nI t), .ref ma, .ref mb, .ref mc, .long ee, .long em, .long ec, .ref mg, .ref mz, .int (dc_bI gn), .int c, .ref mr, .ref mi, .int 0])), (m2, .inl (cA 0, 4, .inl zs))]) [0, 1] rfl
      have hD9 := hD.sub (ws' := [(mo, .inr (9, [.ref mf, .ref m1, .ref m2, .int (dc_bI so), .long se, .long sm, .long sc, .int (dc_dn sv), .int (dc_bI ak), .long cw, .int dn, .int (nI an), .ref m3, .ref m4, .ref m5, .int (nI sk), .ref m6, .ref m7, .ref m8, .ref m9, .int (nI t), .ref ma, .ref mb, .ref mc, .long ee, .long em, .long ec, .ref mg, .ref mz, .int (dc_bI gn), .int c, .ref mr, .ref mi, .int 0])), (m2, .inl (cA 0, 4, .inl zs))]) [0, 1] (by decide) rfl
      exact W.iret (v := 1) hx hb hr (fun t ht hW => ⟨⟨_, (), rfl, (by rw [h69]; rfl), by rw [ht]; exact hP9, hD9⟩, hS.F ht⟩) hS.2.2 dn_d_Mod_chip_77
  ·
    have hl : lv_has ls 2 [(0, .ref mo), (1, .int 2)] := hl
    have hP : va_P G vwCl [(mo, .inr (9, [.ref mf, .ref m1, .ref m2, .int (dc_bI so), .long se, .long sm, .long sc, .int (dc_dn sv), .int (dc_bI ak), .long cw, .int dn, .int (nI an), .ref m3, .ref m4, .ref m5, .int (nI sk), .ref m6, .ref m7, .ref m8, .ref m9, .int (nI t), .ref ma, .ref mb, .ref mc, .long ee, .long em, .long ec, .ref mg, .ref mz, .int (dc_bI gn), .int c, .ref mr, .ref mi, .int th])), (m2, .inl (cA 0, 4, .inl zs))] s.heap := hP
    have hD : va_D A [(mo, .inr (9, [.ref mf, .ref m1, .ref m2, .int (dc_bI so), .long se, .long sm, .long sc, .int (dc_dn sv), .int (dc_bI ak), .long cw, .int dn, .int (nI an), .ref m3, .ref m4, .ref m5, .int (nI sk), .ref m6, .ref m7, .ref m8, .ref m9, .int (nI t), .ref ma, .ref mb, .ref mc, .long ee, .long em, .long ec, .ref mg, .ref mz, .int (dc_bI gn), .int c, .ref mr, .ref mi, .int th])), (m2, .inl (cA 0, 4, .inl zs))] := hD
    refine lv_aload_n hx hb dn_d_Mod_chip_0 rfl (lv_at hl 0 rfl) ?_
    refine lv_iconst (v := 0) hx hb dn_d_Mod_chip_1 (by decide) ?_
    refine va_put (D := G) (ci := 9) (v := .int 0) (ty := (.int)) (C := dn_R_Mod) (T := dn_T_Mod) (N := 34) hx hb hts (dn_u_Mod) dn_t_Mod dn_o_Mod dn_n_Mod hown hK hP hD hS 0 rfl rfl 33 (by decide) (hts _ dn_w_891) (fun _ h9 => h9) rfl (by decide +kernel) rfl rfl (Nat.le_of_ble_eq_true rfl) dn_d_Mod_chip_2 (fun H locs hP hD hS => ?_)
    have hP : va_P G vwCl [(mo, .inr (9, [.ref mf, .ref m1, .ref m2, .int (dc_bI so), .long se, .long sm, .long sc, .int (dc_dn sv), .int (dc_bI ak), .long cw, .int dn, .int (nI an), .ref m3, .ref m4, .ref m5, .int (nI sk), .ref m6, .ref m7, .ref m8, .ref m9, .int (nI t), .ref ma, .ref mb, .ref mc, .long ee, .long em, .long ec, .ref mg, .ref mz, .int (dc_bI gn), .int c, .ref mr, .ref mi, .int 0])), (m2, .inl (cA 0, 4, .inl zs))] H := hP
    have hD : va_D A [(mo, .inr (9, [.ref mf, .ref m1, .ref m2, .int (dc_bI so), .long se, .long sm, .long sc, .int (dc_dn sv), .int (dc_bI ak), .long cw, .int dn, .int (nI an), .ref m3, .ref m4, .ref m5, .int (nI sk), .ref m6, .ref m7, .ref m8, .ref m9, .int (nI t), .ref ma, .ref mb, .ref mc, .long ee, .long em, .long ec, .ref mg, .ref mz, .int (dc_bI gn), .int c, .ref mr, .ref mi, .int 0])), (m2, .inl (cA 0, 4, .inl zs))] := hD
    refine lv_iload_n hx hb dn_d_Mod_chip_5 rfl (lv_at hl 1 rfl) ?_
    refine lv_tableIn (x := 2) (off := 72) (tgt := 78) hx hb dn_d_Mod_chip_6 (by decide) (by decide) rfl (by decide) ?_
    refine lv_aload_n hx hb dn_d_Mod_chip_78 rfl (lv_at hl 0 rfl) ?_
    refine va_get (D := G) (ci := 9) (v := .int (dc_dn sv)) (C := dn_R_Mod) (T := dn_T_Mod) (N := 34) hx hb hts (dn_u_Mod) hown hK hP 0 rfl rfl 7 (by decide) (hts _ dn_w_865) (fun _ h9 => h9) rfl dn_d_Mod_chip_79 ?_
    have hP9 := hP.sub (ws' := [(mo, .inr (9, [.ref mf, .ref m1, .ref m2, .int (dc_bI so), .long se, .long sm, .long sc, .int (dc_dn sv), .int (dc_bI ak), .long cw, .int dn, .int (nI an), .ref m3, .ref m4, .ref m5, .int (nI sk), .ref m6, .ref m7, .ref m8, .ref m9, .int (nI t), .ref ma, .ref mb, .ref mc, .long ee, .long em, .long ec, .ref mg, .ref mz, .int (dc_bI gn), .int c, .ref mr, .ref mi, .int 0])), (m2, .inl (cA 0, 4, .inl zs))]) [0, 1] rfl
    have hD9 := hD.sub (ws' := [(mo, .inr (9, [.ref mf, .ref m1, .ref m2, .int (dc_bI so), .long se, .long sm, .long sc, .int (dc_dn sv), .int (dc_bI ak), .long cw, .int dn, .int (nI an), .ref m3, .ref m4, .ref m5, .int (nI sk), .ref m6, .ref m7, .ref m8, .ref m9, .int (nI t), .ref ma, .ref mb, .ref mc, .long ee, .long em, .long ec, .ref mg, .ref mz, .int (dc_bI gn), .int c, .ref mr, .ref mi, .int 0])), (m2, .inl (cA 0, 4, .inl zs))]) [0, 1] (by decide) rfl
    exact W.iret (v := (dc_dn sv)) hx hb hr (fun t ht hW => ⟨⟨_, (), rfl, (rfl), by rw [ht]; exact hP9, hD9⟩, hS.F ht⟩) hS.2.2 dn_d_Mod_chip_82
  ·
    have hl : lv_has ls 2 [(0, .ref mo), (1, .int 3)] := hl
    have hP : va_P G vwCl [(mo, .inr (9, [.ref mf, .ref m1, .ref m2, .int (dc_bI so), .long se, .long sm, .long sc, .int (dc_dn sv), .int (dc_bI ak), .long cw, .int dn, .int (nI an), .ref m3, .ref m4, .ref m5, .int (nI sk), .ref m6, .ref m7, .ref m8, .ref m9, .int (nI t), .ref ma, .ref mb, .ref mc, .long ee, .long em, .long ec, .ref mg, .ref mz, .int (dc_bI gn), .int c, .ref mr, .ref mi, .int th])), (m2, .inl (cA 0, 4, .inl zs))] s.heap := hP
    have hD : va_D A [(mo, .inr (9, [.ref mf, .ref m1, .ref m2, .int (dc_bI so), .long se, .long sm, .long sc, .int (dc_dn sv), .int (dc_bI ak), .long cw, .int dn, .int (nI an), .ref m3, .ref m4, .ref m5, .int (nI sk), .ref m6, .ref m7, .ref m8, .ref m9, .int (nI t), .ref ma, .ref mb, .ref mc, .long ee, .long em, .long ec, .ref mg, .ref mz, .int (dc_bI gn), .int c, .ref mr, .ref mi, .int th])), (m2, .inl (cA 0, 4, .inl zs))] := hD
    refine lv_aload_n hx hb dn_d_Mod_chip_0 rfl (lv_at hl 0 rfl) ?_
    refine lv_iconst (v := 0) hx hb dn_d_Mod_chip_1 (by decide) ?_
    refine va_put (D := G) (ci := 9) (v := .int 0) (ty := (.int)) (C := dn_R_Mod) (T := dn_T_Mod) (N := 34) hx hb hts (dn_u_Mod) dn_t_Mod dn_o_Mod dn_n_Mod hown hK hP hD hS 0 rfl rfl 33 (by decide) (hts _ dn_w_891) (fun _ h9 => h9) rfl (by decide +kernel) rfl rfl (Nat.le_of_ble_eq_true rfl) dn_d_Mod_chip_2 (fun H locs hP hD hS => ?_)
    have hP : va_P G vwCl [(mo, .inr (9, [.ref mf, .ref m1, .ref m2, .int (dc_bI so), .long se, .long sm, .long sc, .int (dc_dn sv), .int (dc_bI ak), .long cw, .int dn, .int (nI an), .ref m3, .ref m4, .ref m5, .int (nI sk), .ref m6, .ref m7, .ref m8, .ref m9, .int (nI t), .ref ma, .ref mb, .ref mc, .long ee, .long em, .long ec, .ref mg, .ref mz, .int (dc_bI gn), .int c, .ref mr, .ref mi, .int 0])), (m2, .inl (cA 0, 4, .inl zs))] H := hP
    have hD : va_D A [(mo, .inr (9, [.ref mf, .ref m1, .ref m2, .int (dc_bI so), .long se, .long sm, .long sc, .int (dc_dn sv), .int (dc_bI ak), .long cw, .int dn, .int (nI an), .ref m3, .ref m4, .ref m5, .int (nI sk), .ref m6, .ref m7, .ref m8, .ref m9, .int (nI t), .ref ma, .ref mb, .ref mc, .long ee, .long em, .long ec, .ref mg, .ref mz, .int (dc_bI gn), .int c, .ref mr, .ref mi, .int 0])), (m2, .inl (cA 0, 4, .inl zs))] := hD
    refine lv_iload_n hx hb dn_d_Mod_chip_5 rfl (lv_at hl 1 rfl) ?_
    refine lv_tableIn (x := 3) (off := 82) (tgt := 88) hx hb dn_d_Mod_chip_6 (by decide) (by decide) rfl (by decide) ?_
    refine lv_iload_n hx hb dn_d_Mod_chip_88 rfl (lv_at hl 1 rfl) ?_
    refine lv_iconst (v := 3) hx hb dn_d_Mod_chip_89 (by decide) ?_
    refine lv_icmp_lt (tgt := 110) hx hb dn_d_Mod_chip_90 (by decide) (fun h90 => ?_) (fun h90 => ?_)
    · exact absurd h90 (by decide)
    · -- 90: ¬ 3 < 3
      refine lv_iload_n hx hb dn_d_Mod_chip_93 rfl (lv_at hl 1 rfl) ?_
      refine lv_bipush (v := 6) hx hb dn_d_Mod_chip_94 (by decide) ?_
      refine lv_icmp_gt (tgt := 110) hx hb dn_d_Mod_chip_96 (by decide) (fun h96 => ?_) (fun h96 => ?_)
      · exact absurd h96 (by decide)
      · -- 96: ¬ 6 < 3
        refine lv_aload_n hx hb dn_d_Mod_chip_99 rfl (lv_at hl 0 rfl) ?_
        refine va_get (D := G) (ci := 9) (v := .ref m2) (C := dn_R_Mod) (T := dn_T_Mod) (N := 34) hx hb hts (dn_u_Mod) hown hK hP 0 rfl rfl 2 (by decide) (hts _ dn_w_860) (fun _ h9 => h9) rfl dn_d_Mod_chip_100 ?_
        refine lv_iload_n hx hb dn_d_Mod_chip_103 rfl (lv_at hl 1 rfl) ?_
        refine lv_iconst (v := 3) hx hb dn_d_Mod_chip_104 (by decide) ?_
        refine lv_isub hx hb dn_d_Mod_chip_105 ?_
        rw [show (3 : Int32) - (3 : Int32) = (0 : Int32) from rfl]
        refine dc_iald (k := 0) hx hb hK hP 1 rfl (by omega) (by omega) dn_d_Mod_chip_106 ?_
        rw [hz.1]
        refine lv_goto (tgt := 112) hx hb dn_d_Mod_chip_107 (by decide) ?_
        have hP9 := hP.sub (ws' := [(mo, .inr (9, [.ref mf, .ref m1, .ref m2, .int (dc_bI so), .long se, .long sm, .long sc, .int (dc_dn sv), .int (dc_bI ak), .long cw, .int dn, .int (nI an), .ref m3, .ref m4, .ref m5, .int (nI sk), .ref m6, .ref m7, .ref m8, .ref m9, .int (nI t), .ref ma, .ref mb, .ref mc, .long ee, .long em, .long ec, .ref mg, .ref mz, .int (dc_bI gn), .int c, .ref mr, .ref mi, .int 0])), (m2, .inl (cA 0, 4, .inl zs))]) [0, 1] rfl
        have hD9 := hD.sub (ws' := [(mo, .inr (9, [.ref mf, .ref m1, .ref m2, .int (dc_bI so), .long se, .long sm, .long sc, .int (dc_dn sv), .int (dc_bI ak), .long cw, .int dn, .int (nI an), .ref m3, .ref m4, .ref m5, .int (nI sk), .ref m6, .ref m7, .ref m8, .ref m9, .int (nI t), .ref ma, .ref mb, .ref mc, .long ee, .long em, .long ec, .ref mg, .ref mz, .int (dc_bI gn), .int c, .ref mr, .ref mi, .int 0])), (m2, .inl (cA 0, 4, .inl zs))]) [0, 1] (by decide) rfl
        exact W.iret (v := (nI n0)) hx hb hr (fun t ht hW => ⟨⟨_, (), rfl, (rfl), by rw [ht]; exact hP9, hD9⟩, hS.F ht⟩) hS.2.2 dn_d_Mod_chip_112
  ·
    have hl : lv_has ls 2 [(0, .ref mo), (1, .int 4)] := hl
    have hP : va_P G vwCl [(mo, .inr (9, [.ref mf, .ref m1, .ref m2, .int (dc_bI so), .long se, .long sm, .long sc, .int (dc_dn sv), .int (dc_bI ak), .long cw, .int dn, .int (nI an), .ref m3, .ref m4, .ref m5, .int (nI sk), .ref m6, .ref m7, .ref m8, .ref m9, .int (nI t), .ref ma, .ref mb, .ref mc, .long ee, .long em, .long ec, .ref mg, .ref mz, .int (dc_bI gn), .int c, .ref mr, .ref mi, .int th])), (m2, .inl (cA 0, 4, .inl zs))] s.heap := hP
    have hD : va_D A [(mo, .inr (9, [.ref mf, .ref m1, .ref m2, .int (dc_bI so), .long se, .long sm, .long sc, .int (dc_dn sv), .int (dc_bI ak), .long cw, .int dn, .int (nI an), .ref m3, .ref m4, .ref m5, .int (nI sk), .ref m6, .ref m7, .ref m8, .ref m9, .int (nI t), .ref ma, .ref mb, .ref mc, .long ee, .long em, .long ec, .ref mg, .ref mz, .int (dc_bI gn), .int c, .ref mr, .ref mi, .int th])), (m2, .inl (cA 0, 4, .inl zs))] := hD
    refine lv_aload_n hx hb dn_d_Mod_chip_0 rfl (lv_at hl 0 rfl) ?_
    refine lv_iconst (v := 0) hx hb dn_d_Mod_chip_1 (by decide) ?_
    refine va_put (D := G) (ci := 9) (v := .int 0) (ty := (.int)) (C := dn_R_Mod) (T := dn_T_Mod) (N := 34) hx hb hts (dn_u_Mod) dn_t_Mod dn_o_Mod dn_n_Mod hown hK hP hD hS 0 rfl rfl 33 (by decide) (hts _ dn_w_891) (fun _ h9 => h9) rfl (by decide +kernel) rfl rfl (Nat.le_of_ble_eq_true rfl) dn_d_Mod_chip_2 (fun H locs hP hD hS => ?_)
    have hP : va_P G vwCl [(mo, .inr (9, [.ref mf, .ref m1, .ref m2, .int (dc_bI so), .long se, .long sm, .long sc, .int (dc_dn sv), .int (dc_bI ak), .long cw, .int dn, .int (nI an), .ref m3, .ref m4, .ref m5, .int (nI sk), .ref m6, .ref m7, .ref m8, .ref m9, .int (nI t), .ref ma, .ref mb, .ref mc, .long ee, .long em, .long ec, .ref mg, .ref mz, .int (dc_bI gn), .int c, .ref mr, .ref mi, .int 0])), (m2, .inl (cA 0, 4, .inl zs))] H := hP
    have hD : va_D A [(mo, .inr (9, [.ref mf, .ref m1, .ref m2, .int (dc_bI so), .long se, .long sm, .long sc, .int (dc_dn sv), .int (dc_bI ak), .long cw, .int dn, .int (nI an), .ref m3, .ref m4, .ref m5, .int (nI sk), .ref m6, .ref m7, .ref m8, .ref m9, .int (nI t), .ref ma, .ref mb, .ref mc, .long ee, .long em, .long ec, .ref mg, .ref mz, .int (dc_bI gn), .int c, .ref mr, .ref mi, .int 0])), (m2, .inl (cA 0, 4, .inl zs))] := hD
    refine lv_iload_n hx hb dn_d_Mod_chip_5 rfl (lv_at hl 1 rfl) ?_
    refine lv_tableIn (x := 4) (off := 82) (tgt := 88) hx hb dn_d_Mod_chip_6 (by decide) (by decide) rfl (by decide) ?_
    refine lv_iload_n hx hb dn_d_Mod_chip_88 rfl (lv_at hl 1 rfl) ?_
    refine lv_iconst (v := 3) hx hb dn_d_Mod_chip_89 (by decide) ?_
    refine lv_icmp_lt (tgt := 110) hx hb dn_d_Mod_chip_90 (by decide) (fun h90 => ?_) (fun h90 => ?_)
    · exact absurd h90 (by decide)
    · -- 90: ¬ 4 < 3
      refine lv_iload_n hx hb dn_d_Mod_chip_93 rfl (lv_at hl 1 rfl) ?_
      refine lv_bipush (v := 6) hx hb dn_d_Mod_chip_94 (by decide) ?_
      refine lv_icmp_gt (tgt := 110) hx hb dn_d_Mod_chip_96 (by decide) (fun h96 => ?_) (fun h96 => ?_)
      · exact absurd h96 (by decide)
      · -- 96: ¬ 6 < 4
        refine lv_aload_n hx hb dn_d_Mod_chip_99 rfl (lv_at hl 0 rfl) ?_
        refine va_get (D := G) (ci := 9) (v := .ref m2) (C := dn_R_Mod) (T := dn_T_Mod) (N := 34) hx hb hts (dn_u_Mod) hown hK hP 0 rfl rfl 2 (by decide) (hts _ dn_w_860) (fun _ h9 => h9) rfl dn_d_Mod_chip_100 ?_
        refine lv_iload_n hx hb dn_d_Mod_chip_103 rfl (lv_at hl 1 rfl) ?_
        refine lv_iconst (v := 3) hx hb dn_d_Mod_chip_104 (by decide) ?_
        refine lv_isub hx hb dn_d_Mod_chip_105 ?_
        rw [show (4 : Int32) - (3 : Int32) = (1 : Int32) from rfl]
        refine dc_iald (k := 1) hx hb hK hP 1 rfl (by omega) (by omega) dn_d_Mod_chip_106 ?_
        rw [hz.2.1]
        refine lv_goto (tgt := 112) hx hb dn_d_Mod_chip_107 (by decide) ?_
        have hP9 := hP.sub (ws' := [(mo, .inr (9, [.ref mf, .ref m1, .ref m2, .int (dc_bI so), .long se, .long sm, .long sc, .int (dc_dn sv), .int (dc_bI ak), .long cw, .int dn, .int (nI an), .ref m3, .ref m4, .ref m5, .int (nI sk), .ref m6, .ref m7, .ref m8, .ref m9, .int (nI t), .ref ma, .ref mb, .ref mc, .long ee, .long em, .long ec, .ref mg, .ref mz, .int (dc_bI gn), .int c, .ref mr, .ref mi, .int 0])), (m2, .inl (cA 0, 4, .inl zs))]) [0, 1] rfl
        have hD9 := hD.sub (ws' := [(mo, .inr (9, [.ref mf, .ref m1, .ref m2, .int (dc_bI so), .long se, .long sm, .long sc, .int (dc_dn sv), .int (dc_bI ak), .long cw, .int dn, .int (nI an), .ref m3, .ref m4, .ref m5, .int (nI sk), .ref m6, .ref m7, .ref m8, .ref m9, .int (nI t), .ref ma, .ref mb, .ref mc, .long ee, .long em, .long ec, .ref mg, .ref mz, .int (dc_bI gn), .int c, .ref mr, .ref mi, .int 0])), (m2, .inl (cA 0, 4, .inl zs))]) [0, 1] (by decide) rfl
        exact W.iret (v := (nI n1)) hx hb hr (fun t ht hW => ⟨⟨_, (), rfl, (rfl), by rw [ht]; exact hP9, hD9⟩, hS.F ht⟩) hS.2.2 dn_d_Mod_chip_112
  ·
    have hl : lv_has ls 2 [(0, .ref mo), (1, .int 5)] := hl
    have hP : va_P G vwCl [(mo, .inr (9, [.ref mf, .ref m1, .ref m2, .int (dc_bI so), .long se, .long sm, .long sc, .int (dc_dn sv), .int (dc_bI ak), .long cw, .int dn, .int (nI an), .ref m3, .ref m4, .ref m5, .int (nI sk), .ref m6, .ref m7, .ref m8, .ref m9, .int (nI t), .ref ma, .ref mb, .ref mc, .long ee, .long em, .long ec, .ref mg, .ref mz, .int (dc_bI gn), .int c, .ref mr, .ref mi, .int th])), (m2, .inl (cA 0, 4, .inl zs))] s.heap := hP
    have hD : va_D A [(mo, .inr (9, [.ref mf, .ref m1, .ref m2, .int (dc_bI so), .long se, .long sm, .long sc, .int (dc_dn sv), .int (dc_bI ak), .long cw, .int dn, .int (nI an), .ref m3, .ref m4, .ref m5, .int (nI sk), .ref m6, .ref m7, .ref m8, .ref m9, .int (nI t), .ref ma, .ref mb, .ref mc, .long ee, .long em, .long ec, .ref mg, .ref mz, .int (dc_bI gn), .int c, .ref mr, .ref mi, .int th])), (m2, .inl (cA 0, 4, .inl zs))] := hD
    refine lv_aload_n hx hb dn_d_Mod_chip_0 rfl (lv_at hl 0 rfl) ?_
    refine lv_iconst (v := 0) hx hb dn_d_Mod_chip_1 (by decide) ?_
    refine va_put (D := G) (ci := 9) (v := .int 0) (ty := (.int)) (C := dn_R_Mod) (T := dn_T_Mod) (N := 34) hx hb hts (dn_u_Mod) dn_t_Mod dn_o_Mod dn_n_Mod hown hK hP hD hS 0 rfl rfl 33 (by decide) (hts _ dn_w_891) (fun _ h9 => h9) rfl (by decide +kernel) rfl rfl (Nat.le_of_ble_eq_true rfl) dn_d_Mod_chip_2 (fun H locs hP hD hS => ?_)
    have hP : va_P G vwCl [(mo, .inr (9, [.ref mf, .ref m1, .ref m2, .int (dc_bI so), .long se, .long sm, .long sc, .int (dc_dn sv), .int (dc_bI ak), .long cw, .int dn, .int (nI an), .ref m3, .ref m4, .ref m5, .int (nI sk), .ref m6, .ref m7, .ref m8, .ref m9, .int (nI t), .ref ma, .ref mb, .ref mc, .long ee, .long em, .long ec, .ref mg, .ref mz, .int (dc_bI gn), .int c, .ref mr, .ref mi, .int 0])), (m2, .inl (cA 0, 4, .inl zs))] H := hP
    have hD : va_D A [(mo, .inr (9, [.ref mf, .ref m1, .ref m2, .int (dc_bI so), .long se, .long sm, .long sc, .int (dc_dn sv), .int (dc_bI ak), .long cw, .int dn, .int (nI an), .ref m3, .ref m4, .ref m5, .int (nI sk), .ref m6, .ref m7, .ref m8, .ref m9, .int (nI t), .ref ma, .ref mb, .ref mc, .long ee, .long em, .long ec, .ref mg, .ref mz, .int (dc_bI gn), .int c, .ref mr, .ref mi, .int 0])), (m2, .inl (cA 0, 4, .inl zs))] := hD
    refine lv_iload_n hx hb dn_d_Mod_chip_5 rfl (lv_at hl 1 rfl) ?_
    refine lv_tableIn (x := 5) (off := 82) (tgt := 88) hx hb dn_d_Mod_chip_6 (by decide) (by decide) rfl (by decide) ?_
    refine lv_iload_n hx hb dn_d_Mod_chip_88 rfl (lv_at hl 1 rfl) ?_
    refine lv_iconst (v := 3) hx hb dn_d_Mod_chip_89 (by decide) ?_
    refine lv_icmp_lt (tgt := 110) hx hb dn_d_Mod_chip_90 (by decide) (fun h90 => ?_) (fun h90 => ?_)
    · exact absurd h90 (by decide)
    · -- 90: ¬ 5 < 3
      refine lv_iload_n hx hb dn_d_Mod_chip_93 rfl (lv_at hl 1 rfl) ?_
      refine lv_bipush (v := 6) hx hb dn_d_Mod_chip_94 (by decide) ?_
      refine lv_icmp_gt (tgt := 110) hx hb dn_d_Mod_chip_96 (by decide) (fun h96 => ?_) (fun h96 => ?_)
      · exact absurd h96 (by decide)
      · -- 96: ¬ 6 < 5
        refine lv_aload_n hx hb dn_d_Mod_chip_99 rfl (lv_at hl 0 rfl) ?_
        refine va_get (D := G) (ci := 9) (v := .ref m2) (C := dn_R_Mod) (T := dn_T_Mod) (N := 34) hx hb hts (dn_u_Mod) hown hK hP 0 rfl rfl 2 (by decide) (hts _ dn_w_860) (fun _ h9 => h9) rfl dn_d_Mod_chip_100 ?_
        refine lv_iload_n hx hb dn_d_Mod_chip_103 rfl (lv_at hl 1 rfl) ?_
        refine lv_iconst (v := 3) hx hb dn_d_Mod_chip_104 (by decide) ?_
        refine lv_isub hx hb dn_d_Mod_chip_105 ?_
        rw [show (5 : Int32) - (3 : Int32) = (2 : Int32) from rfl]
        refine dc_iald (k := 2) hx hb hK hP 1 rfl (by omega) (by omega) dn_d_Mod_chip_106 ?_
        rw [hz.2.2.1]
        refine lv_goto (tgt := 112) hx hb dn_d_Mod_chip_107 (by decide) ?_
        have hP9 := hP.sub (ws' := [(mo, .inr (9, [.ref mf, .ref m1, .ref m2, .int (dc_bI so), .long se, .long sm, .long sc, .int (dc_dn sv), .int (dc_bI ak), .long cw, .int dn, .int (nI an), .ref m3, .ref m4, .ref m5, .int (nI sk), .ref m6, .ref m7, .ref m8, .ref m9, .int (nI t), .ref ma, .ref mb, .ref mc, .long ee, .long em, .long ec, .ref mg, .ref mz, .int (dc_bI gn), .int c, .ref mr, .ref mi, .int 0])), (m2, .inl (cA 0, 4, .inl zs))]) [0, 1] rfl
        have hD9 := hD.sub (ws' := [(mo, .inr (9, [.ref mf, .ref m1, .ref m2, .int (dc_bI so), .long se, .long sm, .long sc, .int (dc_dn sv), .int (dc_bI ak), .long cw, .int dn, .int (nI an), .ref m3, .ref m4, .ref m5, .int (nI sk), .ref m6, .ref m7, .ref m8, .ref m9, .int (nI t), .ref ma, .ref mb, .ref mc, .long ee, .long em, .long ec, .ref mg, .ref mz, .int (dc_bI gn), .int c, .ref mr, .ref mi, .int 0])), (m2, .inl (cA 0, 4, .inl zs))]) [0, 1] (by decide) rfl
        exact W.iret (v := (nI n2)) hx hb hr (fun t ht hW => ⟨⟨_, (), rfl, (rfl), by rw [ht]; exact hP9, hD9⟩, hS.F ht⟩) hS.2.2 dn_d_Mod_chip_112
  ·
    have hl : lv_has ls 2 [(0, .ref mo), (1, .int 6)] := hl
    have hP : va_P G vwCl [(mo, .inr (9, [.ref mf, .ref m1, .ref m2, .int (dc_bI so), .long se, .long sm, .long sc, .int (dc_dn sv), .int (dc_bI ak), .long cw, .int dn, .int (nI an), .ref m3, .ref m4, .ref m5, .int (nI sk), .ref m6, .ref m7, .ref m8, .ref m9, .int (nI t), .ref ma, .ref mb, .ref mc, .long ee, .long em, .long ec, .ref mg, .ref mz, .int (dc_bI gn), .int c, .ref mr, .ref mi, .int th])), (m2, .inl (cA 0, 4, .inl zs))] s.heap := hP
    have hD : va_D A [(mo, .inr (9, [.ref mf, .ref m1, .ref m2, .int (dc_bI so), .long se, .long sm, .long sc, .int (dc_dn sv), .int (dc_bI ak), .long cw, .int dn, .int (nI an), .ref m3, .ref m4, .ref m5, .int (nI sk), .ref m6, .ref m7, .ref m8, .ref m9, .int (nI t), .ref ma, .ref mb, .ref mc, .long ee, .long em, .long ec, .ref mg, .ref mz, .int (dc_bI gn), .int c, .ref mr, .ref mi, .int th])), (m2, .inl (cA 0, 4, .inl zs))] := hD
    refine lv_aload_n hx hb dn_d_Mod_chip_0 rfl (lv_at hl 0 rfl) ?_
    refine lv_iconst (v := 0) hx hb dn_d_Mod_chip_1 (by decide) ?_
    refine va_put (D := G) (ci := 9) (v := .int 0) (ty := (.int)) (C := dn_R_Mod) (T := dn_T_Mod) (N := 34) hx hb hts (dn_u_Mod) dn_t_Mod dn_o_Mod dn_n_Mod hown hK hP hD hS 0 rfl rfl 33 (by decide) (hts _ dn_w_891) (fun _ h9 => h9) rfl (by decide +kernel) rfl rfl (Nat.le_of_ble_eq_true rfl) dn_d_Mod_chip_2 (fun H locs hP hD hS => ?_)
    have hP : va_P G vwCl [(mo, .inr (9, [.ref mf, .ref m1, .ref m2, .int (dc_bI so), .long se, .long sm, .long sc, .int (dc_dn sv), .int (dc_bI ak), .long cw, .int dn, .int (nI an), .ref m3, .ref m4, .ref m5, .int (nI sk), .ref m6, .ref m7, .ref m8, .ref m9, .int (nI t), .ref ma, .ref mb, .ref mc, .long ee, .long em, .long ec, .ref mg, .ref mz, .int (dc_bI gn), .int c, .ref mr, .ref mi, .int 0])), (m2, .inl (cA 0, 4, .inl zs))] H := hP
    have hD : va_D A [(mo, .inr (9, [.ref mf, .ref m1, .ref m2, .int (dc_bI so), .long se, .long sm, .long sc, .int (dc_dn sv), .int (dc_bI ak), .long cw, .int dn, .int (nI an), .ref m3, .ref m4, .ref m5, .int (nI sk), .ref m6, .ref m7, .ref m8, .ref m9, .int (nI t), .ref ma, .ref mb, .ref mc, .long ee, .long em, .long ec, .ref mg, .ref mz, .int (dc_bI gn), .int c, .ref mr, .ref mi, .int 0])), (m2, .inl (cA 0, 4, .inl zs))] := hD
    refine lv_iload_n hx hb dn_d_Mod_chip_5 rfl (lv_at hl 1 rfl) ?_
    refine lv_tableIn (x := 6) (off := 82) (tgt := 88) hx hb dn_d_Mod_chip_6 (by decide) (by decide) rfl (by decide) ?_
    refine lv_iload_n hx hb dn_d_Mod_chip_88 rfl (lv_at hl 1 rfl) ?_
    refine lv_iconst (v := 3) hx hb dn_d_Mod_chip_89 (by decide) ?_
    refine lv_icmp_lt (tgt := 110) hx hb dn_d_Mod_chip_90 (by decide) (fun h90 => ?_) (fun h90 => ?_)
    · exact absurd h90 (by decide)
    · -- 90: ¬ 6 < 3
      refine lv_iload_n hx hb dn_d_Mod_chip_93 rfl (lv_at hl 1 rfl) ?_
      refine lv_bipush (v := 6) hx hb dn_d_Mod_chip_94 (by decide) ?_
      refine lv_icmp_gt (tgt := 110) hx hb dn_d_Mod_chip_96 (by decide) (fun h96 => ?_) (fun h96 => ?_)
      · exact absurd h96 (by decide)
      · -- 96: ¬ 6 < 6
        refine lv_aload_n hx hb dn_d_Mod_chip_99 rfl (lv_at hl 0 rfl) ?_
        refine va_get (D := G) (ci := 9) (v := .ref m2) (C := dn_R_Mod) (T := dn_T_Mod) (N := 34) hx hb hts (dn_u_Mod) hown hK hP 0 rfl rfl 2 (by decide) (hts _ dn_w_860) (fun _ h9 => h9) rfl dn_d_Mod_chip_100 ?_
        refine lv_iload_n hx hb dn_d_Mod_chip_103 rfl (lv_at hl 1 rfl) ?_
        refine lv_iconst (v := 3) hx hb dn_d_Mod_chip_104 (by decide) ?_
        refine lv_isub hx hb dn_d_Mod_chip_105 ?_
        rw [show (6 : Int32) - (3 : Int32) = (3 : Int32) from rfl]
        refine dc_iald (k := 3) hx hb hK hP 1 rfl (by omega) (by omega) dn_d_Mod_chip_106 ?_
        rw [hz.2.2.2]
        refine lv_goto (tgt := 112) hx hb dn_d_Mod_chip_107 (by decide) ?_
        have hP9 := hP.sub (ws' := [(mo, .inr (9, [.ref mf, .ref m1, .ref m2, .int (dc_bI so), .long se, .long sm, .long sc, .int (dc_dn sv), .int (dc_bI ak), .long cw, .int dn, .int (nI an), .ref m3, .ref m4, .ref m5, .int (nI sk), .ref m6, .ref m7, .ref m8, .ref m9, .int (nI t), .ref ma, .ref mb, .ref mc, .long ee, .long em, .long ec, .ref mg, .ref mz, .int (dc_bI gn), .int c, .ref mr, .ref mi, .int 0])), (m2, .inl (cA 0, 4, .inl zs))]) [0, 1] rfl
        have hD9 := hD.sub (ws' := [(mo, .inr (9, [.ref mf, .ref m1, .ref m2, .int (dc_bI so), .long se, .long sm, .long sc, .int (dc_dn sv), .int (dc_bI ak), .long cw, .int dn, .int (nI an), .ref m3, .ref m4, .ref m5, .int (nI sk), .ref m6, .ref m7, .ref m8, .ref m9, .int (nI t), .ref ma, .ref mb, .ref mc, .long ee, .long em, .long ec, .ref mg, .ref mz, .int (dc_bI gn), .int c, .ref mr, .ref mi, .int 0])), (m2, .inl (cA 0, 4, .inl zs))]) [0, 1] (by decide) rfl
        exact W.iret (v := (nI n3)) hx hb hr (fun t ht hW => ⟨⟨_, (), rfl, (rfl), by rw [ht]; exact hP9, hD9⟩, hS.F ht⟩) hS.2.2 dn_d_Mod_chip_112
  ·
    have hl : lv_has ls 2 [(0, .ref mo), (1, .int 7)] := hl
    have hP : va_P G vwCl [(mo, .inr (9, [.ref mf, .ref m1, .ref m2, .int (dc_bI so), .long se, .long sm, .long sc, .int (dc_dn sv), .int (dc_bI ak), .long cw, .int dn, .int (nI an), .ref m3, .ref m4, .ref m5, .int (nI sk), .ref m6, .ref m7, .ref m8, .ref m9, .int (nI t), .ref ma, .ref mb, .ref mc, .long ee, .long em, .long ec, .ref mg, .ref mz, .int (dc_bI gn), .int c, .ref mr, .ref mi, .int th])), (m2, .inl (cA 0, 4, .inl zs))] s.heap := hP
    have hD : va_D A [(mo, .inr (9, [.ref mf, .ref m1, .ref m2, .int (dc_bI so), .long se, .long sm, .long sc, .int (dc_dn sv), .int (dc_bI ak), .long cw, .int dn, .int (nI an), .ref m3, .ref m4, .ref m5, .int (nI sk), .ref m6, .ref m7, .ref m8, .ref m9, .int (nI t), .ref ma, .ref mb, .ref mc, .long ee, .long em, .long ec, .ref mg, .ref mz, .int (dc_bI gn), .int c, .ref mr, .ref mi, .int th])), (m2, .inl (cA 0, 4, .inl zs))] := hD
    refine lv_aload_n hx hb dn_d_Mod_chip_0 rfl (lv_at hl 0 rfl) ?_
    refine lv_iconst (v := 0) hx hb dn_d_Mod_chip_1 (by decide) ?_
    refine va_put (D := G) (ci := 9) (v := .int 0) (ty := (.int)) (C := dn_R_Mod) (T := dn_T_Mod) (N := 34) hx hb hts (dn_u_Mod) dn_t_Mod dn_o_Mod dn_n_Mod hown hK hP hD hS 0 rfl rfl 33 (by decide) (hts _ dn_w_891) (fun _ h9 => h9) rfl (by decide +kernel) rfl rfl (Nat.le_of_ble_eq_true rfl) dn_d_Mod_chip_2 (fun H locs hP hD hS => ?_)
    have hP : va_P G vwCl [(mo, .inr (9, [.ref mf, .ref m1, .ref m2, .int (dc_bI so), .long se, .long sm, .long sc, .int (dc_dn sv), .int (dc_bI ak), .long cw, .int dn, .int (nI an), .ref m3, .ref m4, .ref m5, .int (nI sk), .ref m6, .ref m7, .ref m8, .ref m9, .int (nI t), .ref ma, .ref mb, .ref mc, .long ee, .long em, .long ec, .ref mg, .ref mz, .int (dc_bI gn), .int c, .ref mr, .ref mi, .int 0])), (m2, .inl (cA 0, 4, .inl zs))] H := hP
    have hD : va_D A [(mo, .inr (9, [.ref mf, .ref m1, .ref m2, .int (dc_bI so), .long se, .long sm, .long sc, .int (dc_dn sv), .int (dc_bI ak), .long cw, .int dn, .int (nI an), .ref m3, .ref m4, .ref m5, .int (nI sk), .ref m6, .ref m7, .ref m8, .ref m9, .int (nI t), .ref ma, .ref mb, .ref mc, .long ee, .long em, .long ec, .ref mg, .ref mz, .int (dc_bI gn), .int c, .ref mr, .ref mi, .int 0])), (m2, .inl (cA 0, 4, .inl zs))] := hD
    refine lv_iload_n hx hb dn_d_Mod_chip_5 rfl (lv_at hl 1 rfl) ?_
    refine lv_tableIn (x := 7) (off := 77) (tgt := 83) hx hb dn_d_Mod_chip_6 (by decide) (by decide) rfl (by decide) ?_
    refine lv_aload_n hx hb dn_d_Mod_chip_83 rfl (lv_at hl 0 rfl) ?_
    refine va_get (D := G) (ci := 9) (v := .int dn) (C := dn_R_Mod) (T := dn_T_Mod) (N := 34) hx hb hts (dn_u_Mod) hown hK hP 0 rfl rfl 10 (by decide) (hts _ dn_w_868) (fun _ h9 => h9) rfl dn_d_Mod_chip_84 ?_
    have hP9 := hP.sub (ws' := [(mo, .inr (9, [.ref mf, .ref m1, .ref m2, .int (dc_bI so), .long se, .long sm, .long sc, .int (dc_dn sv), .int (dc_bI ak), .long cw, .int dn, .int (nI an), .ref m3, .ref m4, .ref m5, .int (nI sk), .ref m6, .ref m7, .ref m8, .ref m9, .int (nI t), .ref ma, .ref mb, .ref mc, .long ee, .long em, .long ec, .ref mg, .ref mz, .int (dc_bI gn), .int c, .ref mr, .ref mi, .int 0])), (m2, .inl (cA 0, 4, .inl zs))]) [0, 1] rfl
    have hD9 := hD.sub (ws' := [(mo, .inr (9, [.ref mf, .ref m1, .ref m2, .int (dc_bI so), .long se, .long sm, .long sc, .int (dc_dn sv), .int (dc_bI ak), .long cw, .int dn, .int (nI an), .ref m3, .ref m4, .ref m5, .int (nI sk), .ref m6, .ref m7, .ref m8, .ref m9, .int (nI t), .ref ma, .ref mb, .ref mc, .long ee, .long em, .long ec, .ref mg, .ref mz, .int (dc_bI gn), .int c, .ref mr, .ref mi, .int 0])), (m2, .inl (cA 0, 4, .inl zs))]) [0, 1] (by decide) rfl
    exact W.iret (v := dn) hx hb hr (fun t ht hW => ⟨⟨_, (), rfl, (rfl), by rw [ht]; exact hP9, hD9⟩, hS.F ht⟩) hS.2.2 dn_d_Mod_chip_87
  ·
    have hl : lv_has ls 2 [(0, .ref mo), (1, .int x)] := hl
    have hP : va_P G vwCl [(mo, .inr (9, [.ref mf, .ref m1, .ref m2, .int (dc_bI so), .long se, .long sm, .long sc, .int (dc_dn sv), .int (dc_bI ak), .long cw, .int dn, .int (nI an), .ref m3, .ref m4, .ref m5, .int (nI sk), .ref m6, .ref m7, .ref m8, .ref m9, .int (nI t), .ref ma, .ref mb, .ref mc, .long ee, .long em, .long ec, .ref mg, .ref mz, .int (dc_bI gn), .int c, .ref mr, .ref mi, .int th])), (m2, .inl (cA 0, 4, .inl zs))] s.heap := hP
    have hD : va_D A [(mo, .inr (9, [.ref mf, .ref m1, .ref m2, .int (dc_bI so), .long se, .long sm, .long sc, .int (dc_dn sv), .int (dc_bI ak), .long cw, .int dn, .int (nI an), .ref m3, .ref m4, .ref m5, .int (nI sk), .ref m6, .ref m7, .ref m8, .ref m9, .int (nI t), .ref ma, .ref mb, .ref mc, .long ee, .long em, .long ec, .ref mg, .ref mz, .int (dc_bI gn), .int c, .ref mr, .ref mi, .int th])), (m2, .inl (cA 0, 4, .inl zs))] := hD
    refine lv_aload_n hx hb dn_d_Mod_chip_0 rfl (lv_at hl 0 rfl) ?_
    refine lv_iconst (v := 0) hx hb dn_d_Mod_chip_1 (by decide) ?_
    refine va_put (D := G) (ci := 9) (v := .int 0) (ty := (.int)) (C := dn_R_Mod) (T := dn_T_Mod) (N := 34) hx hb hts (dn_u_Mod) dn_t_Mod dn_o_Mod dn_n_Mod hown hK hP hD hS 0 rfl rfl 33 (by decide) (hts _ dn_w_891) (fun _ h9 => h9) rfl (by decide +kernel) rfl rfl (Nat.le_of_ble_eq_true rfl) dn_d_Mod_chip_2 (fun H locs hP hD hS => ?_)
    have hP : va_P G vwCl [(mo, .inr (9, [.ref mf, .ref m1, .ref m2, .int (dc_bI so), .long se, .long sm, .long sc, .int (dc_dn sv), .int (dc_bI ak), .long cw, .int dn, .int (nI an), .ref m3, .ref m4, .ref m5, .int (nI sk), .ref m6, .ref m7, .ref m8, .ref m9, .int (nI t), .ref ma, .ref mb, .ref mc, .long ee, .long em, .long ec, .ref mg, .ref mz, .int (dc_bI gn), .int c, .ref mr, .ref mi, .int 0])), (m2, .inl (cA 0, 4, .inl zs))] H := hP
    have hD : va_D A [(mo, .inr (9, [.ref mf, .ref m1, .ref m2, .int (dc_bI so), .long se, .long sm, .long sc, .int (dc_dn sv), .int (dc_bI ak), .long cw, .int dn, .int (nI an), .ref m3, .ref m4, .ref m5, .int (nI sk), .ref m6, .ref m7, .ref m8, .ref m9, .int (nI t), .ref ma, .ref mb, .ref mc, .long ee, .long em, .long ec, .ref mg, .ref mz, .int (dc_bI gn), .int c, .ref mr, .ref mi, .int 0])), (m2, .inl (cA 0, 4, .inl zs))] := hD
    refine lv_iload_n hx hb dn_d_Mod_chip_5 rfl (lv_at hl 1 rfl) ?_
    refine lv_tableOut (tgt := 88) hx hb dn_d_Mod_chip_6 (hout) (by decide) ?_
    refine lv_iload_n hx hb dn_d_Mod_chip_88 rfl (lv_at hl 1 rfl) ?_
    refine lv_iconst (v := 3) hx hb dn_d_Mod_chip_89 (by decide) ?_
    refine lv_icmp_lt (tgt := 110) hx hb dn_d_Mod_chip_90 (by decide) (fun h90 => ?_) (fun h90 => ?_)
    · -- 90: x < 3
      refine lv_bipush (v := (-2)) hx hb dn_d_Mod_chip_110 (by decide) ?_
      have hP9 := hP.sub (ws' := [(mo, .inr (9, [.ref mf, .ref m1, .ref m2, .int (dc_bI so), .long se, .long sm, .long sc, .int (dc_dn sv), .int (dc_bI ak), .long cw, .int dn, .int (nI an), .ref m3, .ref m4, .ref m5, .int (nI sk), .ref m6, .ref m7, .ref m8, .ref m9, .int (nI t), .ref ma, .ref mb, .ref mc, .long ee, .long em, .long ec, .ref mg, .ref mz, .int (dc_bI gn), .int c, .ref mr, .ref mi, .int 0])), (m2, .inl (cA 0, 4, .inl zs))]) [0, 1] rfl
      have hD9 := hD.sub (ws' := [(mo, .inr (9, [.ref mf, .ref m1, .ref m2, .int (dc_bI so), .long se, .long sm, .long sc, .int (dc_dn sv), .int (dc_bI ak), .long cw, .int dn, .int (nI an), .ref m3, .ref m4, .ref m5, .int (nI sk), .ref m6, .ref m7, .ref m8, .ref m9, .int (nI t), .ref ma, .ref mb, .ref mc, .long ee, .long em, .long ec, .ref mg, .ref mz, .int (dc_bI gn), .int c, .ref mr, .ref mi, .int 0])), (m2, .inl (cA 0, 4, .inl zs))]) [0, 1] (by decide) rfl
      exact W.iret (v := (-2)) hx hb hr (fun t ht hW => ⟨⟨_, (), rfl, (dc_chipO hout), by rw [ht]; exact hP9, hD9⟩, hS.F ht⟩) hS.2.2 dn_d_Mod_chip_112
    · -- 90: ¬ x < 3
      refine lv_iload_n hx hb dn_d_Mod_chip_93 rfl (lv_at hl 1 rfl) ?_
      refine lv_bipush (v := 6) hx hb dn_d_Mod_chip_94 (by decide) ?_
      refine lv_icmp_gt (tgt := 110) hx hb dn_d_Mod_chip_96 (by decide) (fun h96 => ?_) (fun h96 => ?_)
      · -- 96: 6 < x
        refine lv_bipush (v := (-2)) hx hb dn_d_Mod_chip_110 (by decide) ?_
        have hP9 := hP.sub (ws' := [(mo, .inr (9, [.ref mf, .ref m1, .ref m2, .int (dc_bI so), .long se, .long sm, .long sc, .int (dc_dn sv), .int (dc_bI ak), .long cw, .int dn, .int (nI an), .ref m3, .ref m4, .ref m5, .int (nI sk), .ref m6, .ref m7, .ref m8, .ref m9, .int (nI t), .ref ma, .ref mb, .ref mc, .long ee, .long em, .long ec, .ref mg, .ref mz, .int (dc_bI gn), .int c, .ref mr, .ref mi, .int 0])), (m2, .inl (cA 0, 4, .inl zs))]) [0, 1] rfl
        have hD9 := hD.sub (ws' := [(mo, .inr (9, [.ref mf, .ref m1, .ref m2, .int (dc_bI so), .long se, .long sm, .long sc, .int (dc_dn sv), .int (dc_bI ak), .long cw, .int dn, .int (nI an), .ref m3, .ref m4, .ref m5, .int (nI sk), .ref m6, .ref m7, .ref m8, .ref m9, .int (nI t), .ref ma, .ref mb, .ref mc, .long ee, .long em, .long ec, .ref mg, .ref mz, .int (dc_bI gn), .int c, .ref mr, .ref mi, .int 0])), (m2, .inl (cA 0, 4, .inl zs))]) [0, 1] (by decide) rfl
        exact W.iret (v := (-2)) hx hb hr (fun t ht hW => ⟨⟨_, (), rfl, (dc_chipO hout), by rw [ht]; exact hP9, hD9⟩, hS.F ht⟩) hS.2.2 dn_d_Mod_chip_112
      · exact absurd h96 (not_not_intro (Int32.not_le.mp (dc_w8a hout h90)))

set_option maxHeartbeats 4000000 in
set_option maxRecDepth 100000 in
theorem cc_chip (l : Launch) (G : va_G) (cA : Nat → ClassId) (o0 : Nat) (hd : Nat) (u1 : Nat) (u2 : Nat) (u3 : Nat) (hc : Nat) (ha : Nat) (hs : Nat) (hf : Nat) (ak : Bool) (cw : Int64) (sv : Nat) (dn : Int32) (cq : Int64) (cj : Int64) (so : Bool) (se : Int64) (sm : Int64) (sc : Int64) (a0 : Nat) (a1 : Nat) (a2 : Nat) (a3 : Nat) (b0 : Nat) (w0 : Nat → Int64) (n0 : Nat) (b1 : Nat) (w1 : Nat → Int64) (n1 : Nat) (b2 : Nat) (w2 : Nat → Int64) (n2 : Nat) (b3 : Nat) (w3 : Nat → Int64) (n3 : Nat) (x : Int32) (hn0 : n0 ≤ 20) (hn1 : n1 ≤ 20) (hn2 : n2 ≤ 20) (hn3 : n3 ≤ 20) : Met l dn_y_Doc_chip (.code dn_y_Doc_chip dn_c_Doc_chip 2 (some .int) :: dc_W) ({ frames := 1, cells := 0, slots := 0, locals := 21 }) (dc_pR G cA [(o0, .inr (0, [.ref hc, .ref hd, .ref u1, .ref u2, .ref u3])), (hc, .inr (2, [.ref ha, .ref hs, .ref hf, .int (dc_bI ak), .long cw, .int (dc_dn sv), .int dn, .long cq, .long cj])), (hs, .inr (6, [.int (dc_bI so), .long se, .long sm, .long sc])), (hf, .inl (cA 2, 4, .inr (.inr (.inr (.inr (dc_q4 a0 a1 a2 a3)))))), (a0, .inr (5, [.ref b0, .int (nI n0)])), (b0, .inl (cA 1, 20, .inr (.inl w0))), (a1, .inr (5, [.ref b1, .int (nI n1)])), (b1, .inl (cA 1, 20, .inr (.inl w1))), (a2, .inr (5, [.ref b2, .int (nI n2)])), (b2, .inl (cA 1, 20, .inr (.inl w2))), (a3, .inr (5, [.ref b3, .int (nI n3)])), (b3, .inl (cA 1, 20, .inr (.inl w3)))] [.ref o0, .int x]) (vp_Si (fun r => r = dc_chipF so ak sv dn n0 n1 n2 n3 x)) 0 0 (fun _ => False) := by
  refine Met.ofW (cc := dn_c_Doc_chip) (maxL := 2) (ret := (some .int)) (by decide) rfl ?_
  intro p9 en9 s m args9 below9 meth9 cd9 s9 B hml hv
  obtain ⟨rfl, hP, hK0⟩ := hv
  have hx := B.exec
  have hb := B.bytes
  have hr := B.returns
  have hts : ∀ w ∈ dc_W, w.before _ s = true := fun w h => atoms_spec (ws := (.code dn_y_Doc_chip dn_c_Doc_chip 2 (some .int) :: dc_W)) B.pre w (List.mem_cons_of_mem _ h)
  have hK := hK0.1
  have hN := hK0.2
  have hown : s.vm.findClass dn_R_Doc = some m.cls := findClass_of_methodNamed B.named
  have hlocks := B.notSynchronized
  have hl := lv_entry ([.ref o0, .int x]) (n := 2) (Nat.le_of_ble_eq_true rfl)
  rw [lg_entry_eq]
  generalize (lg_sl ([.ref o0, .int x]) ++ List.replicate (2 - (lg_sl ([.ref o0, .int x])).length) Slot.unset).toArray = ls at hl ⊢
  have hl : lv_has ls 2 [(0, .ref o0), (1, .int x)] := hl
  rcases dc_w8 x with rfl | rfl | rfl | rfl | rfl | rfl | rfl | rfl | hout
  ·
    have hl : lv_has ls 2 [(0, .ref o0), (1, .int 0)] := hl
    refine lv_iload_n hx hb dn_d_Doc_chip_0 rfl (lv_at hl 1 rfl) ?_
    refine lv_tableIn (x := 0) (off := 47) (tgt := 48) hx hb dn_d_Doc_chip_1 (by decide) (by decide) rfl (by decide) ?_
    refine lv_aload_n hx hb dn_d_Doc_chip_48 rfl (lv_at hl 0 rfl) ?_
    refine va_get (D := G) (ci := 0) (v := .ref hc) (C := dn_R_Doc) (T := dn_T_Doc) (N := 5) hx hb hts (dn_u_Doc) hown hK hP 0 rfl rfl 0 (by decide) (hts _ dn_w_280) (fun _ h9 => h9) rfl dn_d_Doc_chip_49 ?_
    refine va_getN (D := G) (ci := 2) (v := .ref hs) (C := dn_R_Chip) (T := dn_T_Chip) (N := 9) hx hb hts (dn_u_Chip) hown hK hP 1 rfl rfl 1 (by decide) (va_Nw.use rfl (hN.1 ("DocumentChip", 238, "DocumentChip$Chip", "session", "LDocumentChip$Session;") (by decide +kernel))) (fun _ h9 => h9) rfl dn_d_Doc_chip_52 ?_
    refine va_getN (D := G) (ci := 6) (v := .int (dc_bI so)) (C := dn_R_Session) (T := dn_T_Session) (N := 4) hx hb hts (dn_u_Session) hown hK hP 2 rfl rfl 0 (by decide) (va_Nw.use rfl (hN.1 ("DocumentChip", 242, "DocumentChip$Session", "open", "Z") (by decide +kernel))) (fun _ h9 => h9) rfl dn_d_Doc_chip_55 ?_
    refine lv_if_eq (tgt := 65) hx hb dn_d_Doc_chip_58 (by decide) (fun h58 => ?_) (fun h58 => ?_)
    · -- 58: so = false
      have h58 : so = false := dc_bI0.1 h58
      refine lv_iconst (v := 0) hx hb dn_d_Doc_chip_65 (by decide) ?_
      exact W.iret (v := 0) hx hb hr (fun t ht hW => ⟨_, rfl, (by rw [h58]; rfl), ht⟩) (fun q h => by cases h) dn_d_Doc_chip_66
    · -- 58: so = true
      have h58 : so = true := dc_bI1.1 h58
      refine lv_iconst (v := 1) hx hb dn_d_Doc_chip_61 (by decide) ?_
      refine lv_goto (tgt := 66) hx hb dn_d_Doc_chip_62 (by decide) ?_
      exact W.iret (v := 1) hx hb hr (fun t ht hW => ⟨_, rfl, (by rw [h58]; rfl), ht⟩) (fun q h => by cases h) dn_d_Doc_chip_66
  ·
    have hl : lv_has ls 2 [(0, .ref o0), (1, .int 1)] := hl
    refine lv_iload_n hx hb dn_d_Doc_chip_0 rfl (lv_at hl 1 rfl) ?_
    refine lv_tableIn (x := 1) (off := 66) (tgt := 67) hx hb dn_d_Doc_chip_1 (by decide) (by decide) rfl (by decide) ?_
    refine lv_aload_n hx hb dn_d_Doc_chip_67 rfl (lv_at hl 0 rfl) ?_
    refine va_get (D := G) (ci := 0) (v := .ref hc) (C := dn_R_Doc) (T := dn_T_Doc) (N := 5) hx hb hts (dn_u_Doc) hown hK hP 0 rfl rfl 0 (by decide) (hts _ dn_w_280) (fun _ h9 => h9) rfl dn_d_Doc_chip_68 ?_
    refine va_getN (D := G) (ci := 2) (v := .int (dc_bI ak)) (C := dn_R_Chip) (T := dn_T_Chip) (N := 9) hx hb hts (dn_u_Chip) hown hK hP 1 rfl rfl 3 (by decide) (va_Nw.use rfl (hN.1 ("DocumentChip", 204, "DocumentChip$Chip", "asked", "Z") (by decide +kernel))) (fun _ h9 => h9) rfl dn_d_Doc_chip_71 ?_
    refine lv_if_eq (tgt := 81) hx hb dn_d_Doc_chip_74 (by decide) (fun h74 => ?_) (fun h74 => ?_)
    · -- 74: ak = false
      have h74 : ak = false := dc_bI0.1 h74
      refine lv_iconst (v := 0) hx hb dn_d_Doc_chip_81 (by decide) ?_
      exact W.iret (v := 0) hx hb hr (fun t ht hW => ⟨_, rfl, (by rw [h74]; rfl), ht⟩) (fun q h => by cases h) dn_d_Doc_chip_82
    · -- 74: ak = true
      have h74 : ak = true := dc_bI1.1 h74
      refine lv_iconst (v := 1) hx hb dn_d_Doc_chip_77 (by decide) ?_
      refine lv_goto (tgt := 82) hx hb dn_d_Doc_chip_78 (by decide) ?_
      exact W.iret (v := 1) hx hb hr (fun t ht hW => ⟨_, rfl, (by rw [h74]; rfl), ht⟩) (fun q h => by cases h) dn_d_Doc_chip_82
  ·
    have hl : lv_has ls 2 [(0, .ref o0), (1, .int 2)] := hl
    refine lv_iload_n hx hb dn_d_Doc_chip_0 rfl (lv_at hl 1 rfl) ?_
    refine lv_tableIn (x := 2) (off := 82) (tgt := 83) hx hb dn_d_Doc_chip_1 (by decide) (by decide) rfl (by decide) ?_
    refine lv_aload_n hx hb dn_d_Doc_chip_83 rfl (lv_at hl 0 rfl) ?_
    refine va_get (D := G) (ci := 0) (v := .ref hc) (C := dn_R_Doc) (T := dn_T_Doc) (N := 5) hx hb hts (dn_u_Doc) hown hK hP 0 rfl rfl 0 (by decide) (hts _ dn_w_280) (fun _ h9 => h9) rfl dn_d_Doc_chip_84 ?_
    refine va_getN (D := G) (ci := 2) (v := .int (dc_dn sv)) (C := dn_R_Chip) (T := dn_T_Chip) (N := 9) hx hb hts (dn_u_Chip) hown hK hP 1 rfl rfl 5 (by decide) (va_Nw.use rfl (hN.1 ("DocumentChip", 253, "DocumentChip$Chip", "selected", "I") (by decide +kernel))) (fun _ h9 => h9) rfl dn_d_Doc_chip_87 ?_
    exact W.iret (v := (dc_dn sv)) hx hb hr (fun t ht hW => ⟨_, rfl, (rfl), ht⟩) (fun q h => by cases h) dn_d_Doc_chip_90
  ·
    have hl : lv_has ls 2 [(0, .ref o0), (1, .int 3)] := hl
    refine lv_iload_n hx hb dn_d_Doc_chip_0 rfl (lv_at hl 1 rfl) ?_
    refine lv_tableIn (x := 3) (off := 98) (tgt := 99) hx hb dn_d_Doc_chip_1 (by decide) (by decide) rfl (by decide) ?_
    refine lv_iload_n hx hb dn_d_Doc_chip_99 rfl (lv_at hl 1 rfl) ?_
    refine lv_iconst (v := 3) hx hb dn_d_Doc_chip_100 (by decide) ?_
    refine lv_isub hx hb dn_d_Doc_chip_101 ?_
    rw [show (3 : Int32) - (3 : Int32) = (0 : Int32) from rfl]
    refine lv_i2l (v := (0 : Int32).toInt64) hx hb dn_d_Doc_chip_102 rfl ?_
    rw [show (0 : Int32).toInt64 = lN 0 from rfl]
    refine vp_callSi (va_Run.run (va_runS (As := [.long (lN 0)]) (rest := []) ⟨hx, hb, hml, hown, hts⟩ (cc_isFile l (lN 0) ) ⟨(callB_of 1 hts (dc_good dn_w_508) rfl rfl rfl (hts _ dn_w_1) (hts _ dn_w_594) (by decide +kernel) ⟨Nat.le_of_ble_eq_true rfl, Nat.le_of_ble_eq_true rfl⟩), (hts _ dn_w_507)⟩ preEq rfl rfl hl.1 rfl (lv_room (Nat.le_of_ble_eq_true rfl)) dn_d_Doc_chip_103 ⟨Nat.le_of_ble_eq_true rfl, Nat.le_of_ble_eq_true rfl⟩)) (fun r9 hr9 => ?_)
    subst hr9
    refine lv_if_eq (tgt := 126) hx hb dn_d_Doc_chip_106 (by decide) (fun h106 => ?_) (fun h106 => ?_)
    · exact absurd (show (dc_isFile (lN 0)) = false from dc_bI0.1 h106) (by decide)
    · -- 106: (dc_isFile (lN 0)) = true
      have h106 : (dc_isFile (lN 0)) = true := dc_bI1.1 h106
      refine lv_aload_n hx hb dn_d_Doc_chip_109 rfl (lv_at hl 0 rfl) ?_
      refine va_get (D := G) (ci := 0) (v := .ref hc) (C := dn_R_Doc) (T := dn_T_Doc) (N := 5) hx hb hts (dn_u_Doc) hown hK hP 0 rfl rfl 0 (by decide) (hts _ dn_w_280) (fun _ h9 => h9) rfl dn_d_Doc_chip_110 ?_
      refine va_getN (D := G) (ci := 2) (v := .ref hf) (C := dn_R_Chip) (T := dn_T_Chip) (N := 9) hx hb hts (dn_u_Chip) hown hK hP 1 rfl rfl 2 (by decide) (va_Nw.use rfl (hN.1 ("DocumentChip", 64, "DocumentChip$Chip", "files", "[LDocumentChip$Row;") (by decide +kernel))) (fun _ h9 => h9) rfl dn_d_Doc_chip_113 ?_
      refine lv_iload_n hx hb dn_d_Doc_chip_116 rfl (lv_at hl 1 rfl) ?_
      refine lv_iconst (v := 3) hx hb dn_d_Doc_chip_117 (by decide) ?_
      refine lv_isub hx hb dn_d_Doc_chip_118 ?_
      rw [show (3 : Int32) - (3 : Int32) = (0 : Int32) from rfl]
      refine dc_aldq (k := 0) hx hb hK hP 3 rfl (by omega) (by omega) dn_d_Doc_chip_119 ?_
      refine W.eq (g2 := F0 m 120 ls (.ref a0 :: [])) rfl ?_
      refine vp_callSi (va_Run.run (va_runV (b := a0) (As := []) (rest := []) ⟨hx, hb, hml, hown, hts⟩ (cc_size l G cA w0 n0 20 a0 b0 ) ⟨(callB_of 0 hts (dc_good dn_w_334) rfl rfl rfl (hts _ dn_w_2) (hts _ dn_w_595) (by decide +kernel) ⟨Nat.le_of_ble_eq_true rfl, Nat.le_of_ble_eq_true rfl⟩), (hts _ dn_w_332), (hts _ dn_w_333)⟩ (dc_preVR (hP.sub [4, 5] rfl) hK0 (q0 := 0) rfl rfl) rfl rfl hl.1 rfl (lv_room (Nat.le_of_ble_eq_true rfl)) dn_d_Doc_chip_120 ⟨Nat.le_of_ble_eq_true rfl, Nat.le_of_ble_eq_true rfl⟩)) (fun r9 hr9 => ?_)
      subst hr9
      refine lv_goto (tgt := 128) hx hb dn_d_Doc_chip_123 (by decide) ?_
      exact W.iret (v := (nI n0)) hx hb hr (fun t ht hW => ⟨_, rfl, (rfl), ht⟩) (fun q h => by cases h) dn_d_Doc_chip_128
  ·
    have hl : lv_has ls 2 [(0, .ref o0), (1, .int 4)] := hl
    refine lv_iload_n hx hb dn_d_Doc_chip_0 rfl (lv_at hl 1 rfl) ?_
    refine lv_tableIn (x := 4) (off := 98) (tgt := 99) hx hb dn_d_Doc_chip_1 (by decide) (by decide) rfl (by decide) ?_
    refine lv_iload_n hx hb dn_d_Doc_chip_99 rfl (lv_at hl 1 rfl) ?_
    refine lv_iconst (v := 3) hx hb dn_d_Doc_chip_100 (by decide) ?_
    refine lv_isub hx hb dn_d_Doc_chip_101 ?_
    rw [show (4 : Int32) - (3 : Int32) = (1 : Int32) from rfl]
    refine lv_i2l (v := (1 : Int32).toInt64) hx hb dn_d_Doc_chip_102 rfl ?_
    rw [show (1 : Int32).toInt64 = lN 1 from rfl]
    refine vp_callSi (va_Run.run (va_runS (As := [.long (lN 1)]) (rest := []) ⟨hx, hb, hml, hown, hts⟩ (cc_isFile l (lN 1) ) ⟨(callB_of 1 hts (dc_good dn_w_508) rfl rfl rfl (hts _ dn_w_1) (hts _ dn_w_594) (by decide +kernel) ⟨Nat.le_of_ble_eq_true rfl, Nat.le_of_ble_eq_true rfl⟩), (hts _ dn_w_507)⟩ preEq rfl rfl hl.1 rfl (lv_room (Nat.le_of_ble_eq_true rfl)) dn_d_Doc_chip_103 ⟨Nat.le_of_ble_eq_true rfl, Nat.le_of_ble_eq_true rfl⟩)) (fun r9 hr9 => ?_)
    subst hr9
    refine lv_if_eq (tgt := 126) hx hb dn_d_Doc_chip_106 (by decide) (fun h106 => ?_) (fun h106 => ?_)
    · exact absurd (show (dc_isFile (lN 1)) = false from dc_bI0.1 h106) (by decide)
    · -- 106: (dc_isFile (lN 1)) = true
      have h106 : (dc_isFile (lN 1)) = true := dc_bI1.1 h106
      refine lv_aload_n hx hb dn_d_Doc_chip_109 rfl (lv_at hl 0 rfl) ?_
      refine va_get (D := G) (ci := 0) (v := .ref hc) (C := dn_R_Doc) (T := dn_T_Doc) (N := 5) hx hb hts (dn_u_Doc) hown hK hP 0 rfl rfl 0 (by decide) (hts _ dn_w_280) (fun _ h9 => h9) rfl dn_d_Doc_chip_110 ?_
      refine va_getN (D := G) (ci := 2) (v := .ref hf) (C := dn_R_Chip) (T := dn_T_Chip) (N := 9) hx hb hts (dn_u_Chip) hown hK hP 1 rfl rfl 2 (by decide) (va_Nw.use rfl (hN.1 ("DocumentChip", 64, "DocumentChip$Chip", "files", "[LDocumentChip$Row;") (by decide +kernel))) (fun _ h9 => h9) rfl dn_d_Doc_chip_113 ?_
      refine lv_iload_n hx hb dn_d_Doc_chip_116 rfl (lv_at hl 1 rfl) ?_
      refine lv_iconst (v := 3) hx hb dn_d_Doc_chip_117 (by decide) ?_
      refine lv_isub hx hb dn_d_Doc_chip_118 ?_
      rw [show (4 : Int32) - (3 : Int32) = (1 : Int32) from rfl]
      refine dc_aldq (k := 1) hx hb hK hP 3 rfl (by omega) (by omega) dn_d_Doc_chip_119 ?_
      refine W.eq (g2 := F0 m 120 ls (.ref a1 :: [])) rfl ?_
      refine vp_callSi (va_Run.run (va_runV (b := a1) (As := []) (rest := []) ⟨hx, hb, hml, hown, hts⟩ (cc_size l G cA w1 n1 20 a1 b1 ) ⟨(callB_of 0 hts (dc_good dn_w_334) rfl rfl rfl (hts _ dn_w_2) (hts _ dn_w_595) (by decide +kernel) ⟨Nat.le_of_ble_eq_true rfl, Nat.le_of_ble_eq_true rfl⟩), (hts _ dn_w_332), (hts _ dn_w_333)⟩ (dc_preVR (hP.sub [6, 7] rfl) hK0 (q0 := 0) rfl rfl) rfl rfl hl.1 rfl (lv_room (Nat.le_of_ble_eq_true rfl)) dn_d_Doc_chip_120 ⟨Nat.le_of_ble_eq_true rfl, Nat.le_of_ble_eq_true rfl⟩)) (fun r9 hr9 => ?_)
      subst hr9
      refine lv_goto (tgt := 128) hx hb dn_d_Doc_chip_123 (by decide) ?_
      exact W.iret (v := (nI n1)) hx hb hr (fun t ht hW => ⟨_, rfl, (rfl), ht⟩) (fun q h => by cases h) dn_d_Doc_chip_128
  ·
    have hl : lv_has ls 2 [(0, .ref o0), (1, .int 5)] := hl
    refine lv_iload_n hx hb dn_d_Doc_chip_0 rfl (lv_at hl 1 rfl) ?_
    refine lv_tableIn (x := 5) (off := 98) (tgt := 99) hx hb dn_d_Doc_chip_1 (by decide) (by decide) rfl (by decide) ?_
    refine lv_iload_n hx hb dn_d_Doc_chip_99 rfl (lv_at hl 1 rfl) ?_
    refine lv_iconst (v := 3) hx hb dn_d_Doc_chip_100 (by decide) ?_
    refine lv_isub hx hb dn_d_Doc_chip_101 ?_
    rw [show (5 : Int32) - (3 : Int32) = (2 : Int32) from rfl]
    refine lv_i2l (v := (2 : Int32).toInt64) hx hb dn_d_Doc_chip_102 rfl ?_
    rw [show (2 : Int32).toInt64 = lN 2 from rfl]
    refine vp_callSi (va_Run.run (va_runS (As := [.long (lN 2)]) (rest := []) ⟨hx, hb, hml, hown, hts⟩ (cc_isFile l (lN 2) ) ⟨(callB_of 1 hts (dc_good dn_w_508) rfl rfl rfl (hts _ dn_w_1) (hts _ dn_w_594) (by decide +kernel) ⟨Nat.le_of_ble_eq_true rfl, Nat.le_of_ble_eq_true rfl⟩), (hts _ dn_w_507)⟩ preEq rfl rfl hl.1 rfl (lv_room (Nat.le_of_ble_eq_true rfl)) dn_d_Doc_chip_103 ⟨Nat.le_of_ble_eq_true rfl, Nat.le_of_ble_eq_true rfl⟩)) (fun r9 hr9 => ?_)
    subst hr9
    refine lv_if_eq (tgt := 126) hx hb dn_d_Doc_chip_106 (by decide) (fun h106 => ?_) (fun h106 => ?_)
    · exact absurd (show (dc_isFile (lN 2)) = false from dc_bI0.1 h106) (by decide)
    · -- 106: (dc_isFile (lN 2)) = true
      have h106 : (dc_isFile (lN 2)) = true := dc_bI1.1 h106
      refine lv_aload_n hx hb dn_d_Doc_chip_109 rfl (lv_at hl 0 rfl) ?_
      refine va_get (D := G) (ci := 0) (v := .ref hc) (C := dn_R_Doc) (T := dn_T_Doc) (N := 5) hx hb hts (dn_u_Doc) hown hK hP 0 rfl rfl 0 (by decide) (hts _ dn_w_280) (fun _ h9 => h9) rfl dn_d_Doc_chip_110 ?_
      refine va_getN (D := G) (ci := 2) (v := .ref hf) (C := dn_R_Chip) (T := dn_T_Chip) (N := 9) hx hb hts (dn_u_Chip) hown hK hP 1 rfl rfl 2 (by decide) (va_Nw.use rfl (hN.1 ("DocumentChip", 64, "DocumentChip$Chip", "files", "[LDocumentChip$Row;") (by decide +kernel))) (fun _ h9 => h9) rfl dn_d_Doc_chip_113 ?_
      refine lv_iload_n hx hb dn_d_Doc_chip_116 rfl (lv_at hl 1 rfl) ?_
      refine lv_iconst (v := 3) hx hb dn_d_Doc_chip_117 (by decide) ?_
      refine lv_isub hx hb dn_d_Doc_chip_118 ?_
      rw [show (5 : Int32) - (3 : Int32) = (2 : Int32) from rfl]
      refine dc_aldq (k := 2) hx hb hK hP 3 rfl (by omega) (by omega) dn_d_Doc_chip_119 ?_
      refine W.eq (g2 := F0 m 120 ls (.ref a2 :: [])) rfl ?_
      refine vp_callSi (va_Run.run (va_runV (b := a2) (As := []) (rest := []) ⟨hx, hb, hml, hown, hts⟩ (cc_size l G cA w2 n2 20 a2 b2 ) ⟨(callB_of 0 hts (dc_good dn_w_334) rfl rfl rfl (hts _ dn_w_2) (hts _ dn_w_595) (by decide +kernel) ⟨Nat.le_of_ble_eq_true rfl, Nat.le_of_ble_eq_true rfl⟩), (hts _ dn_w_332), (hts _ dn_w_333)⟩ (dc_preVR (hP.sub [8, 9] rfl) hK0 (q0 := 0) rfl rfl) rfl rfl hl.1 rfl (lv_room (Nat.le_of_ble_eq_true rfl)) dn_d_Doc_chip_120 ⟨Nat.le_of_ble_eq_true rfl, Nat.le_of_ble_eq_true rfl⟩)) (fun r9 hr9 => ?_)
      subst hr9
      refine lv_goto (tgt := 128) hx hb dn_d_Doc_chip_123 (by decide) ?_
      exact W.iret (v := (nI n2)) hx hb hr (fun t ht hW => ⟨_, rfl, (rfl), ht⟩) (fun q h => by cases h) dn_d_Doc_chip_128
  ·
    have hl : lv_has ls 2 [(0, .ref o0), (1, .int 6)] := hl
    refine lv_iload_n hx hb dn_d_Doc_chip_0 rfl (lv_at hl 1 rfl) ?_
    refine lv_tableIn (x := 6) (off := 98) (tgt := 99) hx hb dn_d_Doc_chip_1 (by decide) (by decide) rfl (by decide) ?_
    refine lv_iload_n hx hb dn_d_Doc_chip_99 rfl (lv_at hl 1 rfl) ?_
    refine lv_iconst (v := 3) hx hb dn_d_Doc_chip_100 (by decide) ?_
    refine lv_isub hx hb dn_d_Doc_chip_101 ?_
    rw [show (6 : Int32) - (3 : Int32) = (3 : Int32) from rfl]
    refine lv_i2l (v := (3 : Int32).toInt64) hx hb dn_d_Doc_chip_102 rfl ?_
    rw [show (3 : Int32).toInt64 = lN 3 from rfl]
    refine vp_callSi (va_Run.run (va_runS (As := [.long (lN 3)]) (rest := []) ⟨hx, hb, hml, hown, hts⟩ (cc_isFile l (lN 3) ) ⟨(callB_of 1 hts (dc_good dn_w_508) rfl rfl rfl (hts _ dn_w_1) (hts _ dn_w_594) (by decide +kernel) ⟨Nat.le_of_ble_eq_true rfl, Nat.le_of_ble_eq_true rfl⟩), (hts _ dn_w_507)⟩ preEq rfl rfl hl.1 rfl (lv_room (Nat.le_of_ble_eq_true rfl)) dn_d_Doc_chip_103 ⟨Nat.le_of_ble_eq_true rfl, Nat.le_of_ble_eq_true rfl⟩)) (fun r9 hr9 => ?_)
    subst hr9
    refine lv_if_eq (tgt := 126) hx hb dn_d_Doc_chip_106 (by decide) (fun h106 => ?_) (fun h106 => ?_)
    · exact absurd (show (dc_isFile (lN 3)) = false from dc_bI0.1 h106) (by decide)
    · -- 106: (dc_isFile (lN 3)) = true
      have h106 : (dc_isFile (lN 3)) = true := dc_bI1.1 h106
      refine lv_aload_n hx hb dn_d_Doc_chip_109 rfl (lv_at hl 0 rfl) ?_
      refine va_get (D := G) (ci := 0) (v := .ref hc) (C := dn_R_Doc) (T := dn_T_Doc) (N := 5) hx hb hts (dn_u_Doc) hown hK hP 0 rfl rfl 0 (by decide) (hts _ dn_w_280) (fun _ h9 => h9) rfl dn_d_Doc_chip_110 ?_
      refine va_getN (D := G) (ci := 2) (v := .ref hf) (C := dn_R_Chip) (T := dn_T_Chip) (N := 9) hx hb hts (dn_u_Chip) hown hK hP 1 rfl rfl 2 (by decide) (va_Nw.use rfl (hN.1 ("DocumentChip", 64, "DocumentChip$Chip", "files", "[LDocumentChip$Row;") (by decide +kernel))) (fun _ h9 => h9) rfl dn_d_Doc_chip_113 ?_
      refine lv_iload_n hx hb dn_d_Doc_chip_116 rfl (lv_at hl 1 rfl) ?_
      refine lv_iconst (v := 3) hx hb dn_d_Doc_chip_117 (by decide) ?_
      refine lv_isub hx hb dn_d_Doc_chip_118 ?_
      rw [show (6 : Int32) - (3 : Int32) = (3 : Int32) from rfl]
      refine dc_aldq (k := 3) hx hb hK hP 3 rfl (by omega) (by omega) dn_d_Doc_chip_119 ?_
      refine W.eq (g2 := F0 m 120 ls (.ref a3 :: [])) rfl ?_
      refine vp_callSi (va_Run.run (va_runV (b := a3) (As := []) (rest := []) ⟨hx, hb, hml, hown, hts⟩ (cc_size l G cA w3 n3 20 a3 b3 ) ⟨(callB_of 0 hts (dc_good dn_w_334) rfl rfl rfl (hts _ dn_w_2) (hts _ dn_w_595) (by decide +kernel) ⟨Nat.le_of_ble_eq_true rfl, Nat.le_of_ble_eq_true rfl⟩), (hts _ dn_w_332), (hts _ dn_w_333)⟩ (dc_preVR (hP.sub [10, 11] rfl) hK0 (q0 := 0) rfl rfl) rfl rfl hl.1 rfl (lv_room (Nat.le_of_ble_eq_true rfl)) dn_d_Doc_chip_120 ⟨Nat.le_of_ble_eq_true rfl, Nat.le_of_ble_eq_true rfl⟩)) (fun r9 hr9 => ?_)
      subst hr9
      refine lv_goto (tgt := 128) hx hb dn_d_Doc_chip_123 (by decide) ?_
      exact W.iret (v := (nI n3)) hx hb hr (fun t ht hW => ⟨_, rfl, (rfl), ht⟩) (fun q h => by cases h) dn_d_Doc_chip_128
  ·
    have hl : lv_has ls 2 [(0, .ref o0), (1, .int 7)] := hl
    refine lv_iload_n hx hb dn_d_Doc_chip_0 rfl (lv_at hl 1 rfl) ?_
    refine lv_tableIn (x := 7) (off := 90) (tgt := 91) hx hb dn_d_Doc_chip_1 (by decide) (by decide) rfl (by decide) ?_
    refine lv_aload_n hx hb dn_d_Doc_chip_91 rfl (lv_at hl 0 rfl) ?_
    refine va_get (D := G) (ci := 0) (v := .ref hc) (C := dn_R_Doc) (T := dn_T_Doc) (N := 5) hx hb hts (dn_u_Doc) hown hK hP 0 rfl rfl 0 (by decide) (hts _ dn_w_280) (fun _ h9 => h9) rfl dn_d_Doc_chip_92 ?_
    refine va_getN (D := G) (ci := 2) (v := .int dn) (C := dn_R_Chip) (T := dn_T_Chip) (N := 9) hx hb hts (dn_u_Chip) hown hK hP 1 rfl rfl 6 (by decide) (va_Nw.use rfl (hN.1 ("DocumentChip", 257, "DocumentChip$Chip", "done", "I") (by decide +kernel))) (fun _ h9 => h9) rfl dn_d_Doc_chip_95 ?_
    exact W.iret (v := dn) hx hb hr (fun t ht hW => ⟨_, rfl, (rfl), ht⟩) (fun q h => by cases h) dn_d_Doc_chip_98
  ·
    have hl : lv_has ls 2 [(0, .ref o0), (1, .int x)] := hl
    refine lv_iload_n hx hb dn_d_Doc_chip_0 rfl (lv_at hl 1 rfl) ?_
    refine lv_tableOut (tgt := 99) hx hb dn_d_Doc_chip_1 (hout) (by decide) ?_
    refine lv_iload_n hx hb dn_d_Doc_chip_99 rfl (lv_at hl 1 rfl) ?_
    refine lv_iconst (v := 3) hx hb dn_d_Doc_chip_100 (by decide) ?_
    refine lv_isub hx hb dn_d_Doc_chip_101 ?_
    refine lv_i2l (v := (x - (3 : Int32)).toInt64) hx hb dn_d_Doc_chip_102 rfl ?_
    refine vp_callSi (va_Run.run (va_runS (As := [.long ((x - (3 : Int32)).toInt64)]) (rest := []) ⟨hx, hb, hml, hown, hts⟩ (cc_isFile l ((x - (3 : Int32)).toInt64) ) ⟨(callB_of 1 hts (dc_good dn_w_508) rfl rfl rfl (hts _ dn_w_1) (hts _ dn_w_594) (by decide +kernel) ⟨Nat.le_of_ble_eq_true rfl, Nat.le_of_ble_eq_true rfl⟩), (hts _ dn_w_507)⟩ preEq rfl rfl hl.1 rfl (lv_room (Nat.le_of_ble_eq_true rfl)) dn_d_Doc_chip_103 ⟨Nat.le_of_ble_eq_true rfl, Nat.le_of_ble_eq_true rfl⟩)) (fun r9 hr9 => ?_)
    subst hr9
    refine lv_if_eq (tgt := 126) hx hb dn_d_Doc_chip_106 (by decide) (fun h106 => ?_) (fun h106 => ?_)
    · -- 106: (dc_isFile ((x - (3 : Int32)).toInt64)) = false
      have h106 : (dc_isFile ((x - (3 : Int32)).toInt64)) = false := dc_bI0.1 h106
      refine lv_bipush (v := (-2)) hx hb dn_d_Doc_chip_126 (by decide) ?_
      exact W.iret (v := (-2)) hx hb hr (fun t ht hW => ⟨_, rfl, (dc_chipO hout), ht⟩) (fun q h => by cases h) dn_d_Doc_chip_128
    · exact absurd (show (dc_isFile ((x - (3 : Int32)).toInt64)) = true from dc_bI1.1 h106) (by rw [dc_w8F hout]; decide)

set_option maxHeartbeats 4000000 in
set_option maxRecDepth 100000 in
theorem rr_held (l : Launch) (G : va_G) (cA : Nat → ClassId) (mo : Nat) (mf : Nat) (m1 : Nat) (m2 : Nat) (so : Bool) (se : Int64) (sm : Int64) (sc : Int64) (sv : Nat) (ak : Bool) (cw : Int64) (dn : Int32) (an : Nat) (m3 : Nat) (m4 : Nat) (m5 : Nat) (sk : Nat) (m6 : Nat) (m7 : Nat) (m8 : Nat) (m9 : Nat) (t : Nat) (ma : Nat) (mb : Nat) (mc : Nat) (ee : Int64) (em : Int64) (ec : Int64) (mg : Nat) (mz : Nat) (gn : Bool) (c : Int32) (mr : Nat) (mi : Nat) (th : Int32) (GF : Nat → Int64) (gz : Nat → Int32) (w0d : Nat → Int64) (y0 : Nat) (w1d : Nat → Int64) (y1 : Nat) (w2d : Nat → Int64) (y2 : Nat) (w3d : Nat → Int64) (y3 : Nat) (f : Int32) (p : Int32) (hg : gn = true → dc_szR gz y0 y1 y2 y3 ∧ dc_fiR GF w0d y0 w1d y1 w2d y2 w3d y3) (hm0 : y0 ≤ 20) (hm1 : y1 ≤ 20) (hm2 : y2 ≤ 20) (hm3 : y3 ≤ 20) (sz : Nat) : Met l dn_y_Mod_held (.code dn_y_Mod_held dn_c_Mod_held 3 (some .long) :: dc_W) ({ frames := 0, cells := 0, slots := 0, locals := 0 }) (dc_pW G cA [(mo, .inr (9, [.ref mf, .ref m1, .ref m2, .int (dc_bI so), .long se, .long sm, .long sc, .int (dc_dn sv), .int (dc_bI ak), .long cw, .int dn, .int (nI an), .ref m3, .ref m4, .ref m5, .int (nI sk), .ref m6, .ref m7, .ref m8, .ref m9, .int (nI t), .ref ma, .ref mb, .ref mc, .long ee, .long em, .long ec, .ref mg, .ref mz, .int (dc_bI gn), .int c, .ref mr, .ref mi, .int th])), (mg, .inl (cA 1, 80, .inr (.inl GF))), (mz, .inl (cA 0, 4, .inl gz))] sz [.ref mo, .int f, .int p]) (dc_ql G (fun (r : Int64) (_ : Unit) => r = dc_hdV gn f p w0d y0 w1d y1 w2d y2 w3d y3) (fun (_ : Unit) => [(mo, .inr (9, [.ref mf, .ref m1, .ref m2, .int (dc_bI so), .long se, .long sm, .long sc, .int (dc_dn sv), .int (dc_bI ak), .long cw, .int dn, .int (nI an), .ref m3, .ref m4, .ref m5, .int (nI sk), .ref m6, .ref m7, .ref m8, .ref m9, .int (nI t), .ref ma, .ref mb, .ref mc, .long ee, .long em, .long ec, .ref mg, .ref mz, .int (dc_bI gn), .int c, .ref mr, .ref mi, .int (dc_hdT gn f p y0 y1 y2 y3)])), (mg, .inl (cA 1, 80, .inr (.inl GF))), (mz, .inl (cA 0, 4, .inl gz))]) sz [(mo, .inr (9, [.ref mf, .ref m1, .ref m2, .int (dc_bI so), .long se, .long sm, .long sc, .int (dc_dn sv), .int (dc_bI ak), .long cw, .int dn, .int (nI an), .ref m3, .ref m4, .ref m5, .int (nI sk), .ref m6, .ref m7, .ref m8, .ref m9, .int (nI t), .ref ma, .ref mb, .ref mc, .long ee, .long em, .long ec, .ref mg, .ref mz, .int (dc_bI gn), .int c, .ref mr, .ref mi, .int th])), (mg, .inl (cA 1, 80, .inr (.inl GF))), (mz, .inl (cA 0, 4, .inl gz))]) 0 0 (va_A [(mo, .inr (9, [.ref mf, .ref m1, .ref m2, .int (dc_bI so), .long se, .long sm, .long sc, .int (dc_dn sv), .int (dc_bI ak), .long cw, .int dn, .int (nI an), .ref m3, .ref m4, .ref m5, .int (nI sk), .ref m6, .ref m7, .ref m8, .ref m9, .int (nI t), .ref ma, .ref mb, .ref mc, .long ee, .long em, .long ec, .ref mg, .ref mz, .int (dc_bI gn), .int c, .ref mr, .ref mi, .int th])), (mg, .inl (cA 1, 80, .inr (.inl GF))), (mz, .inl (cA 0, 4, .inl gz))] sz) := by
  refine Met.ofW (cc := dn_c_Mod_held) (maxL := 3) (ret := (some .long)) (by decide) rfl ?_
  intro p9 en9 s m args9 below9 meth9 cd9 s9 B hml hv
  obtain ⟨rfl, hsz, hP, hK0, hD0⟩ := hv
  have hx := B.exec
  have hb := B.bytes
  have hr := B.returns
  have hts : ∀ w ∈ dc_W, w.before _ s = true := fun w h => atoms_spec (ws := (.code dn_y_Mod_held dn_c_Mod_held 3 (some .long) :: dc_W)) B.pre w (List.mem_cons_of_mem _ h)
  have hK := hK0.1
  have hN := hK0.2
  have hown : s.vm.findClass dn_R_Mod = some m.cls := findClass_of_methodNamed B.named
  have hlocks := B.notSynchronized
  subst hsz
  have hD := hD0.self (sz := s.heap.size)
  unfold dc_ql
  generalize hAe : va_A [(mo, .inr (9, [.ref mf, .ref m1, .ref m2, .int (dc_bI so), .long se, .long sm, .long sc, .int (dc_dn sv), .int (dc_bI ak), .long cw, .int dn, .int (nI an), .ref m3, .ref m4, .ref m5, .int (nI sk), .ref m6, .ref m7, .ref m8, .ref m9, .int (nI t), .ref ma, .ref mb, .ref mc, .long ee, .long em, .long ec, .ref mg, .ref mz, .int (dc_bI gn), .int c, .ref mr, .ref mi, .int th])), (mg, .inl (cA 1, 80, .inr (.inl GF))), (mz, .inl (cA 0, 4, .inl gz))] s.heap.size = A at hD ⊢
  have hA : ∀ q : Nat, s.heap.size ≤ q → A q := fun q h => by rw [← hAe]; exact Or.inr h
  have hS : va_S A s.heap s.heap [] := va_S.rf
  have hl := lv_entry ([.ref mo, .int f, .int p]) (n := 3) (Nat.le_of_ble_eq_true rfl)
  rw [lg_entry_eq]
  generalize (lg_sl ([.ref mo, .int f, .int p]) ++ List.replicate (3 - (lg_sl ([.ref mo, .int f, .int p])).length) Slot.unset).toArray = ls at hl ⊢
  have hl : lv_has ls 3 [(0, .ref mo), (1, .int f), (2, .int p)] := hl
  refine lv_aload_n hx hb dn_d_Mod_held_0 rfl (lv_at hl 0 rfl) ?_
  refine lv_aload_n hx hb dn_d_Mod_held_1 rfl (lv_at hl 0 rfl) ?_
  refine va_get (D := G) (ci := 9) (v := .int (dc_bI gn)) (C := dn_R_Mod) (T := dn_T_Mod) (N := 34) hx hb hts (dn_u_Mod) hown hK hP 0 rfl rfl 29 (by decide) (hts _ dn_w_887) (fun _ h9 => h9) rfl dn_d_Mod_held_2 ?_
  refine lv_if_ne (tgt := 12) hx hb dn_d_Mod_held_5 (by decide) (fun h5 => ?_) (fun h5 => ?_)
  · -- 5: gn = true
    have h5 : gn = true := dc_bI1.1 h5
    rcases dc_w4 f with hout | rfl | rfl | rfl | rfl
    ·
      have hl : lv_has ls 3 [(0, .ref mo), (1, .int f), (2, .int p)] := hl
      have hP : va_P G vwCl [(mo, .inr (9, [.ref mf, .ref m1, .ref m2, .int (dc_bI so), .long se, .long sm, .long sc, .int (dc_dn sv), .int (dc_bI ak), .long cw, .int dn, .int (nI an), .ref m3, .ref m4, .ref m5, .int (nI sk), .ref m6, .ref m7, .ref m8, .ref m9, .int (nI t), .ref ma, .ref mb, .ref mc, .long ee, .long em, .long ec, .ref mg, .ref mz, .int (dc_bI gn), .int c, .ref mr, .ref mi, .int th])), (mg, .inl (cA 1, 80, .inr (.inl GF))), (mz, .inl (cA 0, 4, .inl gz))] s.heap := hP
      have hD : va_D A [(mo, .inr (9, [.ref mf, .ref m1, .ref m2, .int (dc_bI so), .long se, .long sm, .long sc, .int (dc_dn sv), .int (dc_bI ak), .long cw, .int dn, .int (nI an), .ref m3, .ref m4, .ref m5, .int (nI sk), .ref m6, .ref m7, .ref m8, .ref m9, .int (nI t), .ref ma, .ref mb, .ref mc, .long ee, .long em, .long ec, .ref mg, .ref mz, .int (dc_bI gn), .int c, .ref mr, .ref mi, .int th])), (mg, .inl (cA 1, 80, .inr (.inl GF))), (mz, .inl (cA 0, 4, .inl gz))] := hD
      refine lv_iload_n hx hb dn_d_Mod_held_12 rfl (lv_at hl 1 rfl) ?_
      refine lv_if_lt (tgt := 21) hx hb dn_d_Mod_held_13 (by decide) (fun h13 => ?_) (fun h13 => ?_)
      · -- 13: f < 0
        refine lv_iconst (v := 2) hx hb dn_d_Mod_held_21 (by decide) ?_
        refine lv_goto (tgt := 44) hx hb dn_d_Mod_held_22 (by decide) ?_
        refine va_put (D := G) (ci := 9) (v := .int 2) (ty := (.int)) (C := dn_R_Mod) (T := dn_T_Mod) (N := 34) hx hb hts (dn_u_Mod) dn_t_Mod dn_o_Mod dn_n_Mod hown hK hP hD hS 0 rfl rfl 33 (by decide) (hts _ dn_w_891) (fun _ h9 => h9) rfl (by decide +kernel) rfl rfl (Nat.le_of_ble_eq_true rfl) dn_d_Mod_held_44 (fun H locs hP hD hS => ?_)
        have hP : va_P G vwCl [(mo, .inr (9, [.ref mf, .ref m1, .ref m2, .int (dc_bI so), .long se, .long sm, .long sc, .int (dc_dn sv), .int (dc_bI ak), .long cw, .int dn, .int (nI an), .ref m3, .ref m4, .ref m5, .int (nI sk), .ref m6, .ref m7, .ref m8, .ref m9, .int (nI t), .ref ma, .ref mb, .ref mc, .long ee, .long em, .long ec, .ref mg, .ref mz, .int (dc_bI gn), .int c, .ref mr, .ref mi, .int 2])), (mg, .inl (cA 1, 80, .inr (.inl GF))), (mz, .inl (cA 0, 4, .inl gz))] H := hP
        have hD : va_D A [(mo, .inr (9, [.ref mf, .ref m1, .ref m2, .int (dc_bI so), .long se, .long sm, .long sc, .int (dc_dn sv), .int (dc_bI ak), .long cw, .int dn, .int (nI an), .ref m3, .ref m4, .ref m5, .int (nI sk), .ref m6, .ref m7, .ref m8, .ref m9, .int (nI t), .ref ma, .ref mb, .ref mc, .long ee, .long em, .long ec, .ref mg, .ref mz, .int (dc_bI gn), .int c, .ref mr, .ref mi, .int 2])), (mg, .inl (cA 1, 80, .inr (.inl GF))), (mz, .inl (cA 0, 4, .inl gz))] := hD
        refine lv_aload_n hx hb dn_d_Mod_held_47 rfl (lv_at hl 0 rfl) ?_
        refine va_get (D := G) (ci := 9) (v := .int 2) (C := dn_R_Mod) (T := dn_T_Mod) (N := 34) hx hb hts (dn_u_Mod) hown hK hP 0 rfl rfl 33 (by decide) (hts _ dn_w_891) (fun _ h9 => h9) rfl dn_d_Mod_held_48 ?_
        refine lv_if_ne (tgt := 68) hx hb dn_d_Mod_held_51 (by decide) (fun h51 => ?_) (fun h51 => ?_)
        · -- 51: ¬ 2 = 0
          refine lv_lconst (v := 0) hx hb dn_d_Mod_held_68 (by decide) ?_
          have hT : dc_hdT gn f p y0 y1 y2 y3 = 2 := dc_hd2 h5 hout
          have hT0 : ¬ dc_hdT gn f p y0 y1 y2 y3 = 0 := by rw [hT]; decide
          have hP9 := hP.sub (ws' := [(mo, .inr (9, [.ref mf, .ref m1, .ref m2, .int (dc_bI so), .long se, .long sm, .long sc, .int (dc_dn sv), .int (dc_bI ak), .long cw, .int dn, .int (nI an), .ref m3, .ref m4, .ref m5, .int (nI sk), .ref m6, .ref m7, .ref m8, .ref m9, .int (nI t), .ref ma, .ref mb, .ref mc, .long ee, .long em, .long ec, .ref mg, .ref mz, .int (dc_bI gn), .int c, .ref mr, .ref mi, .int 2])), (mg, .inl (cA 1, 80, .inr (.inl GF))), (mz, .inl (cA 0, 4, .inl gz))]) [0, 1, 2] rfl
          have hD9 := hD.sub (ws' := [(mo, .inr (9, [.ref mf, .ref m1, .ref m2, .int (dc_bI so), .long se, .long sm, .long sc, .int (dc_dn sv), .int (dc_bI ak), .long cw, .int dn, .int (nI an), .ref m3, .ref m4, .ref m5, .int (nI sk), .ref m6, .ref m7, .ref m8, .ref m9, .int (nI t), .ref ma, .ref mb, .ref mc, .long ee, .long em, .long ec, .ref mg, .ref mz, .int (dc_bI gn), .int c, .ref mr, .ref mi, .int 2])), (mg, .inl (cA 1, 80, .inr (.inl GF))), (mz, .inl (cA 0, 4, .inl gz))]) [0, 1, 2] (by decide) rfl
          have hE9 : ([(mo, .inr (9, [.ref mf, .ref m1, .ref m2, .int (dc_bI so), .long se, .long sm, .long sc, .int (dc_dn sv), .int (dc_bI ak), .long cw, .int dn, .int (nI an), .ref m3, .ref m4, .ref m5, .int (nI sk), .ref m6, .ref m7, .ref m8, .ref m9, .int (nI t), .ref ma, .ref mb, .ref mc, .long ee, .long em, .long ec, .ref mg, .ref mz, .int (dc_bI gn), .int c, .ref mr, .ref mi, .int 2])), (mg, .inl (cA 1, 80, .inr (.inl GF))), (mz, .inl (cA 0, 4, .inl gz))] : va_W) = [(mo, .inr (9, [.ref mf, .ref m1, .ref m2, .int (dc_bI so), .long se, .long sm, .long sc, .int (dc_dn sv), .int (dc_bI ak), .long cw, .int dn, .int (nI an), .ref m3, .ref m4, .ref m5, .int (nI sk), .ref m6, .ref m7, .ref m8, .ref m9, .int (nI t), .ref ma, .ref mb, .ref mc, .long ee, .long em, .long ec, .ref mg, .ref mz, .int (dc_bI gn), .int c, .ref mr, .ref mi, .int (dc_hdT gn f p y0 y1 y2 y3)])), (mg, .inl (cA 1, 80, .inr (.inl GF))), (mz, .inl (cA 0, 4, .inl gz))] := by rw [hT]
          rw [hE9] at hP9 hD9
          exact W.lret (v := 0) hx hb hr (fun t ht hW => ⟨⟨_, (), rfl, (dc_hdV0 hT0), by rw [ht]; exact hP9, hD9⟩, hS.F ht⟩) hS.2.2 dn_d_Mod_held_69
        · exact absurd h51 (by decide)
      · -- 13: ¬ f < 0
        refine lv_iload_n hx hb dn_d_Mod_held_16 rfl (lv_at hl 1 rfl) ?_
        refine lv_iconst (v := 3) hx hb dn_d_Mod_held_17 (by decide) ?_
        refine lv_icmp_le (tgt := 25) hx hb dn_d_Mod_held_18 (by decide) (fun h18 => ?_) (fun h18 => ?_)
        · exact absurd h18 (dc_out3 hout h13)
        · -- 18: ¬ f ≤ 3
          refine lv_iconst (v := 2) hx hb dn_d_Mod_held_21 (by decide) ?_
          refine lv_goto (tgt := 44) hx hb dn_d_Mod_held_22 (by decide) ?_
          refine va_put (D := G) (ci := 9) (v := .int 2) (ty := (.int)) (C := dn_R_Mod) (T := dn_T_Mod) (N := 34) hx hb hts (dn_u_Mod) dn_t_Mod dn_o_Mod dn_n_Mod hown hK hP hD hS 0 rfl rfl 33 (by decide) (hts _ dn_w_891) (fun _ h9 => h9) rfl (by decide +kernel) rfl rfl (Nat.le_of_ble_eq_true rfl) dn_d_Mod_held_44 (fun H locs hP hD hS => ?_)
          have hP : va_P G vwCl [(mo, .inr (9, [.ref mf, .ref m1, .ref m2, .int (dc_bI so), .long se, .long sm, .long sc, .int (dc_dn sv), .int (dc_bI ak), .long cw, .int dn, .int (nI an), .ref m3, .ref m4, .ref m5, .int (nI sk), .ref m6, .ref m7, .ref m8, .ref m9, .int (nI t), .ref ma, .ref mb, .ref mc, .long ee, .long em, .long ec, .ref mg, .ref mz, .int (dc_bI gn), .int c, .ref mr, .ref mi, .int 2])), (mg, .inl (cA 1, 80, .inr (.inl GF))), (mz, .inl (cA 0, 4, .inl gz))] H := hP
          have hD : va_D A [(mo, .inr (9, [.ref mf, .ref m1, .ref m2, .int (dc_bI so), .long se, .long sm, .long sc, .int (dc_dn sv), .int (dc_bI ak), .long cw, .int dn, .int (nI an), .ref m3, .ref m4, .ref m5, .int (nI sk), .ref m6, .ref m7, .ref m8, .ref m9, .int (nI t), .ref ma, .ref mb, .ref mc, .long ee, .long em, .long ec, .ref mg, .ref mz, .int (dc_bI gn), .int c, .ref mr, .ref mi, .int 2])), (mg, .inl (cA 1, 80, .inr (.inl GF))), (mz, .inl (cA 0, 4, .inl gz))] := hD
          refine lv_aload_n hx hb dn_d_Mod_held_47 rfl (lv_at hl 0 rfl) ?_
          refine va_get (D := G) (ci := 9) (v := .int 2) (C := dn_R_Mod) (T := dn_T_Mod) (N := 34) hx hb hts (dn_u_Mod) hown hK hP 0 rfl rfl 33 (by decide) (hts _ dn_w_891) (fun _ h9 => h9) rfl dn_d_Mod_held_48 ?_
          refine lv_if_ne (tgt := 68) hx hb dn_d_Mod_held_51 (by decide) (fun h51 => ?_) (fun h51 => ?_)
          · -- 51: ¬ 2 = 0
            refine lv_lconst (v := 0) hx hb dn_d_Mod_held_68 (by decide) ?_
            have hT : dc_hdT gn f p y0 y1 y2 y3 = 2 := dc_hd2 h5 hout
            have hT0 : ¬ dc_hdT gn f p y0 y1 y2 y3 = 0 := by rw [hT]; decide
            have hP9 := hP.sub (ws' := [(mo, .inr (9, [.ref mf, .ref m1, .ref m2, .int (dc_bI so), .long se, .long sm, .long sc, .int (dc_dn sv), .int (dc_bI ak), .long cw, .int dn, .int (nI an), .ref m3, .ref m4, .ref m5, .int (nI sk), .ref m6, .ref m7, .ref m8, .ref m9, .int (nI t), .ref ma, .ref mb, .ref mc, .long ee, .long em, .long ec, .ref mg, .ref mz, .int (dc_bI gn), .int c, .ref mr, .ref mi, .int 2])), (mg, .inl (cA 1, 80, .inr (.inl GF))), (mz, .inl (cA 0, 4, .inl gz))]) [0, 1, 2] rfl
            have hD9 := hD.sub (ws' := [(mo, .inr (9, [.ref mf, .ref m1, .ref m2, .int (dc_bI so), .long se, .long sm, .long sc, .int (dc_dn sv), .int (dc_bI ak), .long cw, .int dn, .int (nI an), .ref m3, .ref m4, .ref m5, .int (nI sk), .ref m6, .ref m7, .ref m8, .ref m9, .int (nI t), .ref ma, .ref mb, .ref mc, .long ee, .long em, .long ec, .ref mg, .ref mz, .int (dc_bI gn), .int c, .ref mr, .ref mi, .int 2])), (mg, .inl (cA 1, 80, .inr (.inl GF))), (mz, .inl (cA 0, 4, .inl gz))]) [0, 1, 2] (by decide) rfl
            have hE9 : ([(mo, .inr (9, [.ref mf, .ref m1, .ref m2, .int (dc_bI so), .long se, .long sm, .long sc, .int (dc_dn sv), .int (dc_bI ak), .long cw, .int dn, .int (nI an), .ref m3, .ref m4, .ref m5, .int (nI sk), .ref m6, .ref m7, .ref m8, .ref m9, .int (nI t), .ref ma, .ref mb, .ref mc, .long ee, .long em, .long ec, .ref mg, .ref mz, .int (dc_bI gn), .int c, .ref mr, .ref mi, .int 2])), (mg, .inl (cA 1, 80, .inr (.inl GF))), (mz, .inl (cA 0, 4, .inl gz))] : va_W) = [(mo, .inr (9, [.ref mf, .ref m1, .ref m2, .int (dc_bI so), .long se, .long sm, .long sc, .int (dc_dn sv), .int (dc_bI ak), .long cw, .int dn, .int (nI an), .ref m3, .ref m4, .ref m5, .int (nI sk), .ref m6, .ref m7, .ref m8, .ref m9, .int (nI t), .ref ma, .ref mb, .ref mc, .long ee, .long em, .long ec, .ref mg, .ref mz, .int (dc_bI gn), .int c, .ref mr, .ref mi, .int (dc_hdT gn f p y0 y1 y2 y3)])), (mg, .inl (cA 1, 80, .inr (.inl GF))), (mz, .inl (cA 0, 4, .inl gz))] := by rw [hT]
            rw [hE9] at hP9 hD9
            exact W.lret (v := 0) hx hb hr (fun t ht hW => ⟨⟨_, (), rfl, (dc_hdV0 hT0), by rw [ht]; exact hP9, hD9⟩, hS.F ht⟩) hS.2.2 dn_d_Mod_held_69
          · exact absurd h51 (by decide)
    ·
      have hl : lv_has ls 3 [(0, .ref mo), (1, .int 0), (2, .int p)] := hl
      have hP : va_P G vwCl [(mo, .inr (9, [.ref mf, .ref m1, .ref m2, .int (dc_bI so), .long se, .long sm, .long sc, .int (dc_dn sv), .int (dc_bI ak), .long cw, .int dn, .int (nI an), .ref m3, .ref m4, .ref m5, .int (nI sk), .ref m6, .ref m7, .ref m8, .ref m9, .int (nI t), .ref ma, .ref mb, .ref mc, .long ee, .long em, .long ec, .ref mg, .ref mz, .int (dc_bI gn), .int c, .ref mr, .ref mi, .int th])), (mg, .inl (cA 1, 80, .inr (.inl GF))), (mz, .inl (cA 0, 4, .inl gz))] s.heap := hP
      have hD : va_D A [(mo, .inr (9, [.ref mf, .ref m1, .ref m2, .int (dc_bI so), .long se, .long sm, .long sc, .int (dc_dn sv), .int (dc_bI ak), .long cw, .int dn, .int (nI an), .ref m3, .ref m4, .ref m5, .int (nI sk), .ref m6, .ref m7, .ref m8, .ref m9, .int (nI t), .ref ma, .ref mb, .ref mc, .long ee, .long em, .long ec, .ref mg, .ref mz, .int (dc_bI gn), .int c, .ref mr, .ref mi, .int th])), (mg, .inl (cA 1, 80, .inr (.inl GF))), (mz, .inl (cA 0, 4, .inl gz))] := hD
      refine lv_iload_n hx hb dn_d_Mod_held_12 rfl (lv_at hl 1 rfl) ?_
      refine lv_if_lt (tgt := 21) hx hb dn_d_Mod_held_13 (by decide) (fun h13 => ?_) (fun h13 => ?_)
      · exact absurd h13 (by decide)
      · -- 13: ¬ 0 < 0
        refine lv_iload_n hx hb dn_d_Mod_held_16 rfl (lv_at hl 1 rfl) ?_
        refine lv_iconst (v := 3) hx hb dn_d_Mod_held_17 (by decide) ?_
        refine lv_icmp_le (tgt := 25) hx hb dn_d_Mod_held_18 (by decide) (fun h18 => ?_) (fun h18 => ?_)
        · -- 18: 0 ≤ 3
          refine lv_iload_n hx hb dn_d_Mod_held_25 rfl (lv_at hl 2 rfl) ?_
          refine lv_if_lt (tgt := 39) hx hb dn_d_Mod_held_26 (by decide) (fun h26 => ?_) (fun h26 => ?_)
          · -- 26: p < 0
            refine lv_iconst (v := 2) hx hb dn_d_Mod_held_39 (by decide) ?_
            refine lv_goto (tgt := 44) hx hb dn_d_Mod_held_40 (by decide) ?_
            refine va_put (D := G) (ci := 9) (v := .int 2) (ty := (.int)) (C := dn_R_Mod) (T := dn_T_Mod) (N := 34) hx hb hts (dn_u_Mod) dn_t_Mod dn_o_Mod dn_n_Mod hown hK hP hD hS 0 rfl rfl 33 (by decide) (hts _ dn_w_891) (fun _ h9 => h9) rfl (by decide +kernel) rfl rfl (Nat.le_of_ble_eq_true rfl) dn_d_Mod_held_44 (fun H locs hP hD hS => ?_)
            have hP : va_P G vwCl [(mo, .inr (9, [.ref mf, .ref m1, .ref m2, .int (dc_bI so), .long se, .long sm, .long sc, .int (dc_dn sv), .int (dc_bI ak), .long cw, .int dn, .int (nI an), .ref m3, .ref m4, .ref m5, .int (nI sk), .ref m6, .ref m7, .ref m8, .ref m9, .int (nI t), .ref ma, .ref mb, .ref mc, .long ee, .long em, .long ec, .ref mg, .ref mz, .int (dc_bI gn), .int c, .ref mr, .ref mi, .int 2])), (mg, .inl (cA 1, 80, .inr (.inl GF))), (mz, .inl (cA 0, 4, .inl gz))] H := hP
            have hD : va_D A [(mo, .inr (9, [.ref mf, .ref m1, .ref m2, .int (dc_bI so), .long se, .long sm, .long sc, .int (dc_dn sv), .int (dc_bI ak), .long cw, .int dn, .int (nI an), .ref m3, .ref m4, .ref m5, .int (nI sk), .ref m6, .ref m7, .ref m8, .ref m9, .int (nI t), .ref ma, .ref mb, .ref mc, .long ee, .long em, .long ec, .ref mg, .ref mz, .int (dc_bI gn), .int c, .ref mr, .ref mi, .int 2])), (mg, .inl (cA 1, 80, .inr (.inl GF))), (mz, .inl (cA 0, 4, .inl gz))] := hD
            refine lv_aload_n hx hb dn_d_Mod_held_47 rfl (lv_at hl 0 rfl) ?_
            refine va_get (D := G) (ci := 9) (v := .int 2) (C := dn_R_Mod) (T := dn_T_Mod) (N := 34) hx hb hts (dn_u_Mod) hown hK hP 0 rfl rfl 33 (by decide) (hts _ dn_w_891) (fun _ h9 => h9) rfl dn_d_Mod_held_48 ?_
            refine lv_if_ne (tgt := 68) hx hb dn_d_Mod_held_51 (by decide) (fun h51 => ?_) (fun h51 => ?_)
            · -- 51: ¬ 2 = 0
              refine lv_lconst (v := 0) hx hb dn_d_Mod_held_68 (by decide) ?_
              have hT : dc_hdT gn 0 p y0 y1 y2 y3 = 2 := dc_hd3 (j := 0) h5 (by decide) (dc_has0 h26)
              have hT0 : ¬ dc_hdT gn 0 p y0 y1 y2 y3 = 0 := by rw [hT]; decide
              have hP9 := hP.sub (ws' := [(mo, .inr (9, [.ref mf, .ref m1, .ref m2, .int (dc_bI so), .long se, .long sm, .long sc, .int (dc_dn sv), .int (dc_bI ak), .long cw, .int dn, .int (nI an), .ref m3, .ref m4, .ref m5, .int (nI sk), .ref m6, .ref m7, .ref m8, .ref m9, .int (nI t), .ref ma, .ref mb, .ref mc, .long ee, .long em, .long ec, .ref mg, .ref mz, .int (dc_bI gn), .int c, .ref mr, .ref mi, .int 2])), (mg, .inl (cA 1, 80, .inr (.inl GF))), (mz, .inl (cA 0, 4, .inl gz))]) [0, 1, 2] rfl
              have hD9 := hD.sub (ws' := [(mo, .inr (9, [.ref mf, .ref m1, .ref m2, .int (dc_bI so), .long se, .long sm, .long sc, .int (dc_dn sv), .int (dc_bI ak), .long cw, .int dn, .int (nI an), .ref m3, .ref m4, .ref m5, .int (nI sk), .ref m6, .ref m7, .ref m8, .ref m9, .int (nI t), .ref ma, .ref mb, .ref mc, .long ee, .long em, .long ec, .ref mg, .ref mz, .int (dc_bI gn), .int c, .ref mr, .ref mi, .int 2])), (mg, .inl (cA 1, 80, .inr (.inl GF))), (mz, .inl (cA 0, 4, .inl gz))]) [0, 1, 2] (by decide) rfl
              have hE9 : ([(mo, .inr (9, [.ref mf, .ref m1, .ref m2, .int (dc_bI so), .long se, .long sm, .long sc, .int (dc_dn sv), .int (dc_bI ak), .long cw, .int dn, .int (nI an), .ref m3, .ref m4, .ref m5, .int (nI sk), .ref m6, .ref m7, .ref m8, .ref m9, .int (nI t), .ref ma, .ref mb, .ref mc, .long ee, .long em, .long ec, .ref mg, .ref mz, .int (dc_bI gn), .int c, .ref mr, .ref mi, .int 2])), (mg, .inl (cA 1, 80, .inr (.inl GF))), (mz, .inl (cA 0, 4, .inl gz))] : va_W) = [(mo, .inr (9, [.ref mf, .ref m1, .ref m2, .int (dc_bI so), .long se, .long sm, .long sc, .int (dc_dn sv), .int (dc_bI ak), .long cw, .int dn, .int (nI an), .ref m3, .ref m4, .ref m5, .int (nI sk), .ref m6, .ref m7, .ref m8, .ref m9, .int (nI t), .ref ma, .ref mb, .ref mc, .long ee, .long em, .long ec, .ref mg, .ref mz, .int (dc_bI gn), .int c, .ref mr, .ref mi, .int (dc_hdT gn 0 p y0 y1 y2 y3)])), (mg, .inl (cA 1, 80, .inr (.inl GF))), (mz, .inl (cA 0, 4, .inl gz))] := by rw [hT]
              rw [hE9] at hP9 hD9
              exact W.lret (v := 0) hx hb hr (fun t ht hW => ⟨⟨_, (), rfl, (dc_hdV0 hT0), by rw [ht]; exact hP9, hD9⟩, hS.F ht⟩) hS.2.2 dn_d_Mod_held_69
            · exact absurd h51 (by decide)
          · -- 26: ¬ p < 0
            refine lv_iload_n hx hb dn_d_Mod_held_29 rfl (lv_at hl 2 rfl) ?_
            refine lv_aload_n hx hb dn_d_Mod_held_30 rfl (lv_at hl 0 rfl) ?_
            refine va_get (D := G) (ci := 9) (v := .ref mz) (C := dn_R_Mod) (T := dn_T_Mod) (N := 34) hx hb hts (dn_u_Mod) hown hK hP 0 rfl rfl 28 (by decide) (hts _ dn_w_886) (fun _ h9 => h9) rfl dn_d_Mod_held_31 ?_
            refine lv_iload_n hx hb dn_d_Mod_held_34 rfl (lv_at hl 1 rfl) ?_
            refine dc_iald (k := 0) hx hb hK hP 2 rfl (by omega) (by omega) dn_d_Mod_held_35 ?_
            rw [(hg h5).1.1]
            refine lv_icmp_lt (tgt := 43) hx hb dn_d_Mod_held_36 (by decide) (fun h36 => ?_) (fun h36 => ?_)
            · -- 36: p < (nI y0)
              obtain ⟨i9, hi9, rfl⟩ := dc_hasE (show y0 < 2147483648 by omega) (dc_has2 (by omega) h26 (Int32.not_le.mpr h36))
              have hl : lv_has ls 3 [(0, .ref mo), (1, .int 0), (2, .int (nI i9))] := hl
              refine lv_iconst (v := 0) hx hb dn_d_Mod_held_43 (by decide) ?_
              refine va_put (D := G) (ci := 9) (v := .int 0) (ty := (.int)) (C := dn_R_Mod) (T := dn_T_Mod) (N := 34) hx hb hts (dn_u_Mod) dn_t_Mod dn_o_Mod dn_n_Mod hown hK hP hD hS 0 rfl rfl 33 (by decide) (hts _ dn_w_891) (fun _ h9 => h9) rfl (by decide +kernel) rfl rfl (Nat.le_of_ble_eq_true rfl) dn_d_Mod_held_44 (fun H locs hP hD hS => ?_)
              have hP : va_P G vwCl [(mo, .inr (9, [.ref mf, .ref m1, .ref m2, .int (dc_bI so), .long se, .long sm, .long sc, .int (dc_dn sv), .int (dc_bI ak), .long cw, .int dn, .int (nI an), .ref m3, .ref m4, .ref m5, .int (nI sk), .ref m6, .ref m7, .ref m8, .ref m9, .int (nI t), .ref ma, .ref mb, .ref mc, .long ee, .long em, .long ec, .ref mg, .ref mz, .int (dc_bI gn), .int c, .ref mr, .ref mi, .int 0])), (mg, .inl (cA 1, 80, .inr (.inl GF))), (mz, .inl (cA 0, 4, .inl gz))] H := hP
              have hD : va_D A [(mo, .inr (9, [.ref mf, .ref m1, .ref m2, .int (dc_bI so), .long se, .long sm, .long sc, .int (dc_dn sv), .int (dc_bI ak), .long cw, .int dn, .int (nI an), .ref m3, .ref m4, .ref m5, .int (nI sk), .ref m6, .ref m7, .ref m8, .ref m9, .int (nI t), .ref ma, .ref mb, .ref mc, .long ee, .long em, .long ec, .ref mg, .ref mz, .int (dc_bI gn), .int c, .ref mr, .ref mi, .int 0])), (mg, .inl (cA 1, 80, .inr (.inl GF))), (mz, .inl (cA 0, 4, .inl gz))] := hD
              refine lv_aload_n hx hb dn_d_Mod_held_47 rfl (lv_at hl 0 rfl) ?_
              refine va_get (D := G) (ci := 9) (v := .int 0) (C := dn_R_Mod) (T := dn_T_Mod) (N := 34) hx hb hts (dn_u_Mod) hown hK hP 0 rfl rfl 33 (by decide) (hts _ dn_w_891) (fun _ h9 => h9) rfl dn_d_Mod_held_48 ?_
              refine lv_if_ne (tgt := 68) hx hb dn_d_Mod_held_51 (by decide) (fun h51 => ?_) (fun h51 => ?_)
              · exact absurd h51 (by decide)
              · -- 51: 0 = 0
                refine lv_aload_n hx hb dn_d_Mod_held_54 rfl (lv_at hl 0 rfl) ?_
                refine va_get (D := G) (ci := 9) (v := .ref mg) (C := dn_R_Mod) (T := dn_T_Mod) (N := 34) hx hb hts (dn_u_Mod) hown hK hP 0 rfl rfl 27 (by decide) (hts _ dn_w_885) (fun _ h9 => h9) rfl dn_d_Mod_held_55 ?_
                refine lv_bipush (v := 20) hx hb dn_d_Mod_held_58 (by decide) ?_
                refine lv_iload_n hx hb dn_d_Mod_held_60 rfl (lv_at hl 1 rfl) ?_
                refine lv_imul hx hb dn_d_Mod_held_61 ?_
                rw [show (20 : Int32) * (0 : Int32) = (0 : Int32) from rfl]
                refine lv_iload_n hx hb dn_d_Mod_held_62 rfl (lv_at hl 2 rfl) ?_
                refine lv_iadd hx hb dn_d_Mod_held_63 ?_
                rw [show (0 : Int32) + (nI i9) = nI (0 + i9) from nI_add 0 i9]
                refine dc_lald (k := 0 + i9) hx hb hK hP 1 rfl (by omega) (by omega) dn_d_Mod_held_64 ?_
                refine lv_goto (tgt := 69) hx hb dn_d_Mod_held_65 (by decide) ?_
                have hT : dc_hdT gn 0 (nI i9) y0 y1 y2 y3 = 0 := dc_hd0 (j := 0) h5 (by decide) (dc_hasN (show i9 < y0 from hi9) (show y0 < 2147483648 by omega))
                have hP9 := hP.sub (ws' := [(mo, .inr (9, [.ref mf, .ref m1, .ref m2, .int (dc_bI so), .long se, .long sm, .long sc, .int (dc_dn sv), .int (dc_bI ak), .long cw, .int dn, .int (nI an), .ref m3, .ref m4, .ref m5, .int (nI sk), .ref m6, .ref m7, .ref m8, .ref m9, .int (nI t), .ref ma, .ref mb, .ref mc, .long ee, .long em, .long ec, .ref mg, .ref mz, .int (dc_bI gn), .int c, .ref mr, .ref mi, .int 0])), (mg, .inl (cA 1, 80, .inr (.inl GF))), (mz, .inl (cA 0, 4, .inl gz))]) [0, 1, 2] rfl
                have hD9 := hD.sub (ws' := [(mo, .inr (9, [.ref mf, .ref m1, .ref m2, .int (dc_bI so), .long se, .long sm, .long sc, .int (dc_dn sv), .int (dc_bI ak), .long cw, .int dn, .int (nI an), .ref m3, .ref m4, .ref m5, .int (nI sk), .ref m6, .ref m7, .ref m8, .ref m9, .int (nI t), .ref ma, .ref mb, .ref mc, .long ee, .long em, .long ec, .ref mg, .ref mz, .int (dc_bI gn), .int c, .ref mr, .ref mi, .int 0])), (mg, .inl (cA 1, 80, .inr (.inl GF))), (mz, .inl (cA 0, 4, .inl gz))]) [0, 1, 2] (by decide) rfl
                have hE9 : ([(mo, .inr (9, [.ref mf, .ref m1, .ref m2, .int (dc_bI so), .long se, .long sm, .long sc, .int (dc_dn sv), .int (dc_bI ak), .long cw, .int dn, .int (nI an), .ref m3, .ref m4, .ref m5, .int (nI sk), .ref m6, .ref m7, .ref m8, .ref m9, .int (nI t), .ref ma, .ref mb, .ref mc, .long ee, .long em, .long ec, .ref mg, .ref mz, .int (dc_bI gn), .int c, .ref mr, .ref mi, .int 0])), (mg, .inl (cA 1, 80, .inr (.inl GF))), (mz, .inl (cA 0, 4, .inl gz))] : va_W) = [(mo, .inr (9, [.ref mf, .ref m1, .ref m2, .int (dc_bI so), .long se, .long sm, .long sc, .int (dc_dn sv), .int (dc_bI ak), .long cw, .int dn, .int (nI an), .ref m3, .ref m4, .ref m5, .int (nI sk), .ref m6, .ref m7, .ref m8, .ref m9, .int (nI t), .ref ma, .ref mb, .ref mc, .long ee, .long em, .long ec, .ref mg, .ref mz, .int (dc_bI gn), .int c, .ref mr, .ref mi, .int (dc_hdT gn 0 (nI i9) y0 y1 y2 y3)])), (mg, .inl (cA 1, 80, .inr (.inl GF))), (mz, .inl (cA 0, 4, .inl gz))] := by rw [hT]
                rw [hE9] at hP9 hD9
                exact W.lret (v := (GF (0 + i9))) hx hb hr (fun t ht hW => ⟨⟨_, (), rfl, (((hg h5).2.1 i9 hi9).trans (dc_hdV1 (j := 0) (by decide) (show i9 < y0 from hi9) (show y0 ≤ 20 by omega) hT)), by rw [ht]; exact hP9, hD9⟩, hS.F ht⟩) hS.2.2 dn_d_Mod_held_69
            · -- 36: ¬ p < (nI y0)
              refine lv_iconst (v := 2) hx hb dn_d_Mod_held_39 (by decide) ?_
              refine lv_goto (tgt := 44) hx hb dn_d_Mod_held_40 (by decide) ?_
              refine va_put (D := G) (ci := 9) (v := .int 2) (ty := (.int)) (C := dn_R_Mod) (T := dn_T_Mod) (N := 34) hx hb hts (dn_u_Mod) dn_t_Mod dn_o_Mod dn_n_Mod hown hK hP hD hS 0 rfl rfl 33 (by decide) (hts _ dn_w_891) (fun _ h9 => h9) rfl (by decide +kernel) rfl rfl (Nat.le_of_ble_eq_true rfl) dn_d_Mod_held_44 (fun H locs hP hD hS => ?_)
              have hP : va_P G vwCl [(mo, .inr (9, [.ref mf, .ref m1, .ref m2, .int (dc_bI so), .long se, .long sm, .long sc, .int (dc_dn sv), .int (dc_bI ak), .long cw, .int dn, .int (nI an), .ref m3, .ref m4, .ref m5, .int (nI sk), .ref m6, .ref m7, .ref m8, .ref m9, .int (nI t), .ref ma, .ref mb, .ref mc, .long ee, .long em, .long ec, .ref mg, .ref mz, .int (dc_bI gn), .int c, .ref mr, .ref mi, .int 2])), (mg, .inl (cA 1, 80, .inr (.inl GF))), (mz, .inl (cA 0, 4, .inl gz))] H := hP
              have hD : va_D A [(mo, .inr (9, [.ref mf, .ref m1, .ref m2, .int (dc_bI so), .long se, .long sm, .long sc, .int (dc_dn sv), .int (dc_bI ak), .long cw, .int dn, .int (nI an), .ref m3, .ref m4, .ref m5, .int (nI sk), .ref m6, .ref m7, .ref m8, .ref m9, .int (nI t), .ref ma, .ref mb, .ref mc, .long ee, .long em, .long ec, .ref mg, .ref mz, .int (dc_bI gn), .int c, .ref mr, .ref mi, .int 2])), (mg, .inl (cA 1, 80, .inr (.inl GF))), (mz, .inl (cA 0, 4, .inl gz))] := hD
              refine lv_aload_n hx hb dn_d_Mod_held_47 rfl (lv_at hl 0 rfl) ?_
              refine va_get (D := G) (ci := 9) (v := .int 2) (C := dn_R_Mod) (T := dn_T_Mod) (N := 34) hx hb hts (dn_u_Mod) hown hK hP 0 rfl rfl 33 (by decide) (hts _ dn_w_891) (fun _ h9 => h9) rfl dn_d_Mod_held_48 ?_
              refine lv_if_ne (tgt := 68) hx hb dn_d_Mod_held_51 (by decide) (fun h51 => ?_) (fun h51 => ?_)
              · -- 51: ¬ 2 = 0
                refine lv_lconst (v := 0) hx hb dn_d_Mod_held_68 (by decide) ?_
                have hT : dc_hdT gn 0 p y0 y1 y2 y3 = 2 := dc_hd3 (j := 0) h5 (by decide) (dc_has1 (show y0 < 2147483648 by omega) (Int32.not_lt.mp h36))
                have hT0 : ¬ dc_hdT gn 0 p y0 y1 y2 y3 = 0 := by rw [hT]; decide
                have hP9 := hP.sub (ws' := [(mo, .inr (9, [.ref mf, .ref m1, .ref m2, .int (dc_bI so), .long se, .long sm, .long sc, .int (dc_dn sv), .int (dc_bI ak), .long cw, .int dn, .int (nI an), .ref m3, .ref m4, .ref m5, .int (nI sk), .ref m6, .ref m7, .ref m8, .ref m9, .int (nI t), .ref ma, .ref mb, .ref mc, .long ee, .long em, .long ec, .ref mg, .ref mz, .int (dc_bI gn), .int c, .ref mr, .ref mi, .int 2])), (mg, .inl (cA 1, 80, .inr (.inl GF))), (mz, .inl (cA 0, 4, .inl gz))]) [0, 1, 2] rfl
                have hD9 := hD.sub (ws' := [(mo, .inr (9, [.ref mf, .ref m1, .ref m2, .int (dc_bI so), .long se, .long sm, .long sc, .int (dc_dn sv), .int (dc_bI ak), .long cw, .int dn, .int (nI an), .ref m3, .ref m4, .ref m5, .int (nI sk), .ref m6, .ref m7, .ref m8, .ref m9, .int (nI t), .ref ma, .ref mb, .ref mc, .long ee, .long em, .long ec, .ref mg, .ref mz, .int (dc_bI gn), .int c, .ref mr, .ref mi, .int 2])), (mg, .inl (cA 1, 80, .inr (.inl GF))), (mz, .inl (cA 0, 4, .inl gz))]) [0, 1, 2] (by decide) rfl
                have hE9 : ([(mo, .inr (9, [.ref mf, .ref m1, .ref m2, .int (dc_bI so), .long se, .long sm, .long sc, .int (dc_dn sv), .int (dc_bI ak), .long cw, .int dn, .int (nI an), .ref m3, .ref m4, .ref m5, .int (nI sk), .ref m6, .ref m7, .ref m8, .ref m9, .int (nI t), .ref ma, .ref mb, .ref mc, .long ee, .long em, .long ec, .ref mg, .ref mz, .int (dc_bI gn), .int c, .ref mr, .ref mi, .int 2])), (mg, .inl (cA 1, 80, .inr (.inl GF))), (mz, .inl (cA 0, 4, .inl gz))] : va_W) = [(mo, .inr (9, [.ref mf, .ref m1, .ref m2, .int (dc_bI so), .long se, .long sm, .long sc, .int (dc_dn sv), .int (dc_bI ak), .long cw, .int dn, .int (nI an), .ref m3, .ref m4, .ref m5, .int (nI sk), .ref m6, .ref m7, .ref m8, .ref m9, .int (nI t), .ref ma, .ref mb, .ref mc, .long ee, .long em, .long ec, .ref mg, .ref mz, .int (dc_bI gn), .int c, .ref mr, .ref mi, .int (dc_hdT gn 0 p y0 y1 y2 y3)])), (mg, .inl (cA 1, 80, .inr (.inl GF))), (mz, .inl (cA 0, 4, .inl gz))] := by rw [hT]
                rw [hE9] at hP9 hD9
                exact W.lret (v := 0) hx hb hr (fun t ht hW => ⟨⟨_, (), rfl, (dc_hdV0 hT0), by rw [ht]; exact hP9, hD9⟩, hS.F ht⟩) hS.2.2 dn_d_Mod_held_69
              · exact absurd h51 (by decide)
        · exact absurd h18 (by decide)
    ·
      have hl : lv_has ls 3 [(0, .ref mo), (1, .int 1), (2, .int p)] := hl
      have hP : va_P G vwCl [(mo, .inr (9, [.ref mf, .ref m1, .ref m2, .int (dc_bI so), .long se, .long sm, .long sc, .int (dc_dn sv), .int (dc_bI ak), .long cw, .int dn, .int (nI an), .ref m3, .ref m4, .ref m5, .int (nI sk), .ref m6, .ref m7, .ref m8, .ref m9, .int (nI t), .ref ma, .ref mb, .ref mc, .long ee, .long em, .long ec, .ref mg, .ref mz, .int (dc_bI gn), .int c, .ref mr, .ref mi, .int th])), (mg, .inl (cA 1, 80, .inr (.inl GF))), (mz, .inl (cA 0, 4, .inl gz))] s.heap := hP
      have hD : va_D A [(mo, .inr (9, [.ref mf, .ref m1, .ref m2, .int (dc_bI so), .long se, .long sm, .long sc, .int (dc_dn sv), .int (dc_bI ak), .long cw, .int dn, .int (nI an), .ref m3, .ref m4, .ref m5, .int (nI sk), .ref m6, .ref m7, .ref m8, .ref m9, .int (nI t), .ref ma, .ref mb, .ref mc, .long ee, .long em, .long ec, .ref mg, .ref mz, .int (dc_bI gn), .int c, .ref mr, .ref mi, .int th])), (mg, .inl (cA 1, 80, .inr (.inl GF))), (mz, .inl (cA 0, 4, .inl gz))] := hD
      refine lv_iload_n hx hb dn_d_Mod_held_12 rfl (lv_at hl 1 rfl) ?_
      refine lv_if_lt (tgt := 21) hx hb dn_d_Mod_held_13 (by decide) (fun h13 => ?_) (fun h13 => ?_)
      · exact absurd h13 (by decide)
      · -- 13: ¬ 1 < 0
        refine lv_iload_n hx hb dn_d_Mod_held_16 rfl (lv_at hl 1 rfl) ?_
        refine lv_iconst (v := 3) hx hb dn_d_Mod_held_17 (by decide) ?_
        refine lv_icmp_le (tgt := 25) hx hb dn_d_Mod_held_18 (by decide) (fun h18 => ?_) (fun h18 => ?_)
        · -- 18: 1 ≤ 3
          refine lv_iload_n hx hb dn_d_Mod_held_25 rfl (lv_at hl 2 rfl) ?_
          refine lv_if_lt (tgt := 39) hx hb dn_d_Mod_held_26 (by decide) (fun h26 => ?_) (fun h26 => ?_)
          · -- 26: p < 0
            refine lv_iconst (v := 2) hx hb dn_d_Mod_held_39 (by decide) ?_
            refine lv_goto (tgt := 44) hx hb dn_d_Mod_held_40 (by decide) ?_
            refine va_put (D := G) (ci := 9) (v := .int 2) (ty := (.int)) (C := dn_R_Mod) (T := dn_T_Mod) (N := 34) hx hb hts (dn_u_Mod) dn_t_Mod dn_o_Mod dn_n_Mod hown hK hP hD hS 0 rfl rfl 33 (by decide) (hts _ dn_w_891) (fun _ h9 => h9) rfl (by decide +kernel) rfl rfl (Nat.le_of_ble_eq_true rfl) dn_d_Mod_held_44 (fun H locs hP hD hS => ?_)
            have hP : va_P G vwCl [(mo, .inr (9, [.ref mf, .ref m1, .ref m2, .int (dc_bI so), .long se, .long sm, .long sc, .int (dc_dn sv), .int (dc_bI ak), .long cw, .int dn, .int (nI an), .ref m3, .ref m4, .ref m5, .int (nI sk), .ref m6, .ref m7, .ref m8, .ref m9, .int (nI t), .ref ma, .ref mb, .ref mc, .long ee, .long em, .long ec, .ref mg, .ref mz, .int (dc_bI gn), .int c, .ref mr, .ref mi, .int 2])), (mg, .inl (cA 1, 80, .inr (.inl GF))), (mz, .inl (cA 0, 4, .inl gz))] H := hP
            have hD : va_D A [(mo, .inr (9, [.ref mf, .ref m1, .ref m2, .int (dc_bI so), .long se, .long sm, .long sc, .int (dc_dn sv), .int (dc_bI ak), .long cw, .int dn, .int (nI an), .ref m3, .ref m4, .ref m5, .int (nI sk), .ref m6, .ref m7, .ref m8, .ref m9, .int (nI t), .ref ma, .ref mb, .ref mc, .long ee, .long em, .long ec, .ref mg, .ref mz, .int (dc_bI gn), .int c, .ref mr, .ref mi, .int 2])), (mg, .inl (cA 1, 80, .inr (.inl GF))), (mz, .inl (cA 0, 4, .inl gz))] := hD
            refine lv_aload_n hx hb dn_d_Mod_held_47 rfl (lv_at hl 0 rfl) ?_
            refine va_get (D := G) (ci := 9) (v := .int 2) (C := dn_R_Mod) (T := dn_T_Mod) (N := 34) hx hb hts (dn_u_Mod) hown hK hP 0 rfl rfl 33 (by decide) (hts _ dn_w_891) (fun _ h9 => h9) rfl dn_d_Mod_held_48 ?_
            refine lv_if_ne (tgt := 68) hx hb dn_d_Mod_held_51 (by decide) (fun h51 => ?_) (fun h51 => ?_)
            · -- 51: ¬ 2 = 0
              refine lv_lconst (v := 0) hx hb dn_d_Mod_held_68 (by decide) ?_
              have hT : dc_hdT gn 1 p y0 y1 y2 y3 = 2 := dc_hd3 (j := 1) h5 (by decide) (dc_has0 h26)
              have hT0 : ¬ dc_hdT gn 1 p y0 y1 y2 y3 = 0 := by rw [hT]; decide
              have hP9 := hP.sub (ws' := [(mo, .inr (9, [.ref mf, .ref m1, .ref m2, .int (dc_bI so), .long se, .long sm, .long sc, .int (dc_dn sv), .int (dc_bI ak), .long cw, .int dn, .int (nI an), .ref m3, .ref m4, .ref m5, .int (nI sk), .ref m6, .ref m7, .ref m8, .ref m9, .int (nI t), .ref ma, .ref mb, .ref mc, .long ee, .long em, .long ec, .ref mg, .ref mz, .int (dc_bI gn), .int c, .ref mr, .ref mi, .int 2])), (mg, .inl (cA 1, 80, .inr (.inl GF))), (mz, .inl (cA 0, 4, .inl gz))]) [0, 1, 2] rfl
              have hD9 := hD.sub (ws' := [(mo, .inr (9, [.ref mf, .ref m1, .ref m2, .int (dc_bI so), .long se, .long sm, .long sc, .int (dc_dn sv), .int (dc_bI ak), .long cw, .int dn, .int (nI an), .ref m3, .ref m4, .ref m5, .int (nI sk), .ref m6, .ref m7, .ref m8, .ref m9, .int (nI t), .ref ma, .ref mb, .ref mc, .long ee, .long em, .long ec, .ref mg, .ref mz, .int (dc_bI gn), .int c, .ref mr, .ref mi, .int 2])), (mg, .inl (cA 1, 80, .inr (.inl GF))), (mz, .inl (cA 0, 4, .inl gz))]) [0, 1, 2] (by decide) rfl
              have hE9 : ([(mo, .inr (9, [.ref mf, .ref m1, .ref m2, .int (dc_bI so), .long se, .long sm, .long sc, .int (dc_dn sv), .int (dc_bI ak), .long cw, .int dn, .int (nI an), .ref m3, .ref m4, .ref m5, .int (nI sk), .ref m6, .ref m7, .ref m8, .ref m9, .int (nI t), .ref ma, .ref mb, .ref mc, .long ee, .long em, .long ec, .ref mg, .ref mz, .int (dc_bI gn), .int c, .ref mr, .ref mi, .int 2])), (mg, .inl (cA 1, 80, .inr (.inl GF))), (mz, .inl (cA 0, 4, .inl gz))] : va_W) = [(mo, .inr (9, [.ref mf, .ref m1, .ref m2, .int (dc_bI so), .long se, .long sm, .long sc, .int (dc_dn sv), .int (dc_bI ak), .long cw, .int dn, .int (nI an), .ref m3, .ref m4, .ref m5, .int (nI sk), .ref m6, .ref m7, .ref m8, .ref m9, .int (nI t), .ref ma, .ref mb, .ref mc, .long ee, .long em, .long ec, .ref mg, .ref mz, .int (dc_bI gn), .int c, .ref mr, .ref mi, .int (dc_hdT gn 1 p y0 y1 y2 y3)])), (mg, .inl (cA 1, 80, .inr (.inl GF))), (mz, .inl (cA 0, 4, .inl gz))] := by rw [hT]
              rw [hE9] at hP9 hD9
              exact W.lret (v := 0) hx hb hr (fun t ht hW => ⟨⟨_, (), rfl, (dc_hdV0 hT0), by rw [ht]; exact hP9, hD9⟩, hS.F ht⟩) hS.2.2 dn_d_Mod_held_69
            · exact absurd h51 (by decide)
          · -- 26: ¬ p < 0
            refine lv_iload_n hx hb dn_d_Mod_held_29 rfl (lv_at hl 2 rfl) ?_
            refine lv_aload_n hx hb dn_d_Mod_held_30 rfl (lv_at hl 0 rfl) ?_
            refine va_get (D := G) (ci := 9) (v := .ref mz) (C := dn_R_Mod) (T := dn_T_Mod) (N := 34) hx hb hts (dn_u_Mod) hown hK hP 0 rfl rfl 28 (by decide) (hts _ dn_w_886) (fun _ h9 => h9) rfl dn_d_Mod_held_31 ?_
            refine lv_iload_n hx hb dn_d_Mod_held_34 rfl (lv_at hl 1 rfl) ?_
            refine dc_iald (k := 1) hx hb hK hP 2 rfl (by omega) (by omega) dn_d_Mod_held_35 ?_
            rw [(hg h5).1.2.1]
            refine lv_icmp_lt (tgt := 43) hx hb dn_d_Mod_held_36 (by decide) (fun h36 => ?_) (fun h36 => ?_)
            · -- 36: p < (nI y1)
              obtain ⟨i9, hi9, rfl⟩ := dc_hasE (show y1 < 2147483648 by omega) (dc_has2 (by omega) h26 (Int32.not_le.mpr h36))
              have hl : lv_has ls 3 [(0, .ref mo), (1, .int 1), (2, .int (nI i9))] := hl
              refine lv_iconst (v := 0) hx hb dn_d_Mod_held_43 (by decide) ?_
              refine va_put (D := G) (ci := 9) (v := .int 0) (ty := (.int)) (C := dn_R_Mod) (T := dn_T_Mod) (N := 34) hx hb hts (dn_u_Mod) dn_t_Mod dn_o_Mod dn_n_Mod hown hK hP hD hS 0 rfl rfl 33 (by decide) (hts _ dn_w_891) (fun _ h9 => h9) rfl (by decide +kernel) rfl rfl (Nat.le_of_ble_eq_true rfl) dn_d_Mod_held_44 (fun H locs hP hD hS => ?_)
              have hP : va_P G vwCl [(mo, .inr (9, [.ref mf, .ref m1, .ref m2, .int (dc_bI so), .long se, .long sm, .long sc, .int (dc_dn sv), .int (dc_bI ak), .long cw, .int dn, .int (nI an), .ref m3, .ref m4, .ref m5, .int (nI sk), .ref m6, .ref m7, .ref m8, .ref m9, .int (nI t), .ref ma, .ref mb, .ref mc, .long ee, .long em, .long ec, .ref mg, .ref mz, .int (dc_bI gn), .int c, .ref mr, .ref mi, .int 0])), (mg, .inl (cA 1, 80, .inr (.inl GF))), (mz, .inl (cA 0, 4, .inl gz))] H := hP
              have hD : va_D A [(mo, .inr (9, [.ref mf, .ref m1, .ref m2, .int (dc_bI so), .long se, .long sm, .long sc, .int (dc_dn sv), .int (dc_bI ak), .long cw, .int dn, .int (nI an), .ref m3, .ref m4, .ref m5, .int (nI sk), .ref m6, .ref m7, .ref m8, .ref m9, .int (nI t), .ref ma, .ref mb, .ref mc, .long ee, .long em, .long ec, .ref mg, .ref mz, .int (dc_bI gn), .int c, .ref mr, .ref mi, .int 0])), (mg, .inl (cA 1, 80, .inr (.inl GF))), (mz, .inl (cA 0, 4, .inl gz))] := hD
              refine lv_aload_n hx hb dn_d_Mod_held_47 rfl (lv_at hl 0 rfl) ?_
              refine va_get (D := G) (ci := 9) (v := .int 0) (C := dn_R_Mod) (T := dn_T_Mod) (N := 34) hx hb hts (dn_u_Mod) hown hK hP 0 rfl rfl 33 (by decide) (hts _ dn_w_891) (fun _ h9 => h9) rfl dn_d_Mod_held_48 ?_
              refine lv_if_ne (tgt := 68) hx hb dn_d_Mod_held_51 (by decide) (fun h51 => ?_) (fun h51 => ?_)
              · exact absurd h51 (by decide)
              · -- 51: 0 = 0
                refine lv_aload_n hx hb dn_d_Mod_held_54 rfl (lv_at hl 0 rfl) ?_
                refine va_get (D := G) (ci := 9) (v := .ref mg) (C := dn_R_Mod) (T := dn_T_Mod) (N := 34) hx hb hts (dn_u_Mod) hown hK hP 0 rfl rfl 27 (by decide) (hts _ dn_w_885) (fun _ h9 => h9) rfl dn_d_Mod_held_55 ?_
                refine lv_bipush (v := 20) hx hb dn_d_Mod_held_58 (by decide) ?_
                refine lv_iload_n hx hb dn_d_Mod_held_60 rfl (lv_at hl 1 rfl) ?_
                refine lv_imul hx hb dn_d_Mod_held_61 ?_
                rw [show (20 : Int32) * (1 : Int32) = (20 : Int32) from rfl]
                refine lv_iload_n hx hb dn_d_Mod_held_62 rfl (lv_at hl 2 rfl) ?_
                refine lv_iadd hx hb dn_d_Mod_held_63 ?_
                rw [show (20 : Int32) + (nI i9) = nI (20 + i9) from nI_add 20 i9]
                refine dc_lald (k := 20 + i9) hx hb hK hP 1 rfl (by omega) (by omega) dn_d_Mod_held_64 ?_
                refine lv_goto (tgt := 69) hx hb dn_d_Mod_held_65 (by decide) ?_
                have hT : dc_hdT gn 1 (nI i9) y0 y1 y2 y3 = 0 := dc_hd0 (j := 1) h5 (by decide) (dc_hasN (show i9 < y1 from hi9) (show y1 < 2147483648 by omega))
                have hP9 := hP.sub (ws' := [(mo, .inr (9, [.ref mf, .ref m1, .ref m2, .int (dc_bI so), .long se, .long sm, .long sc, .int (dc_dn sv), .int (dc_bI ak), .long cw, .int dn, .int (nI an), .ref m3, .ref m4, .ref m5, .int (nI sk), .ref m6, .ref m7, .ref m8, .ref m9, .int (nI t), .ref ma, .ref mb, .ref mc, .long ee, .long em, .long ec, .ref mg, .ref mz, .int (dc_bI gn), .int c, .ref mr, .ref mi, .int 0])), (mg, .inl (cA 1, 80, .inr (.inl GF))), (mz, .inl (cA 0, 4, .inl gz))]) [0, 1, 2] rfl
                have hD9 := hD.sub (ws' := [(mo, .inr (9, [.ref mf, .ref m1, .ref m2, .int (dc_bI so), .long se, .long sm, .long sc, .int (dc_dn sv), .int (dc_bI ak), .long cw, .int dn, .int (nI an), .ref m3, .ref m4, .ref m5, .int (nI sk), .ref m6, .ref m7, .ref m8, .ref m9, .int (nI t), .ref ma, .ref mb, .ref mc, .long ee, .long em, .long ec, .ref mg, .ref mz, .int (dc_bI gn), .int c, .ref mr, .ref mi, .int 0])), (mg, .inl (cA 1, 80, .inr (.inl GF))), (mz, .inl (cA 0, 4, .inl gz))]) [0, 1, 2] (by decide) rfl
                have hE9 : ([(mo, .inr (9, [.ref mf, .ref m1, .ref m2, .int (dc_bI so), .long se, .long sm, .long sc, .int (dc_dn sv), .int (dc_bI ak), .long cw, .int dn, .int (nI an), .ref m3, .ref m4, .ref m5, .int (nI sk), .ref m6, .ref m7, .ref m8, .ref m9, .int (nI t), .ref ma, .ref mb, .ref mc, .long ee, .long em, .long ec, .ref mg, .ref mz, .int (dc_bI gn), .int c, .ref mr, .ref mi, .int 0])), (mg, .inl (cA 1, 80, .inr (.inl GF))), (mz, .inl (cA 0, 4, .inl gz))] : va_W) = [(mo, .inr (9, [.ref mf, .ref m1, .ref m2, .int (dc_bI so), .long se, .long sm, .long sc, .int (dc_dn sv), .int (dc_bI ak), .long cw, .int dn, .int (nI an), .ref m3, .ref m4, .ref m5, .int (nI sk), .ref m6, .ref m7, .ref m8, .ref m9, .int (nI t), .ref ma, .ref mb, .ref mc, .long ee, .long em, .long ec, .ref mg, .ref mz, .int (dc_bI gn), .int c, .ref mr, .ref mi, .int (dc_hdT gn 1 (nI i9) y0 y1 y2 y3)])), (mg, .inl (cA 1, 80, .inr (.inl GF))), (mz, .inl (cA 0, 4, .inl gz))] := by rw [hT]
                rw [hE9] at hP9 hD9
                exact W.lret (v := (GF (20 + i9))) hx hb hr (fun t ht hW => ⟨⟨_, (), rfl, (((hg h5).2.2.1 i9 hi9).trans (dc_hdV1 (j := 1) (by decide) (show i9 < y1 from hi9) (show y1 ≤ 20 by omega) hT)), by rw [ht]; exact hP9, hD9⟩, hS.F ht⟩) hS.2.2 dn_d_Mod_held_69
            · -- 36: ¬ p < (nI y1)
              refine lv_iconst (v := 2) hx hb dn_d_Mod_held_39 (by decide) ?_
              refine lv_goto (tgt := 44) hx hb dn_d_Mod_held_40 (by decide) ?_
              refine va_put (D := G) (ci := 9) (v := .int 2) (ty := (.int)) (C := dn_R_Mod) (T := dn_T_Mod) (N := 34) hx hb hts (dn_u_Mod) dn_t_Mod dn_o_Mod dn_n_Mod hown hK hP hD hS 0 rfl rfl 33 (by decide) (hts _ dn_w_891) (fun _ h9 => h9) rfl (by decide +kernel) rfl rfl (Nat.le_of_ble_eq_true rfl) dn_d_Mod_held_44 (fun H locs hP hD hS => ?_)
              have hP : va_P G vwCl [(mo, .inr (9, [.ref mf, .ref m1, .ref m2, .int (dc_bI so), .long se, .long sm, .long sc, .int (dc_dn sv), .int (dc_bI ak), .long cw, .int dn, .int (nI an), .ref m3, .ref m4, .ref m5, .int (nI sk), .ref m6, .ref m7, .ref m8, .ref m9, .int (nI t), .ref ma, .ref mb, .ref mc, .long ee, .long em, .long ec, .ref mg, .ref mz, .int (dc_bI gn), .int c, .ref mr, .ref mi, .int 2])), (mg, .inl (cA 1, 80, .inr (.inl GF))), (mz, .inl (cA 0, 4, .inl gz))] H := hP
              have hD : va_D A [(mo, .inr (9, [.ref mf, .ref m1, .ref m2, .int (dc_bI so), .long se, .long sm, .long sc, .int (dc_dn sv), .int (dc_bI ak), .long cw, .int dn, .int (nI an), .ref m3, .ref m4, .ref m5, .int (nI sk), .ref m6, .ref m7, .ref m8, .ref m9, .int (nI t), .ref ma, .ref mb, .ref mc, .long ee, .long em, .long ec, .ref mg, .ref mz, .int (dc_bI gn), .int c, .ref mr, .ref mi, .int 2])), (mg, .inl (cA 1, 80, .inr (.inl GF))), (mz, .inl (cA 0, 4, .inl gz))] := hD
              refine lv_aload_n hx hb dn_d_Mod_held_47 rfl (lv_at hl 0 rfl) ?_
              refine va_get (D := G) (ci := 9) (v := .int 2) (C := dn_R_Mod) (T := dn_T_Mod) (N := 34) hx hb hts (dn_u_Mod) hown hK hP 0 rfl rfl 33 (by decide) (hts _ dn_w_891) (fun _ h9 => h9) rfl dn_d_Mod_held_48 ?_
              refine lv_if_ne (tgt := 68) hx hb dn_d_Mod_held_51 (by decide) (fun h51 => ?_) (fun h51 => ?_)
              · -- 51: ¬ 2 = 0
                refine lv_lconst (v := 0) hx hb dn_d_Mod_held_68 (by decide) ?_
                have hT : dc_hdT gn 1 p y0 y1 y2 y3 = 2 := dc_hd3 (j := 1) h5 (by decide) (dc_has1 (show y1 < 2147483648 by omega) (Int32.not_lt.mp h36))
                have hT0 : ¬ dc_hdT gn 1 p y0 y1 y2 y3 = 0 := by rw [hT]; decide
                have hP9 := hP.sub (ws' := [(mo, .inr (9, [.ref mf, .ref m1, .ref m2, .int (dc_bI so), .long se, .long sm, .long sc, .int (dc_dn sv), .int (dc_bI ak), .long cw, .int dn, .int (nI an), .ref m3, .ref m4, .ref m5, .int (nI sk), .ref m6, .ref m7, .ref m8, .ref m9, .int (nI t), .ref ma, .ref mb, .ref mc, .long ee, .long em, .long ec, .ref mg, .ref mz, .int (dc_bI gn), .int c, .ref mr, .ref mi, .int 2])), (mg, .inl (cA 1, 80, .inr (.inl GF))), (mz, .inl (cA 0, 4, .inl gz))]) [0, 1, 2] rfl
                have hD9 := hD.sub (ws' := [(mo, .inr (9, [.ref mf, .ref m1, .ref m2, .int (dc_bI so), .long se, .long sm, .long sc, .int (dc_dn sv), .int (dc_bI ak), .long cw, .int dn, .int (nI an), .ref m3, .ref m4, .ref m5, .int (nI sk), .ref m6, .ref m7, .ref m8, .ref m9, .int (nI t), .ref ma, .ref mb, .ref mc, .long ee, .long em, .long ec, .ref mg, .ref mz, .int (dc_bI gn), .int c, .ref mr, .ref mi, .int 2])), (mg, .inl (cA 1, 80, .inr (.inl GF))), (mz, .inl (cA 0, 4, .inl gz))]) [0, 1, 2] (by decide) rfl
                have hE9 : ([(mo, .inr (9, [.ref mf, .ref m1, .ref m2, .int (dc_bI so), .long se, .long sm, .long sc, .int (dc_dn sv), .int (dc_bI ak), .long cw, .int dn, .int (nI an), .ref m3, .ref m4, .ref m5, .int (nI sk), .ref m6, .ref m7, .ref m8, .ref m9, .int (nI t), .ref ma, .ref mb, .ref mc, .long ee, .long em, .long ec, .ref mg, .ref mz, .int (dc_bI gn), .int c, .ref mr, .ref mi, .int 2])), (mg, .inl (cA 1, 80, .inr (.inl GF))), (mz, .inl (cA 0, 4, .inl gz))] : va_W) = [(mo, .inr (9, [.ref mf, .ref m1, .ref m2, .int (dc_bI so), .long se, .long sm, .long sc, .int (dc_dn sv), .int (dc_bI ak), .long cw, .int dn, .int (nI an), .ref m3, .ref m4, .ref m5, .int (nI sk), .ref m6, .ref m7, .ref m8, .ref m9, .int (nI t), .ref ma, .ref mb, .ref mc, .long ee, .long em, .long ec, .ref mg, .ref mz, .int (dc_bI gn), .int c, .ref mr, .ref mi, .int (dc_hdT gn 1 p y0 y1 y2 y3)])), (mg, .inl (cA 1, 80, .inr (.inl GF))), (mz, .inl (cA 0, 4, .inl gz))] := by rw [hT]
                rw [hE9] at hP9 hD9
                exact W.lret (v := 0) hx hb hr (fun t ht hW => ⟨⟨_, (), rfl, (dc_hdV0 hT0), by rw [ht]; exact hP9, hD9⟩, hS.F ht⟩) hS.2.2 dn_d_Mod_held_69
              · exact absurd h51 (by decide)
        · exact absurd h18 (by decide)
    ·
      have hl : lv_has ls 3 [(0, .ref mo), (1, .int 2), (2, .int p)] := hl
      have hP : va_P G vwCl [(mo, .inr (9, [.ref mf, .ref m1, .ref m2, .int (dc_bI so), .long se, .long sm, .long sc, .int (dc_dn sv), .int (dc_bI ak), .long cw, .int dn, .int (nI an), .ref m3, .ref m4, .ref m5, .int (nI sk), .ref m6, .ref m7, .ref m8, .ref m9, .int (nI t), .ref ma, .ref mb, .ref mc, .long ee, .long em, .long ec, .ref mg, .ref mz, .int (dc_bI gn), .int c, .ref mr, .ref mi, .int th])), (mg, .inl (cA 1, 80, .inr (.inl GF))), (mz, .inl (cA 0, 4, .inl gz))] s.heap := hP
      have hD : va_D A [(mo, .inr (9, [.ref mf, .ref m1, .ref m2, .int (dc_bI so), .long se, .long sm, .long sc, .int (dc_dn sv), .int (dc_bI ak), .long cw, .int dn, .int (nI an), .ref m3, .ref m4, .ref m5, .int (nI sk), .ref m6, .ref m7, .ref m8, .ref m9, .int (nI t), .ref ma, .ref mb, .ref mc, .long ee, .long em, .long ec, .ref mg, .ref mz, .int (dc_bI gn), .int c, .ref mr, .ref mi, .int th])), (mg, .inl (cA 1, 80, .inr (.inl GF))), (mz, .inl (cA 0, 4, .inl gz))] := hD
      refine lv_iload_n hx hb dn_d_Mod_held_12 rfl (lv_at hl 1 rfl) ?_
      refine lv_if_lt (tgt := 21) hx hb dn_d_Mod_held_13 (by decide) (fun h13 => ?_) (fun h13 => ?_)
      · exact absurd h13 (by decide)
      · -- 13: ¬ 2 < 0
        refine lv_iload_n hx hb dn_d_Mod_held_16 rfl (lv_at hl 1 rfl) ?_
        refine lv_iconst (v := 3) hx hb dn_d_Mod_held_17 (by decide) ?_
        refine lv_icmp_le (tgt := 25) hx hb dn_d_Mod_held_18 (by decide) (fun h18 => ?_) (fun h18 => ?_)
        · -- 18: 2 ≤ 3
          refine lv_iload_n hx hb dn_d_Mod_held_25 rfl (lv_at hl 2 rfl) ?_
          refine lv_if_lt (tgt := 39) hx hb dn_d_Mod_held_26 (by decide) (fun h26 => ?_) (fun h26 => ?_)
          · -- 26: p < 0
            refine lv_iconst (v := 2) hx hb dn_d_Mod_held_39 (by decide) ?_
            refine lv_goto (tgt := 44) hx hb dn_d_Mod_held_40 (by decide) ?_
            refine va_put (D := G) (ci := 9) (v := .int 2) (ty := (.int)) (C := dn_R_Mod) (T := dn_T_Mod) (N := 34) hx hb hts (dn_u_Mod) dn_t_Mod dn_o_Mod dn_n_Mod hown hK hP hD hS 0 rfl rfl 33 (by decide) (hts _ dn_w_891) (fun _ h9 => h9) rfl (by decide +kernel) rfl rfl (Nat.le_of_ble_eq_true rfl) dn_d_Mod_held_44 (fun H locs hP hD hS => ?_)
            have hP : va_P G vwCl [(mo, .inr (9, [.ref mf, .ref m1, .ref m2, .int (dc_bI so), .long se, .long sm, .long sc, .int (dc_dn sv), .int (dc_bI ak), .long cw, .int dn, .int (nI an), .ref m3, .ref m4, .ref m5, .int (nI sk), .ref m6, .ref m7, .ref m8, .ref m9, .int (nI t), .ref ma, .ref mb, .ref mc, .long ee, .long em, .long ec, .ref mg, .ref mz, .int (dc_bI gn), .int c, .ref mr, .ref mi, .int 2])), (mg, .inl (cA 1, 80, .inr (.inl GF))), (mz, .inl (cA 0, 4, .inl gz))] H := hP
            have hD : va_D A [(mo, .inr (9, [.ref mf, .ref m1, .ref m2, .int (dc_bI so), .long se, .long sm, .long sc, .int (dc_dn sv), .int (dc_bI ak), .long cw, .int dn, .int (nI an), .ref m3, .ref m4, .ref m5, .int (nI sk), .ref m6, .ref m7, .ref m8, .ref m9, .int (nI t), .ref ma, .ref mb, .ref mc, .long ee, .long em, .long ec, .ref mg, .ref mz, .int (dc_bI gn), .int c, .ref mr, .ref mi, .int 2])), (mg, .inl (cA 1, 80, .inr (.inl GF))), (mz, .inl (cA 0, 4, .inl gz))] := hD
            refine lv_aload_n hx hb dn_d_Mod_held_47 rfl (lv_at hl 0 rfl) ?_
            refine va_get (D := G) (ci := 9) (v := .int 2) (C := dn_R_Mod) (T := dn_T_Mod) (N := 34) hx hb hts (dn_u_Mod) hown hK hP 0 rfl rfl 33 (by decide) (hts _ dn_w_891) (fun _ h9 => h9) rfl dn_d_Mod_held_48 ?_
            refine lv_if_ne (tgt := 68) hx hb dn_d_Mod_held_51 (by decide) (fun h51 => ?_) (fun h51 => ?_)
            · -- 51: ¬ 2 = 0
              refine lv_lconst (v := 0) hx hb dn_d_Mod_held_68 (by decide) ?_
              have hT : dc_hdT gn 2 p y0 y1 y2 y3 = 2 := dc_hd3 (j := 2) h5 (by decide) (dc_has0 h26)
              have hT0 : ¬ dc_hdT gn 2 p y0 y1 y2 y3 = 0 := by rw [hT]; decide
              have hP9 := hP.sub (ws' := [(mo, .inr (9, [.ref mf, .ref m1, .ref m2, .int (dc_bI so), .long se, .long sm, .long sc, .int (dc_dn sv), .int (dc_bI ak), .long cw, .int dn, .int (nI an), .ref m3, .ref m4, .ref m5, .int (nI sk), .ref m6, .ref m7, .ref m8, .ref m9, .int (nI t), .ref ma, .ref mb, .ref mc, .long ee, .long em, .long ec, .ref mg, .ref mz, .int (dc_bI gn), .int c, .ref mr, .ref mi, .int 2])), (mg, .inl (cA 1, 80, .inr (.inl GF))), (mz, .inl (cA 0, 4, .inl gz))]) [0, 1, 2] rfl
              have hD9 := hD.sub (ws' := [(mo, .inr (9, [.ref mf, .ref m1, .ref m2, .int (dc_bI so), .long se, .long sm, .long sc, .int (dc_dn sv), .int (dc_bI ak), .long cw, .int dn, .int (nI an), .ref m3, .ref m4, .ref m5, .int (nI sk), .ref m6, .ref m7, .ref m8, .ref m9, .int (nI t), .ref ma, .ref mb, .ref mc, .long ee, .long em, .long ec, .ref mg, .ref mz, .int (dc_bI gn), .int c, .ref mr, .ref mi, .int 2])), (mg, .inl (cA 1, 80, .inr (.inl GF))), (mz, .inl (cA 0, 4, .inl gz))]) [0, 1, 2] (by decide) rfl
              have hE9 : ([(mo, .inr (9, [.ref mf, .ref m1, .ref m2, .int (dc_bI so), .long se, .long sm, .long sc, .int (dc_dn sv), .int (dc_bI ak), .long cw, .int dn, .int (nI an), .ref m3, .ref m4, .ref m5, .int (nI sk), .ref m6, .ref m7, .ref m8, .ref m9, .int (nI t), .ref ma, .ref mb, .ref mc, .long ee, .long em, .long ec, .ref mg, .ref mz, .int (dc_bI gn), .int c, .ref mr, .ref mi, .int 2])), (mg, .inl (cA 1, 80, .inr (.inl GF))), (mz, .inl (cA 0, 4, .inl gz))] : va_W) = [(mo, .inr (9, [.ref mf, .ref m1, .ref m2, .int (dc_bI so), .long se, .long sm, .long sc, .int (dc_dn sv), .int (dc_bI ak), .long cw, .int dn, .int (nI an), .ref m3, .ref m4, .ref m5, .int (nI sk), .ref m6, .ref m7, .ref m8, .ref m9, .int (nI t), .ref ma, .ref mb, .ref mc, .long ee, .long em, .long ec, .ref mg, .ref mz, .int (dc_bI gn), .int c, .ref mr, .ref mi, .int (dc_hdT gn 2 p y0 y1 y2 y3)])), (mg, .inl (cA 1, 80, .inr (.inl GF))), (mz, .inl (cA 0, 4, .inl gz))] := by rw [hT]
              rw [hE9] at hP9 hD9
              exact W.lret (v := 0) hx hb hr (fun t ht hW => ⟨⟨_, (), rfl, (dc_hdV0 hT0), by rw [ht]; exact hP9, hD9⟩, hS.F ht⟩) hS.2.2 dn_d_Mod_held_69
            · exact absurd h51 (by decide)
          · -- 26: ¬ p < 0
            refine lv_iload_n hx hb dn_d_Mod_held_29 rfl (lv_at hl 2 rfl) ?_
            refine lv_aload_n hx hb dn_d_Mod_held_30 rfl (lv_at hl 0 rfl) ?_
            refine va_get (D := G) (ci := 9) (v := .ref mz) (C := dn_R_Mod) (T := dn_T_Mod) (N := 34) hx hb hts (dn_u_Mod) hown hK hP 0 rfl rfl 28 (by decide) (hts _ dn_w_886) (fun _ h9 => h9) rfl dn_d_Mod_held_31 ?_
            refine lv_iload_n hx hb dn_d_Mod_held_34 rfl (lv_at hl 1 rfl) ?_
            refine dc_iald (k := 2) hx hb hK hP 2 rfl (by omega) (by omega) dn_d_Mod_held_35 ?_
            rw [(hg h5).1.2.2.1]
            refine lv_icmp_lt (tgt := 43) hx hb dn_d_Mod_held_36 (by decide) (fun h36 => ?_) (fun h36 => ?_)
            · -- 36: p < (nI y2)
              obtain ⟨i9, hi9, rfl⟩ := dc_hasE (show y2 < 2147483648 by omega) (dc_has2 (by omega) h26 (Int32.not_le.mpr h36))
              have hl : lv_has ls 3 [(0, .ref mo), (1, .int 2), (2, .int (nI i9))] := hl
              refine lv_iconst (v := 0) hx hb dn_d_Mod_held_43 (by decide) ?_
              refine va_put (D := G) (ci := 9) (v := .int 0) (ty := (.int)) (C := dn_R_Mod) (T := dn_T_Mod) (N := 34) hx hb hts (dn_u_Mod) dn_t_Mod dn_o_Mod dn_n_Mod hown hK hP hD hS 0 rfl rfl 33 (by decide) (hts _ dn_w_891) (fun _ h9 => h9) rfl (by decide +kernel) rfl rfl (Nat.le_of_ble_eq_true rfl) dn_d_Mod_held_44 (fun H locs hP hD hS => ?_)
              have hP : va_P G vwCl [(mo, .inr (9, [.ref mf, .ref m1, .ref m2, .int (dc_bI so), .long se, .long sm, .long sc, .int (dc_dn sv), .int (dc_bI ak), .long cw, .int dn, .int (nI an), .ref m3, .ref m4, .ref m5, .int (nI sk), .ref m6, .ref m7, .ref m8, .ref m9, .int (nI t), .ref ma, .ref mb, .ref mc, .long ee, .long em, .long ec, .ref mg, .ref mz, .int (dc_bI gn), .int c, .ref mr, .ref mi, .int 0])), (mg, .inl (cA 1, 80, .inr (.inl GF))), (mz, .inl (cA 0, 4, .inl gz))] H := hP
              have hD : va_D A [(mo, .inr (9, [.ref mf, .ref m1, .ref m2, .int (dc_bI so), .long se, .long sm, .long sc, .int (dc_dn sv), .int (dc_bI ak), .long cw, .int dn, .int (nI an), .ref m3, .ref m4, .ref m5, .int (nI sk), .ref m6, .ref m7, .ref m8, .ref m9, .int (nI t), .ref ma, .ref mb, .ref mc, .long ee, .long em, .long ec, .ref mg, .ref mz, .int (dc_bI gn), .int c, .ref mr, .ref mi, .int 0])), (mg, .inl (cA 1, 80, .inr (.inl GF))), (mz, .inl (cA 0, 4, .inl gz))] := hD
              refine lv_aload_n hx hb dn_d_Mod_held_47 rfl (lv_at hl 0 rfl) ?_
              refine va_get (D := G) (ci := 9) (v := .int 0) (C := dn_R_Mod) (T := dn_T_Mod) (N := 34) hx hb hts (dn_u_Mod) hown hK hP 0 rfl rfl 33 (by decide) (hts _ dn_w_891) (fun _ h9 => h9) rfl dn_d_Mod_held_48 ?_
              refine lv_if_ne (tgt := 68) hx hb dn_d_Mod_held_51 (by decide) (fun h51 => ?_) (fun h51 => ?_)
              · exact absurd h51 (by decide)
              · -- 51: 0 = 0
                refine lv_aload_n hx hb dn_d_Mod_held_54 rfl (lv_at hl 0 rfl) ?_
                refine va_get (D := G) (ci := 9) (v := .ref mg) (C := dn_R_Mod) (T := dn_T_Mod) (N := 34) hx hb hts (dn_u_Mod) hown hK hP 0 rfl rfl 27 (by decide) (hts _ dn_w_885) (fun _ h9 => h9) rfl dn_d_Mod_held_55 ?_
                refine lv_bipush (v := 20) hx hb dn_d_Mod_held_58 (by decide) ?_
                refine lv_iload_n hx hb dn_d_Mod_held_60 rfl (lv_at hl 1 rfl) ?_
                refine lv_imul hx hb dn_d_Mod_held_61 ?_
                rw [show (20 : Int32) * (2 : Int32) = (40 : Int32) from rfl]
                refine lv_iload_n hx hb dn_d_Mod_held_62 rfl (lv_at hl 2 rfl) ?_
                refine lv_iadd hx hb dn_d_Mod_held_63 ?_
                rw [show (40 : Int32) + (nI i9) = nI (40 + i9) from nI_add 40 i9]
                refine dc_lald (k := 40 + i9) hx hb hK hP 1 rfl (by omega) (by omega) dn_d_Mod_held_64 ?_
                refine lv_goto (tgt := 69) hx hb dn_d_Mod_held_65 (by decide) ?_
                have hT : dc_hdT gn 2 (nI i9) y0 y1 y2 y3 = 0 := dc_hd0 (j := 2) h5 (by decide) (dc_hasN (show i9 < y2 from hi9) (show y2 < 2147483648 by omega))
                have hP9 := hP.sub (ws' := [(mo, .inr (9, [.ref mf, .ref m1, .ref m2, .int (dc_bI so), .long se, .long sm, .long sc, .int (dc_dn sv), .int (dc_bI ak), .long cw, .int dn, .int (nI an), .ref m3, .ref m4, .ref m5, .int (nI sk), .ref m6, .ref m7, .ref m8, .ref m9, .int (nI t), .ref ma, .ref mb, .ref mc, .long ee, .long em, .long ec, .ref mg, .ref mz, .int (dc_bI gn), .int c, .ref mr, .ref mi, .int 0])), (mg, .inl (cA 1, 80, .inr (.inl GF))), (mz, .inl (cA 0, 4, .inl gz))]) [0, 1, 2] rfl
                have hD9 := hD.sub (ws' := [(mo, .inr (9, [.ref mf, .ref m1, .ref m2, .int (dc_bI so), .long se, .long sm, .long sc, .int (dc_dn sv), .int (dc_bI ak), .long cw, .int dn, .int (nI an), .ref m3, .ref m4, .ref m5, .int (nI sk), .ref m6, .ref m7, .ref m8, .ref m9, .int (nI t), .ref ma, .ref mb, .ref mc, .long ee, .long em, .long ec, .ref mg, .ref mz, .int (dc_bI gn), .int c, .ref mr, .ref mi, .int 0])), (mg, .inl (cA 1, 80, .inr (.inl GF))), (mz, .inl (cA 0, 4, .inl gz))]) [0, 1, 2] (by decide) rfl
                have hE9 : ([(mo, .inr (9, [.ref mf, .ref m1, .ref m2, .int (dc_bI so), .long se, .long sm, .long sc, .int (dc_dn sv), .int (dc_bI ak), .long cw, .int dn, .int (nI an), .ref m3, .ref m4, .ref m5, .int (nI sk), .ref m6, .ref m7, .ref m8, .ref m9, .int (nI t), .ref ma, .ref mb, .ref mc, .long ee, .long em, .long ec, .ref mg, .ref mz, .int (dc_bI gn), .int c, .ref mr, .ref mi, .int 0])), (mg, .inl (cA 1, 80, .inr (.inl GF))), (mz, .inl (cA 0, 4, .inl gz))] : va_W) = [(mo, .inr (9, [.ref mf, .ref m1, .ref m2, .int (dc_bI so), .long se, .long sm, .long sc, .int (dc_dn sv), .int (dc_bI ak), .long cw, .int dn, .int (nI an), .ref m3, .ref m4, .ref m5, .int (nI sk), .ref m6, .ref m7, .ref m8, .ref m9, .int (nI t), .ref ma, .ref mb, .ref mc, .long ee, .long em, .long ec, .ref mg, .ref mz, .int (dc_bI gn), .int c, .ref mr, .ref mi, .int (dc_hdT gn 2 (nI i9) y0 y1 y2 y3)])), (mg, .inl (cA 1, 80, .inr (.inl GF))), (mz, .inl (cA 0, 4, .inl gz))] := by rw [hT]
                rw [hE9] at hP9 hD9
                exact W.lret (v := (GF (40 + i9))) hx hb hr (fun t ht hW => ⟨⟨_, (), rfl, (((hg h5).2.2.2.1 i9 hi9).trans (dc_hdV1 (j := 2) (by decide) (show i9 < y2 from hi9) (show y2 ≤ 20 by omega) hT)), by rw [ht]; exact hP9, hD9⟩, hS.F ht⟩) hS.2.2 dn_d_Mod_held_69
            · -- 36: ¬ p < (nI y2)
              refine lv_iconst (v := 2) hx hb dn_d_Mod_held_39 (by decide) ?_
              refine lv_goto (tgt := 44) hx hb dn_d_Mod_held_40 (by decide) ?_
              refine va_put (D := G) (ci := 9) (v := .int 2) (ty := (.int)) (C := dn_R_Mod) (T := dn_T_Mod) (N := 34) hx hb hts (dn_u_Mod) dn_t_Mod dn_o_Mod dn_n_Mod hown hK hP hD hS 0 rfl rfl 33 (by decide) (hts _ dn_w_891) (fun _ h9 => h9) rfl (by decide +kernel) rfl rfl (Nat.le_of_ble_eq_true rfl) dn_d_Mod_held_44 (fun H locs hP hD hS => ?_)
              have hP : va_P G vwCl [(mo, .inr (9, [.ref mf, .ref m1, .ref m2, .int (dc_bI so), .long se, .long sm, .long sc, .int (dc_dn sv), .int (dc_bI ak), .long cw, .int dn, .int (nI an), .ref m3, .ref m4, .ref m5, .int (nI sk), .ref m6, .ref m7, .ref m8, .ref m9, .int (nI t), .ref ma, .ref mb, .ref mc, .long ee, .long em, .long ec, .ref mg, .ref mz, .int (dc_bI gn), .int c, .ref mr, .ref mi, .int 2])), (mg, .inl (cA 1, 80, .inr (.inl GF))), (mz, .inl (cA 0, 4, .inl gz))] H := hP
              have hD : va_D A [(mo, .inr (9, [.ref mf, .ref m1, .ref m2, .int (dc_bI so), .long se, .long sm, .long sc, .int (dc_dn sv), .int (dc_bI ak), .long cw, .int dn, .int (nI an), .ref m3, .ref m4, .ref m5, .int (nI sk), .ref m6, .ref m7, .ref m8, .ref m9, .int (nI t), .ref ma, .ref mb, .ref mc, .long ee, .long em, .long ec, .ref mg, .ref mz, .int (dc_bI gn), .int c, .ref mr, .ref mi, .int 2])), (mg, .inl (cA 1, 80, .inr (.inl GF))), (mz, .inl (cA 0, 4, .inl gz))] := hD
              refine lv_aload_n hx hb dn_d_Mod_held_47 rfl (lv_at hl 0 rfl) ?_
              refine va_get (D := G) (ci := 9) (v := .int 2) (C := dn_R_Mod) (T := dn_T_Mod) (N := 34) hx hb hts (dn_u_Mod) hown hK hP 0 rfl rfl 33 (by decide) (hts _ dn_w_891) (fun _ h9 => h9) rfl dn_d_Mod_held_48 ?_
              refine lv_if_ne (tgt := 68) hx hb dn_d_Mod_held_51 (by decide) (fun h51 => ?_) (fun h51 => ?_)
              · -- 51: ¬ 2 = 0
                refine lv_lconst (v := 0) hx hb dn_d_Mod_held_68 (by decide) ?_
                have hT : dc_hdT gn 2 p y0 y1 y2 y3 = 2 := dc_hd3 (j := 2) h5 (by decide) (dc_has1 (show y2 < 2147483648 by omega) (Int32.not_lt.mp h36))
                have hT0 : ¬ dc_hdT gn 2 p y0 y1 y2 y3 = 0 := by rw [hT]; decide
                have hP9 := hP.sub (ws' := [(mo, .inr (9, [.ref mf, .ref m1, .ref m2, .int (dc_bI so), .long se, .long sm, .long sc, .int (dc_dn sv), .int (dc_bI ak), .long cw, .int dn, .int (nI an), .ref m3, .ref m4, .ref m5, .int (nI sk), .ref m6, .ref m7, .ref m8, .ref m9, .int (nI t), .ref ma, .ref mb, .ref mc, .long ee, .long em, .long ec, .ref mg, .ref mz, .int (dc_bI gn), .int c, .ref mr, .ref mi, .int 2])), (mg, .inl (cA 1, 80, .inr (.inl GF))), (mz, .inl (cA 0, 4, .inl gz))]) [0, 1, 2] rfl
                have hD9 := hD.sub (ws' := [(mo, .inr (9, [.ref mf, .ref m1, .ref m2, .int (dc_bI so), .long se, .long sm, .long sc, .int (dc_dn sv), .int (dc_bI ak), .long cw, .int dn, .int (nI an), .ref m3, .ref m4, .ref m5, .int (nI sk), .ref m6, .ref m7, .ref m8, .ref m9, .int (nI t), .ref ma, .ref mb, .ref mc, .long ee, .long em, .long ec, .ref mg, .ref mz, .int (dc_bI gn), .int c, .ref mr, .ref mi, .int 2])), (mg, .inl (cA 1, 80, .inr (.inl GF))), (mz, .inl (cA 0, 4, .inl gz))]) [0, 1, 2] (by decide) rfl
                have hE9 : ([(mo, .inr (9, [.ref mf, .ref m1, .ref m2, .int (dc_bI so), .long se, .long sm, .long sc, .int (dc_dn sv), .int (dc_bI ak), .long cw, .int dn, .int (nI an), .ref m3, .ref m4, .ref m5, .int (nI sk), .ref m6, .ref m7, .ref m8, .ref m9, .int (nI t), .ref ma, .ref mb, .ref mc, .long ee, .long em, .long ec, .ref mg, .ref mz, .int (dc_bI gn), .int c, .ref mr, .ref mi, .int 2])), (mg, .inl (cA 1, 80, .inr (.inl GF))), (mz, .inl (cA 0, 4, .inl gz))] : va_W) = [(mo, .inr (9, [.ref mf, .ref m1, .ref m2, .int (dc_bI so), .long se, .long sm, .long sc, .int (dc_dn sv), .int (dc_bI ak), .long cw, .int dn, .int (nI an), .ref m3, .ref m4, .ref m5, .int (nI sk), .ref m6, .ref m7, .ref m8, .ref m9, .int (nI t), .ref ma, .ref mb, .ref mc, .long ee, .long em, .long ec, .ref mg, .ref mz, .int (dc_bI gn), .int c, .ref mr, .ref mi, .int (dc_hdT gn 2 p y0 y1 y2 y3)])), (mg, .inl (cA 1, 80, .inr (.inl GF))), (mz, .inl (cA 0, 4, .inl gz))] := by rw [hT]
                rw [hE9] at hP9 hD9
                exact W.lret (v := 0) hx hb hr (fun t ht hW => ⟨⟨_, (), rfl, (dc_hdV0 hT0), by rw [ht]; exact hP9, hD9⟩, hS.F ht⟩) hS.2.2 dn_d_Mod_held_69
              · exact absurd h51 (by decide)
        · exact absurd h18 (by decide)
    ·
      have hl : lv_has ls 3 [(0, .ref mo), (1, .int 3), (2, .int p)] := hl
      have hP : va_P G vwCl [(mo, .inr (9, [.ref mf, .ref m1, .ref m2, .int (dc_bI so), .long se, .long sm, .long sc, .int (dc_dn sv), .int (dc_bI ak), .long cw, .int dn, .int (nI an), .ref m3, .ref m4, .ref m5, .int (nI sk), .ref m6, .ref m7, .ref m8, .ref m9, .int (nI t), .ref ma, .ref mb, .ref mc, .long ee, .long em, .long ec, .ref mg, .ref mz, .int (dc_bI gn), .int c, .ref mr, .ref mi, .int th])), (mg, .inl (cA 1, 80, .inr (.inl GF))), (mz, .inl (cA 0, 4, .inl gz))] s.heap := hP
      have hD : va_D A [(mo, .inr (9, [.ref mf, .ref m1, .ref m2, .int (dc_bI so), .long se, .long sm, .long sc, .int (dc_dn sv), .int (dc_bI ak), .long cw, .int dn, .int (nI an), .ref m3, .ref m4, .ref m5, .int (nI sk), .ref m6, .ref m7, .ref m8, .ref m9, .int (nI t), .ref ma, .ref mb, .ref mc, .long ee, .long em, .long ec, .ref mg, .ref mz, .int (dc_bI gn), .int c, .ref mr, .ref mi, .int th])), (mg, .inl (cA 1, 80, .inr (.inl GF))), (mz, .inl (cA 0, 4, .inl gz))] := hD
      refine lv_iload_n hx hb dn_d_Mod_held_12 rfl (lv_at hl 1 rfl) ?_
      refine lv_if_lt (tgt := 21) hx hb dn_d_Mod_held_13 (by decide) (fun h13 => ?_) (fun h13 => ?_)
      · exact absurd h13 (by decide)
      · -- 13: ¬ 3 < 0
        refine lv_iload_n hx hb dn_d_Mod_held_16 rfl (lv_at hl 1 rfl) ?_
        refine lv_iconst (v := 3) hx hb dn_d_Mod_held_17 (by decide) ?_
        refine lv_icmp_le (tgt := 25) hx hb dn_d_Mod_held_18 (by decide) (fun h18 => ?_) (fun h18 => ?_)
        · -- 18: 3 ≤ 3
          refine lv_iload_n hx hb dn_d_Mod_held_25 rfl (lv_at hl 2 rfl) ?_
          refine lv_if_lt (tgt := 39) hx hb dn_d_Mod_held_26 (by decide) (fun h26 => ?_) (fun h26 => ?_)
          · -- 26: p < 0
            refine lv_iconst (v := 2) hx hb dn_d_Mod_held_39 (by decide) ?_
            refine lv_goto (tgt := 44) hx hb dn_d_Mod_held_40 (by decide) ?_
            refine va_put (D := G) (ci := 9) (v := .int 2) (ty := (.int)) (C := dn_R_Mod) (T := dn_T_Mod) (N := 34) hx hb hts (dn_u_Mod) dn_t_Mod dn_o_Mod dn_n_Mod hown hK hP hD hS 0 rfl rfl 33 (by decide) (hts _ dn_w_891) (fun _ h9 => h9) rfl (by decide +kernel) rfl rfl (Nat.le_of_ble_eq_true rfl) dn_d_Mod_held_44 (fun H locs hP hD hS => ?_)
            have hP : va_P G vwCl [(mo, .inr (9, [.ref mf, .ref m1, .ref m2, .int (dc_bI so), .long se, .long sm, .long sc, .int (dc_dn sv), .int (dc_bI ak), .long cw, .int dn, .int (nI an), .ref m3, .ref m4, .ref m5, .int (nI sk), .ref m6, .ref m7, .ref m8, .ref m9, .int (nI t), .ref ma, .ref mb, .ref mc, .long ee, .long em, .long ec, .ref mg, .ref mz, .int (dc_bI gn), .int c, .ref mr, .ref mi, .int 2])), (mg, .inl (cA 1, 80, .inr (.inl GF))), (mz, .inl (cA 0, 4, .inl gz))] H := hP
            have hD : va_D A [(mo, .inr (9, [.ref mf, .ref m1, .ref m2, .int (dc_bI so), .long se, .long sm, .long sc, .int (dc_dn sv), .int (dc_bI ak), .long cw, .int dn, .int (nI an), .ref m3, .ref m4, .ref m5, .int (nI sk), .ref m6, .ref m7, .ref m8, .ref m9, .int (nI t), .ref ma, .ref mb, .ref mc, .long ee, .long em, .long ec, .ref mg, .ref mz, .int (dc_bI gn), .int c, .ref mr, .ref mi, .int 2])), (mg, .inl (cA 1, 80, .inr (.inl GF))), (mz, .inl (cA 0, 4, .inl gz))] := hD
            refine lv_aload_n hx hb dn_d_Mod_held_47 rfl (lv_at hl 0 rfl) ?_
            refine va_get (D := G) (ci := 9) (v := .int 2) (C := dn_R_Mod) (T := dn_T_Mod) (N := 34) hx hb hts (dn_u_Mod) hown hK hP 0 rfl rfl 33 (by decide) (hts _ dn_w_891) (fun _ h9 => h9) rfl dn_d_Mod_held_48 ?_
            refine lv_if_ne (tgt := 68) hx hb dn_d_Mod_held_51 (by decide) (fun h51 => ?_) (fun h51 => ?_)
            · -- 51: ¬ 2 = 0
              refine lv_lconst (v := 0) hx hb dn_d_Mod_held_68 (by decide) ?_
              have hT : dc_hdT gn 3 p y0 y1 y2 y3 = 2 := dc_hd3 (j := 3) h5 (by decide) (dc_has0 h26)
              have hT0 : ¬ dc_hdT gn 3 p y0 y1 y2 y3 = 0 := by rw [hT]; decide
              have hP9 := hP.sub (ws' := [(mo, .inr (9, [.ref mf, .ref m1, .ref m2, .int (dc_bI so), .long se, .long sm, .long sc, .int (dc_dn sv), .int (dc_bI ak), .long cw, .int dn, .int (nI an), .ref m3, .ref m4, .ref m5, .int (nI sk), .ref m6, .ref m7, .ref m8, .ref m9, .int (nI t), .ref ma, .ref mb, .ref mc, .long ee, .long em, .long ec, .ref mg, .ref mz, .int (dc_bI gn), .int c, .ref mr, .ref mi, .int 2])), (mg, .inl (cA 1, 80, .inr (.inl GF))), (mz, .inl (cA 0, 4, .inl gz))]) [0, 1, 2] rfl
              have hD9 := hD.sub (ws' := [(mo, .inr (9, [.ref mf, .ref m1, .ref m2, .int (dc_bI so), .long se, .long sm, .long sc, .int (dc_dn sv), .int (dc_bI ak), .long cw, .int dn, .int (nI an), .ref m3, .ref m4, .ref m5, .int (nI sk), .ref m6, .ref m7, .ref m8, .ref m9, .int (nI t), .ref ma, .ref mb, .ref mc, .long ee, .long em, .long ec, .ref mg, .ref mz, .int (dc_bI gn), .int c, .ref mr, .ref mi, .int 2])), (mg, .inl (cA 1, 80, .inr (.inl GF))), (mz, .inl (cA 0, 4, .inl gz))]) [0, 1, 2] (by decide) rfl
              have hE9 : ([(mo, .inr (9, [.ref mf, .ref m1, .ref m2, .int (dc_bI so), .long se, .long sm, .long sc, .int (dc_dn sv), .int (dc_bI ak), .long cw, .int dn, .int (nI an), .ref m3, .ref m4, .ref m5, .int (nI sk), .ref m6, .ref m7, .ref m8, .ref m9, .int (nI t), .ref ma, .ref mb, .ref mc, .long ee, .long em, .long ec, .ref mg, .ref mz, .int (dc_bI gn), .int c, .ref mr, .ref mi, .int 2])), (mg, .inl (cA 1, 80, .inr (.inl GF))), (mz, .inl (cA 0, 4, .inl gz))] : va_W) = [(mo, .inr (9, [.ref mf, .ref m1, .ref m2, .int (dc_bI so), .long se, .long sm, .long sc, .int (dc_dn sv), .int (dc_bI ak), .long cw, .int dn, .int (nI an), .ref m3, .ref m4, .ref m5, .int (nI sk), .ref m6, .ref m7, .ref m8, .ref m9, .int (nI t), .ref ma, .ref mb, .ref mc, .long ee, .long em, .long ec, .ref mg, .ref mz, .int (dc_bI gn), .int c, .ref mr, .ref mi, .int (dc_hdT gn 3 p y0 y1 y2 y3)])), (mg, .inl (cA 1, 80, .inr (.inl GF))), (mz, .inl (cA 0, 4, .inl gz))] := by rw [hT]
              rw [hE9] at hP9 hD9
              exact W.lret (v := 0) hx hb hr (fun t ht hW => ⟨⟨_, (), rfl, (dc_hdV0 hT0), by rw [ht]; exact hP9, hD9⟩, hS.F ht⟩) hS.2.2 dn_d_Mod_held_69
            · exact absurd h51 (by decide)
          · -- 26: ¬ p < 0
            refine lv_iload_n hx hb dn_d_Mod_held_29 rfl (lv_at hl 2 rfl) ?_
            refine lv_aload_n hx hb dn_d_Mod_held_30 rfl (lv_at hl 0 rfl) ?_
            refine va_get (D := G) (ci := 9) (v := .ref mz) (C := dn_R_Mod) (T := dn_T_Mod) (N := 34) hx hb hts (dn_u_Mod) hown hK hP 0 rfl rfl 28 (by decide) (hts _ dn_w_886) (fun _ h9 => h9) rfl dn_d_Mod_held_31 ?_
            refine lv_iload_n hx hb dn_d_Mod_held_34 rfl (lv_at hl 1 rfl) ?_
            refine dc_iald (k := 3) hx hb hK hP 2 rfl (by omega) (by omega) dn_d_Mod_held_35 ?_
            rw [(hg h5).1.2.2.2]
            refine lv_icmp_lt (tgt := 43) hx hb dn_d_Mod_held_36 (by decide) (fun h36 => ?_) (fun h36 => ?_)
            · -- 36: p < (nI y3)
              obtain ⟨i9, hi9, rfl⟩ := dc_hasE (show y3 < 2147483648 by omega) (dc_has2 (by omega) h26 (Int32.not_le.mpr h36))
              have hl : lv_has ls 3 [(0, .ref mo), (1, .int 3), (2, .int (nI i9))] := hl
              refine lv_iconst (v := 0) hx hb dn_d_Mod_held_43 (by decide) ?_
              refine va_put (D := G) (ci := 9) (v := .int 0) (ty := (.int)) (C := dn_R_Mod) (T := dn_T_Mod) (N := 34) hx hb hts (dn_u_Mod) dn_t_Mod dn_o_Mod dn_n_Mod hown hK hP hD hS 0 rfl rfl 33 (by decide) (hts _ dn_w_891) (fun _ h9 => h9) rfl (by decide +kernel) rfl rfl (Nat.le_of_ble_eq_true rfl) dn_d_Mod_held_44 (fun H locs hP hD hS => ?_)
              have hP : va_P G vwCl [(mo, .inr (9, [.ref mf, .ref m1, .ref m2, .int (dc_bI so), .long se, .long sm, .long sc, .int (dc_dn sv), .int (dc_bI ak), .long cw, .int dn, .int (nI an), .ref m3, .ref m4, .ref m5, .int (nI sk), .ref m6, .ref m7, .ref m8, .ref m9, .int (nI t), .ref ma, .ref mb, .ref mc, .long ee, .long em, .long ec, .ref mg, .ref mz, .int (dc_bI gn), .int c, .ref mr, .ref mi, .int 0])), (mg, .inl (cA 1, 80, .inr (.inl GF))), (mz, .inl (cA 0, 4, .inl gz))] H := hP
              have hD : va_D A [(mo, .inr (9, [.ref mf, .ref m1, .ref m2, .int (dc_bI so), .long se, .long sm, .long sc, .int (dc_dn sv), .int (dc_bI ak), .long cw, .int dn, .int (nI an), .ref m3, .ref m4, .ref m5, .int (nI sk), .ref m6, .ref m7, .ref m8, .ref m9, .int (nI t), .ref ma, .ref mb, .ref mc, .long ee, .long em, .long ec, .ref mg, .ref mz, .int (dc_bI gn), .int c, .ref mr, .ref mi, .int 0])), (mg, .inl (cA 1, 80, .inr (.inl GF))), (mz, .inl (cA 0, 4, .inl gz))] := hD
              refine lv_aload_n hx hb dn_d_Mod_held_47 rfl (lv_at hl 0 rfl) ?_
              refine va_get (D := G) (ci := 9) (v := .int 0) (C := dn_R_Mod) (T := dn_T_Mod) (N := 34) hx hb hts (dn_u_Mod) hown hK hP 0 rfl rfl 33 (by decide) (hts _ dn_w_891) (fun _ h9 => h9) rfl dn_d_Mod_held_48 ?_
              refine lv_if_ne (tgt := 68) hx hb dn_d_Mod_held_51 (by decide) (fun h51 => ?_) (fun h51 => ?_)
              · exact absurd h51 (by decide)
              · -- 51: 0 = 0
                refine lv_aload_n hx hb dn_d_Mod_held_54 rfl (lv_at hl 0 rfl) ?_
                refine va_get (D := G) (ci := 9) (v := .ref mg) (C := dn_R_Mod) (T := dn_T_Mod) (N := 34) hx hb hts (dn_u_Mod) hown hK hP 0 rfl rfl 27 (by decide) (hts _ dn_w_885) (fun _ h9 => h9) rfl dn_d_Mod_held_55 ?_
                refine lv_bipush (v := 20) hx hb dn_d_Mod_held_58 (by decide) ?_
                refine lv_iload_n hx hb dn_d_Mod_held_60 rfl (lv_at hl 1 rfl) ?_
                refine lv_imul hx hb dn_d_Mod_held_61 ?_
                rw [show (20 : Int32) * (3 : Int32) = (60 : Int32) from rfl]
                refine lv_iload_n hx hb dn_d_Mod_held_62 rfl (lv_at hl 2 rfl) ?_
                refine lv_iadd hx hb dn_d_Mod_held_63 ?_
                rw [show (60 : Int32) + (nI i9) = nI (60 + i9) from nI_add 60 i9]
                refine dc_lald (k := 60 + i9) hx hb hK hP 1 rfl (by omega) (by omega) dn_d_Mod_held_64 ?_
                refine lv_goto (tgt := 69) hx hb dn_d_Mod_held_65 (by decide) ?_
                have hT : dc_hdT gn 3 (nI i9) y0 y1 y2 y3 = 0 := dc_hd0 (j := 3) h5 (by decide) (dc_hasN (show i9 < y3 from hi9) (show y3 < 2147483648 by omega))
                have hP9 := hP.sub (ws' := [(mo, .inr (9, [.ref mf, .ref m1, .ref m2, .int (dc_bI so), .long se, .long sm, .long sc, .int (dc_dn sv), .int (dc_bI ak), .long cw, .int dn, .int (nI an), .ref m3, .ref m4, .ref m5, .int (nI sk), .ref m6, .ref m7, .ref m8, .ref m9, .int (nI t), .ref ma, .ref mb, .ref mc, .long ee, .long em, .long ec, .ref mg, .ref mz, .int (dc_bI gn), .int c, .ref mr, .ref mi, .int 0])), (mg, .inl (cA 1, 80, .inr (.inl GF))), (mz, .inl (cA 0, 4, .inl gz))]) [0, 1, 2] rfl
                have hD9 := hD.sub (ws' := [(mo, .inr (9, [.ref mf, .ref m1, .ref m2, .int (dc_bI so), .long se, .long sm, .long sc, .int (dc_dn sv), .int (dc_bI ak), .long cw, .int dn, .int (nI an), .ref m3, .ref m4, .ref m5, .int (nI sk), .ref m6, .ref m7, .ref m8, .ref m9, .int (nI t), .ref ma, .ref mb, .ref mc, .long ee, .long em, .long ec, .ref mg, .ref mz, .int (dc_bI gn), .int c, .ref mr, .ref mi, .int 0])), (mg, .inl (cA 1, 80, .inr (.inl GF))), (mz, .inl (cA 0, 4, .inl gz))]) [0, 1, 2] (by decide) rfl
                have hE9 : ([(mo, .inr (9, [.ref mf, .ref m1, .ref m2, .int (dc_bI so), .long se, .long sm, .long sc, .int (dc_dn sv), .int (dc_bI ak), .long cw, .int dn, .int (nI an), .ref m3, .ref m4, .ref m5, .int (nI sk), .ref m6, .ref m7, .ref m8, .ref m9, .int (nI t), .ref ma, .ref mb, .ref mc, .long ee, .long em, .long ec, .ref mg, .ref mz, .int (dc_bI gn), .int c, .ref mr, .ref mi, .int 0])), (mg, .inl (cA 1, 80, .inr (.inl GF))), (mz, .inl (cA 0, 4, .inl gz))] : va_W) = [(mo, .inr (9, [.ref mf, .ref m1, .ref m2, .int (dc_bI so), .long se, .long sm, .long sc, .int (dc_dn sv), .int (dc_bI ak), .long cw, .int dn, .int (nI an), .ref m3, .ref m4, .ref m5, .int (nI sk), .ref m6, .ref m7, .ref m8, .ref m9, .int (nI t), .ref ma, .ref mb, .ref mc, .long ee, .long em, .long ec, .ref mg, .ref mz, .int (dc_bI gn), .int c, .ref mr, .ref mi, .int (dc_hdT gn 3 (nI i9) y0 y1 y2 y3)])), (mg, .inl (cA 1, 80, .inr (.inl GF))), (mz, .inl (cA 0, 4, .inl gz))] := by rw [hT]
                rw [hE9] at hP9 hD9
                exact W.lret (v := (GF (60 + i9))) hx hb hr (fun t ht hW => ⟨⟨_, (), rfl, (((hg h5).2.2.2.2 i9 hi9).trans (dc_hdV1 (j := 3) (by decide) (show i9 < y3 from hi9) (show y3 ≤ 20 by omega) hT)), by rw [ht]; exact hP9, hD9⟩, hS.F ht⟩) hS.2.2 dn_d_Mod_held_69
            · -- 36: ¬ p < (nI y3)
              refine lv_iconst (v := 2) hx hb dn_d_Mod_held_39 (by decide) ?_
              refine lv_goto (tgt := 44) hx hb dn_d_Mod_held_40 (by decide) ?_
              refine va_put (D := G) (ci := 9) (v := .int 2) (ty := (.int)) (C := dn_R_Mod) (T := dn_T_Mod) (N := 34) hx hb hts (dn_u_Mod) dn_t_Mod dn_o_Mod dn_n_Mod hown hK hP hD hS 0 rfl rfl 33 (by decide) (hts _ dn_w_891) (fun _ h9 => h9) rfl (by decide +kernel) rfl rfl (Nat.le_of_ble_eq_true rfl) dn_d_Mod_held_44 (fun H locs hP hD hS => ?_)
              have hP : va_P G vwCl [(mo, .inr (9, [.ref mf, .ref m1, .ref m2, .int (dc_bI so), .long se, .long sm, .long sc, .int (dc_dn sv), .int (dc_bI ak), .long cw, .int dn, .int (nI an), .ref m3, .ref m4, .ref m5, .int (nI sk), .ref m6, .ref m7, .ref m8, .ref m9, .int (nI t), .ref ma, .ref mb, .ref mc, .long ee, .long em, .long ec, .ref mg, .ref mz, .int (dc_bI gn), .int c, .ref mr, .ref mi, .int 2])), (mg, .inl (cA 1, 80, .inr (.inl GF))), (mz, .inl (cA 0, 4, .inl gz))] H := hP
              have hD : va_D A [(mo, .inr (9, [.ref mf, .ref m1, .ref m2, .int (dc_bI so), .long se, .long sm, .long sc, .int (dc_dn sv), .int (dc_bI ak), .long cw, .int dn, .int (nI an), .ref m3, .ref m4, .ref m5, .int (nI sk), .ref m6, .ref m7, .ref m8, .ref m9, .int (nI t), .ref ma, .ref mb, .ref mc, .long ee, .long em, .long ec, .ref mg, .ref mz, .int (dc_bI gn), .int c, .ref mr, .ref mi, .int 2])), (mg, .inl (cA 1, 80, .inr (.inl GF))), (mz, .inl (cA 0, 4, .inl gz))] := hD
              refine lv_aload_n hx hb dn_d_Mod_held_47 rfl (lv_at hl 0 rfl) ?_
              refine va_get (D := G) (ci := 9) (v := .int 2) (C := dn_R_Mod) (T := dn_T_Mod) (N := 34) hx hb hts (dn_u_Mod) hown hK hP 0 rfl rfl 33 (by decide) (hts _ dn_w_891) (fun _ h9 => h9) rfl dn_d_Mod_held_48 ?_
              refine lv_if_ne (tgt := 68) hx hb dn_d_Mod_held_51 (by decide) (fun h51 => ?_) (fun h51 => ?_)
              · -- 51: ¬ 2 = 0
                refine lv_lconst (v := 0) hx hb dn_d_Mod_held_68 (by decide) ?_
                have hT : dc_hdT gn 3 p y0 y1 y2 y3 = 2 := dc_hd3 (j := 3) h5 (by decide) (dc_has1 (show y3 < 2147483648 by omega) (Int32.not_lt.mp h36))
                have hT0 : ¬ dc_hdT gn 3 p y0 y1 y2 y3 = 0 := by rw [hT]; decide
                have hP9 := hP.sub (ws' := [(mo, .inr (9, [.ref mf, .ref m1, .ref m2, .int (dc_bI so), .long se, .long sm, .long sc, .int (dc_dn sv), .int (dc_bI ak), .long cw, .int dn, .int (nI an), .ref m3, .ref m4, .ref m5, .int (nI sk), .ref m6, .ref m7, .ref m8, .ref m9, .int (nI t), .ref ma, .ref mb, .ref mc, .long ee, .long em, .long ec, .ref mg, .ref mz, .int (dc_bI gn), .int c, .ref mr, .ref mi, .int 2])), (mg, .inl (cA 1, 80, .inr (.inl GF))), (mz, .inl (cA 0, 4, .inl gz))]) [0, 1, 2] rfl
                have hD9 := hD.sub (ws' := [(mo, .inr (9, [.ref mf, .ref m1, .ref m2, .int (dc_bI so), .long se, .long sm, .long sc, .int (dc_dn sv), .int (dc_bI ak), .long cw, .int dn, .int (nI an), .ref m3, .ref m4, .ref m5, .int (nI sk), .ref m6, .ref m7, .ref m8, .ref m9, .int (nI t), .ref ma, .ref mb, .ref mc, .long ee, .long em, .long ec, .ref mg, .ref mz, .int (dc_bI gn), .int c, .ref mr, .ref mi, .int 2])), (mg, .inl (cA 1, 80, .inr (.inl GF))), (mz, .inl (cA 0, 4, .inl gz))]) [0, 1, 2] (by decide) rfl
                have hE9 : ([(mo, .inr (9, [.ref mf, .ref m1, .ref m2, .int (dc_bI so), .long se, .long sm, .long sc, .int (dc_dn sv), .int (dc_bI ak), .long cw, .int dn, .int (nI an), .ref m3, .ref m4, .ref m5, .int (nI sk), .ref m6, .ref m7, .ref m8, .ref m9, .int (nI t), .ref ma, .ref mb, .ref mc, .long ee, .long em, .long ec, .ref mg, .ref mz, .int (dc_bI gn), .int c, .ref mr, .ref mi, .int 2])), (mg, .inl (cA 1, 80, .inr (.inl GF))), (mz, .inl (cA 0, 4, .inl gz))] : va_W) = [(mo, .inr (9, [.ref mf, .ref m1, .ref m2, .int (dc_bI so), .long se, .long sm, .long sc, .int (dc_dn sv), .int (dc_bI ak), .long cw, .int dn, .int (nI an), .ref m3, .ref m4, .ref m5, .int (nI sk), .ref m6, .ref m7, .ref m8, .ref m9, .int (nI t), .ref ma, .ref mb, .ref mc, .long ee, .long em, .long ec, .ref mg, .ref mz, .int (dc_bI gn), .int c, .ref mr, .ref mi, .int (dc_hdT gn 3 p y0 y1 y2 y3)])), (mg, .inl (cA 1, 80, .inr (.inl GF))), (mz, .inl (cA 0, 4, .inl gz))] := by rw [hT]
                rw [hE9] at hP9 hD9
                exact W.lret (v := 0) hx hb hr (fun t ht hW => ⟨⟨_, (), rfl, (dc_hdV0 hT0), by rw [ht]; exact hP9, hD9⟩, hS.F ht⟩) hS.2.2 dn_d_Mod_held_69
              · exact absurd h51 (by decide)
        · exact absurd h18 (by decide)
  · -- 5: gn = false
    have h5 : gn = false := dc_bI0.1 h5
    refine lv_iconst (v := 1) hx hb dn_d_Mod_held_8 (by decide) ?_
    refine lv_goto (tgt := 44) hx hb dn_d_Mod_held_9 (by decide) ?_
    refine va_put (D := G) (ci := 9) (v := .int 1) (ty := (.int)) (C := dn_R_Mod) (T := dn_T_Mod) (N := 34) hx hb hts (dn_u_Mod) dn_t_Mod dn_o_Mod dn_n_Mod hown hK hP hD hS 0 rfl rfl 33 (by decide) (hts _ dn_w_891) (fun _ h9 => h9) rfl (by decide +kernel) rfl rfl (Nat.le_of_ble_eq_true rfl) dn_d_Mod_held_44 (fun H locs hP hD hS => ?_)
    have hP : va_P G vwCl [(mo, .inr (9, [.ref mf, .ref m1, .ref m2, .int (dc_bI so), .long se, .long sm, .long sc, .int (dc_dn sv), .int (dc_bI ak), .long cw, .int dn, .int (nI an), .ref m3, .ref m4, .ref m5, .int (nI sk), .ref m6, .ref m7, .ref m8, .ref m9, .int (nI t), .ref ma, .ref mb, .ref mc, .long ee, .long em, .long ec, .ref mg, .ref mz, .int (dc_bI gn), .int c, .ref mr, .ref mi, .int 1])), (mg, .inl (cA 1, 80, .inr (.inl GF))), (mz, .inl (cA 0, 4, .inl gz))] H := hP
    have hD : va_D A [(mo, .inr (9, [.ref mf, .ref m1, .ref m2, .int (dc_bI so), .long se, .long sm, .long sc, .int (dc_dn sv), .int (dc_bI ak), .long cw, .int dn, .int (nI an), .ref m3, .ref m4, .ref m5, .int (nI sk), .ref m6, .ref m7, .ref m8, .ref m9, .int (nI t), .ref ma, .ref mb, .ref mc, .long ee, .long em, .long ec, .ref mg, .ref mz, .int (dc_bI gn), .int c, .ref mr, .ref mi, .int 1])), (mg, .inl (cA 1, 80, .inr (.inl GF))), (mz, .inl (cA 0, 4, .inl gz))] := hD
    refine lv_aload_n hx hb dn_d_Mod_held_47 rfl (lv_at hl 0 rfl) ?_
    refine va_get (D := G) (ci := 9) (v := .int 1) (C := dn_R_Mod) (T := dn_T_Mod) (N := 34) hx hb hts (dn_u_Mod) hown hK hP 0 rfl rfl 33 (by decide) (hts _ dn_w_891) (fun _ h9 => h9) rfl dn_d_Mod_held_48 ?_
    refine lv_if_ne (tgt := 68) hx hb dn_d_Mod_held_51 (by decide) (fun h51 => ?_) (fun h51 => ?_)
    · -- 51: ¬ 1 = 0
      refine lv_lconst (v := 0) hx hb dn_d_Mod_held_68 (by decide) ?_
      have hT : dc_hdT gn f p y0 y1 y2 y3 = 1 := dc_hd1 h5
      have hT0 : ¬ dc_hdT gn f p y0 y1 y2 y3 = 0 := by rw [hT]; decide
      have hP9 := hP.sub (ws' := [(mo, .inr (9, [.ref mf, .ref m1, .ref m2, .int (dc_bI so), .long se, .long sm, .long sc, .int (dc_dn sv), .int (dc_bI ak), .long cw, .int dn, .int (nI an), .ref m3, .ref m4, .ref m5, .int (nI sk), .ref m6, .ref m7, .ref m8, .ref m9, .int (nI t), .ref ma, .ref mb, .ref mc, .long ee, .long em, .long ec, .ref mg, .ref mz, .int (dc_bI gn), .int c, .ref mr, .ref mi, .int 1])), (mg, .inl (cA 1, 80, .inr (.inl GF))), (mz, .inl (cA 0, 4, .inl gz))]) [0, 1, 2] rfl
      have hD9 := hD.sub (ws' := [(mo, .inr (9, [.ref mf, .ref m1, .ref m2, .int (dc_bI so), .long se, .long sm, .long sc, .int (dc_dn sv), .int (dc_bI ak), .long cw, .int dn, .int (nI an), .ref m3, .ref m4, .ref m5, .int (nI sk), .ref m6, .ref m7, .ref m8, .ref m9, .int (nI t), .ref ma, .ref mb, .ref mc, .long ee, .long em, .long ec, .ref mg, .ref mz, .int (dc_bI gn), .int c, .ref mr, .ref mi, .int 1])), (mg, .inl (cA 1, 80, .inr (.inl GF))), (mz, .inl (cA 0, 4, .inl gz))]) [0, 1, 2] (by decide) rfl
      have hE9 : ([(mo, .inr (9, [.ref mf, .ref m1, .ref m2, .int (dc_bI so), .long se, .long sm, .long sc, .int (dc_dn sv), .int (dc_bI ak), .long cw, .int dn, .int (nI an), .ref m3, .ref m4, .ref m5, .int (nI sk), .ref m6, .ref m7, .ref m8, .ref m9, .int (nI t), .ref ma, .ref mb, .ref mc, .long ee, .long em, .long ec, .ref mg, .ref mz, .int (dc_bI gn), .int c, .ref mr, .ref mi, .int 1])), (mg, .inl (cA 1, 80, .inr (.inl GF))), (mz, .inl (cA 0, 4, .inl gz))] : va_W) = [(mo, .inr (9, [.ref mf, .ref m1, .ref m2, .int (dc_bI so), .long se, .long sm, .long sc, .int (dc_dn sv), .int (dc_bI ak), .long cw, .int dn, .int (nI an), .ref m3, .ref m4, .ref m5, .int (nI sk), .ref m6, .ref m7, .ref m8, .ref m9, .int (nI t), .ref ma, .ref mb, .ref mc, .long ee, .long em, .long ec, .ref mg, .ref mz, .int (dc_bI gn), .int c, .ref mr, .ref mi, .int (dc_hdT gn f p y0 y1 y2 y3)])), (mg, .inl (cA 1, 80, .inr (.inl GF))), (mz, .inl (cA 0, 4, .inl gz))] := by rw [hT]
      rw [hE9] at hP9 hD9
      exact W.lret (v := 0) hx hb hr (fun t ht hW => ⟨⟨_, (), rfl, (dc_hdV0 hT0), by rw [ht]; exact hP9, hD9⟩, hS.F ht⟩) hS.2.2 dn_d_Mod_held_69
    · exact absurd h51 (by decide)

set_option maxHeartbeats 4000000 in
set_option maxRecDepth 100000 in
theorem rr_sendMail (l : Launch) (G : va_G) (cA : Nat → ClassId) (mo : Nat) (mf : Nat) (m1 : Nat) (m2 : Nat) (so : Bool) (se : Int64) (sm : Int64) (sc : Int64) (sv : Nat) (ak : Bool) (cw : Int64) (dn : Int32) (an : Nat) (m3 : Nat) (m4 : Nat) (m5 : Nat) (sk : Nat) (m6 : Nat) (m7 : Nat) (m8 : Nat) (m9 : Nat) (t : Nat) (ma : Nat) (mb : Nat) (mc : Nat) (ee : Int64) (em : Int64) (ec : Int64) (mg : Nat) (mz : Nat) (gn : Bool) (c : Int32) (mr : Nat) (mi : Nat) (th : Int32) (fa : Nat → Int32) (fb : Nat → Int32) (fm : Nat → Int64) (ml : Nat → Int64) (n : Nat) (ht : t ≤ 3) (hn : n ≤ 6) (hfb : ∀ i : Nat, i < t → ¬ fb i < 0) (sz : Nat) : Met l dn_y_Mod_sendMail (.code dn_y_Mod_sendMail dn_c_Mod_sendMail 3 none :: dc_W) ({ frames := 0, cells := 0, slots := 0, locals := 0 }) (dc_pW G cA [(mo, .inr (9, [.ref mf, .ref m1, .ref m2, .int (dc_bI so), .long se, .long sm, .long sc, .int (dc_dn sv), .int (dc_bI ak), .long cw, .int dn, .int (nI an), .ref m3, .ref m4, .ref m5, .int (nI sk), .ref m6, .ref m7, .ref m8, .ref m9, .int (nI t), .ref ma, .ref mb, .ref mc, .long ee, .long em, .long ec, .ref mg, .ref mz, .int (dc_bI gn), .int c, .ref mr, .ref mi, .int th])), (ma, .inl (cA 0, 3, .inl fa)), (mb, .inl (cA 0, 3, .inl fb)), (mc, .inl (cA 1, 3, .inr (.inl fm))), (mi, .inl (cA 1, 8, .inr (.inl ml)))] sz [.ref mo, .int (nI n)]) (dc_qv G (fun (_ : Unit) => True) (fun (_ : Unit) => [(mo, .inr (9, [.ref mf, .ref m1, .ref m2, .int (dc_bI so), .long se, .long sm, .long sc, .int (dc_dn sv), .int (dc_bI ak), .long cw, .int dn, .int (nI an), .ref m3, .ref m4, .ref m5, .int (nI sk), .ref m6, .ref m7, .ref m8, .ref m9, .int (nI t), .ref ma, .ref mb, .ref mc, .long ee, .long em, .long ec, .ref mg, .ref mz, .int (dc_bI gn), .int (c + 1), .ref mr, .ref mi, .int th])), (ma, .inl (cA 0, 3, .inl fa)), (mb, .inl (cA 0, 3, .inl fb)), (mc, .inl (cA 1, 3, .inr (.inl fm))), (mi, .inl (cA 1, 8, .inr (.inl (dc_carW fa fb fm c n ml t))))]) sz [(mo, .inr (9, [.ref mf, .ref m1, .ref m2, .int (dc_bI so), .long se, .long sm, .long sc, .int (dc_dn sv), .int (dc_bI ak), .long cw, .int dn, .int (nI an), .ref m3, .ref m4, .ref m5, .int (nI sk), .ref m6, .ref m7, .ref m8, .ref m9, .int (nI t), .ref ma, .ref mb, .ref mc, .long ee, .long em, .long ec, .ref mg, .ref mz, .int (dc_bI gn), .int c, .ref mr, .ref mi, .int th])), (ma, .inl (cA 0, 3, .inl fa)), (mb, .inl (cA 0, 3, .inl fb)), (mc, .inl (cA 1, 3, .inr (.inl fm))), (mi, .inl (cA 1, 8, .inr (.inl ml)))]) 0 0 (va_A [(mo, .inr (9, [.ref mf, .ref m1, .ref m2, .int (dc_bI so), .long se, .long sm, .long sc, .int (dc_dn sv), .int (dc_bI ak), .long cw, .int dn, .int (nI an), .ref m3, .ref m4, .ref m5, .int (nI sk), .ref m6, .ref m7, .ref m8, .ref m9, .int (nI t), .ref ma, .ref mb, .ref mc, .long ee, .long em, .long ec, .ref mg, .ref mz, .int (dc_bI gn), .int c, .ref mr, .ref mi, .int th])), (ma, .inl (cA 0, 3, .inl fa)), (mb, .inl (cA 0, 3, .inl fb)), (mc, .inl (cA 1, 3, .inr (.inl fm))), (mi, .inl (cA 1, 8, .inr (.inl ml)))] sz) := by
  refine Met.ofW (cc := dn_c_Mod_sendMail) (maxL := 3) (ret := none) (by decide) rfl ?_
  intro p9 en9 s m args9 below9 meth9 cd9 s9 B hml hv
  obtain ⟨rfl, hsz, hP, hK0, hD0⟩ := hv
  have hx := B.exec
  have hb := B.bytes
  have hr := B.returns
  have hts : ∀ w ∈ dc_W, w.before _ s = true := fun w h => atoms_spec (ws := (.code dn_y_Mod_sendMail dn_c_Mod_sendMail 3 none :: dc_W)) B.pre w (List.mem_cons_of_mem _ h)
  have hK := hK0.1
  have hN := hK0.2
  have hown : s.vm.findClass dn_R_Mod = some m.cls := findClass_of_methodNamed B.named
  have hlocks := B.notSynchronized
  subst hsz
  have hD := hD0.self (sz := s.heap.size)
  unfold dc_qv
  generalize hAe : va_A [(mo, .inr (9, [.ref mf, .ref m1, .ref m2, .int (dc_bI so), .long se, .long sm, .long sc, .int (dc_dn sv), .int (dc_bI ak), .long cw, .int dn, .int (nI an), .ref m3, .ref m4, .ref m5, .int (nI sk), .ref m6, .ref m7, .ref m8, .ref m9, .int (nI t), .ref ma, .ref mb, .ref mc, .long ee, .long em, .long ec, .ref mg, .ref mz, .int (dc_bI gn), .int c, .ref mr, .ref mi, .int th])), (ma, .inl (cA 0, 3, .inl fa)), (mb, .inl (cA 0, 3, .inl fb)), (mc, .inl (cA 1, 3, .inr (.inl fm))), (mi, .inl (cA 1, 8, .inr (.inl ml)))] s.heap.size = A at hD ⊢
  have hA : ∀ q : Nat, s.heap.size ≤ q → A q := fun q h => by rw [← hAe]; exact Or.inr h
  have hS : va_S A s.heap s.heap [] := va_S.rf
  have hl := lv_entry ([.ref mo, .int (nI n)]) (n := 3) (Nat.le_of_ble_eq_true rfl)
  rw [lg_entry_eq]
  generalize (lg_sl ([.ref mo, .int (nI n)]) ++ List.replicate (3 - (lg_sl ([.ref mo, .int (nI n)])).length) Slot.unset).toArray = ls at hl ⊢
  have hl : lv_has ls 3 [(0, .ref mo), (1, .int (nI n))] := hl
  refine lv_iconst (v := 0) hx hb dn_d_Mod_sendMail_0 (by decide) ?_
  refine lv_istore_n hx hb dn_d_Mod_sendMail_1 rfl hl (by decide) rfl (fun ls hl => ?_)
  have hl : lv_has ls 3 [(2, .int 0), (0, .ref mo), (1, .int (nI n))] := hl
  refine dc_loop (σ := Nat) 2 [] (fun (i : Nat) => t - i) (fun (i : Nat) (H : Heap) (locs : List Loc) (ls : Array Slot) => lv_has ls 3 [(2, .int (nI i)), (0, .ref mo), (1, .int (nI n))] ∧ va_P G vwCl [(mo, .inr (9, [.ref mf, .ref m1, .ref m2, .int (dc_bI so), .long se, .long sm, .long sc, .int (dc_dn sv), .int (dc_bI ak), .long cw, .int dn, .int (nI an), .ref m3, .ref m4, .ref m5, .int (nI sk), .ref m6, .ref m7, .ref m8, .ref m9, .int (nI t), .ref ma, .ref mb, .ref mc, .long ee, .long em, .long ec, .ref mg, .ref mz, .int (dc_bI gn), .int c, .ref mr, .ref mi, .int th])), (ma, .inl (cA 0, 3, .inl fa)), (mb, .inl (cA 0, 3, .inl fb)), (mc, .inl (cA 1, 3, .inr (.inl fm))), (mi, .inl (cA 1, 8, .inr (.inl (dc_carW fa fb fm c n ml i))))] H ∧ va_D A [(mo, .inr (9, [.ref mf, .ref m1, .ref m2, .int (dc_bI so), .long se, .long sm, .long sc, .int (dc_dn sv), .int (dc_bI ak), .long cw, .int dn, .int (nI an), .ref m3, .ref m4, .ref m5, .int (nI sk), .ref m6, .ref m7, .ref m8, .ref m9, .int (nI t), .ref ma, .ref mb, .ref mc, .long ee, .long em, .long ec, .ref mg, .ref mz, .int (dc_bI gn), .int c, .ref mr, .ref mi, .int th])), (ma, .inl (cA 0, 3, .inl fa)), (mb, .inl (cA 0, 3, .inl fb)), (mc, .inl (cA 1, 3, .inr (.inl fm))), (mi, .inl (cA 1, 8, .inr (.inl (dc_carW fa fb fm c n ml i))))] ∧ va_S A s.heap H locs ∧ (i ≤ t)) ?_ 0 ⟨lv_sub hl [0, 1, 2] rfl, hP.sub [0, 1, 2, 3, 4] rfl, hD.sub [0, 1, 2, 3, 4] (by decide) rfl, hS, (by omega)⟩
  rintro i H locs ls ⟨hl, hP, hD, hS, hi⟩ ih2
  have hl : lv_has ls 3 [(2, .int (nI i)), (0, .ref mo), (1, .int (nI n))] := hl
  have hP : va_P G vwCl [(mo, .inr (9, [.ref mf, .ref m1, .ref m2, .int (dc_bI so), .long se, .long sm, .long sc, .int (dc_dn sv), .int (dc_bI ak), .long cw, .int dn, .int (nI an), .ref m3, .ref m4, .ref m5, .int (nI sk), .ref m6, .ref m7, .ref m8, .ref m9, .int (nI t), .ref ma, .ref mb, .ref mc, .long ee, .long em, .long ec, .ref mg, .ref mz, .int (dc_bI gn), .int c, .ref mr, .ref mi, .int th])), (ma, .inl (cA 0, 3, .inl fa)), (mb, .inl (cA 0, 3, .inl fb)), (mc, .inl (cA 1, 3, .inr (.inl fm))), (mi, .inl (cA 1, 8, .inr (.inl (dc_carW fa fb fm c n ml i))))] H := hP
  have hD : va_D A [(mo, .inr (9, [.ref mf, .ref m1, .ref m2, .int (dc_bI so), .long se, .long sm, .long sc, .int (dc_dn sv), .int (dc_bI ak), .long cw, .int dn, .int (nI an), .ref m3, .ref m4, .ref m5, .int (nI sk), .ref m6, .ref m7, .ref m8, .ref m9, .int (nI t), .ref ma, .ref mb, .ref mc, .long ee, .long em, .long ec, .ref mg, .ref mz, .int (dc_bI gn), .int c, .ref mr, .ref mi, .int th])), (ma, .inl (cA 0, 3, .inl fa)), (mb, .inl (cA 0, 3, .inl fb)), (mc, .inl (cA 1, 3, .inr (.inl fm))), (mi, .inl (cA 1, 8, .inr (.inl (dc_carW fa fb fm c n ml i))))] := hD
  refine lv_iload_n hx hb dn_d_Mod_sendMail_2 rfl (lv_at hl 0 rfl) ?_
  refine lv_aload_n hx hb dn_d_Mod_sendMail_3 rfl (lv_at hl 1 rfl) ?_
  refine va_get (D := G) (ci := 9) (v := .int (nI t)) (C := dn_R_Mod) (T := dn_T_Mod) (N := 34) hx hb hts (dn_u_Mod) hown hK hP 0 rfl rfl 20 (by decide) (hts _ dn_w_878) (fun _ h9 => h9) rfl dn_d_Mod_sendMail_4 ?_
  refine lv_icmp_ge (tgt := 59) hx hb dn_d_Mod_sendMail_7 (by decide) (fun h7 => ?_) (fun h7 => ?_)
  · -- 7: t ≤ i
    have h7 : t ≤ i := (nI_leI (a := t) (b := i) (by omega) (by omega)).1 h7
    have e9 : i = t := by omega
    rw [e9] at hP hD
    refine lv_aload_n hx hb dn_d_Mod_sendMail_59 rfl (lv_at hl 1 rfl) ?_
    refine lv_dup hx hb dn_d_Mod_sendMail_60 rfl ?_
    refine va_get (D := G) (ci := 9) (v := .int c) (C := dn_R_Mod) (T := dn_T_Mod) (N := 34) hx hb hts (dn_u_Mod) hown hK hP 0 rfl rfl 30 (by decide) (hts _ dn_w_888) (fun _ h9 => h9) rfl dn_d_Mod_sendMail_61 ?_
    refine lv_iconst (v := 1) hx hb dn_d_Mod_sendMail_64 (by decide) ?_
    refine lv_iadd hx hb dn_d_Mod_sendMail_65 ?_
    refine va_put (D := G) (ci := 9) (v := .int (c + (1 : Int32))) (ty := (.int)) (C := dn_R_Mod) (T := dn_T_Mod) (N := 34) hx hb hts (dn_u_Mod) dn_t_Mod dn_o_Mod dn_n_Mod hown hK hP hD hS 0 rfl rfl 30 (by decide) (hts _ dn_w_888) (fun _ h9 => h9) rfl (by decide +kernel) rfl rfl (Nat.le_of_ble_eq_true rfl) dn_d_Mod_sendMail_66 (fun H locs hP hD hS => ?_)
    have hP : va_P G vwCl [(mo, .inr (9, [.ref mf, .ref m1, .ref m2, .int (dc_bI so), .long se, .long sm, .long sc, .int (dc_dn sv), .int (dc_bI ak), .long cw, .int dn, .int (nI an), .ref m3, .ref m4, .ref m5, .int (nI sk), .ref m6, .ref m7, .ref m8, .ref m9, .int (nI t), .ref ma, .ref mb, .ref mc, .long ee, .long em, .long ec, .ref mg, .ref mz, .int (dc_bI gn), .int (c + (1 : Int32)), .ref mr, .ref mi, .int th])), (ma, .inl (cA 0, 3, .inl fa)), (mb, .inl (cA 0, 3, .inl fb)), (mc, .inl (cA 1, 3, .inr (.inl fm))), (mi, .inl (cA 1, 8, .inr (.inl (dc_carW fa fb fm c n ml t))))] H := hP
    have hD : va_D A [(mo, .inr (9, [.ref mf, .ref m1, .ref m2, .int (dc_bI so), .long se, .long sm, .long sc, .int (dc_dn sv), .int (dc_bI ak), .long cw, .int dn, .int (nI an), .ref m3, .ref m4, .ref m5, .int (nI sk), .ref m6, .ref m7, .ref m8, .ref m9, .int (nI t), .ref ma, .ref mb, .ref mc, .long ee, .long em, .long ec, .ref mg, .ref mz, .int (dc_bI gn), .int (c + (1 : Int32)), .ref mr, .ref mi, .int th])), (ma, .inl (cA 0, 3, .inl fa)), (mb, .inl (cA 0, 3, .inl fb)), (mc, .inl (cA 1, 3, .inr (.inl fm))), (mi, .inl (cA 1, 8, .inr (.inl (dc_carW fa fb fm c n ml t))))] := hD
    have hP9 := hP.sub (ws' := [(mo, .inr (9, [.ref mf, .ref m1, .ref m2, .int (dc_bI so), .long se, .long sm, .long sc, .int (dc_dn sv), .int (dc_bI ak), .long cw, .int dn, .int (nI an), .ref m3, .ref m4, .ref m5, .int (nI sk), .ref m6, .ref m7, .ref m8, .ref m9, .int (nI t), .ref ma, .ref mb, .ref mc, .long ee, .long em, .long ec, .ref mg, .ref mz, .int (dc_bI gn), .int (c + (1 : Int32)), .ref mr, .ref mi, .int th])), (ma, .inl (cA 0, 3, .inl fa)), (mb, .inl (cA 0, 3, .inl fb)), (mc, .inl (cA 1, 3, .inr (.inl fm))), (mi, .inl (cA 1, 8, .inr (.inl (dc_carW fa fb fm c n ml t))))]) [0, 1, 2, 3, 4] rfl
    have hD9 := hD.sub (ws' := [(mo, .inr (9, [.ref mf, .ref m1, .ref m2, .int (dc_bI so), .long se, .long sm, .long sc, .int (dc_dn sv), .int (dc_bI ak), .long cw, .int dn, .int (nI an), .ref m3, .ref m4, .ref m5, .int (nI sk), .ref m6, .ref m7, .ref m8, .ref m9, .int (nI t), .ref ma, .ref mb, .ref mc, .long ee, .long em, .long ec, .ref mg, .ref mz, .int (dc_bI gn), .int (c + (1 : Int32)), .ref mr, .ref mi, .int th])), (ma, .inl (cA 0, 3, .inl fa)), (mb, .inl (cA 0, 3, .inl fb)), (mc, .inl (cA 1, 3, .inr (.inl fm))), (mi, .inl (cA 1, 8, .inr (.inl (dc_carW fa fb fm c n ml t))))]) [0, 1, 2, 3, 4] (by decide) rfl
    have hE9 : ([(mo, .inr (9, [.ref mf, .ref m1, .ref m2, .int (dc_bI so), .long se, .long sm, .long sc, .int (dc_dn sv), .int (dc_bI ak), .long cw, .int dn, .int (nI an), .ref m3, .ref m4, .ref m5, .int (nI sk), .ref m6, .ref m7, .ref m8, .ref m9, .int (nI t), .ref ma, .ref mb, .ref mc, .long ee, .long em, .long ec, .ref mg, .ref mz, .int (dc_bI gn), .int (c + (1 : Int32)), .ref mr, .ref mi, .int th])), (ma, .inl (cA 0, 3, .inl fa)), (mb, .inl (cA 0, 3, .inl fb)), (mc, .inl (cA 1, 3, .inr (.inl fm))), (mi, .inl (cA 1, 8, .inr (.inl (dc_carW fa fb fm c n ml t))))] : va_W) = [(mo, .inr (9, [.ref mf, .ref m1, .ref m2, .int (dc_bI so), .long se, .long sm, .long sc, .int (dc_dn sv), .int (dc_bI ak), .long cw, .int dn, .int (nI an), .ref m3, .ref m4, .ref m5, .int (nI sk), .ref m6, .ref m7, .ref m8, .ref m9, .int (nI t), .ref ma, .ref mb, .ref mc, .long ee, .long em, .long ec, .ref mg, .ref mz, .int (dc_bI gn), .int (c + 1), .ref mr, .ref mi, .int th])), (ma, .inl (cA 0, 3, .inl fa)), (mb, .inl (cA 0, 3, .inl fb)), (mc, .inl (cA 1, 3, .inr (.inl fm))), (mi, .inl (cA 1, 8, .inr (.inl (dc_carW fa fb fm c n ml t))))] := rfl
    rw [hE9] at hP9 hD9
    exact W.vret hx hb hr (fun t ht hW => ⟨⟨(), rfl, (trivial), by rw [ht]; exact hP9, hD9⟩, hS.F ht⟩) hS.2.2 dn_d_Mod_sendMail_69
  · -- 7: ¬ t ≤ i
    have h7 : ¬ t ≤ i := fun z => h7 ((nI_leI (a := t) (b := i) (by omega) (by omega)).2 z)
    refine lv_aload_n hx hb dn_d_Mod_sendMail_10 rfl (lv_at hl 1 rfl) ?_
    refine va_get (D := G) (ci := 9) (v := .ref ma) (C := dn_R_Mod) (T := dn_T_Mod) (N := 34) hx hb hts (dn_u_Mod) hown hK hP 0 rfl rfl 21 (by decide) (hts _ dn_w_879) (fun _ h9 => h9) rfl dn_d_Mod_sendMail_11 ?_
    refine lv_iload_n hx hb dn_d_Mod_sendMail_14 rfl (lv_at hl 0 rfl) ?_
    refine dc_iald (k := i) hx hb hK hP 1 rfl (by omega) (by omega) dn_d_Mod_sendMail_15 ?_
    refine lv_aload_n hx hb dn_d_Mod_sendMail_16 rfl (lv_at hl 1 rfl) ?_
    refine va_get (D := G) (ci := 9) (v := .int c) (C := dn_R_Mod) (T := dn_T_Mod) (N := 34) hx hb hts (dn_u_Mod) hown hK hP 0 rfl rfl 30 (by decide) (hts _ dn_w_888) (fun _ h9 => h9) rfl dn_d_Mod_sendMail_17 ?_
    refine lv_icmp_ne (tgt := 53) hx hb dn_d_Mod_sendMail_20 (by decide) (fun h20 => ?_) (fun h20 => ?_)
    · -- 20: ¬ (fa i) = c
      have e9 : dc_carW fa fb fm c n ml i = dc_carW fa fb fm c n ml (i + 1) := by show _ = (if _ then _ else _); rw [if_neg h20]
      rw [e9] at hP hD
      refine lv_iinc (k := 0) (v := nI (i + 1)) hx hb dn_d_Mod_sendMail_53 hl rfl (dc_inc1 _) (by decide) rfl (fun ls hl => ?_)
      have hl : lv_has ls 3 [(2, .int (nI (i + 1))), (0, .ref mo), (1, .int (nI n))] := hl
      refine lv_goto (tgt := 2) hx hb dn_d_Mod_sendMail_56 (by decide) ?_
      exact ih2 (i + 1) _ _ _ (by first | omega | (dsimp only; omega)) ⟨lv_sub hl [0, 1, 2] rfl, hP.sub [0, 1, 2, 3, 4] rfl, hD.sub [0, 1, 2, 3, 4] (by decide) rfl, hS, (by omega)⟩
    · -- 20: (fa i) = c
      refine lv_aload_n hx hb dn_d_Mod_sendMail_23 rfl (lv_at hl 1 rfl) ?_
      refine va_get (D := G) (ci := 9) (v := .ref mb) (C := dn_R_Mod) (T := dn_T_Mod) (N := 34) hx hb hts (dn_u_Mod) hown hK hP 0 rfl rfl 22 (by decide) (hts _ dn_w_880) (fun _ h9 => h9) rfl dn_d_Mod_sendMail_24 ?_
      refine lv_iload_n hx hb dn_d_Mod_sendMail_27 rfl (lv_at hl 0 rfl) ?_
      refine dc_iald (k := i) hx hb hK hP 2 rfl (by omega) (by omega) dn_d_Mod_sendMail_28 ?_
      refine lv_iload_n hx hb dn_d_Mod_sendMail_29 rfl (lv_at hl 2 rfl) ?_
      refine lv_icmp_ge (tgt := 53) hx hb dn_d_Mod_sendMail_30 (by decide) (fun h30 => ?_) (fun h30 => ?_)
      · -- 30: (nI n) ≤ (fb i)
        have e9 : dc_carW fa fb fm c n ml i = dc_carW fa fb fm c n ml (i + 1) := by show _ = (if _ then _ else _); rw [if_pos h20, dc_putF (dc_has1 (by omega) h30)]
        rw [e9] at hP hD
        refine lv_iinc (k := 0) (v := nI (i + 1)) hx hb dn_d_Mod_sendMail_53 hl rfl (dc_inc1 _) (by decide) rfl (fun ls hl => ?_)
        have hl : lv_has ls 3 [(2, .int (nI (i + 1))), (0, .ref mo), (1, .int (nI n))] := hl
        refine lv_goto (tgt := 2) hx hb dn_d_Mod_sendMail_56 (by decide) ?_
        exact ih2 (i + 1) _ _ _ (by first | omega | (dsimp only; omega)) ⟨lv_sub hl [0, 1, 2] rfl, hP.sub [0, 1, 2, 3, 4] rfl, hD.sub [0, 1, 2, 3, 4] (by decide) rfl, hS, (by omega)⟩
      · -- 30: ¬ (nI n) ≤ (fb i)
        obtain ⟨j9, hj9, ej9⟩ := dc_hasE (n := n) (by omega) (dc_has2 (by omega) (hfb i (by omega)) h30)
        refine lv_aload_n hx hb dn_d_Mod_sendMail_33 rfl (lv_at hl 1 rfl) ?_
        refine va_get (D := G) (ci := 9) (v := .ref mi) (C := dn_R_Mod) (T := dn_T_Mod) (N := 34) hx hb hts (dn_u_Mod) hown hK hP 0 rfl rfl 32 (by decide) (hts _ dn_w_890) (fun _ h9 => h9) rfl dn_d_Mod_sendMail_34 ?_
        refine lv_aload_n hx hb dn_d_Mod_sendMail_37 rfl (lv_at hl 1 rfl) ?_
        refine va_get (D := G) (ci := 9) (v := .ref mb) (C := dn_R_Mod) (T := dn_T_Mod) (N := 34) hx hb hts (dn_u_Mod) hown hK hP 0 rfl rfl 22 (by decide) (hts _ dn_w_880) (fun _ h9 => h9) rfl dn_d_Mod_sendMail_38 ?_
        refine lv_iload_n hx hb dn_d_Mod_sendMail_41 rfl (lv_at hl 0 rfl) ?_
        refine dc_iald (k := i) hx hb hK hP 2 rfl (by omega) (by omega) dn_d_Mod_sendMail_42 ?_
        rw [ej9]
        refine lv_dup2_11 hx hb dn_d_Mod_sendMail_43 rfl rfl ?_
        refine dc_lald (k := j9) hx hb hK hP 4 rfl (by omega) (by omega) dn_d_Mod_sendMail_44 ?_
        refine lv_aload_n hx hb dn_d_Mod_sendMail_45 rfl (lv_at hl 1 rfl) ?_
        refine va_get (D := G) (ci := 9) (v := .ref mc) (C := dn_R_Mod) (T := dn_T_Mod) (N := 34) hx hb hts (dn_u_Mod) hown hK hP 0 rfl rfl 23 (by decide) (hts _ dn_w_881) (fun _ h9 => h9) rfl dn_d_Mod_sendMail_46 ?_
        refine lv_iload_n hx hb dn_d_Mod_sendMail_49 rfl (lv_at hl 0 rfl) ?_
        refine dc_lald (k := i) hx hb hK hP 3 rfl (by omega) (by omega) dn_d_Mod_sendMail_50 ?_
        refine lv_lxor hx hb dn_d_Mod_sendMail_51 ?_
        refine dc_last (k := j9) hx hb hK hP hD hS 4 rfl (by omega) (by omega) dn_d_Mod_sendMail_52 (fun H locs hP hD hS => ?_)
        have hP : va_P G vwCl [(mo, .inr (9, [.ref mf, .ref m1, .ref m2, .int (dc_bI so), .long se, .long sm, .long sc, .int (dc_dn sv), .int (dc_bI ak), .long cw, .int dn, .int (nI an), .ref m3, .ref m4, .ref m5, .int (nI sk), .ref m6, .ref m7, .ref m8, .ref m9, .int (nI t), .ref ma, .ref mb, .ref mc, .long ee, .long em, .long ec, .ref mg, .ref mz, .int (dc_bI gn), .int c, .ref mr, .ref mi, .int th])), (ma, .inl (cA 0, 3, .inl fa)), (mb, .inl (cA 0, 3, .inl fb)), (mc, .inl (cA 1, 3, .inr (.inl fm))), (mi, .inl (cA 1, 8, .inr (.inl (vp_updL (dc_carW fa fb fm c n ml i) j9 (((dc_carW fa fb fm c n ml i) j9) ^^^ (fm i))))))] H := hP
        have hD : va_D A [(mo, .inr (9, [.ref mf, .ref m1, .ref m2, .int (dc_bI so), .long se, .long sm, .long sc, .int (dc_dn sv), .int (dc_bI ak), .long cw, .int dn, .int (nI an), .ref m3, .ref m4, .ref m5, .int (nI sk), .ref m6, .ref m7, .ref m8, .ref m9, .int (nI t), .ref ma, .ref mb, .ref mc, .long ee, .long em, .long ec, .ref mg, .ref mz, .int (dc_bI gn), .int c, .ref mr, .ref mi, .int th])), (ma, .inl (cA 0, 3, .inl fa)), (mb, .inl (cA 0, 3, .inl fb)), (mc, .inl (cA 1, 3, .inr (.inl fm))), (mi, .inl (cA 1, 8, .inr (.inl (vp_updL (dc_carW fa fb fm c n ml i) j9 (((dc_carW fa fb fm c n ml i) j9) ^^^ (fm i))))))] := hD
        have e9 : vp_updL (dc_carW fa fb fm c n ml i) j9 ((dc_carW fa fb fm c n ml i j9) ^^^ (fm i)) = dc_carW fa fb fm c n ml (i + 1) := by show _ = (if _ then _ else _); rw [if_pos h20, ej9, dc_putN hj9 (by omega), dc_getN hj9 (by omega)]
        rw [e9] at hP hD
        refine lv_iinc (k := 0) (v := nI (i + 1)) hx hb dn_d_Mod_sendMail_53 hl rfl (dc_inc1 _) (by decide) rfl (fun ls hl => ?_)
        have hl : lv_has ls 3 [(2, .int (nI (i + 1))), (0, .ref mo), (1, .int (nI n))] := hl
        refine lv_goto (tgt := 2) hx hb dn_d_Mod_sendMail_56 (by decide) ?_
        exact ih2 (i + 1) _ _ _ (by first | omega | (dsimp only; omega)) ⟨lv_sub hl [0, 1, 2] rfl, hP.sub [0, 1, 2, 3, 4] rfl, hD.sub [0, 1, 2, 3, 4] (by decide) rfl, hS, (by omega)⟩
