set_option maxHeartbeats 4000000 in
set_option maxRecDepth 100000 in
theorem rr_power (l : Launch) (b : Int64) (e9 : Int32) (mm : Int32) (hm : ¬ mm < 2) : Met l dn_y_Mod_power (.code dn_y_Mod_power dn_c_Mod_power 7 (some .long) :: dc_W) ({ frames := 0, cells := 0, slots := 0, locals := 0 }) (fun v _ => v = ([.long b, .int e9, .int mm] : List Value).toArray) (vp_Sl (fun r => r = dc_powR b e9 mm 17 1)) 0 0 (fun _ => False) := by
  refine Met.ofW (cc := dn_c_Mod_power) (maxL := 7) (ret := (some .long)) (by decide) rfl ?_
  intro p9 en9 s m args9 below9 meth9 cd9 s9 B hml hv
  obtain rfl := hv
  have hx := B.exec
  have hb := B.bytes
  have hr := B.returns
  have hts : ∀ w ∈ dc_W, w.before _ s = true := fun w h => atoms_spec (ws := (.code dn_y_Mod_power dn_c_Mod_power 7 (some .long) :: dc_W)) B.pre w (List.mem_cons_of_mem _ h)
  have hown : s.vm.findClass dn_R_Mod = some m.cls := findClass_of_methodNamed B.named
  have hlocks := B.notSynchronized
  have hl := lv_entry ([.long b, .int e9, .int mm]) (n := 7) (Nat.le_of_ble_eq_true rfl)
  rw [lg_entry_eq]
  generalize (lg_sl ([.long b, .int e9, .int mm]) ++ List.replicate (7 - (lg_sl ([.long b, .int e9, .int mm])).length) Slot.unset).toArray = ls at hl ⊢
  have hl : lv_has ls 7 [(0, .long b), (2, .int e9), (3, .int mm)] := hl
  refine lv_lconst (v := 1) hx hb dn_d_Mod_power_0 (by decide) ?_
  refine lv_iload_n hx hb dn_d_Mod_power_1 rfl (lv_at hl 2 rfl) ?_
  refine lv_i2l (v := mm.toInt64) hx hb dn_d_Mod_power_2 rfl ?_
  refine lv_lrem hx hb dn_d_Mod_power_3 (dc_mne hm) ?_
  rw [show (1 : Int64) - 1 / mm.toInt64 * mm.toInt64 = 1 from dc_one hm]
  refine lv_lstore hx hb dn_d_Mod_power_4 hl (by decide) rfl (fun ls hl => ?_)
  have hl : lv_has ls 7 [(4, .long 1), (0, .long b), (2, .int e9), (3, .int mm)] := hl
  refine lv_bipush (v := 16) hx hb dn_d_Mod_power_6 (by decide) ?_
  refine lv_istore hx hb dn_d_Mod_power_8 hl (by decide) rfl (fun ls hl => ?_)
  have hl : lv_has ls 7 [(6, .int 16), (4, .long 1), (0, .long b), (2, .int e9), (3, .int mm)] := hl
  refine dc_loop (σ := Nat × Int64) 10 [] (fun (x9 : Nat × Int64) => match x9 with | (j, x) => j) (fun (x9 : Nat × Int64) (H : Heap) (locs : List Loc) (ls : Array Slot) => match x9 with | (j, x) => lv_has ls 7 [(6, .int (dc_dn j)), (4, .long x), (0, .long b), (2, .int e9), (3, .int mm)] ∧ H = s.heap ∧ locs = [] ∧ (j ≤ 17) ∧ (dc_powR b e9 mm j x = dc_powR b e9 mm 17 1)) ?_ (17, 1) ⟨lv_sub hl [0, 1, 2, 3, 4] rfl, rfl, rfl, (by omega), (rfl)⟩
  rintro ⟨j, x⟩ H locs ls ⟨hl, rfl, rfl, hj, hv⟩ ih10
  have hl : lv_has ls 7 [(6, .int (dc_dn j)), (4, .long x), (0, .long b), (2, .int e9), (3, .int mm)] := hl
  rcases j with _ | j
  ·
    have hl : lv_has ls 7 [(6, .int (-1)), (4, .long x), (0, .long b), (2, .int e9), (3, .int mm)] := hl
    refine lv_iload hx hb dn_d_Mod_power_10 (lv_at hl 0 rfl) ?_
    refine lv_if_lt (tgt := 55) hx hb dn_d_Mod_power_12 (by decide) (fun h12 => ?_) (fun h12 => ?_)
    · -- 12: (-1) < 0
      refine lv_lload hx hb dn_d_Mod_power_55 (lv_at hl 1 rfl) ?_
      exact W.lret (v := x) hx hb hr (fun t ht hW => ⟨_, rfl, (hv), ht⟩) (fun q h => by cases h) dn_d_Mod_power_57
    · exact absurd h12 (by decide)
  ·
    have hl : lv_has ls 7 [(6, .int (nI j)), (4, .long x), (0, .long b), (2, .int e9), (3, .int mm)] := hl
    refine lv_iload hx hb dn_d_Mod_power_10 (lv_at hl 0 rfl) ?_
    refine lv_if_lt (tgt := 55) hx hb dn_d_Mod_power_12 (by decide) (fun h12 => ?_) (fun h12 => ?_)
    · exact absurd (show j < 0 from (nI_ltI (a := j) (b := 0) (by omega) (by omega)).1 h12) (by omega)
    · -- 12: ¬ j < 0
      have h12 : ¬ j < 0 := fun z => h12 ((nI_ltI (a := j) (b := 0) (by omega) (by omega)).2 z)
      refine lv_lload hx hb dn_d_Mod_power_15 (lv_at hl 1 rfl) ?_
      refine lv_lload hx hb dn_d_Mod_power_17 (lv_at hl 1 rfl) ?_
      refine lv_lmul hx hb dn_d_Mod_power_19 ?_
      refine lv_iload_n hx hb dn_d_Mod_power_20 rfl (lv_at hl 4 rfl) ?_
      refine lv_i2l (v := mm.toInt64) hx hb dn_d_Mod_power_21 rfl ?_
      refine lv_lrem hx hb dn_d_Mod_power_22 (dc_mne hm) ?_
      refine lv_lstore hx hb dn_d_Mod_power_23 hl (by decide) rfl (fun ls hl => ?_)
      have hl : lv_has ls 7 [(4, .long (dc_lrem (x * x) mm.toInt64)), (6, .int (nI j)), (0, .long b), (2, .int e9), (3, .int mm)] := hl
      refine lv_iload_n hx hb dn_d_Mod_power_25 rfl (lv_at hl 3 rfl) ?_
      refine lv_iload hx hb dn_d_Mod_power_26 (lv_at hl 1 rfl) ?_
      refine lv_ishr hx hb dn_d_Mod_power_28 ?_
      refine lv_iconst (v := 1) hx hb dn_d_Mod_power_29 (by decide) ?_
      refine lv_iand hx hb dn_d_Mod_power_30 ?_
      refine lv_iconst (v := 1) hx hb dn_d_Mod_power_31 (by decide) ?_
      refine lv_icmp_ne (tgt := 45) hx hb dn_d_Mod_power_32 (by decide) (fun h32 => ?_) (fun h32 => ?_)
      · -- 32: ¬ ((e9 >>> ((nI j) &&& 31)) &&& (1 : Int32)) = 1
        refine lv_lload hx hb dn_d_Mod_power_45 (lv_at hl 0 rfl) ?_
        refine lv_lstore hx hb dn_d_Mod_power_47 hl (by decide) rfl (fun ls hl => ?_)
        have hl : lv_has ls 7 [(4, .long (dc_lrem (x * x) mm.toInt64)), (6, .int (nI j)), (0, .long b), (2, .int e9), (3, .int mm)] := hl
        refine lv_iinc (k := 1) (v := dc_dn j) hx hb dn_d_Mod_power_49 hl rfl (dc_dnp _) (by decide) rfl (fun ls hl => ?_)
        have hl : lv_has ls 7 [(6, .int (dc_dn j)), (4, .long (dc_lrem (x * x) mm.toInt64)), (0, .long b), (2, .int e9), (3, .int mm)] := hl
        refine lv_goto (tgt := 10) hx hb dn_d_Mod_power_52 (by decide) ?_
        exact ih10 (j, dc_lrem (x * x) mm.toInt64) _ _ _ (by first | omega | (dsimp only; omega)) ⟨lv_sub hl [0, 1, 2, 3, 4] rfl, rfl, rfl, (by omega), (by first | (rw [← hv]; show _ = dc_powR b e9 mm j (if _ then _ else _); rw [if_pos h32]) | (rw [← hv]; show _ = dc_powR b e9 mm j (if _ then _ else _); rw [if_neg h32]))⟩
      · -- 32: ((e9 >>> ((nI j) &&& 31)) &&& (1 : Int32)) = 1
        refine lv_lload hx hb dn_d_Mod_power_35 (lv_at hl 0 rfl) ?_
        refine lv_lload_n hx hb dn_d_Mod_power_37 rfl (lv_at hl 2 rfl) ?_
        refine lv_lmul hx hb dn_d_Mod_power_38 ?_
        refine lv_iload_n hx hb dn_d_Mod_power_39 rfl (lv_at hl 4 rfl) ?_
        refine lv_i2l (v := mm.toInt64) hx hb dn_d_Mod_power_40 rfl ?_
        refine lv_lrem hx hb dn_d_Mod_power_41 (dc_mne hm) ?_
        refine lv_goto (tgt := 47) hx hb dn_d_Mod_power_42 (by decide) ?_
        refine lv_lstore hx hb dn_d_Mod_power_47 hl (by decide) rfl (fun ls hl => ?_)
        have hl : lv_has ls 7 [(4, .long (dc_lrem ((dc_lrem (x * x) mm.toInt64) * b) mm.toInt64)), (6, .int (nI j)), (0, .long b), (2, .int e9), (3, .int mm)] := hl
        refine lv_iinc (k := 1) (v := dc_dn j) hx hb dn_d_Mod_power_49 hl rfl (dc_dnp _) (by decide) rfl (fun ls hl => ?_)
        have hl : lv_has ls 7 [(6, .int (dc_dn j)), (4, .long (dc_lrem ((dc_lrem (x * x) mm.toInt64) * b) mm.toInt64)), (0, .long b), (2, .int e9), (3, .int mm)] := hl
        refine lv_goto (tgt := 10) hx hb dn_d_Mod_power_52 (by decide) ?_
        exact ih10 (j, dc_lrem ((dc_lrem (x * x) mm.toInt64) * b) mm.toInt64) _ _ _ (by first | omega | (dsimp only; omega)) ⟨lv_sub hl [0, 1, 2, 3, 4] rfl, rfl, rfl, (by omega), (by first | (rw [← hv]; show _ = dc_powR b e9 mm j (if _ then _ else _); rw [if_pos h32]) | (rw [← hv]; show _ = dc_powR b e9 mm j (if _ then _ else _); rw [if_neg h32]))⟩

set_option maxHeartbeats 4000000 in
set_option maxRecDepth 100000 in
theorem rr_messages (l : Launch) (G : va_G) (cA : Nat → ClassId) (mo : Nat) (mf : Nat) (m1 : Nat) (m2 : Nat) (so : Bool) (se : Int64) (sm : Int64) (sc : Int64) (sv : Nat) (ak : Bool) (cw : Int64) (dn : Int32) (an : Nat) (m3 : Nat) (m4 : Nat) (m5 : Nat) (sk : Nat) (m6 : Nat) (m7 : Nat) (m8 : Nat) (m9 : Nat) (t : Nat) (ma : Nat) (mb : Nat) (mc : Nat) (ee : Int64) (em : Int64) (ec : Int64) (mg : Nat) (mz : Nat) (gn : Bool) (c : Int32) (mr : Nat) (mi : Nat) (th : Int32)  (sz : Nat) : Met l dn_y_Mod_messages (.code dn_y_Mod_messages dn_c_Mod_messages 1 (some .int) :: dc_W) ({ frames := 0, cells := 0, slots := 0, locals := 0 }) (dc_pW G cA [(mo, .inr (9, [.ref mf, .ref m1, .ref m2, .int (dc_bI so), .long se, .long sm, .long sc, .int (dc_dn sv), .int (dc_bI ak), .long cw, .int dn, .int (nI an), .ref m3, .ref m4, .ref m5, .int (nI sk), .ref m6, .ref m7, .ref m8, .ref m9, .int (nI t), .ref ma, .ref mb, .ref mc, .long ee, .long em, .long ec, .ref mg, .ref mz, .int (dc_bI gn), .int c, .ref mr, .ref mi, .int th]))] sz [.ref mo]) (dc_qi G (fun (r : Int32) (_ : Unit) => r = c) (fun (_ : Unit) => [(mo, .inr (9, [.ref mf, .ref m1, .ref m2, .int (dc_bI so), .long se, .long sm, .long sc, .int (dc_dn sv), .int (dc_bI ak), .long cw, .int dn, .int (nI an), .ref m3, .ref m4, .ref m5, .int (nI sk), .ref m6, .ref m7, .ref m8, .ref m9, .int (nI t), .ref ma, .ref mb, .ref mc, .long ee, .long em, .long ec, .ref mg, .ref mz, .int (dc_bI gn), .int c, .ref mr, .ref mi, .int 0]))]) sz [(mo, .inr (9, [.ref mf, .ref m1, .ref m2, .int (dc_bI so), .long se, .long sm, .long sc, .int (dc_dn sv), .int (dc_bI ak), .long cw, .int dn, .int (nI an), .ref m3, .ref m4, .ref m5, .int (nI sk), .ref m6, .ref m7, .ref m8, .ref m9, .int (nI t), .ref ma, .ref mb, .ref mc, .long ee, .long em, .long ec, .ref mg, .ref mz, .int (dc_bI gn), .int c, .ref mr, .ref mi, .int th]))]) 0 0 (va_A [(mo, .inr (9, [.ref mf, .ref m1, .ref m2, .int (dc_bI so), .long se, .long sm, .long sc, .int (dc_dn sv), .int (dc_bI ak), .long cw, .int dn, .int (nI an), .ref m3, .ref m4, .ref m5, .int (nI sk), .ref m6, .ref m7, .ref m8, .ref m9, .int (nI t), .ref ma, .ref mb, .ref mc, .long ee, .long em, .long ec, .ref mg, .ref mz, .int (dc_bI gn), .int c, .ref mr, .ref mi, .int th]))] sz) := by
  refine Met.ofW (cc := dn_c_Mod_messages) (maxL := 1) (ret := (some .int)) (by decide) rfl ?_
  intro p9 en9 s m args9 below9 meth9 cd9 s9 B hml hv
  obtain ⟨rfl, hsz, hP, hK0, hD0⟩ := hv
  have hx := B.exec
  have hb := B.bytes
  have hr := B.returns
  have hts : ∀ w ∈ dc_W, w.before _ s = true := fun w h => atoms_spec (ws := (.code dn_y_Mod_messages dn_c_Mod_messages 1 (some .int) :: dc_W)) B.pre w (List.mem_cons_of_mem _ h)
  have hK := hK0.1
  have hN := hK0.2
  have hown : s.vm.findClass dn_R_Mod = some m.cls := findClass_of_methodNamed B.named
  have hlocks := B.notSynchronized
  subst hsz
  have hD := hD0.self (sz := s.heap.size)
  unfold dc_qi
  generalize hAe : va_A [(mo, .inr (9, [.ref mf, .ref m1, .ref m2, .int (dc_bI so), .long se, .long sm, .long sc, .int (dc_dn sv), .int (dc_bI ak), .long cw, .int dn, .int (nI an), .ref m3, .ref m4, .ref m5, .int (nI sk), .ref m6, .ref m7, .ref m8, .ref m9, .int (nI t), .ref ma, .ref mb, .ref mc, .long ee, .long em, .long ec, .ref mg, .ref mz, .int (dc_bI gn), .int c, .ref mr, .ref mi, .int th]))] s.heap.size = A at hD ⊢
  have hA : ∀ q : Nat, s.heap.size ≤ q → A q := fun q h => by rw [← hAe]; exact Or.inr h
  have hS : va_S A s.heap s.heap [] := va_S.rf
  have hl := lv_entry ([.ref mo]) (n := 1) (Nat.le_of_ble_eq_true rfl)
  rw [lg_entry_eq]
  generalize (lg_sl ([.ref mo]) ++ List.replicate (1 - (lg_sl ([.ref mo])).length) Slot.unset).toArray = ls at hl ⊢
  have hl : lv_has ls 1 [(0, .ref mo)] := hl
  refine lv_aload_n hx hb dn_d_Mod_messages_0 rfl (lv_at hl 0 rfl) ?_
  refine lv_iconst (v := 0) hx hb dn_d_Mod_messages_1 (by decide) ?_
  refine va_put (D := G) (ci := 9) (v := .int 0) (ty := (.int)) (C := dn_R_Mod) (T := dn_T_Mod) (N := 34) hx hb hts (dn_u_Mod) dn_t_Mod dn_o_Mod dn_n_Mod hown hK hP hD hS 0 rfl rfl 33 (by decide) (hts _ dn_w_891) (fun _ h9 => h9) rfl (by decide +kernel) rfl rfl (Nat.le_of_ble_eq_true rfl) dn_d_Mod_messages_2 (fun H locs hP hD hS => ?_)
  have hP : va_P G vwCl [(mo, .inr (9, [.ref mf, .ref m1, .ref m2, .int (dc_bI so), .long se, .long sm, .long sc, .int (dc_dn sv), .int (dc_bI ak), .long cw, .int dn, .int (nI an), .ref m3, .ref m4, .ref m5, .int (nI sk), .ref m6, .ref m7, .ref m8, .ref m9, .int (nI t), .ref ma, .ref mb, .ref mc, .long ee, .long em, .long ec, .ref mg, .ref mz, .int (dc_bI gn), .int c, .ref mr, .ref mi, .int 0]))] H := hP
  have hD : va_D A [(mo, .inr (9, [.ref mf, .ref m1, .ref m2, .int (dc_bI so), .long se, .long sm, .long sc, .int (dc_dn sv), .int (dc_bI ak), .long cw, .int dn, .int (nI an), .ref m3, .ref m4, .ref m5, .int (nI sk), .ref m6, .ref m7, .ref m8, .ref m9, .int (nI t), .ref ma, .ref mb, .ref mc, .long ee, .long em, .long ec, .ref mg, .ref mz, .int (dc_bI gn), .int c, .ref mr, .ref mi, .int 0]))] := hD
  refine lv_aload_n hx hb dn_d_Mod_messages_5 rfl (lv_at hl 0 rfl) ?_
  refine va_get (D := G) (ci := 9) (v := .int c) (C := dn_R_Mod) (T := dn_T_Mod) (N := 34) hx hb hts (dn_u_Mod) hown hK hP 0 rfl rfl 30 (by decide) (hts _ dn_w_888) (fun _ h9 => h9) rfl dn_d_Mod_messages_6 ?_
  have hP9 := hP.sub (ws' := [(mo, .inr (9, [.ref mf, .ref m1, .ref m2, .int (dc_bI so), .long se, .long sm, .long sc, .int (dc_dn sv), .int (dc_bI ak), .long cw, .int dn, .int (nI an), .ref m3, .ref m4, .ref m5, .int (nI sk), .ref m6, .ref m7, .ref m8, .ref m9, .int (nI t), .ref ma, .ref mb, .ref mc, .long ee, .long em, .long ec, .ref mg, .ref mz, .int (dc_bI gn), .int c, .ref mr, .ref mi, .int 0]))]) [0] rfl
  have hD9 := hD.sub (ws' := [(mo, .inr (9, [.ref mf, .ref m1, .ref m2, .int (dc_bI so), .long se, .long sm, .long sc, .int (dc_dn sv), .int (dc_bI ak), .long cw, .int dn, .int (nI an), .ref m3, .ref m4, .ref m5, .int (nI sk), .ref m6, .ref m7, .ref m8, .ref m9, .int (nI t), .ref ma, .ref mb, .ref mc, .long ee, .long em, .long ec, .ref mg, .ref mz, .int (dc_bI gn), .int c, .ref mr, .ref mi, .int 0]))]) [0] (by decide) rfl
  exact W.iret (v := c) hx hb hr (fun t ht hW => ⟨⟨_, (), rfl, (rfl), by rw [ht]; exact hP9, hD9⟩, hS.F ht⟩) hS.2.2 dn_d_Mod_messages_9

set_option maxHeartbeats 4000000 in
set_option maxRecDepth 100000 in
theorem rr_challenge (l : Launch) (G : va_G) (cA : Nat → ClassId) (mo : Nat) (mf : Nat) (m1 : Nat) (m2 : Nat) (so : Bool) (se : Int64) (sm : Int64) (sc : Int64) (sv : Nat) (ak : Bool) (cw : Int64) (dn : Int32) (an : Nat) (m3 : Nat) (m4 : Nat) (m5 : Nat) (sk : Nat) (m6 : Nat) (m7 : Nat) (m8 : Nat) (m9 : Nat) (t : Nat) (ma : Nat) (mb : Nat) (mc : Nat) (ee : Int64) (em : Int64) (ec : Int64) (mg : Nat) (mz : Nat) (gn : Bool) (c : Int32) (mr : Nat) (mi : Nat) (th : Int32) (dr : Nat → Int64)  (sz : Nat) : Met l dn_y_Mod_challenge (.code dn_y_Mod_challenge dn_c_Mod_challenge 1 (some .long) :: dc_W) ({ frames := 2, cells := 0, slots := 0, locals := 40 }) (dc_pW G cA [(mo, .inr (9, [.ref mf, .ref m1, .ref m2, .int (dc_bI so), .long se, .long sm, .long sc, .int (dc_dn sv), .int (dc_bI ak), .long cw, .int dn, .int (nI an), .ref m3, .ref m4, .ref m5, .int (nI sk), .ref m6, .ref m7, .ref m8, .ref m9, .int (nI t), .ref ma, .ref mb, .ref mc, .long ee, .long em, .long ec, .ref mg, .ref mz, .int (dc_bI gn), .int c, .ref mr, .ref mi, .int th])), (m9, .inl (cA 1, 4, .inr (.inl dr)))] sz [.ref mo]) (dc_ql G (fun (r : Int64) (_ : Unit) => r = dr 2) (fun (_ : Unit) => [(mo, .inr (9, [.ref mf, .ref m1, .ref m2, .int (dc_bI false), .long se, .long sm, .long sc, .int (dc_dn 0), .int (dc_bI true), .long (dr 2), .int dn, .int (nI 0), .ref m3, .ref m4, .ref m5, .int (nI sk), .ref m6, .ref m7, .ref m8, .ref m9, .int (nI t), .ref ma, .ref mb, .ref mc, .long ee, .long em, .long ec, .ref mg, .ref mz, .int (dc_bI gn), .int c, .ref mr, .ref mi, .int 0])), (m9, .inl (cA 1, 4, .inr (.inl dr)))]) sz [(mo, .inr (9, [.ref mf, .ref m1, .ref m2, .int (dc_bI so), .long se, .long sm, .long sc, .int (dc_dn sv), .int (dc_bI ak), .long cw, .int dn, .int (nI an), .ref m3, .ref m4, .ref m5, .int (nI sk), .ref m6, .ref m7, .ref m8, .ref m9, .int (nI t), .ref ma, .ref mb, .ref mc, .long ee, .long em, .long ec, .ref mg, .ref mz, .int (dc_bI gn), .int c, .ref mr, .ref mi, .int th])), (m9, .inl (cA 1, 4, .inr (.inl dr)))]) 0 0 (va_A [(mo, .inr (9, [.ref mf, .ref m1, .ref m2, .int (dc_bI so), .long se, .long sm, .long sc, .int (dc_dn sv), .int (dc_bI ak), .long cw, .int dn, .int (nI an), .ref m3, .ref m4, .ref m5, .int (nI sk), .ref m6, .ref m7, .ref m8, .ref m9, .int (nI t), .ref ma, .ref mb, .ref mc, .long ee, .long em, .long ec, .ref mg, .ref mz, .int (dc_bI gn), .int c, .ref mr, .ref mi, .int th])), (m9, .inl (cA 1, 4, .inr (.inl dr)))] sz) := by
  refine Met.ofW (cc := dn_c_Mod_challenge) (maxL := 1) (ret := (some .long)) (by decide) rfl ?_
  intro p9 en9 s m args9 below9 meth9 cd9 s9 B hml hv
  obtain ⟨rfl, hsz, hP, hK0, hD0⟩ := hv
  have hx := B.exec
  have hb := B.bytes
  have hr := B.returns
  have hts : ∀ w ∈ dc_W, w.before _ s = true := fun w h => atoms_spec (ws := (.code dn_y_Mod_challenge dn_c_Mod_challenge 1 (some .long) :: dc_W)) B.pre w (List.mem_cons_of_mem _ h)
  have hK := hK0.1
  have hN := hK0.2
  have hown : s.vm.findClass dn_R_Mod = some m.cls := findClass_of_methodNamed B.named
  have hlocks := B.notSynchronized
  subst hsz
  have hD := hD0.self (sz := s.heap.size)
  unfold dc_ql
  generalize hAe : va_A [(mo, .inr (9, [.ref mf, .ref m1, .ref m2, .int (dc_bI so), .long se, .long sm, .long sc, .int (dc_dn sv), .int (dc_bI ak), .long cw, .int dn, .int (nI an), .ref m3, .ref m4, .ref m5, .int (nI sk), .ref m6, .ref m7, .ref m8, .ref m9, .int (nI t), .ref ma, .ref mb, .ref mc, .long ee, .long em, .long ec, .ref mg, .ref mz, .int (dc_bI gn), .int c, .ref mr, .ref mi, .int th])), (m9, .inl (cA 1, 4, .inr (.inl dr)))] s.heap.size = A at hD ⊢
  have hA : ∀ q : Nat, s.heap.size ≤ q → A q := fun q h => by rw [← hAe]; exact Or.inr h
  have hS : va_S A s.heap s.heap [] := va_S.rf
  have hl := lv_entry ([.ref mo]) (n := 1) (Nat.le_of_ble_eq_true rfl)
  rw [lg_entry_eq]
  generalize (lg_sl ([.ref mo]) ++ List.replicate (1 - (lg_sl ([.ref mo])).length) Slot.unset).toArray = ls at hl ⊢
  have hl : lv_has ls 1 [(0, .ref mo)] := hl
  refine lv_aload_n hx hb dn_d_Mod_challenge_0 rfl (lv_at hl 0 rfl) ?_
  refine lv_iconst (v := 0) hx hb dn_d_Mod_challenge_1 (by decide) ?_
  refine va_put (D := G) (ci := 9) (v := .int 0) (ty := (.int)) (C := dn_R_Mod) (T := dn_T_Mod) (N := 34) hx hb hts (dn_u_Mod) dn_t_Mod dn_o_Mod dn_n_Mod hown hK hP hD hS 0 rfl rfl 33 (by decide) (hts _ dn_w_891) (fun _ h9 => h9) rfl (by decide +kernel) rfl rfl (Nat.le_of_ble_eq_true rfl) dn_d_Mod_challenge_2 (fun H locs hP hD hS => ?_)
  have hP : va_P G vwCl [(mo, .inr (9, [.ref mf, .ref m1, .ref m2, .int (dc_bI so), .long se, .long sm, .long sc, .int (dc_dn sv), .int (dc_bI ak), .long cw, .int dn, .int (nI an), .ref m3, .ref m4, .ref m5, .int (nI sk), .ref m6, .ref m7, .ref m8, .ref m9, .int (nI t), .ref ma, .ref mb, .ref mc, .long ee, .long em, .long ec, .ref mg, .ref mz, .int (dc_bI gn), .int c, .ref mr, .ref mi, .int 0])), (m9, .inl (cA 1, 4, .inr (.inl dr)))] H := hP
  have hD : va_D A [(mo, .inr (9, [.ref mf, .ref m1, .ref m2, .int (dc_bI so), .long se, .long sm, .long sc, .int (dc_dn sv), .int (dc_bI ak), .long cw, .int dn, .int (nI an), .ref m3, .ref m4, .ref m5, .int (nI sk), .ref m6, .ref m7, .ref m8, .ref m9, .int (nI t), .ref ma, .ref mb, .ref mc, .long ee, .long em, .long ec, .ref mg, .ref mz, .int (dc_bI gn), .int c, .ref mr, .ref mi, .int 0])), (m9, .inl (cA 1, 4, .inr (.inl dr)))] := hD
  refine lv_aload_n hx hb dn_d_Mod_challenge_5 rfl (lv_at hl 0 rfl) ?_
  refine lv_iconst (v := 0) hx hb dn_d_Mod_challenge_6 (by decide) ?_
  refine va_put (D := G) (ci := 9) (v := .int 0) (ty := (.int)) (C := dn_R_Mod) (T := dn_T_Mod) (N := 34) hx hb hts (dn_u_Mod) dn_t_Mod dn_o_Mod dn_n_Mod hown hK hP hD hS 0 rfl rfl 11 (by decide) (hts _ dn_w_869) (fun _ h9 => h9) rfl (by decide +kernel) rfl rfl (Nat.le_of_ble_eq_true rfl) dn_d_Mod_challenge_7 (fun H locs hP hD hS => ?_)
  have hP : va_P G vwCl [(mo, .inr (9, [.ref mf, .ref m1, .ref m2, .int (dc_bI so), .long se, .long sm, .long sc, .int (dc_dn sv), .int (dc_bI ak), .long cw, .int dn, .int 0, .ref m3, .ref m4, .ref m5, .int (nI sk), .ref m6, .ref m7, .ref m8, .ref m9, .int (nI t), .ref ma, .ref mb, .ref mc, .long ee, .long em, .long ec, .ref mg, .ref mz, .int (dc_bI gn), .int c, .ref mr, .ref mi, .int 0])), (m9, .inl (cA 1, 4, .inr (.inl dr)))] H := hP
  have hD : va_D A [(mo, .inr (9, [.ref mf, .ref m1, .ref m2, .int (dc_bI so), .long se, .long sm, .long sc, .int (dc_dn sv), .int (dc_bI ak), .long cw, .int dn, .int 0, .ref m3, .ref m4, .ref m5, .int (nI sk), .ref m6, .ref m7, .ref m8, .ref m9, .int (nI t), .ref ma, .ref mb, .ref mc, .long ee, .long em, .long ec, .ref mg, .ref mz, .int (dc_bI gn), .int c, .ref mr, .ref mi, .int 0])), (m9, .inl (cA 1, 4, .inr (.inl dr)))] := hD
  refine lv_aload_n hx hb dn_d_Mod_challenge_10 rfl (lv_at hl 0 rfl) ?_
  refine dc_wv (wr := []) (va_runV (b := mo) (As := []) (rest := []) ⟨hx, hb, hml, hown, hts⟩ (rr_give l G cA mo mf m1 m2 so se sm sc sv ak cw dn 0 m3 m4 m5 sk m6 m7 m8 m9 t ma mb mc ee em ec mg mz gn c mr mi 0 dr  H.size) ⟨(callB_of 0 hts (dc_good dn_w_1042) rfl rfl rfl (hts _ dn_w_12) (hts _ dn_w_1039) (by decide +kernel) ⟨Nat.le_of_ble_eq_true rfl, Nat.le_of_ble_eq_true rfl⟩), (hts _ dn_w_1041), (hts _ dn_s_Mod_give)⟩ (dc_preVW (hP.sub [0, 1] rfl) hK0 (hD.sub [0, 1] (by decide) rfl) (q0 := 0) rfl rfl) rfl rfl hl.1 rfl (lv_room (Nat.le_of_ble_eq_true rfl)) dn_d_Mod_challenge_11 ⟨Nat.le_of_ble_eq_true rfl, Nat.le_of_ble_eq_true rfl⟩) hP hD hS hA [0, 1] [] rfl rfl (by decide) (by decide) (fun u9 H locs hr9 hP hD hS => ?_)
  have hP : va_P G vwCl [(mo, .inr (9, [.ref mf, .ref m1, .ref m2, .int (dc_bI false), .long se, .long sm, .long sc, .int (dc_dn 0), .int (dc_bI true), .long (dr 2), .int dn, .int (nI 0), .ref m3, .ref m4, .ref m5, .int (nI sk), .ref m6, .ref m7, .ref m8, .ref m9, .int (nI t), .ref ma, .ref mb, .ref mc, .long ee, .long em, .long ec, .ref mg, .ref mz, .int (dc_bI gn), .int c, .ref mr, .ref mi, .int 0])), (m9, .inl (cA 1, 4, .inr (.inl dr)))] H := hP
  have hD : va_D A [(mo, .inr (9, [.ref mf, .ref m1, .ref m2, .int (dc_bI false), .long se, .long sm, .long sc, .int (dc_dn 0), .int (dc_bI true), .long (dr 2), .int dn, .int (nI 0), .ref m3, .ref m4, .ref m5, .int (nI sk), .ref m6, .ref m7, .ref m8, .ref m9, .int (nI t), .ref ma, .ref mb, .ref mc, .long ee, .long em, .long ec, .ref mg, .ref mz, .int (dc_bI gn), .int c, .ref mr, .ref mi, .int 0])), (m9, .inl (cA 1, 4, .inr (.inl dr)))] := hD
  refine lv_aload_n hx hb dn_d_Mod_challenge_14 rfl (lv_at hl 0 rfl) ?_
  refine va_get (D := G) (ci := 9) (v := .long (dr 2)) (C := dn_R_Mod) (T := dn_T_Mod) (N := 34) hx hb hts (dn_u_Mod) hown hK hP 0 rfl rfl 9 (by decide) (hts _ dn_w_867) (fun _ h9 => h9) rfl dn_d_Mod_challenge_15 ?_
  have hP9 := hP.sub (ws' := [(mo, .inr (9, [.ref mf, .ref m1, .ref m2, .int (dc_bI false), .long se, .long sm, .long sc, .int (dc_dn 0), .int (dc_bI true), .long (dr 2), .int dn, .int (nI 0), .ref m3, .ref m4, .ref m5, .int (nI sk), .ref m6, .ref m7, .ref m8, .ref m9, .int (nI t), .ref ma, .ref mb, .ref mc, .long ee, .long em, .long ec, .ref mg, .ref mz, .int (dc_bI gn), .int c, .ref mr, .ref mi, .int 0])), (m9, .inl (cA 1, 4, .inr (.inl dr)))]) [0, 1] rfl
  have hD9 := hD.sub (ws' := [(mo, .inr (9, [.ref mf, .ref m1, .ref m2, .int (dc_bI false), .long se, .long sm, .long sc, .int (dc_dn 0), .int (dc_bI true), .long (dr 2), .int dn, .int (nI 0), .ref m3, .ref m4, .ref m5, .int (nI sk), .ref m6, .ref m7, .ref m8, .ref m9, .int (nI t), .ref ma, .ref mb, .ref mc, .long ee, .long em, .long ec, .ref mg, .ref mz, .int (dc_bI gn), .int c, .ref mr, .ref mi, .int 0])), (m9, .inl (cA 1, 4, .inr (.inl dr)))]) [0, 1] (by decide) rfl
  exact W.lret (v := (dr 2)) hx hb hr (fun t ht hW => ⟨⟨_, (), rfl, (rfl), by rw [ht]; exact hP9, hD9⟩, hS.F ht⟩) hS.2.2 dn_d_Mod_challenge_18

set_option maxHeartbeats 4000000 in
set_option maxRecDepth 100000 in
theorem rr_draw (l : Launch) (G : va_G) (cA : Nat → ClassId) (mo : Nat) (mf : Nat) (m1 : Nat) (m2 : Nat) (so : Bool) (se : Int64) (sm : Int64) (sc : Int64) (sv : Nat) (ak : Bool) (cw : Int64) (dn : Int32) (an : Nat) (m3 : Nat) (m4 : Nat) (m5 : Nat) (sk : Nat) (m6 : Nat) (m7 : Nat) (m8 : Nat) (m9 : Nat) (t : Nat) (ma : Nat) (mb : Nat) (mc : Nat) (ee : Int64) (em : Int64) (ec : Int64) (mg : Nat) (mz : Nat) (gn : Bool) (c : Int32) (mr : Nat) (mi : Nat) (th : Int32) (dr : Nat → Int64) (xt : Int64) (xk : Int64) (xq : Int64) (xj : Int64)  (sz : Nat) : Met l dn_y_Mod_draw (.code dn_y_Mod_draw dn_c_Mod_draw 10 (some .boolean) :: dc_W) ({ frames := 0, cells := 0, slots := 0, locals := 0 }) (dc_pW G cA [(mo, .inr (9, [.ref mf, .ref m1, .ref m2, .int (dc_bI so), .long se, .long sm, .long sc, .int (dc_dn sv), .int (dc_bI ak), .long cw, .int dn, .int (nI an), .ref m3, .ref m4, .ref m5, .int (nI sk), .ref m6, .ref m7, .ref m8, .ref m9, .int (nI t), .ref ma, .ref mb, .ref mc, .long ee, .long em, .long ec, .ref mg, .ref mz, .int (dc_bI gn), .int c, .ref mr, .ref mi, .int th])), (m9, .inl (cA 1, 4, .inr (.inl dr)))] sz [.ref mo, .long xt, .long xk, .long xq, .long xj]) (dc_qi G (fun (r : Int32) (_ : Unit) => r = dc_bI (dc_other (dr 0) (dr 1) xt xk)) (fun (_ : Unit) => [(mo, .inr (9, [.ref mf, .ref m1, .ref m2, .int (dc_bI so), .long se, .long sm, .long sc, .int (dc_dn sv), .int (dc_bI ak), .long cw, .int dn, .int (nI an), .ref m3, .ref m4, .ref m5, .int (nI sk), .ref m6, .ref m7, .ref m8, .ref m9, .int (nI t), .ref ma, .ref mb, .ref mc, .long ee, .long em, .long ec, .ref mg, .ref mz, .int (dc_bI gn), .int c, .ref mr, .ref mi, .int 0])), (m9, .inl (cA 1, 4, .inr (.inl (vp_updL (vp_updL (vp_updL (vp_updL dr 0 xt) 1 xk) 2 xq) 3 xj))))]) sz [(mo, .inr (9, [.ref mf, .ref m1, .ref m2, .int (dc_bI so), .long se, .long sm, .long sc, .int (dc_dn sv), .int (dc_bI ak), .long cw, .int dn, .int (nI an), .ref m3, .ref m4, .ref m5, .int (nI sk), .ref m6, .ref m7, .ref m8, .ref m9, .int (nI t), .ref ma, .ref mb, .ref mc, .long ee, .long em, .long ec, .ref mg, .ref mz, .int (dc_bI gn), .int c, .ref mr, .ref mi, .int th])), (m9, .inl (cA 1, 4, .inr (.inl dr)))]) 0 0 (va_A [(mo, .inr (9, [.ref mf, .ref m1, .ref m2, .int (dc_bI so), .long se, .long sm, .long sc, .int (dc_dn sv), .int (dc_bI ak), .long cw, .int dn, .int (nI an), .ref m3, .ref m4, .ref m5, .int (nI sk), .ref m6, .ref m7, .ref m8, .ref m9, .int (nI t), .ref ma, .ref mb, .ref mc, .long ee, .long em, .long ec, .ref mg, .ref mz, .int (dc_bI gn), .int c, .ref mr, .ref mi, .int th])), (m9, .inl (cA 1, 4, .inr (.inl dr)))] sz) := by
  refine Met.ofW (cc := dn_c_Mod_draw) (maxL := 10) (ret := (some .boolean)) (by decide) rfl ?_
  intro p9 en9 s m args9 below9 meth9 cd9 s9 B hml hv
  obtain ⟨rfl, hsz, hP, hK0, hD0⟩ := hv
  have hx := B.exec
  have hb := B.bytes
  have hr := B.returns
  have hts : ∀ w ∈ dc_W, w.before _ s = true := fun w h => atoms_spec (ws := (.code dn_y_Mod_draw dn_c_Mod_draw 10 (some .boolean) :: dc_W)) B.pre w (List.mem_cons_of_mem _ h)
  have hK := hK0.1
  have hN := hK0.2
  have hown : s.vm.findClass dn_R_Mod = some m.cls := findClass_of_methodNamed B.named
  have hlocks := B.notSynchronized
  subst hsz
  have hD := hD0.self (sz := s.heap.size)
  unfold dc_qi
  generalize hAe : va_A [(mo, .inr (9, [.ref mf, .ref m1, .ref m2, .int (dc_bI so), .long se, .long sm, .long sc, .int (dc_dn sv), .int (dc_bI ak), .long cw, .int dn, .int (nI an), .ref m3, .ref m4, .ref m5, .int (nI sk), .ref m6, .ref m7, .ref m8, .ref m9, .int (nI t), .ref ma, .ref mb, .ref mc, .long ee, .long em, .long ec, .ref mg, .ref mz, .int (dc_bI gn), .int c, .ref mr, .ref mi, .int th])), (m9, .inl (cA 1, 4, .inr (.inl dr)))] s.heap.size = A at hD ⊢
  have hA : ∀ q : Nat, s.heap.size ≤ q → A q := fun q h => by rw [← hAe]; exact Or.inr h
  have hS : va_S A s.heap s.heap [] := va_S.rf
  have hl := lv_entry ([.ref mo, .long xt, .long xk, .long xq, .long xj]) (n := 10) (Nat.le_of_ble_eq_true rfl)
  rw [lg_entry_eq]
  generalize (lg_sl ([.ref mo, .long xt, .long xk, .long xq, .long xj]) ++ List.replicate (10 - (lg_sl ([.ref mo, .long xt, .long xk, .long xq, .long xj])).length) Slot.unset).toArray = ls at hl ⊢
  have hl : lv_has ls 10 [(0, .ref mo), (1, .long xt), (3, .long xk), (5, .long xq), (7, .long xj)] := hl
  refine lv_aload_n hx hb dn_d_Mod_draw_0 rfl (lv_at hl 0 rfl) ?_
  refine lv_iconst (v := 0) hx hb dn_d_Mod_draw_1 (by decide) ?_
  refine va_put (D := G) (ci := 9) (v := .int 0) (ty := (.int)) (C := dn_R_Mod) (T := dn_T_Mod) (N := 34) hx hb hts (dn_u_Mod) dn_t_Mod dn_o_Mod dn_n_Mod hown hK hP hD hS 0 rfl rfl 33 (by decide) (hts _ dn_w_891) (fun _ h9 => h9) rfl (by decide +kernel) rfl rfl (Nat.le_of_ble_eq_true rfl) dn_d_Mod_draw_2 (fun H locs hP hD hS => ?_)
  have hP : va_P G vwCl [(mo, .inr (9, [.ref mf, .ref m1, .ref m2, .int (dc_bI so), .long se, .long sm, .long sc, .int (dc_dn sv), .int (dc_bI ak), .long cw, .int dn, .int (nI an), .ref m3, .ref m4, .ref m5, .int (nI sk), .ref m6, .ref m7, .ref m8, .ref m9, .int (nI t), .ref ma, .ref mb, .ref mc, .long ee, .long em, .long ec, .ref mg, .ref mz, .int (dc_bI gn), .int c, .ref mr, .ref mi, .int 0])), (m9, .inl (cA 1, 4, .inr (.inl dr)))] H := hP
  have hD : va_D A [(mo, .inr (9, [.ref mf, .ref m1, .ref m2, .int (dc_bI so), .long se, .long sm, .long sc, .int (dc_dn sv), .int (dc_bI ak), .long cw, .int dn, .int (nI an), .ref m3, .ref m4, .ref m5, .int (nI sk), .ref m6, .ref m7, .ref m8, .ref m9, .int (nI t), .ref ma, .ref mb, .ref mc, .long ee, .long em, .long ec, .ref mg, .ref mz, .int (dc_bI gn), .int c, .ref mr, .ref mi, .int 0])), (m9, .inl (cA 1, 4, .inr (.inl dr)))] := hD
  refine lv_lload_n hx hb dn_d_Mod_draw_5 rfl (lv_at hl 1 rfl) ?_
  refine lv_aload_n hx hb dn_d_Mod_draw_6 rfl (lv_at hl 0 rfl) ?_
  refine va_get (D := G) (ci := 9) (v := .ref m9) (C := dn_R_Mod) (T := dn_T_Mod) (N := 34) hx hb hts (dn_u_Mod) hown hK hP 0 rfl rfl 19 (by decide) (hts _ dn_w_877) (fun _ h9 => h9) rfl dn_d_Mod_draw_7 ?_
  refine lv_iconst (v := 0) hx hb dn_d_Mod_draw_10 (by decide) ?_
  refine dc_lald (k := 0) hx hb hK hP 1 rfl (by omega) (by omega) dn_d_Mod_draw_11 ?_
  refine W.lcmp hx hb dn_d_Mod_draw_12 ?_
  refine lv_if_ne (tgt := 27) hx hb dn_d_Mod_draw_13 (by decide) (fun h13 => ?_) (fun h13 => ?_)
  · -- 13: ¬ xt = (dr 0)
    have h13 : ¬ xt = (dr 0) := fun z => h13 ((lg_cmp_eq xt (dr 0)).2 z)
    refine lv_iconst (v := 1) hx hb dn_d_Mod_draw_27 (by decide) ?_
    refine lv_goto (tgt := 32) hx hb dn_d_Mod_draw_28 (by decide) ?_
    refine lv_istore hx hb dn_d_Mod_draw_32 hl (by decide) rfl (fun ls hl => ?_)
    have hl : lv_has ls 10 [(9, .int 1), (0, .ref mo), (1, .long xt), (3, .long xk), (5, .long xq), (7, .long xj)] := hl
    refine lv_aload_n hx hb dn_d_Mod_draw_34 rfl (lv_at hl 1 rfl) ?_
    refine va_get (D := G) (ci := 9) (v := .ref m9) (C := dn_R_Mod) (T := dn_T_Mod) (N := 34) hx hb hts (dn_u_Mod) hown hK hP 0 rfl rfl 19 (by decide) (hts _ dn_w_877) (fun _ h9 => h9) rfl dn_d_Mod_draw_35 ?_
    refine lv_iconst (v := 0) hx hb dn_d_Mod_draw_38 (by decide) ?_
    refine lv_lload_n hx hb dn_d_Mod_draw_39 rfl (lv_at hl 2 rfl) ?_
    refine dc_last (k := 0) hx hb hK hP hD hS 1 rfl (by omega) (by omega) dn_d_Mod_draw_40 (fun H locs hP hD hS => ?_)
    have hP : va_P G vwCl [(mo, .inr (9, [.ref mf, .ref m1, .ref m2, .int (dc_bI so), .long se, .long sm, .long sc, .int (dc_dn sv), .int (dc_bI ak), .long cw, .int dn, .int (nI an), .ref m3, .ref m4, .ref m5, .int (nI sk), .ref m6, .ref m7, .ref m8, .ref m9, .int (nI t), .ref ma, .ref mb, .ref mc, .long ee, .long em, .long ec, .ref mg, .ref mz, .int (dc_bI gn), .int c, .ref mr, .ref mi, .int 0])), (m9, .inl (cA 1, 4, .inr (.inl (vp_updL dr 0 xt))))] H := hP
    have hD : va_D A [(mo, .inr (9, [.ref mf, .ref m1, .ref m2, .int (dc_bI so), .long se, .long sm, .long sc, .int (dc_dn sv), .int (dc_bI ak), .long cw, .int dn, .int (nI an), .ref m3, .ref m4, .ref m5, .int (nI sk), .ref m6, .ref m7, .ref m8, .ref m9, .int (nI t), .ref ma, .ref mb, .ref mc, .long ee, .long em, .long ec, .ref mg, .ref mz, .int (dc_bI gn), .int c, .ref mr, .ref mi, .int 0])), (m9, .inl (cA 1, 4, .inr (.inl (vp_updL dr 0 xt))))] := hD
    refine lv_aload_n hx hb dn_d_Mod_draw_41 rfl (lv_at hl 1 rfl) ?_
    refine va_get (D := G) (ci := 9) (v := .ref m9) (C := dn_R_Mod) (T := dn_T_Mod) (N := 34) hx hb hts (dn_u_Mod) hown hK hP 0 rfl rfl 19 (by decide) (hts _ dn_w_877) (fun _ h9 => h9) rfl dn_d_Mod_draw_42 ?_
    refine lv_iconst (v := 1) hx hb dn_d_Mod_draw_45 (by decide) ?_
    refine lv_lload_n hx hb dn_d_Mod_draw_46 rfl (lv_at hl 3 rfl) ?_
    refine dc_last (k := 1) hx hb hK hP hD hS 1 rfl (by omega) (by omega) dn_d_Mod_draw_47 (fun H locs hP hD hS => ?_)
    have hP : va_P G vwCl [(mo, .inr (9, [.ref mf, .ref m1, .ref m2, .int (dc_bI so), .long se, .long sm, .long sc, .int (dc_dn sv), .int (dc_bI ak), .long cw, .int dn, .int (nI an), .ref m3, .ref m4, .ref m5, .int (nI sk), .ref m6, .ref m7, .ref m8, .ref m9, .int (nI t), .ref ma, .ref mb, .ref mc, .long ee, .long em, .long ec, .ref mg, .ref mz, .int (dc_bI gn), .int c, .ref mr, .ref mi, .int 0])), (m9, .inl (cA 1, 4, .inr (.inl (vp_updL (vp_updL dr 0 xt) 1 xk))))] H := hP
    have hD : va_D A [(mo, .inr (9, [.ref mf, .ref m1, .ref m2, .int (dc_bI so), .long se, .long sm, .long sc, .int (dc_dn sv), .int (dc_bI ak), .long cw, .int dn, .int (nI an), .ref m3, .ref m4, .ref m5, .int (nI sk), .ref m6, .ref m7, .ref m8, .ref m9, .int (nI t), .ref ma, .ref mb, .ref mc, .long ee, .long em, .long ec, .ref mg, .ref mz, .int (dc_bI gn), .int c, .ref mr, .ref mi, .int 0])), (m9, .inl (cA 1, 4, .inr (.inl (vp_updL (vp_updL dr 0 xt) 1 xk))))] := hD
    refine lv_aload_n hx hb dn_d_Mod_draw_48 rfl (lv_at hl 1 rfl) ?_
    refine va_get (D := G) (ci := 9) (v := .ref m9) (C := dn_R_Mod) (T := dn_T_Mod) (N := 34) hx hb hts (dn_u_Mod) hown hK hP 0 rfl rfl 19 (by decide) (hts _ dn_w_877) (fun _ h9 => h9) rfl dn_d_Mod_draw_49 ?_
    refine lv_iconst (v := 2) hx hb dn_d_Mod_draw_52 (by decide) ?_
    refine lv_lload hx hb dn_d_Mod_draw_53 (lv_at hl 4 rfl) ?_
    refine dc_last (k := 2) hx hb hK hP hD hS 1 rfl (by omega) (by omega) dn_d_Mod_draw_55 (fun H locs hP hD hS => ?_)
    have hP : va_P G vwCl [(mo, .inr (9, [.ref mf, .ref m1, .ref m2, .int (dc_bI so), .long se, .long sm, .long sc, .int (dc_dn sv), .int (dc_bI ak), .long cw, .int dn, .int (nI an), .ref m3, .ref m4, .ref m5, .int (nI sk), .ref m6, .ref m7, .ref m8, .ref m9, .int (nI t), .ref ma, .ref mb, .ref mc, .long ee, .long em, .long ec, .ref mg, .ref mz, .int (dc_bI gn), .int c, .ref mr, .ref mi, .int 0])), (m9, .inl (cA 1, 4, .inr (.inl (vp_updL (vp_updL (vp_updL dr 0 xt) 1 xk) 2 xq))))] H := hP
    have hD : va_D A [(mo, .inr (9, [.ref mf, .ref m1, .ref m2, .int (dc_bI so), .long se, .long sm, .long sc, .int (dc_dn sv), .int (dc_bI ak), .long cw, .int dn, .int (nI an), .ref m3, .ref m4, .ref m5, .int (nI sk), .ref m6, .ref m7, .ref m8, .ref m9, .int (nI t), .ref ma, .ref mb, .ref mc, .long ee, .long em, .long ec, .ref mg, .ref mz, .int (dc_bI gn), .int c, .ref mr, .ref mi, .int 0])), (m9, .inl (cA 1, 4, .inr (.inl (vp_updL (vp_updL (vp_updL dr 0 xt) 1 xk) 2 xq))))] := hD
    refine lv_aload_n hx hb dn_d_Mod_draw_56 rfl (lv_at hl 1 rfl) ?_
    refine va_get (D := G) (ci := 9) (v := .ref m9) (C := dn_R_Mod) (T := dn_T_Mod) (N := 34) hx hb hts (dn_u_Mod) hown hK hP 0 rfl rfl 19 (by decide) (hts _ dn_w_877) (fun _ h9 => h9) rfl dn_d_Mod_draw_57 ?_
    refine lv_iconst (v := 3) hx hb dn_d_Mod_draw_60 (by decide) ?_
    refine lv_lload hx hb dn_d_Mod_draw_61 (lv_at hl 5 rfl) ?_
    refine dc_last (k := 3) hx hb hK hP hD hS 1 rfl (by omega) (by omega) dn_d_Mod_draw_63 (fun H locs hP hD hS => ?_)
    have hP : va_P G vwCl [(mo, .inr (9, [.ref mf, .ref m1, .ref m2, .int (dc_bI so), .long se, .long sm, .long sc, .int (dc_dn sv), .int (dc_bI ak), .long cw, .int dn, .int (nI an), .ref m3, .ref m4, .ref m5, .int (nI sk), .ref m6, .ref m7, .ref m8, .ref m9, .int (nI t), .ref ma, .ref mb, .ref mc, .long ee, .long em, .long ec, .ref mg, .ref mz, .int (dc_bI gn), .int c, .ref mr, .ref mi, .int 0])), (m9, .inl (cA 1, 4, .inr (.inl (vp_updL (vp_updL (vp_updL (vp_updL dr 0 xt) 1 xk) 2 xq) 3 xj))))] H := hP
    have hD : va_D A [(mo, .inr (9, [.ref mf, .ref m1, .ref m2, .int (dc_bI so), .long se, .long sm, .long sc, .int (dc_dn sv), .int (dc_bI ak), .long cw, .int dn, .int (nI an), .ref m3, .ref m4, .ref m5, .int (nI sk), .ref m6, .ref m7, .ref m8, .ref m9, .int (nI t), .ref ma, .ref mb, .ref mc, .long ee, .long em, .long ec, .ref mg, .ref mz, .int (dc_bI gn), .int c, .ref mr, .ref mi, .int 0])), (m9, .inl (cA 1, 4, .inr (.inl (vp_updL (vp_updL (vp_updL (vp_updL dr 0 xt) 1 xk) 2 xq) 3 xj))))] := hD
    refine lv_iload hx hb dn_d_Mod_draw_64 (lv_at hl 0 rfl) ?_
    have hP9 := hP.sub (ws' := [(mo, .inr (9, [.ref mf, .ref m1, .ref m2, .int (dc_bI so), .long se, .long sm, .long sc, .int (dc_dn sv), .int (dc_bI ak), .long cw, .int dn, .int (nI an), .ref m3, .ref m4, .ref m5, .int (nI sk), .ref m6, .ref m7, .ref m8, .ref m9, .int (nI t), .ref ma, .ref mb, .ref mc, .long ee, .long em, .long ec, .ref mg, .ref mz, .int (dc_bI gn), .int c, .ref mr, .ref mi, .int 0])), (m9, .inl (cA 1, 4, .inr (.inl (vp_updL (vp_updL (vp_updL (vp_updL dr 0 xt) 1 xk) 2 xq) 3 xj))))]) [0, 1] rfl
    have hD9 := hD.sub (ws' := [(mo, .inr (9, [.ref mf, .ref m1, .ref m2, .int (dc_bI so), .long se, .long sm, .long sc, .int (dc_dn sv), .int (dc_bI ak), .long cw, .int dn, .int (nI an), .ref m3, .ref m4, .ref m5, .int (nI sk), .ref m6, .ref m7, .ref m8, .ref m9, .int (nI t), .ref ma, .ref mb, .ref mc, .long ee, .long em, .long ec, .ref mg, .ref mz, .int (dc_bI gn), .int c, .ref mr, .ref mi, .int 0])), (m9, .inl (cA 1, 4, .inr (.inl (vp_updL (vp_updL (vp_updL (vp_updL dr 0 xt) 1 xk) 2 xq) 3 xj))))]) [0, 1] (by decide) rfl
    exact W.zret (ty := .boolean) (v := 1) hx hb hr (rfl) (fun t ht hW => ⟨⟨_, (), rfl, (by rw [show dc_other (dr 0) (dr 1) xt xk = true from decide_eq_true (fun z9 => h13 z9.1.symm)]; rfl), by rw [ht]; exact hP9, hD9⟩, hS.F ht⟩) hS.2.2 dn_d_Mod_draw_66
  · -- 13: xt = (dr 0)
    have h13 : xt = (dr 0) := (lg_cmp_eq xt (dr 0)).1 h13
    refine lv_lload_n hx hb dn_d_Mod_draw_16 rfl (lv_at hl 2 rfl) ?_
    refine lv_aload_n hx hb dn_d_Mod_draw_17 rfl (lv_at hl 0 rfl) ?_
    refine va_get (D := G) (ci := 9) (v := .ref m9) (C := dn_R_Mod) (T := dn_T_Mod) (N := 34) hx hb hts (dn_u_Mod) hown hK hP 0 rfl rfl 19 (by decide) (hts _ dn_w_877) (fun _ h9 => h9) rfl dn_d_Mod_draw_18 ?_
    refine lv_iconst (v := 1) hx hb dn_d_Mod_draw_21 (by decide) ?_
    refine dc_lald (k := 1) hx hb hK hP 1 rfl (by omega) (by omega) dn_d_Mod_draw_22 ?_
    refine W.lcmp hx hb dn_d_Mod_draw_23 ?_
    refine lv_if_eq (tgt := 31) hx hb dn_d_Mod_draw_24 (by decide) (fun h24 => ?_) (fun h24 => ?_)
    · -- 24: xk = (dr 1)
      have h24 : xk = (dr 1) := (lg_cmp_eq xk (dr 1)).1 h24
      refine lv_iconst (v := 0) hx hb dn_d_Mod_draw_31 (by decide) ?_
      refine lv_istore hx hb dn_d_Mod_draw_32 hl (by decide) rfl (fun ls hl => ?_)
      have hl : lv_has ls 10 [(9, .int 0), (0, .ref mo), (1, .long xt), (3, .long xk), (5, .long xq), (7, .long xj)] := hl
      refine lv_aload_n hx hb dn_d_Mod_draw_34 rfl (lv_at hl 1 rfl) ?_
      refine va_get (D := G) (ci := 9) (v := .ref m9) (C := dn_R_Mod) (T := dn_T_Mod) (N := 34) hx hb hts (dn_u_Mod) hown hK hP 0 rfl rfl 19 (by decide) (hts _ dn_w_877) (fun _ h9 => h9) rfl dn_d_Mod_draw_35 ?_
      refine lv_iconst (v := 0) hx hb dn_d_Mod_draw_38 (by decide) ?_
      refine lv_lload_n hx hb dn_d_Mod_draw_39 rfl (lv_at hl 2 rfl) ?_
      refine dc_last (k := 0) hx hb hK hP hD hS 1 rfl (by omega) (by omega) dn_d_Mod_draw_40 (fun H locs hP hD hS => ?_)
      have hP : va_P G vwCl [(mo, .inr (9, [.ref mf, .ref m1, .ref m2, .int (dc_bI so), .long se, .long sm, .long sc, .int (dc_dn sv), .int (dc_bI ak), .long cw, .int dn, .int (nI an), .ref m3, .ref m4, .ref m5, .int (nI sk), .ref m6, .ref m7, .ref m8, .ref m9, .int (nI t), .ref ma, .ref mb, .ref mc, .long ee, .long em, .long ec, .ref mg, .ref mz, .int (dc_bI gn), .int c, .ref mr, .ref mi, .int 0])), (m9, .inl (cA 1, 4, .inr (.inl (vp_updL dr 0 xt))))] H := hP
      have hD : va_D A [(mo, .inr (9, [.ref mf, .ref m1, .ref m2, .int (dc_bI so), .long se, .long sm, .long sc, .int (dc_dn sv), .int (dc_bI ak), .long cw, .int dn, .int (nI an), .ref m3, .ref m4, .ref m5, .int (nI sk), .ref m6, .ref m7, .ref m8, .ref m9, .int (nI t), .ref ma, .ref mb, .ref mc, .long ee, .long em, .long ec, .ref mg, .ref mz, .int (dc_bI gn), .int c, .ref mr, .ref mi, .int 0])), (m9, .inl (cA 1, 4, .inr (.inl (vp_updL dr 0 xt))))] := hD
      refine lv_aload_n hx hb dn_d_Mod_draw_41 rfl (lv_at hl 1 rfl) ?_
      refine va_get (D := G) (ci := 9) (v := .ref m9) (C := dn_R_Mod) (T := dn_T_Mod) (N := 34) hx hb hts (dn_u_Mod) hown hK hP 0 rfl rfl 19 (by decide) (hts _ dn_w_877) (fun _ h9 => h9) rfl dn_d_Mod_draw_42 ?_
      refine lv_iconst (v := 1) hx hb dn_d_Mod_draw_45 (by decide) ?_
      refine lv_lload_n hx hb dn_d_Mod_draw_46 rfl (lv_at hl 3 rfl) ?_
      refine dc_last (k := 1) hx hb hK hP hD hS 1 rfl (by omega) (by omega) dn_d_Mod_draw_47 (fun H locs hP hD hS => ?_)
      have hP : va_P G vwCl [(mo, .inr (9, [.ref mf, .ref m1, .ref m2, .int (dc_bI so), .long se, .long sm, .long sc, .int (dc_dn sv), .int (dc_bI ak), .long cw, .int dn, .int (nI an), .ref m3, .ref m4, .ref m5, .int (nI sk), .ref m6, .ref m7, .ref m8, .ref m9, .int (nI t), .ref ma, .ref mb, .ref mc, .long ee, .long em, .long ec, .ref mg, .ref mz, .int (dc_bI gn), .int c, .ref mr, .ref mi, .int 0])), (m9, .inl (cA 1, 4, .inr (.inl (vp_updL (vp_updL dr 0 xt) 1 xk))))] H := hP
      have hD : va_D A [(mo, .inr (9, [.ref mf, .ref m1, .ref m2, .int (dc_bI so), .long se, .long sm, .long sc, .int (dc_dn sv), .int (dc_bI ak), .long cw, .int dn, .int (nI an), .ref m3, .ref m4, .ref m5, .int (nI sk), .ref m6, .ref m7, .ref m8, .ref m9, .int (nI t), .ref ma, .ref mb, .ref mc, .long ee, .long em, .long ec, .ref mg, .ref mz, .int (dc_bI gn), .int c, .ref mr, .ref mi, .int 0])), (m9, .inl (cA 1, 4, .inr (.inl (vp_updL (vp_updL dr 0 xt) 1 xk))))] := hD
      refine lv_aload_n hx hb dn_d_Mod_draw_48 rfl (lv_at hl 1 rfl) ?_
      refine va_get (D := G) (ci := 9) (v := .ref m9) (C := dn_R_Mod) (T := dn_T_Mod) (N := 34) hx hb hts (dn_u_Mod) hown hK hP 0 rfl rfl 19 (by decide) (hts _ dn_w_877) (fun _ h9 => h9) rfl dn_d_Mod_draw_49 ?_
      refine lv_iconst (v := 2) hx hb dn_d_Mod_draw_52 (by decide) ?_
      refine lv_lload hx hb dn_d_Mod_draw_53 (lv_at hl 4 rfl) ?_
      refine dc_last (k := 2) hx hb hK hP hD hS 1 rfl (by omega) (by omega) dn_d_Mod_draw_55 (fun H locs hP hD hS => ?_)
      have hP : va_P G vwCl [(mo, .inr (9, [.ref mf, .ref m1, .ref m2, .int (dc_bI so), .long se, .long sm, .long sc, .int (dc_dn sv), .int (dc_bI ak), .long cw, .int dn, .int (nI an), .ref m3, .ref m4, .ref m5, .int (nI sk), .ref m6, .ref m7, .ref m8, .ref m9, .int (nI t), .ref ma, .ref mb, .ref mc, .long ee, .long em, .long ec, .ref mg, .ref mz, .int (dc_bI gn), .int c, .ref mr, .ref mi, .int 0])), (m9, .inl (cA 1, 4, .inr (.inl (vp_updL (vp_updL (vp_updL dr 0 xt) 1 xk) 2 xq))))] H := hP
      have hD : va_D A [(mo, .inr (9, [.ref mf, .ref m1, .ref m2, .int (dc_bI so), .long se, .long sm, .long sc, .int (dc_dn sv), .int (dc_bI ak), .long cw, .int dn, .int (nI an), .ref m3, .ref m4, .ref m5, .int (nI sk), .ref m6, .ref m7, .ref m8, .ref m9, .int (nI t), .ref ma, .ref mb, .ref mc, .long ee, .long em, .long ec, .ref mg, .ref mz, .int (dc_bI gn), .int c, .ref mr, .ref mi, .int 0])), (m9, .inl (cA 1, 4, .inr (.inl (vp_updL (vp_updL (vp_updL dr 0 xt) 1 xk) 2 xq))))] := hD
      refine lv_aload_n hx hb dn_d_Mod_draw_56 rfl (lv_at hl 1 rfl) ?_
      refine va_get (D := G) (ci := 9) (v := .ref m9) (C := dn_R_Mod) (T := dn_T_Mod) (N := 34) hx hb hts (dn_u_Mod) hown hK hP 0 rfl rfl 19 (by decide) (hts _ dn_w_877) (fun _ h9 => h9) rfl dn_d_Mod_draw_57 ?_
      refine lv_iconst (v := 3) hx hb dn_d_Mod_draw_60 (by decide) ?_
      refine lv_lload hx hb dn_d_Mod_draw_61 (lv_at hl 5 rfl) ?_
      refine dc_last (k := 3) hx hb hK hP hD hS 1 rfl (by omega) (by omega) dn_d_Mod_draw_63 (fun H locs hP hD hS => ?_)
      have hP : va_P G vwCl [(mo, .inr (9, [.ref mf, .ref m1, .ref m2, .int (dc_bI so), .long se, .long sm, .long sc, .int (dc_dn sv), .int (dc_bI ak), .long cw, .int dn, .int (nI an), .ref m3, .ref m4, .ref m5, .int (nI sk), .ref m6, .ref m7, .ref m8, .ref m9, .int (nI t), .ref ma, .ref mb, .ref mc, .long ee, .long em, .long ec, .ref mg, .ref mz, .int (dc_bI gn), .int c, .ref mr, .ref mi, .int 0])), (m9, .inl (cA 1, 4, .inr (.inl (vp_updL (vp_updL (vp_updL (vp_updL dr 0 xt) 1 xk) 2 xq) 3 xj))))] H := hP
      have hD : va_D A [(mo, .inr (9, [.ref mf, .ref m1, .ref m2, .int (dc_bI so), .long se, .long sm, .long sc, .int (dc_dn sv), .int (dc_bI ak), .long cw, .int dn, .int (nI an), .ref m3, .ref m4, .ref m5, .int (nI sk), .ref m6, .ref m7, .ref m8, .ref m9, .int (nI t), .ref ma, .ref mb, .ref mc, .long ee, .long em, .long ec, .ref mg, .ref mz, .int (dc_bI gn), .int c, .ref mr, .ref mi, .int 0])), (m9, .inl (cA 1, 4, .inr (.inl (vp_updL (vp_updL (vp_updL (vp_updL dr 0 xt) 1 xk) 2 xq) 3 xj))))] := hD
      refine lv_iload hx hb dn_d_Mod_draw_64 (lv_at hl 0 rfl) ?_
      have hP9 := hP.sub (ws' := [(mo, .inr (9, [.ref mf, .ref m1, .ref m2, .int (dc_bI so), .long se, .long sm, .long sc, .int (dc_dn sv), .int (dc_bI ak), .long cw, .int dn, .int (nI an), .ref m3, .ref m4, .ref m5, .int (nI sk), .ref m6, .ref m7, .ref m8, .ref m9, .int (nI t), .ref ma, .ref mb, .ref mc, .long ee, .long em, .long ec, .ref mg, .ref mz, .int (dc_bI gn), .int c, .ref mr, .ref mi, .int 0])), (m9, .inl (cA 1, 4, .inr (.inl (vp_updL (vp_updL (vp_updL (vp_updL dr 0 xt) 1 xk) 2 xq) 3 xj))))]) [0, 1] rfl
      have hD9 := hD.sub (ws' := [(mo, .inr (9, [.ref mf, .ref m1, .ref m2, .int (dc_bI so), .long se, .long sm, .long sc, .int (dc_dn sv), .int (dc_bI ak), .long cw, .int dn, .int (nI an), .ref m3, .ref m4, .ref m5, .int (nI sk), .ref m6, .ref m7, .ref m8, .ref m9, .int (nI t), .ref ma, .ref mb, .ref mc, .long ee, .long em, .long ec, .ref mg, .ref mz, .int (dc_bI gn), .int c, .ref mr, .ref mi, .int 0])), (m9, .inl (cA 1, 4, .inr (.inl (vp_updL (vp_updL (vp_updL (vp_updL dr 0 xt) 1 xk) 2 xq) 3 xj))))]) [0, 1] (by decide) rfl
      exact W.zret (ty := .boolean) (v := 0) hx hb hr (rfl) (fun t ht hW => ⟨⟨_, (), rfl, (by rw [show dc_other (dr 0) (dr 1) xt xk = false from decide_eq_false (fun z9 => z9 ⟨h13.symm, h24.symm⟩)]; rfl), by rw [ht]; exact hP9, hD9⟩, hS.F ht⟩) hS.2.2 dn_d_Mod_draw_66
    · -- 24: ¬ xk = (dr 1)
      have h24 : ¬ xk = (dr 1) := fun z => h24 ((lg_cmp_eq xk (dr 1)).2 z)
      refine lv_iconst (v := 1) hx hb dn_d_Mod_draw_27 (by decide) ?_
      refine lv_goto (tgt := 32) hx hb dn_d_Mod_draw_28 (by decide) ?_
      refine lv_istore hx hb dn_d_Mod_draw_32 hl (by decide) rfl (fun ls hl => ?_)
      have hl : lv_has ls 10 [(9, .int 1), (0, .ref mo), (1, .long xt), (3, .long xk), (5, .long xq), (7, .long xj)] := hl
      refine lv_aload_n hx hb dn_d_Mod_draw_34 rfl (lv_at hl 1 rfl) ?_
      refine va_get (D := G) (ci := 9) (v := .ref m9) (C := dn_R_Mod) (T := dn_T_Mod) (N := 34) hx hb hts (dn_u_Mod) hown hK hP 0 rfl rfl 19 (by decide) (hts _ dn_w_877) (fun _ h9 => h9) rfl dn_d_Mod_draw_35 ?_
      refine lv_iconst (v := 0) hx hb dn_d_Mod_draw_38 (by decide) ?_
      refine lv_lload_n hx hb dn_d_Mod_draw_39 rfl (lv_at hl 2 rfl) ?_
      refine dc_last (k := 0) hx hb hK hP hD hS 1 rfl (by omega) (by omega) dn_d_Mod_draw_40 (fun H locs hP hD hS => ?_)
      have hP : va_P G vwCl [(mo, .inr (9, [.ref mf, .ref m1, .ref m2, .int (dc_bI so), .long se, .long sm, .long sc, .int (dc_dn sv), .int (dc_bI ak), .long cw, .int dn, .int (nI an), .ref m3, .ref m4, .ref m5, .int (nI sk), .ref m6, .ref m7, .ref m8, .ref m9, .int (nI t), .ref ma, .ref mb, .ref mc, .long ee, .long em, .long ec, .ref mg, .ref mz, .int (dc_bI gn), .int c, .ref mr, .ref mi, .int 0])), (m9, .inl (cA 1, 4, .inr (.inl (vp_updL dr 0 xt))))] H := hP
      have hD : va_D A [(mo, .inr (9, [.ref mf, .ref m1, .ref m2, .int (dc_bI so), .long se, .long sm, .long sc, .int (dc_dn sv), .int (dc_bI ak), .long cw, .int dn, .int (nI an), .ref m3, .ref m4, .ref m5, .int (nI sk), .ref m6, .ref m7, .ref m8, .ref m9, .int (nI t), .ref ma, .ref mb, .ref mc, .long ee, .long em, .long ec, .ref mg, .ref mz, .int (dc_bI gn), .int c, .ref mr, .ref mi, .int 0])), (m9, .inl (cA 1, 4, .inr (.inl (vp_updL dr 0 xt))))] := hD
      refine lv_aload_n hx hb dn_d_Mod_draw_41 rfl (lv_at hl 1 rfl) ?_
      refine va_get (D := G) (ci := 9) (v := .ref m9) (C := dn_R_Mod) (T := dn_T_Mod) (N := 34) hx hb hts (dn_u_Mod) hown hK hP 0 rfl rfl 19 (by decide) (hts _ dn_w_877) (fun _ h9 => h9) rfl dn_d_Mod_draw_42 ?_
      refine lv_iconst (v := 1) hx hb dn_d_Mod_draw_45 (by decide) ?_
      refine lv_lload_n hx hb dn_d_Mod_draw_46 rfl (lv_at hl 3 rfl) ?_
      refine dc_last (k := 1) hx hb hK hP hD hS 1 rfl (by omega) (by omega) dn_d_Mod_draw_47 (fun H locs hP hD hS => ?_)
      have hP : va_P G vwCl [(mo, .inr (9, [.ref mf, .ref m1, .ref m2, .int (dc_bI so), .long se, .long sm, .long sc, .int (dc_dn sv), .int (dc_bI ak), .long cw, .int dn, .int (nI an), .ref m3, .ref m4, .ref m5, .int (nI sk), .ref m6, .ref m7, .ref m8, .ref m9, .int (nI t), .ref ma, .ref mb, .ref mc, .long ee, .long em, .long ec, .ref mg, .ref mz, .int (dc_bI gn), .int c, .ref mr, .ref mi, .int 0])), (m9, .inl (cA 1, 4, .inr (.inl (vp_updL (vp_updL dr 0 xt) 1 xk))))] H := hP
      have hD : va_D A [(mo, .inr (9, [.ref mf, .ref m1, .ref m2, .int (dc_bI so), .long se, .long sm, .long sc, .int (dc_dn sv), .int (dc_bI ak), .long cw, .int dn, .int (nI an), .ref m3, .ref m4, .ref m5, .int (nI sk), .ref m6, .ref m7, .ref m8, .ref m9, .int (nI t), .ref ma, .ref mb, .ref mc, .long ee, .long em, .long ec, .ref mg, .ref mz, .int (dc_bI gn), .int c, .ref mr, .ref mi, .int 0])), (m9, .inl (cA 1, 4, .inr (.inl (vp_updL (vp_updL dr 0 xt) 1 xk))))] := hD
      refine lv_aload_n hx hb dn_d_Mod_draw_48 rfl (lv_at hl 1 rfl) ?_
      refine va_get (D := G) (ci := 9) (v := .ref m9) (C := dn_R_Mod) (T := dn_T_Mod) (N := 34) hx hb hts (dn_u_Mod) hown hK hP 0 rfl rfl 19 (by decide) (hts _ dn_w_877) (fun _ h9 => h9) rfl dn_d_Mod_draw_49 ?_
      refine lv_iconst (v := 2) hx hb dn_d_Mod_draw_52 (by decide) ?_
      refine lv_lload hx hb dn_d_Mod_draw_53 (lv_at hl 4 rfl) ?_
      refine dc_last (k := 2) hx hb hK hP hD hS 1 rfl (by omega) (by omega) dn_d_Mod_draw_55 (fun H locs hP hD hS => ?_)
      have hP : va_P G vwCl [(mo, .inr (9, [.ref mf, .ref m1, .ref m2, .int (dc_bI so), .long se, .long sm, .long sc, .int (dc_dn sv), .int (dc_bI ak), .long cw, .int dn, .int (nI an), .ref m3, .ref m4, .ref m5, .int (nI sk), .ref m6, .ref m7, .ref m8, .ref m9, .int (nI t), .ref ma, .ref mb, .ref mc, .long ee, .long em, .long ec, .ref mg, .ref mz, .int (dc_bI gn), .int c, .ref mr, .ref mi, .int 0])), (m9, .inl (cA 1, 4, .inr (.inl (vp_updL (vp_updL (vp_updL dr 0 xt) 1 xk) 2 xq))))] H := hP
      have hD : va_D A [(mo, .inr (9, [.ref mf, .ref m1, .ref m2, .int (dc_bI so), .long se, .long sm, .long sc, .int (dc_dn sv), .int (dc_bI ak), .long cw, .int dn, .int (nI an), .ref m3, .ref m4, .ref m5, .int (nI sk), .ref m6, .ref m7, .ref m8, .ref m9, .int (nI t), .ref ma, .ref mb, .ref mc, .long ee, .long em, .long ec, .ref mg, .ref mz, .int (dc_bI gn), .int c, .ref mr, .ref mi, .int 0])), (m9, .inl (cA 1, 4, .inr (.inl (vp_updL (vp_updL (vp_updL dr 0 xt) 1 xk) 2 xq))))] := hD
      refine lv_aload_n hx hb dn_d_Mod_draw_56 rfl (lv_at hl 1 rfl) ?_
      refine va_get (D := G) (ci := 9) (v := .ref m9) (C := dn_R_Mod) (T := dn_T_Mod) (N := 34) hx hb hts (dn_u_Mod) hown hK hP 0 rfl rfl 19 (by decide) (hts _ dn_w_877) (fun _ h9 => h9) rfl dn_d_Mod_draw_57 ?_
      refine lv_iconst (v := 3) hx hb dn_d_Mod_draw_60 (by decide) ?_
      refine lv_lload hx hb dn_d_Mod_draw_61 (lv_at hl 5 rfl) ?_
      refine dc_last (k := 3) hx hb hK hP hD hS 1 rfl (by omega) (by omega) dn_d_Mod_draw_63 (fun H locs hP hD hS => ?_)
      have hP : va_P G vwCl [(mo, .inr (9, [.ref mf, .ref m1, .ref m2, .int (dc_bI so), .long se, .long sm, .long sc, .int (dc_dn sv), .int (dc_bI ak), .long cw, .int dn, .int (nI an), .ref m3, .ref m4, .ref m5, .int (nI sk), .ref m6, .ref m7, .ref m8, .ref m9, .int (nI t), .ref ma, .ref mb, .ref mc, .long ee, .long em, .long ec, .ref mg, .ref mz, .int (dc_bI gn), .int c, .ref mr, .ref mi, .int 0])), (m9, .inl (cA 1, 4, .inr (.inl (vp_updL (vp_updL (vp_updL (vp_updL dr 0 xt) 1 xk) 2 xq) 3 xj))))] H := hP
      have hD : va_D A [(mo, .inr (9, [.ref mf, .ref m1, .ref m2, .int (dc_bI so), .long se, .long sm, .long sc, .int (dc_dn sv), .int (dc_bI ak), .long cw, .int dn, .int (nI an), .ref m3, .ref m4, .ref m5, .int (nI sk), .ref m6, .ref m7, .ref m8, .ref m9, .int (nI t), .ref ma, .ref mb, .ref mc, .long ee, .long em, .long ec, .ref mg, .ref mz, .int (dc_bI gn), .int c, .ref mr, .ref mi, .int 0])), (m9, .inl (cA 1, 4, .inr (.inl (vp_updL (vp_updL (vp_updL (vp_updL dr 0 xt) 1 xk) 2 xq) 3 xj))))] := hD
      refine lv_iload hx hb dn_d_Mod_draw_64 (lv_at hl 0 rfl) ?_
      have hP9 := hP.sub (ws' := [(mo, .inr (9, [.ref mf, .ref m1, .ref m2, .int (dc_bI so), .long se, .long sm, .long sc, .int (dc_dn sv), .int (dc_bI ak), .long cw, .int dn, .int (nI an), .ref m3, .ref m4, .ref m5, .int (nI sk), .ref m6, .ref m7, .ref m8, .ref m9, .int (nI t), .ref ma, .ref mb, .ref mc, .long ee, .long em, .long ec, .ref mg, .ref mz, .int (dc_bI gn), .int c, .ref mr, .ref mi, .int 0])), (m9, .inl (cA 1, 4, .inr (.inl (vp_updL (vp_updL (vp_updL (vp_updL dr 0 xt) 1 xk) 2 xq) 3 xj))))]) [0, 1] rfl
      have hD9 := hD.sub (ws' := [(mo, .inr (9, [.ref mf, .ref m1, .ref m2, .int (dc_bI so), .long se, .long sm, .long sc, .int (dc_dn sv), .int (dc_bI ak), .long cw, .int dn, .int (nI an), .ref m3, .ref m4, .ref m5, .int (nI sk), .ref m6, .ref m7, .ref m8, .ref m9, .int (nI t), .ref ma, .ref mb, .ref mc, .long ee, .long em, .long ec, .ref mg, .ref mz, .int (dc_bI gn), .int c, .ref mr, .ref mi, .int 0])), (m9, .inl (cA 1, 4, .inr (.inl (vp_updL (vp_updL (vp_updL (vp_updL dr 0 xt) 1 xk) 2 xq) 3 xj))))]) [0, 1] (by decide) rfl
      exact W.zret (ty := .boolean) (v := 1) hx hb hr (rfl) (fun t ht hW => ⟨⟨_, (), rfl, (by rw [show dc_other (dr 0) (dr 1) xt xk = true from decide_eq_true (fun z9 => h24 z9.2.symm)]; rfl), by rw [ht]; exact hP9, hD9⟩, hS.F ht⟩) hS.2.2 dn_d_Mod_draw_66

set_option maxHeartbeats 4000000 in
set_option maxRecDepth 100000 in
theorem rr_needed (l : Launch) (G : va_G) (cA : Nat → ClassId) (mo : Nat) (mf : Nat) (m1 : Nat) (m2 : Nat) (so : Bool) (se : Int64) (sm : Int64) (sc : Int64) (sv : Nat) (ak : Bool) (cw : Int64) (dn : Int32) (an : Nat) (m3 : Nat) (m4 : Nat) (m5 : Nat) (sk : Nat) (m6 : Nat) (m7 : Nat) (m8 : Nat) (m9 : Nat) (t : Nat) (ma : Nat) (mb : Nat) (mc : Nat) (ee : Int64) (em : Int64) (ec : Int64) (mg : Nat) (mz : Nat) (gn : Bool) (c : Int32) (mr : Nat) (mi : Nat) (th : Int32) (rw : Nat → Int64) (hh : Int32) (x : Int64)  (sz : Nat) : Met l dn_y_Mod_needed (.code dn_y_Mod_needed dn_c_Mod_needed 4 (some .long) :: dc_W) ({ frames := 4, cells := 0, slots := 0, locals := 107 }) (dc_pW G cA [(mo, .inr (9, [.ref mf, .ref m1, .ref m2, .int (dc_bI so), .long se, .long sm, .long sc, .int (dc_dn sv), .int (dc_bI ak), .long cw, .int dn, .int (nI an), .ref m3, .ref m4, .ref m5, .int (nI sk), .ref m6, .ref m7, .ref m8, .ref m9, .int (nI t), .ref ma, .ref mb, .ref mc, .long ee, .long em, .long ec, .ref mg, .ref mz, .int (dc_bI gn), .int c, .ref mr, .ref mi, .int th])), (mr, .inl (cA 1, 24, .inr (.inl rw)))] sz [.ref mo, .int hh, .long x]) (dc_ql G (fun (r : Int64) (_ : Unit) => r = dc_sel so (dc_seal3 sm (sc + 1) hh.toInt64 x) 0) (fun (_ : Unit) => [(mo, .inr (9, [.ref mf, .ref m1, .ref m2, .int (dc_bI so), .long se, .long sm, .long sc, .int (dc_dn sv), .int (dc_bI ak), .long cw, .int dn, .int (nI an), .ref m3, .ref m4, .ref m5, .int (nI sk), .ref m6, .ref m7, .ref m8, .ref m9, .int (nI t), .ref ma, .ref mb, .ref mc, .long ee, .long em, .long ec, .ref mg, .ref mz, .int (dc_bI gn), .int c, .ref mr, .ref mi, .int (dc_sel so (0 : Int32) 1)])), (mr, .inl (cA 1, 24, .inr (.inl (dc_sel so (dc_sgW rw (sc + 1) hh.toInt64 x) rw))))]) sz [(mo, .inr (9, [.ref mf, .ref m1, .ref m2, .int (dc_bI so), .long se, .long sm, .long sc, .int (dc_dn sv), .int (dc_bI ak), .long cw, .int dn, .int (nI an), .ref m3, .ref m4, .ref m5, .int (nI sk), .ref m6, .ref m7, .ref m8, .ref m9, .int (nI t), .ref ma, .ref mb, .ref mc, .long ee, .long em, .long ec, .ref mg, .ref mz, .int (dc_bI gn), .int c, .ref mr, .ref mi, .int th])), (mr, .inl (cA 1, 24, .inr (.inl rw)))]) 0 0 (va_A [(mo, .inr (9, [.ref mf, .ref m1, .ref m2, .int (dc_bI so), .long se, .long sm, .long sc, .int (dc_dn sv), .int (dc_bI ak), .long cw, .int dn, .int (nI an), .ref m3, .ref m4, .ref m5, .int (nI sk), .ref m6, .ref m7, .ref m8, .ref m9, .int (nI t), .ref ma, .ref mb, .ref mc, .long ee, .long em, .long ec, .ref mg, .ref mz, .int (dc_bI gn), .int c, .ref mr, .ref mi, .int th])), (mr, .inl (cA 1, 24, .inr (.inl rw)))] sz) := by
  refine Met.ofW (cc := dn_c_Mod_needed) (maxL := 4) (ret := (some .long)) (by decide) rfl ?_
  intro p9 en9 s m args9 below9 meth9 cd9 s9 B hml hv
  obtain ⟨rfl, hsz, hP, hK0, hD0⟩ := hv
  have hx := B.exec
  have hb := B.bytes
  have hr := B.returns
  have hts : ∀ w ∈ dc_W, w.before _ s = true := fun w h => atoms_spec (ws := (.code dn_y_Mod_needed dn_c_Mod_needed 4 (some .long) :: dc_W)) B.pre w (List.mem_cons_of_mem _ h)
  have hK := hK0.1
  have hN := hK0.2
  have hown : s.vm.findClass dn_R_Mod = some m.cls := findClass_of_methodNamed B.named
  have hlocks := B.notSynchronized
  subst hsz
  have hD := hD0.self (sz := s.heap.size)
  unfold dc_ql
  generalize hAe : va_A [(mo, .inr (9, [.ref mf, .ref m1, .ref m2, .int (dc_bI so), .long se, .long sm, .long sc, .int (dc_dn sv), .int (dc_bI ak), .long cw, .int dn, .int (nI an), .ref m3, .ref m4, .ref m5, .int (nI sk), .ref m6, .ref m7, .ref m8, .ref m9, .int (nI t), .ref ma, .ref mb, .ref mc, .long ee, .long em, .long ec, .ref mg, .ref mz, .int (dc_bI gn), .int c, .ref mr, .ref mi, .int th])), (mr, .inl (cA 1, 24, .inr (.inl rw)))] s.heap.size = A at hD ⊢
  have hA : ∀ q : Nat, s.heap.size ≤ q → A q := fun q h => by rw [← hAe]; exact Or.inr h
  have hS : va_S A s.heap s.heap [] := va_S.rf
  have hl := lv_entry ([.ref mo, .int hh, .long x]) (n := 4) (Nat.le_of_ble_eq_true rfl)
  rw [lg_entry_eq]
  generalize (lg_sl ([.ref mo, .int hh, .long x]) ++ List.replicate (4 - (lg_sl ([.ref mo, .int hh, .long x])).length) Slot.unset).toArray = ls at hl ⊢
  have hl : lv_has ls 4 [(0, .ref mo), (1, .int hh), (2, .long x)] := hl
  refine lv_aload_n hx hb dn_d_Mod_needed_0 rfl (lv_at hl 0 rfl) ?_
  refine lv_aload_n hx hb dn_d_Mod_needed_1 rfl (lv_at hl 0 rfl) ?_
  refine va_get (D := G) (ci := 9) (v := .int (dc_bI so)) (C := dn_R_Mod) (T := dn_T_Mod) (N := 34) hx hb hts (dn_u_Mod) hown hK hP 0 rfl rfl 3 (by decide) (hts _ dn_w_861) (fun _ h9 => h9) rfl dn_d_Mod_needed_2 ?_
  refine lv_if_eq (tgt := 12) hx hb dn_d_Mod_needed_5 (by decide) (fun h5 => ?_) (fun h5 => ?_)
  · -- 5: so = false
    have h5 : so = false := dc_bI0.1 h5
    refine lv_iconst (v := 1) hx hb dn_d_Mod_needed_12 (by decide) ?_
    refine va_put (D := G) (ci := 9) (v := .int 1) (ty := (.int)) (C := dn_R_Mod) (T := dn_T_Mod) (N := 34) hx hb hts (dn_u_Mod) dn_t_Mod dn_o_Mod dn_n_Mod hown hK hP hD hS 0 rfl rfl 33 (by decide) (hts _ dn_w_891) (fun _ h9 => h9) rfl (by decide +kernel) rfl rfl (Nat.le_of_ble_eq_true rfl) dn_d_Mod_needed_13 (fun H locs hP hD hS => ?_)
    have hP : va_P G vwCl [(mo, .inr (9, [.ref mf, .ref m1, .ref m2, .int (dc_bI so), .long se, .long sm, .long sc, .int (dc_dn sv), .int (dc_bI ak), .long cw, .int dn, .int (nI an), .ref m3, .ref m4, .ref m5, .int (nI sk), .ref m6, .ref m7, .ref m8, .ref m9, .int (nI t), .ref ma, .ref mb, .ref mc, .long ee, .long em, .long ec, .ref mg, .ref mz, .int (dc_bI gn), .int c, .ref mr, .ref mi, .int 1])), (mr, .inl (cA 1, 24, .inr (.inl rw)))] H := hP
    have hD : va_D A [(mo, .inr (9, [.ref mf, .ref m1, .ref m2, .int (dc_bI so), .long se, .long sm, .long sc, .int (dc_dn sv), .int (dc_bI ak), .long cw, .int dn, .int (nI an), .ref m3, .ref m4, .ref m5, .int (nI sk), .ref m6, .ref m7, .ref m8, .ref m9, .int (nI t), .ref ma, .ref mb, .ref mc, .long ee, .long em, .long ec, .ref mg, .ref mz, .int (dc_bI gn), .int c, .ref mr, .ref mi, .int 1])), (mr, .inl (cA 1, 24, .inr (.inl rw)))] := hD
    refine lv_aload_n hx hb dn_d_Mod_needed_16 rfl (lv_at hl 0 rfl) ?_
    refine va_get (D := G) (ci := 9) (v := .int (dc_bI so)) (C := dn_R_Mod) (T := dn_T_Mod) (N := 34) hx hb hts (dn_u_Mod) hown hK hP 0 rfl rfl 3 (by decide) (hts _ dn_w_861) (fun _ h9 => h9) rfl dn_d_Mod_needed_17 ?_
    refine lv_if_eq (tgt := 43) hx hb dn_d_Mod_needed_20 (by decide) (fun h20 => ?_) (fun h20 => ?_)
    · -- 20: so = false
      have h20 : so = false := dc_bI0.1 h20
      refine lv_lconst (v := 0) hx hb dn_d_Mod_needed_43 (by decide) ?_
      have hP9 := hP.sub (ws' := [(mo, .inr (9, [.ref mf, .ref m1, .ref m2, .int (dc_bI so), .long se, .long sm, .long sc, .int (dc_dn sv), .int (dc_bI ak), .long cw, .int dn, .int (nI an), .ref m3, .ref m4, .ref m5, .int (nI sk), .ref m6, .ref m7, .ref m8, .ref m9, .int (nI t), .ref ma, .ref mb, .ref mc, .long ee, .long em, .long ec, .ref mg, .ref mz, .int (dc_bI gn), .int c, .ref mr, .ref mi, .int 1])), (mr, .inl (cA 1, 24, .inr (.inl rw)))]) [0, 1] rfl
      have hD9 := hD.sub (ws' := [(mo, .inr (9, [.ref mf, .ref m1, .ref m2, .int (dc_bI so), .long se, .long sm, .long sc, .int (dc_dn sv), .int (dc_bI ak), .long cw, .int dn, .int (nI an), .ref m3, .ref m4, .ref m5, .int (nI sk), .ref m6, .ref m7, .ref m8, .ref m9, .int (nI t), .ref ma, .ref mb, .ref mc, .long ee, .long em, .long ec, .ref mg, .ref mz, .int (dc_bI gn), .int c, .ref mr, .ref mi, .int 1])), (mr, .inl (cA 1, 24, .inr (.inl rw)))]) [0, 1] (by decide) rfl
      have hE9 : ([(mo, .inr (9, [.ref mf, .ref m1, .ref m2, .int (dc_bI so), .long se, .long sm, .long sc, .int (dc_dn sv), .int (dc_bI ak), .long cw, .int dn, .int (nI an), .ref m3, .ref m4, .ref m5, .int (nI sk), .ref m6, .ref m7, .ref m8, .ref m9, .int (nI t), .ref ma, .ref mb, .ref mc, .long ee, .long em, .long ec, .ref mg, .ref mz, .int (dc_bI gn), .int c, .ref mr, .ref mi, .int 1])), (mr, .inl (cA 1, 24, .inr (.inl rw)))] : va_W) = [(mo, .inr (9, [.ref mf, .ref m1, .ref m2, .int (dc_bI so), .long se, .long sm, .long sc, .int (dc_dn sv), .int (dc_bI ak), .long cw, .int dn, .int (nI an), .ref m3, .ref m4, .ref m5, .int (nI sk), .ref m6, .ref m7, .ref m8, .ref m9, .int (nI t), .ref ma, .ref mb, .ref mc, .long ee, .long em, .long ec, .ref mg, .ref mz, .int (dc_bI gn), .int c, .ref mr, .ref mi, .int (dc_sel so (0 : Int32) 1)])), (mr, .inl (cA 1, 24, .inr (.inl (dc_sel so (dc_sgW rw (sc + 1) hh.toInt64 x) rw))))] := by rw [h5]; rfl
      rw [hE9] at hP9 hD9
      exact W.lret (v := 0) hx hb hr (fun t ht hW => ⟨⟨_, (), rfl, (by rw [h5]; rfl), by rw [ht]; exact hP9, hD9⟩, hS.F ht⟩) hS.2.2 dn_d_Mod_needed_44
    · exact absurd (show so = true from dc_bI1.1 h20) (by rw [h5]; decide)
  · -- 5: so = true
    have h5 : so = true := dc_bI1.1 h5
    refine lv_iconst (v := 0) hx hb dn_d_Mod_needed_8 (by decide) ?_
    refine lv_goto (tgt := 13) hx hb dn_d_Mod_needed_9 (by decide) ?_
    refine va_put (D := G) (ci := 9) (v := .int 0) (ty := (.int)) (C := dn_R_Mod) (T := dn_T_Mod) (N := 34) hx hb hts (dn_u_Mod) dn_t_Mod dn_o_Mod dn_n_Mod hown hK hP hD hS 0 rfl rfl 33 (by decide) (hts _ dn_w_891) (fun _ h9 => h9) rfl (by decide +kernel) rfl rfl (Nat.le_of_ble_eq_true rfl) dn_d_Mod_needed_13 (fun H locs hP hD hS => ?_)
    have hP : va_P G vwCl [(mo, .inr (9, [.ref mf, .ref m1, .ref m2, .int (dc_bI so), .long se, .long sm, .long sc, .int (dc_dn sv), .int (dc_bI ak), .long cw, .int dn, .int (nI an), .ref m3, .ref m4, .ref m5, .int (nI sk), .ref m6, .ref m7, .ref m8, .ref m9, .int (nI t), .ref ma, .ref mb, .ref mc, .long ee, .long em, .long ec, .ref mg, .ref mz, .int (dc_bI gn), .int c, .ref mr, .ref mi, .int 0])), (mr, .inl (cA 1, 24, .inr (.inl rw)))] H := hP
    have hD : va_D A [(mo, .inr (9, [.ref mf, .ref m1, .ref m2, .int (dc_bI so), .long se, .long sm, .long sc, .int (dc_dn sv), .int (dc_bI ak), .long cw, .int dn, .int (nI an), .ref m3, .ref m4, .ref m5, .int (nI sk), .ref m6, .ref m7, .ref m8, .ref m9, .int (nI t), .ref ma, .ref mb, .ref mc, .long ee, .long em, .long ec, .ref mg, .ref mz, .int (dc_bI gn), .int c, .ref mr, .ref mi, .int 0])), (mr, .inl (cA 1, 24, .inr (.inl rw)))] := hD
    refine lv_aload_n hx hb dn_d_Mod_needed_16 rfl (lv_at hl 0 rfl) ?_
    refine va_get (D := G) (ci := 9) (v := .int (dc_bI so)) (C := dn_R_Mod) (T := dn_T_Mod) (N := 34) hx hb hts (dn_u_Mod) hown hK hP 0 rfl rfl 3 (by decide) (hts _ dn_w_861) (fun _ h9 => h9) rfl dn_d_Mod_needed_17 ?_
    refine lv_if_eq (tgt := 43) hx hb dn_d_Mod_needed_20 (by decide) (fun h20 => ?_) (fun h20 => ?_)
    · exact absurd (show so = false from dc_bI0.1 h20) (by rw [h5]; decide)
    · -- 20: so = true
      have h20 : so = true := dc_bI1.1 h20
      refine lv_aload_n hx hb dn_d_Mod_needed_23 rfl (lv_at hl 0 rfl) ?_
      refine lv_aload_n hx hb dn_d_Mod_needed_24 rfl (lv_at hl 0 rfl) ?_
      refine va_get (D := G) (ci := 9) (v := .long sm) (C := dn_R_Mod) (T := dn_T_Mod) (N := 34) hx hb hts (dn_u_Mod) hown hK hP 0 rfl rfl 5 (by decide) (hts _ dn_w_863) (fun _ h9 => h9) rfl dn_d_Mod_needed_25 ?_
      refine lv_aload_n hx hb dn_d_Mod_needed_28 rfl (lv_at hl 0 rfl) ?_
      refine va_get (D := G) (ci := 9) (v := .long sc) (C := dn_R_Mod) (T := dn_T_Mod) (N := 34) hx hb hts (dn_u_Mod) hown hK hP 0 rfl rfl 6 (by decide) (hts _ dn_w_864) (fun _ h9 => h9) rfl dn_d_Mod_needed_29 ?_
      refine lv_lconst (v := 1) hx hb dn_d_Mod_needed_32 (by decide) ?_
      refine lv_ladd hx hb dn_d_Mod_needed_33 ?_
      refine lv_iload_n hx hb dn_d_Mod_needed_34 rfl (lv_at hl 1 rfl) ?_
      refine lv_i2l (v := hh.toInt64) hx hb dn_d_Mod_needed_35 rfl ?_
      refine lv_lload_n hx hb dn_d_Mod_needed_36 rfl (lv_at hl 2 rfl) ?_
      refine dc_wl (wr := []) (va_runV (b := mo) (As := [.long sm, .long (sc + (1 : Int64)), .long hh.toInt64, .long x]) (rest := []) ⟨hx, hb, hml, hown, hts⟩ (rr_sealOf l G cA mo mf m1 m2 so se sm sc sv ak cw dn an m3 m4 m5 sk m6 m7 m8 m9 t ma mb mc ee em ec mg mz gn c mr mi 0 rw sm (sc + (1 : Int64)) hh.toInt64 x  H.size) ⟨(callB_of 4 hts (dc_good dn_w_1064) rfl rfl rfl (hts _ dn_w_12) (hts _ dn_w_1061) (by decide +kernel) ⟨Nat.le_of_ble_eq_true rfl, Nat.le_of_ble_eq_true rfl⟩), (hts _ dn_w_1063), (hts _ dn_s_Mod_sealOf)⟩ (dc_preVW (hP.sub [0, 1] rfl) hK0 (hD.sub [0, 1] (by decide) rfl) (q0 := 0) rfl rfl) rfl rfl hl.1 rfl (lv_room (Nat.le_of_ble_eq_true rfl)) dn_d_Mod_needed_37 ⟨Nat.le_of_ble_eq_true rfl, Nat.le_of_ble_eq_true rfl⟩) hP hD hS hA [0, 1] [] rfl rfl (by decide) (by decide) (fun r9 u9 H locs hr9 hP hD hS => ?_)
      subst hr9
      have hP : va_P G vwCl [(mo, .inr (9, [.ref mf, .ref m1, .ref m2, .int (dc_bI so), .long se, .long sm, .long sc, .int (dc_dn sv), .int (dc_bI ak), .long cw, .int dn, .int (nI an), .ref m3, .ref m4, .ref m5, .int (nI sk), .ref m6, .ref m7, .ref m8, .ref m9, .int (nI t), .ref ma, .ref mb, .ref mc, .long ee, .long em, .long ec, .ref mg, .ref mz, .int (dc_bI gn), .int c, .ref mr, .ref mi, .int 0])), (mr, .inl (cA 1, 24, .inr (.inl (dc_sgW rw (sc + (1 : Int64)) hh.toInt64 x))))] H := hP
      have hD : va_D A [(mo, .inr (9, [.ref mf, .ref m1, .ref m2, .int (dc_bI so), .long se, .long sm, .long sc, .int (dc_dn sv), .int (dc_bI ak), .long cw, .int dn, .int (nI an), .ref m3, .ref m4, .ref m5, .int (nI sk), .ref m6, .ref m7, .ref m8, .ref m9, .int (nI t), .ref ma, .ref mb, .ref mc, .long ee, .long em, .long ec, .ref mg, .ref mz, .int (dc_bI gn), .int c, .ref mr, .ref mi, .int 0])), (mr, .inl (cA 1, 24, .inr (.inl (dc_sgW rw (sc + (1 : Int64)) hh.toInt64 x))))] := hD
      refine lv_goto (tgt := 44) hx hb dn_d_Mod_needed_40 (by decide) ?_
      have hP9 := hP.sub (ws' := [(mo, .inr (9, [.ref mf, .ref m1, .ref m2, .int (dc_bI so), .long se, .long sm, .long sc, .int (dc_dn sv), .int (dc_bI ak), .long cw, .int dn, .int (nI an), .ref m3, .ref m4, .ref m5, .int (nI sk), .ref m6, .ref m7, .ref m8, .ref m9, .int (nI t), .ref ma, .ref mb, .ref mc, .long ee, .long em, .long ec, .ref mg, .ref mz, .int (dc_bI gn), .int c, .ref mr, .ref mi, .int 0])), (mr, .inl (cA 1, 24, .inr (.inl (dc_sgW rw (sc + (1 : Int64)) hh.toInt64 x))))]) [0, 1] rfl
      have hD9 := hD.sub (ws' := [(mo, .inr (9, [.ref mf, .ref m1, .ref m2, .int (dc_bI so), .long se, .long sm, .long sc, .int (dc_dn sv), .int (dc_bI ak), .long cw, .int dn, .int (nI an), .ref m3, .ref m4, .ref m5, .int (nI sk), .ref m6, .ref m7, .ref m8, .ref m9, .int (nI t), .ref ma, .ref mb, .ref mc, .long ee, .long em, .long ec, .ref mg, .ref mz, .int (dc_bI gn), .int c, .ref mr, .ref mi, .int 0])), (mr, .inl (cA 1, 24, .inr (.inl (dc_sgW rw (sc + (1 : Int64)) hh.toInt64 x))))]) [0, 1] (by decide) rfl
      have hE9 : ([(mo, .inr (9, [.ref mf, .ref m1, .ref m2, .int (dc_bI so), .long se, .long sm, .long sc, .int (dc_dn sv), .int (dc_bI ak), .long cw, .int dn, .int (nI an), .ref m3, .ref m4, .ref m5, .int (nI sk), .ref m6, .ref m7, .ref m8, .ref m9, .int (nI t), .ref ma, .ref mb, .ref mc, .long ee, .long em, .long ec, .ref mg, .ref mz, .int (dc_bI gn), .int c, .ref mr, .ref mi, .int 0])), (mr, .inl (cA 1, 24, .inr (.inl (dc_sgW rw (sc + (1 : Int64)) hh.toInt64 x))))] : va_W) = [(mo, .inr (9, [.ref mf, .ref m1, .ref m2, .int (dc_bI so), .long se, .long sm, .long sc, .int (dc_dn sv), .int (dc_bI ak), .long cw, .int dn, .int (nI an), .ref m3, .ref m4, .ref m5, .int (nI sk), .ref m6, .ref m7, .ref m8, .ref m9, .int (nI t), .ref ma, .ref mb, .ref mc, .long ee, .long em, .long ec, .ref mg, .ref mz, .int (dc_bI gn), .int c, .ref mr, .ref mi, .int (dc_sel so (0 : Int32) 1)])), (mr, .inl (cA 1, 24, .inr (.inl (dc_sel so (dc_sgW rw (sc + 1) hh.toInt64 x) rw))))] := by rw [h5]; rfl
      rw [hE9] at hP9 hD9
      exact W.lret (v := (dc_seal3 sm (sc + (1 : Int64)) hh.toInt64 x)) hx hb hr (fun t ht hW => ⟨⟨_, (), rfl, (by rw [h5]; rfl), by rw [ht]; exact hP9, hD9⟩, hS.F ht⟩) hS.2.2 dn_d_Mod_needed_44

set_option maxHeartbeats 4000000 in
set_option maxRecDepth 100000 in
theorem rr_hidden (l : Launch) (G : va_G) (cA : Nat → ClassId) (mo : Nat) (mf : Nat) (m1 : Nat) (m2 : Nat) (so : Bool) (se : Int64) (sm : Int64) (sc : Int64) (sv : Nat) (ak : Bool) (cw : Int64) (dn : Int32) (an : Nat) (m3 : Nat) (m4 : Nat) (m5 : Nat) (sk : Nat) (m6 : Nat) (m7 : Nat) (m8 : Nat) (m9 : Nat) (t : Nat) (ma : Nat) (mb : Nat) (mc : Nat) (ee : Int64) (em : Int64) (ec : Int64) (mg : Nat) (mz : Nat) (gn : Bool) (c : Int32) (mr : Nat) (mi : Nat) (th : Int32) (x : Int64)  (sz : Nat) : Met l dn_y_Mod_hidden (.code dn_y_Mod_hidden dn_c_Mod_hidden 3 (some .long) :: dc_W) ({ frames := 2, cells := 0, slots := 0, locals := 53 }) (dc_pW G cA [(mo, .inr (9, [.ref mf, .ref m1, .ref m2, .int (dc_bI so), .long se, .long sm, .long sc, .int (dc_dn sv), .int (dc_bI ak), .long cw, .int dn, .int (nI an), .ref m3, .ref m4, .ref m5, .int (nI sk), .ref m6, .ref m7, .ref m8, .ref m9, .int (nI t), .ref ma, .ref mb, .ref mc, .long ee, .long em, .long ec, .ref mg, .ref mz, .int (dc_bI gn), .int c, .ref mr, .ref mi, .int th]))] sz [.ref mo, .long x]) (dc_ql G (fun (r : Int64) (_ : Unit) => r = dc_sel so (dc_enc se x ^^^ (sc + 1)) 0) (fun (_ : Unit) => [(mo, .inr (9, [.ref mf, .ref m1, .ref m2, .int (dc_bI so), .long se, .long sm, .long sc, .int (dc_dn sv), .int (dc_bI ak), .long cw, .int dn, .int (nI an), .ref m3, .ref m4, .ref m5, .int (nI sk), .ref m6, .ref m7, .ref m8, .ref m9, .int (nI t), .ref ma, .ref mb, .ref mc, .long ee, .long em, .long ec, .ref mg, .ref mz, .int (dc_bI gn), .int c, .ref mr, .ref mi, .int (dc_sel so (0 : Int32) 1)]))]) sz [(mo, .inr (9, [.ref mf, .ref m1, .ref m2, .int (dc_bI so), .long se, .long sm, .long sc, .int (dc_dn sv), .int (dc_bI ak), .long cw, .int dn, .int (nI an), .ref m3, .ref m4, .ref m5, .int (nI sk), .ref m6, .ref m7, .ref m8, .ref m9, .int (nI t), .ref ma, .ref mb, .ref mc, .long ee, .long em, .long ec, .ref mg, .ref mz, .int (dc_bI gn), .int c, .ref mr, .ref mi, .int th]))]) 0 0 (va_A [(mo, .inr (9, [.ref mf, .ref m1, .ref m2, .int (dc_bI so), .long se, .long sm, .long sc, .int (dc_dn sv), .int (dc_bI ak), .long cw, .int dn, .int (nI an), .ref m3, .ref m4, .ref m5, .int (nI sk), .ref m6, .ref m7, .ref m8, .ref m9, .int (nI t), .ref ma, .ref mb, .ref mc, .long ee, .long em, .long ec, .ref mg, .ref mz, .int (dc_bI gn), .int c, .ref mr, .ref mi, .int th]))] sz) := by
  refine Met.ofW (cc := dn_c_Mod_hidden) (maxL := 3) (ret := (some .long)) (by decide) rfl ?_
  intro p9 en9 s m args9 below9 meth9 cd9 s9 B hml hv
  obtain ⟨rfl, hsz, hP, hK0, hD0⟩ := hv
  have hx := B.exec
  have hb := B.bytes
  have hr := B.returns
  have hts : ∀ w ∈ dc_W, w.before _ s = true := fun w h => atoms_spec (ws := (.code dn_y_Mod_hidden dn_c_Mod_hidden 3 (some .long) :: dc_W)) B.pre w (List.mem_cons_of_mem _ h)
  have hK := hK0.1
  have hN := hK0.2
  have hown : s.vm.findClass dn_R_Mod = some m.cls := findClass_of_methodNamed B.named
  have hlocks := B.notSynchronized
  subst hsz
  have hD := hD0.self (sz := s.heap.size)
  unfold dc_ql
  generalize hAe : va_A [(mo, .inr (9, [.ref mf, .ref m1, .ref m2, .int (dc_bI so), .long se, .long sm, .long sc, .int (dc_dn sv), .int (dc_bI ak), .long cw, .int dn, .int (nI an), .ref m3, .ref m4, .ref m5, .int (nI sk), .ref m6, .ref m7, .ref m8, .ref m9, .int (nI t), .ref ma, .ref mb, .ref mc, .long ee, .long em, .long ec, .ref mg, .ref mz, .int (dc_bI gn), .int c, .ref mr, .ref mi, .int th]))] s.heap.size = A at hD ⊢
  have hA : ∀ q : Nat, s.heap.size ≤ q → A q := fun q h => by rw [← hAe]; exact Or.inr h
  have hS : va_S A s.heap s.heap [] := va_S.rf
  have hl := lv_entry ([.ref mo, .long x]) (n := 3) (Nat.le_of_ble_eq_true rfl)
  rw [lg_entry_eq]
  generalize (lg_sl ([.ref mo, .long x]) ++ List.replicate (3 - (lg_sl ([.ref mo, .long x])).length) Slot.unset).toArray = ls at hl ⊢
  have hl : lv_has ls 3 [(0, .ref mo), (1, .long x)] := hl
  refine lv_aload_n hx hb dn_d_Mod_hidden_0 rfl (lv_at hl 0 rfl) ?_
  refine lv_aload_n hx hb dn_d_Mod_hidden_1 rfl (lv_at hl 0 rfl) ?_
  refine va_get (D := G) (ci := 9) (v := .int (dc_bI so)) (C := dn_R_Mod) (T := dn_T_Mod) (N := 34) hx hb hts (dn_u_Mod) hown hK hP 0 rfl rfl 3 (by decide) (hts _ dn_w_861) (fun _ h9 => h9) rfl dn_d_Mod_hidden_2 ?_
  refine lv_if_eq (tgt := 12) hx hb dn_d_Mod_hidden_5 (by decide) (fun h5 => ?_) (fun h5 => ?_)
  · -- 5: so = false
    have h5 : so = false := dc_bI0.1 h5
    refine lv_iconst (v := 1) hx hb dn_d_Mod_hidden_12 (by decide) ?_
    refine va_put (D := G) (ci := 9) (v := .int 1) (ty := (.int)) (C := dn_R_Mod) (T := dn_T_Mod) (N := 34) hx hb hts (dn_u_Mod) dn_t_Mod dn_o_Mod dn_n_Mod hown hK hP hD hS 0 rfl rfl 33 (by decide) (hts _ dn_w_891) (fun _ h9 => h9) rfl (by decide +kernel) rfl rfl (Nat.le_of_ble_eq_true rfl) dn_d_Mod_hidden_13 (fun H locs hP hD hS => ?_)
    have hP : va_P G vwCl [(mo, .inr (9, [.ref mf, .ref m1, .ref m2, .int (dc_bI so), .long se, .long sm, .long sc, .int (dc_dn sv), .int (dc_bI ak), .long cw, .int dn, .int (nI an), .ref m3, .ref m4, .ref m5, .int (nI sk), .ref m6, .ref m7, .ref m8, .ref m9, .int (nI t), .ref ma, .ref mb, .ref mc, .long ee, .long em, .long ec, .ref mg, .ref mz, .int (dc_bI gn), .int c, .ref mr, .ref mi, .int 1]))] H := hP
    have hD : va_D A [(mo, .inr (9, [.ref mf, .ref m1, .ref m2, .int (dc_bI so), .long se, .long sm, .long sc, .int (dc_dn sv), .int (dc_bI ak), .long cw, .int dn, .int (nI an), .ref m3, .ref m4, .ref m5, .int (nI sk), .ref m6, .ref m7, .ref m8, .ref m9, .int (nI t), .ref ma, .ref mb, .ref mc, .long ee, .long em, .long ec, .ref mg, .ref mz, .int (dc_bI gn), .int c, .ref mr, .ref mi, .int 1]))] := hD
    refine lv_aload_n hx hb dn_d_Mod_hidden_16 rfl (lv_at hl 0 rfl) ?_
    refine va_get (D := G) (ci := 9) (v := .int (dc_bI so)) (C := dn_R_Mod) (T := dn_T_Mod) (N := 34) hx hb hts (dn_u_Mod) hown hK hP 0 rfl rfl 3 (by decide) (hts _ dn_w_861) (fun _ h9 => h9) rfl dn_d_Mod_hidden_17 ?_
    refine lv_if_eq (tgt := 41) hx hb dn_d_Mod_hidden_20 (by decide) (fun h20 => ?_) (fun h20 => ?_)
    · -- 20: so = false
      have h20 : so = false := dc_bI0.1 h20
      refine lv_lconst (v := 0) hx hb dn_d_Mod_hidden_41 (by decide) ?_
      have hP9 := hP.sub (ws' := [(mo, .inr (9, [.ref mf, .ref m1, .ref m2, .int (dc_bI so), .long se, .long sm, .long sc, .int (dc_dn sv), .int (dc_bI ak), .long cw, .int dn, .int (nI an), .ref m3, .ref m4, .ref m5, .int (nI sk), .ref m6, .ref m7, .ref m8, .ref m9, .int (nI t), .ref ma, .ref mb, .ref mc, .long ee, .long em, .long ec, .ref mg, .ref mz, .int (dc_bI gn), .int c, .ref mr, .ref mi, .int 1]))]) [0] rfl
      have hD9 := hD.sub (ws' := [(mo, .inr (9, [.ref mf, .ref m1, .ref m2, .int (dc_bI so), .long se, .long sm, .long sc, .int (dc_dn sv), .int (dc_bI ak), .long cw, .int dn, .int (nI an), .ref m3, .ref m4, .ref m5, .int (nI sk), .ref m6, .ref m7, .ref m8, .ref m9, .int (nI t), .ref ma, .ref mb, .ref mc, .long ee, .long em, .long ec, .ref mg, .ref mz, .int (dc_bI gn), .int c, .ref mr, .ref mi, .int 1]))]) [0] (by decide) rfl
      have hE9 : ([(mo, .inr (9, [.ref mf, .ref m1, .ref m2, .int (dc_bI so), .long se, .long sm, .long sc, .int (dc_dn sv), .int (dc_bI ak), .long cw, .int dn, .int (nI an), .ref m3, .ref m4, .ref m5, .int (nI sk), .ref m6, .ref m7, .ref m8, .ref m9, .int (nI t), .ref ma, .ref mb, .ref mc, .long ee, .long em, .long ec, .ref mg, .ref mz, .int (dc_bI gn), .int c, .ref mr, .ref mi, .int 1]))] : va_W) = [(mo, .inr (9, [.ref mf, .ref m1, .ref m2, .int (dc_bI so), .long se, .long sm, .long sc, .int (dc_dn sv), .int (dc_bI ak), .long cw, .int dn, .int (nI an), .ref m3, .ref m4, .ref m5, .int (nI sk), .ref m6, .ref m7, .ref m8, .ref m9, .int (nI t), .ref ma, .ref mb, .ref mc, .long ee, .long em, .long ec, .ref mg, .ref mz, .int (dc_bI gn), .int c, .ref mr, .ref mi, .int (dc_sel so (0 : Int32) 1)]))] := by rw [h5]; rfl
      rw [hE9] at hP9 hD9
      exact W.lret (v := 0) hx hb hr (fun t ht hW => ⟨⟨_, (), rfl, (by rw [h5]; rfl), by rw [ht]; exact hP9, hD9⟩, hS.F ht⟩) hS.2.2 dn_d_Mod_hidden_42
    · exact absurd (show so = true from dc_bI1.1 h20) (by rw [h5]; decide)
  · -- 5: so = true
    have h5 : so = true := dc_bI1.1 h5
    refine lv_iconst (v := 0) hx hb dn_d_Mod_hidden_8 (by decide) ?_
    refine lv_goto (tgt := 13) hx hb dn_d_Mod_hidden_9 (by decide) ?_
    refine va_put (D := G) (ci := 9) (v := .int 0) (ty := (.int)) (C := dn_R_Mod) (T := dn_T_Mod) (N := 34) hx hb hts (dn_u_Mod) dn_t_Mod dn_o_Mod dn_n_Mod hown hK hP hD hS 0 rfl rfl 33 (by decide) (hts _ dn_w_891) (fun _ h9 => h9) rfl (by decide +kernel) rfl rfl (Nat.le_of_ble_eq_true rfl) dn_d_Mod_hidden_13 (fun H locs hP hD hS => ?_)
    have hP : va_P G vwCl [(mo, .inr (9, [.ref mf, .ref m1, .ref m2, .int (dc_bI so), .long se, .long sm, .long sc, .int (dc_dn sv), .int (dc_bI ak), .long cw, .int dn, .int (nI an), .ref m3, .ref m4, .ref m5, .int (nI sk), .ref m6, .ref m7, .ref m8, .ref m9, .int (nI t), .ref ma, .ref mb, .ref mc, .long ee, .long em, .long ec, .ref mg, .ref mz, .int (dc_bI gn), .int c, .ref mr, .ref mi, .int 0]))] H := hP
    have hD : va_D A [(mo, .inr (9, [.ref mf, .ref m1, .ref m2, .int (dc_bI so), .long se, .long sm, .long sc, .int (dc_dn sv), .int (dc_bI ak), .long cw, .int dn, .int (nI an), .ref m3, .ref m4, .ref m5, .int (nI sk), .ref m6, .ref m7, .ref m8, .ref m9, .int (nI t), .ref ma, .ref mb, .ref mc, .long ee, .long em, .long ec, .ref mg, .ref mz, .int (dc_bI gn), .int c, .ref mr, .ref mi, .int 0]))] := hD
    refine lv_aload_n hx hb dn_d_Mod_hidden_16 rfl (lv_at hl 0 rfl) ?_
    refine va_get (D := G) (ci := 9) (v := .int (dc_bI so)) (C := dn_R_Mod) (T := dn_T_Mod) (N := 34) hx hb hts (dn_u_Mod) hown hK hP 0 rfl rfl 3 (by decide) (hts _ dn_w_861) (fun _ h9 => h9) rfl dn_d_Mod_hidden_17 ?_
    refine lv_if_eq (tgt := 41) hx hb dn_d_Mod_hidden_20 (by decide) (fun h20 => ?_) (fun h20 => ?_)
    · exact absurd (show so = false from dc_bI0.1 h20) (by rw [h5]; decide)
    · -- 20: so = true
      have h20 : so = true := dc_bI1.1 h20
      refine lv_aload_n hx hb dn_d_Mod_hidden_23 rfl (lv_at hl 0 rfl) ?_
      refine va_get (D := G) (ci := 9) (v := .long se) (C := dn_R_Mod) (T := dn_T_Mod) (N := 34) hx hb hts (dn_u_Mod) hown hK hP 0 rfl rfl 4 (by decide) (hts _ dn_w_862) (fun _ h9 => h9) rfl dn_d_Mod_hidden_24 ?_
      refine lv_lload_n hx hb dn_d_Mod_hidden_27 rfl (lv_at hl 1 rfl) ?_
      refine vp_callSl (va_Run.run (va_runS (As := [.long se, .long x]) (rest := []) ⟨hx, hb, hml, hown, hts⟩ (rr_hide l se x ) ⟨(callB_of 2 hts (dc_good dn_w_985) rfl rfl rfl (hts _ dn_w_12) (hts _ dn_w_983) (by decide +kernel) ⟨Nat.le_of_ble_eq_true rfl, Nat.le_of_ble_eq_true rfl⟩), (hts _ dn_w_984)⟩ preEq rfl rfl hl.1 rfl (lv_room (Nat.le_of_ble_eq_true rfl)) dn_d_Mod_hidden_28 ⟨Nat.le_of_ble_eq_true rfl, Nat.le_of_ble_eq_true rfl⟩)) (fun r9 hr9 => ?_)
      subst hr9
      refine lv_aload_n hx hb dn_d_Mod_hidden_31 rfl (lv_at hl 0 rfl) ?_
      refine va_get (D := G) (ci := 9) (v := .long sc) (C := dn_R_Mod) (T := dn_T_Mod) (N := 34) hx hb hts (dn_u_Mod) hown hK hP 0 rfl rfl 6 (by decide) (hts _ dn_w_864) (fun _ h9 => h9) rfl dn_d_Mod_hidden_32 ?_
      refine lv_lconst (v := 1) hx hb dn_d_Mod_hidden_35 (by decide) ?_
      refine lv_ladd hx hb dn_d_Mod_hidden_36 ?_
      refine lv_lxor hx hb dn_d_Mod_hidden_37 ?_
      refine lv_goto (tgt := 42) hx hb dn_d_Mod_hidden_38 (by decide) ?_
      have hP9 := hP.sub (ws' := [(mo, .inr (9, [.ref mf, .ref m1, .ref m2, .int (dc_bI so), .long se, .long sm, .long sc, .int (dc_dn sv), .int (dc_bI ak), .long cw, .int dn, .int (nI an), .ref m3, .ref m4, .ref m5, .int (nI sk), .ref m6, .ref m7, .ref m8, .ref m9, .int (nI t), .ref ma, .ref mb, .ref mc, .long ee, .long em, .long ec, .ref mg, .ref mz, .int (dc_bI gn), .int c, .ref mr, .ref mi, .int 0]))]) [0] rfl
      have hD9 := hD.sub (ws' := [(mo, .inr (9, [.ref mf, .ref m1, .ref m2, .int (dc_bI so), .long se, .long sm, .long sc, .int (dc_dn sv), .int (dc_bI ak), .long cw, .int dn, .int (nI an), .ref m3, .ref m4, .ref m5, .int (nI sk), .ref m6, .ref m7, .ref m8, .ref m9, .int (nI t), .ref ma, .ref mb, .ref mc, .long ee, .long em, .long ec, .ref mg, .ref mz, .int (dc_bI gn), .int c, .ref mr, .ref mi, .int 0]))]) [0] (by decide) rfl
      have hE9 : ([(mo, .inr (9, [.ref mf, .ref m1, .ref m2, .int (dc_bI so), .long se, .long sm, .long sc, .int (dc_dn sv), .int (dc_bI ak), .long cw, .int dn, .int (nI an), .ref m3, .ref m4, .ref m5, .int (nI sk), .ref m6, .ref m7, .ref m8, .ref m9, .int (nI t), .ref ma, .ref mb, .ref mc, .long ee, .long em, .long ec, .ref mg, .ref mz, .int (dc_bI gn), .int c, .ref mr, .ref mi, .int 0]))] : va_W) = [(mo, .inr (9, [.ref mf, .ref m1, .ref m2, .int (dc_bI so), .long se, .long sm, .long sc, .int (dc_dn sv), .int (dc_bI ak), .long cw, .int dn, .int (nI an), .ref m3, .ref m4, .ref m5, .int (nI sk), .ref m6, .ref m7, .ref m8, .ref m9, .int (nI t), .ref ma, .ref mb, .ref mc, .long ee, .long em, .long ec, .ref mg, .ref mz, .int (dc_bI gn), .int c, .ref mr, .ref mi, .int (dc_sel so (0 : Int32) 1)]))] := by rw [h5]; rfl
      rw [hE9] at hP9 hD9
      exact W.lret (v := ((dc_enc se x) ^^^ (sc + (1 : Int64)))) hx hb hr (fun t ht hW => ⟨⟨_, (), rfl, (by rw [h5]; rfl), by rw [ht]; exact hP9, hD9⟩, hS.F ht⟩) hS.2.2 dn_d_Mod_hidden_42

set_option maxHeartbeats 4000000 in
set_option maxRecDepth 100000 in
theorem rr_answer (l : Launch) (G : va_G) (cA : Nat → ClassId) (mo : Nat) (mf : Nat) (m1 : Nat) (m2 : Nat) (so : Bool) (se : Int64) (sm : Int64) (sc : Int64) (sv : Nat) (ak : Bool) (cw : Int64) (dn : Int32) (an : Nat) (m3 : Nat) (m4 : Nat) (m5 : Nat) (sk : Nat) (m6 : Nat) (m7 : Nat) (m8 : Nat) (m9 : Nat) (t : Nat) (ma : Nat) (mb : Nat) (mc : Nat) (ee : Int64) (em : Int64) (ec : Int64) (mg : Nat) (mz : Nat) (gn : Bool) (c : Int32) (mr : Nat) (mi : Nat) (th : Int32) (wa : Nat → Int64) (i : Int32) (han : an ≤ 6) (sz : Nat) : Met l dn_y_Mod_answer (.code dn_y_Mod_answer dn_c_Mod_answer 2 (some .long) :: dc_W) ({ frames := 0, cells := 0, slots := 0, locals := 0 }) (dc_pW G cA [(mo, .inr (9, [.ref mf, .ref m1, .ref m2, .int (dc_bI so), .long se, .long sm, .long sc, .int (dc_dn sv), .int (dc_bI ak), .long cw, .int dn, .int (nI an), .ref m3, .ref m4, .ref m5, .int (nI sk), .ref m6, .ref m7, .ref m8, .ref m9, .int (nI t), .ref ma, .ref mb, .ref mc, .long ee, .long em, .long ec, .ref mg, .ref mz, .int (dc_bI gn), .int c, .ref mr, .ref mi, .int th])), (m3, .inl (cA 1, 6, .inr (.inl wa)))] sz [.ref mo, .int i]) (dc_ql G (fun (r : Int64) (_ : Unit) => r = dc_get wa an i) (fun (_ : Unit) => [(mo, .inr (9, [.ref mf, .ref m1, .ref m2, .int (dc_bI so), .long se, .long sm, .long sc, .int (dc_dn sv), .int (dc_bI ak), .long cw, .int dn, .int (nI an), .ref m3, .ref m4, .ref m5, .int (nI sk), .ref m6, .ref m7, .ref m8, .ref m9, .int (nI t), .ref ma, .ref mb, .ref mc, .long ee, .long em, .long ec, .ref mg, .ref mz, .int (dc_bI gn), .int c, .ref mr, .ref mi, .int 0])), (m3, .inl (cA 1, 6, .inr (.inl wa)))]) sz [(mo, .inr (9, [.ref mf, .ref m1, .ref m2, .int (dc_bI so), .long se, .long sm, .long sc, .int (dc_dn sv), .int (dc_bI ak), .long cw, .int dn, .int (nI an), .ref m3, .ref m4, .ref m5, .int (nI sk), .ref m6, .ref m7, .ref m8, .ref m9, .int (nI t), .ref ma, .ref mb, .ref mc, .long ee, .long em, .long ec, .ref mg, .ref mz, .int (dc_bI gn), .int c, .ref mr, .ref mi, .int th])), (m3, .inl (cA 1, 6, .inr (.inl wa)))]) 0 0 (va_A [(mo, .inr (9, [.ref mf, .ref m1, .ref m2, .int (dc_bI so), .long se, .long sm, .long sc, .int (dc_dn sv), .int (dc_bI ak), .long cw, .int dn, .int (nI an), .ref m3, .ref m4, .ref m5, .int (nI sk), .ref m6, .ref m7, .ref m8, .ref m9, .int (nI t), .ref ma, .ref mb, .ref mc, .long ee, .long em, .long ec, .ref mg, .ref mz, .int (dc_bI gn), .int c, .ref mr, .ref mi, .int th])), (m3, .inl (cA 1, 6, .inr (.inl wa)))] sz) := by
  refine Met.ofW (cc := dn_c_Mod_answer) (maxL := 2) (ret := (some .long)) (by decide) rfl ?_
  intro p9 en9 s m args9 below9 meth9 cd9 s9 B hml hv
  obtain ⟨rfl, hsz, hP, hK0, hD0⟩ := hv
  have hx := B.exec
  have hb := B.bytes
  have hr := B.returns
  have hts : ∀ w ∈ dc_W, w.before _ s = true := fun w h => atoms_spec (ws := (.code dn_y_Mod_answer dn_c_Mod_answer 2 (some .long) :: dc_W)) B.pre w (List.mem_cons_of_mem _ h)
  have hK := hK0.1
  have hN := hK0.2
  have hown : s.vm.findClass dn_R_Mod = some m.cls := findClass_of_methodNamed B.named
  have hlocks := B.notSynchronized
  subst hsz
  have hD := hD0.self (sz := s.heap.size)
  unfold dc_ql
  generalize hAe : va_A [(mo, .inr (9, [.ref mf, .ref m1, .ref m2, .int (dc_bI so), .long se, .long sm, .long sc, .int (dc_dn sv), .int (dc_bI ak), .long cw, .int dn, .int (nI an), .ref m3, .ref m4, .ref m5, .int (nI sk), .ref m6, .ref m7, .ref m8, .ref m9, .int (nI t), .ref ma, .ref mb, .ref mc, .long ee, .long em, .long ec, .ref mg, .ref mz, .int (dc_bI gn), .int c, .ref mr, .ref mi, .int th])), (m3, .inl (cA 1, 6, .inr (.inl wa)))] s.heap.size = A at hD ⊢
  have hA : ∀ q : Nat, s.heap.size ≤ q → A q := fun q h => by rw [← hAe]; exact Or.inr h
  have hS : va_S A s.heap s.heap [] := va_S.rf
  have hl := lv_entry ([.ref mo, .int i]) (n := 2) (Nat.le_of_ble_eq_true rfl)
  rw [lg_entry_eq]
  generalize (lg_sl ([.ref mo, .int i]) ++ List.replicate (2 - (lg_sl ([.ref mo, .int i])).length) Slot.unset).toArray = ls at hl ⊢
  have hl : lv_has ls 2 [(0, .ref mo), (1, .int i)] := hl
  refine lv_aload_n hx hb dn_d_Mod_answer_0 rfl (lv_at hl 0 rfl) ?_
  refine lv_iconst (v := 0) hx hb dn_d_Mod_answer_1 (by decide) ?_
  refine va_put (D := G) (ci := 9) (v := .int 0) (ty := (.int)) (C := dn_R_Mod) (T := dn_T_Mod) (N := 34) hx hb hts (dn_u_Mod) dn_t_Mod dn_o_Mod dn_n_Mod hown hK hP hD hS 0 rfl rfl 33 (by decide) (hts _ dn_w_891) (fun _ h9 => h9) rfl (by decide +kernel) rfl rfl (Nat.le_of_ble_eq_true rfl) dn_d_Mod_answer_2 (fun H locs hP hD hS => ?_)
  have hP : va_P G vwCl [(mo, .inr (9, [.ref mf, .ref m1, .ref m2, .int (dc_bI so), .long se, .long sm, .long sc, .int (dc_dn sv), .int (dc_bI ak), .long cw, .int dn, .int (nI an), .ref m3, .ref m4, .ref m5, .int (nI sk), .ref m6, .ref m7, .ref m8, .ref m9, .int (nI t), .ref ma, .ref mb, .ref mc, .long ee, .long em, .long ec, .ref mg, .ref mz, .int (dc_bI gn), .int c, .ref mr, .ref mi, .int 0])), (m3, .inl (cA 1, 6, .inr (.inl wa)))] H := hP
  have hD : va_D A [(mo, .inr (9, [.ref mf, .ref m1, .ref m2, .int (dc_bI so), .long se, .long sm, .long sc, .int (dc_dn sv), .int (dc_bI ak), .long cw, .int dn, .int (nI an), .ref m3, .ref m4, .ref m5, .int (nI sk), .ref m6, .ref m7, .ref m8, .ref m9, .int (nI t), .ref ma, .ref mb, .ref mc, .long ee, .long em, .long ec, .ref mg, .ref mz, .int (dc_bI gn), .int c, .ref mr, .ref mi, .int 0])), (m3, .inl (cA 1, 6, .inr (.inl wa)))] := hD
  refine lv_iload_n hx hb dn_d_Mod_answer_5 rfl (lv_at hl 1 rfl) ?_
  refine lv_if_lt (tgt := 17) hx hb dn_d_Mod_answer_6 (by decide) (fun h6 => ?_) (fun h6 => ?_)
  · -- 6: i < 0
    refine lv_lconst (v := 0) hx hb dn_d_Mod_answer_17 (by decide) ?_
    refine lv_goto (tgt := 27) hx hb dn_d_Mod_answer_18 (by decide) ?_
    have hP9 := hP.sub (ws' := [(mo, .inr (9, [.ref mf, .ref m1, .ref m2, .int (dc_bI so), .long se, .long sm, .long sc, .int (dc_dn sv), .int (dc_bI ak), .long cw, .int dn, .int (nI an), .ref m3, .ref m4, .ref m5, .int (nI sk), .ref m6, .ref m7, .ref m8, .ref m9, .int (nI t), .ref ma, .ref mb, .ref mc, .long ee, .long em, .long ec, .ref mg, .ref mz, .int (dc_bI gn), .int c, .ref mr, .ref mi, .int 0])), (m3, .inl (cA 1, 6, .inr (.inl wa)))]) [0, 1] rfl
    have hD9 := hD.sub (ws' := [(mo, .inr (9, [.ref mf, .ref m1, .ref m2, .int (dc_bI so), .long se, .long sm, .long sc, .int (dc_dn sv), .int (dc_bI ak), .long cw, .int dn, .int (nI an), .ref m3, .ref m4, .ref m5, .int (nI sk), .ref m6, .ref m7, .ref m8, .ref m9, .int (nI t), .ref ma, .ref mb, .ref mc, .long ee, .long em, .long ec, .ref mg, .ref mz, .int (dc_bI gn), .int c, .ref mr, .ref mi, .int 0])), (m3, .inl (cA 1, 6, .inr (.inl wa)))]) [0, 1] (by decide) rfl
    exact W.lret (v := 0) hx hb hr (fun t ht hW => ⟨⟨_, (), rfl, (dc_getF (dc_has0 h6)), by rw [ht]; exact hP9, hD9⟩, hS.F ht⟩) hS.2.2 dn_d_Mod_answer_27
  · -- 6: ¬ i < 0
    refine lv_iload_n hx hb dn_d_Mod_answer_9 rfl (lv_at hl 1 rfl) ?_
    refine lv_aload_n hx hb dn_d_Mod_answer_10 rfl (lv_at hl 0 rfl) ?_
    refine va_get (D := G) (ci := 9) (v := .int (nI an)) (C := dn_R_Mod) (T := dn_T_Mod) (N := 34) hx hb hts (dn_u_Mod) hown hK hP 0 rfl rfl 11 (by decide) (hts _ dn_w_869) (fun _ h9 => h9) rfl dn_d_Mod_answer_11 ?_
    refine lv_icmp_lt (tgt := 21) hx hb dn_d_Mod_answer_14 (by decide) (fun h14 => ?_) (fun h14 => ?_)
    · -- 14: i < (nI an)
      obtain ⟨j, hj, rfl⟩ := dc_hasE (by omega) (dc_has2 (n := an) (by omega) h6 (Int32.not_le.mpr h14))
      have hl : lv_has ls 2 [(0, .ref mo), (1, .int (nI j))] := hl
      refine lv_aload_n hx hb dn_d_Mod_answer_21 rfl (lv_at hl 0 rfl) ?_
      refine va_get (D := G) (ci := 9) (v := .ref m3) (C := dn_R_Mod) (T := dn_T_Mod) (N := 34) hx hb hts (dn_u_Mod) hown hK hP 0 rfl rfl 12 (by decide) (hts _ dn_w_870) (fun _ h9 => h9) rfl dn_d_Mod_answer_22 ?_
      refine lv_iload_n hx hb dn_d_Mod_answer_25 rfl (lv_at hl 1 rfl) ?_
      refine dc_lald (k := j) hx hb hK hP 1 rfl (by omega) (by omega) dn_d_Mod_answer_26 ?_
      have hP9 := hP.sub (ws' := [(mo, .inr (9, [.ref mf, .ref m1, .ref m2, .int (dc_bI so), .long se, .long sm, .long sc, .int (dc_dn sv), .int (dc_bI ak), .long cw, .int dn, .int (nI an), .ref m3, .ref m4, .ref m5, .int (nI sk), .ref m6, .ref m7, .ref m8, .ref m9, .int (nI t), .ref ma, .ref mb, .ref mc, .long ee, .long em, .long ec, .ref mg, .ref mz, .int (dc_bI gn), .int c, .ref mr, .ref mi, .int 0])), (m3, .inl (cA 1, 6, .inr (.inl wa)))]) [0, 1] rfl
      have hD9 := hD.sub (ws' := [(mo, .inr (9, [.ref mf, .ref m1, .ref m2, .int (dc_bI so), .long se, .long sm, .long sc, .int (dc_dn sv), .int (dc_bI ak), .long cw, .int dn, .int (nI an), .ref m3, .ref m4, .ref m5, .int (nI sk), .ref m6, .ref m7, .ref m8, .ref m9, .int (nI t), .ref ma, .ref mb, .ref mc, .long ee, .long em, .long ec, .ref mg, .ref mz, .int (dc_bI gn), .int c, .ref mr, .ref mi, .int 0])), (m3, .inl (cA 1, 6, .inr (.inl wa)))]) [0, 1] (by decide) rfl
      exact W.lret (v := (wa j)) hx hb hr (fun t ht hW => ⟨⟨_, (), rfl, ((dc_getN hj (by omega)).symm), by rw [ht]; exact hP9, hD9⟩, hS.F ht⟩) hS.2.2 dn_d_Mod_answer_27
    · -- 14: ¬ i < (nI an)
      refine lv_lconst (v := 0) hx hb dn_d_Mod_answer_17 (by decide) ?_
      refine lv_goto (tgt := 27) hx hb dn_d_Mod_answer_18 (by decide) ?_
      have hP9 := hP.sub (ws' := [(mo, .inr (9, [.ref mf, .ref m1, .ref m2, .int (dc_bI so), .long se, .long sm, .long sc, .int (dc_dn sv), .int (dc_bI ak), .long cw, .int dn, .int (nI an), .ref m3, .ref m4, .ref m5, .int (nI sk), .ref m6, .ref m7, .ref m8, .ref m9, .int (nI t), .ref ma, .ref mb, .ref mc, .long ee, .long em, .long ec, .ref mg, .ref mz, .int (dc_bI gn), .int c, .ref mr, .ref mi, .int 0])), (m3, .inl (cA 1, 6, .inr (.inl wa)))]) [0, 1] rfl
      have hD9 := hD.sub (ws' := [(mo, .inr (9, [.ref mf, .ref m1, .ref m2, .int (dc_bI so), .long se, .long sm, .long sc, .int (dc_dn sv), .int (dc_bI ak), .long cw, .int dn, .int (nI an), .ref m3, .ref m4, .ref m5, .int (nI sk), .ref m6, .ref m7, .ref m8, .ref m9, .int (nI t), .ref ma, .ref mb, .ref mc, .long ee, .long em, .long ec, .ref mg, .ref mz, .int (dc_bI gn), .int c, .ref mr, .ref mi, .int 0])), (m3, .inl (cA 1, 6, .inr (.inl wa)))]) [0, 1] (by decide) rfl
      exact W.lret (v := 0) hx hb hr (fun t ht hW => ⟨⟨_, (), rfl, (dc_getF (dc_has1 (by omega) (Int32.not_lt.mp h14))), by rw [ht]; exact hP9, hD9⟩, hS.F ht⟩) hS.2.2 dn_d_Mod_answer_27

set_option maxHeartbeats 4000000 in
set_option maxRecDepth 100000 in
theorem rr_printSeed (l : Launch) (G : va_G) (cA : Nat → ClassId) (mo : Nat) (mf : Nat) (m1 : Nat) (m2 : Nat) (so : Bool) (se : Int64) (sm : Int64) (sc : Int64) (sv : Nat) (ak : Bool) (cw : Int64) (dn : Int32) (an : Nat) (m3 : Nat) (m4 : Nat) (m5 : Nat) (sk : Nat) (m6 : Nat) (m7 : Nat) (m8 : Nat) (m9 : Nat) (t : Nat) (ma : Nat) (mb : Nat) (mc : Nat) (ee : Int64) (em : Int64) (ec : Int64) (mg : Nat) (mz : Nat) (gn : Bool) (c : Int32) (mr : Nat) (mi : Nat) (th : Int32) (fv : Nat → Int32) (fd : Nat → Int32) (rw : Nat → Int64)  (sz : Nat) : Met l dn_y_Mod_printSeed (.code dn_y_Mod_printSeed dn_c_Mod_printSeed 2 (some .long) :: dc_W) ({ frames := 1, cells := 0, slots := 0, locals := 24 }) (dc_pW G cA [(mo, .inr (9, [.ref mf, .ref m1, .ref m2, .int (dc_bI so), .long se, .long sm, .long sc, .int (dc_dn sv), .int (dc_bI ak), .long cw, .int dn, .int (nI an), .ref m3, .ref m4, .ref m5, .int (nI sk), .ref m6, .ref m7, .ref m8, .ref m9, .int (nI t), .ref ma, .ref mb, .ref mc, .long ee, .long em, .long ec, .ref mg, .ref mz, .int (dc_bI gn), .int c, .ref mr, .ref mi, .int th])), (m4, .inl (cA 0, 3, .inl fv)), (m5, .inl (cA 0, 3, .inl fd)), (mr, .inl (cA 1, 24, .inr (.inl rw)))] sz [.ref mo]) (dc_ql G (fun (r : Int64) (_ : Unit) => r = dc_seed fv fd) (fun (_ : Unit) => [(mo, .inr (9, [.ref mf, .ref m1, .ref m2, .int (dc_bI so), .long se, .long sm, .long sc, .int (dc_dn sv), .int (dc_bI ak), .long cw, .int dn, .int (nI an), .ref m3, .ref m4, .ref m5, .int (nI sk), .ref m6, .ref m7, .ref m8, .ref m9, .int (nI t), .ref ma, .ref mb, .ref mc, .long ee, .long em, .long ec, .ref mg, .ref mz, .int (dc_bI gn), .int c, .ref mr, .ref mi, .int th])), (m4, .inl (cA 0, 3, .inl fv)), (m5, .inl (cA 0, 3, .inl fd)), (mr, .inl (cA 1, 24, .inr (.inl (dc_sgW rw (dc_word fv fd 0) (dc_word fv fd 1) (dc_word fv fd 2)))))]) sz [(mo, .inr (9, [.ref mf, .ref m1, .ref m2, .int (dc_bI so), .long se, .long sm, .long sc, .int (dc_dn sv), .int (dc_bI ak), .long cw, .int dn, .int (nI an), .ref m3, .ref m4, .ref m5, .int (nI sk), .ref m6, .ref m7, .ref m8, .ref m9, .int (nI t), .ref ma, .ref mb, .ref mc, .long ee, .long em, .long ec, .ref mg, .ref mz, .int (dc_bI gn), .int c, .ref mr, .ref mi, .int th])), (m4, .inl (cA 0, 3, .inl fv)), (m5, .inl (cA 0, 3, .inl fd)), (mr, .inl (cA 1, 24, .inr (.inl rw)))]) 0 0 (va_A [(mo, .inr (9, [.ref mf, .ref m1, .ref m2, .int (dc_bI so), .long se, .long sm, .long sc, .int (dc_dn sv), .int (dc_bI ak), .long cw, .int dn, .int (nI an), .ref m3, .ref m4, .ref m5, .int (nI sk), .ref m6, .ref m7, .ref m8, .ref m9, .int (nI t), .ref ma, .ref mb, .ref mc, .long ee, .long em, .long ec, .ref mg, .ref mz, .int (dc_bI gn), .int c, .ref mr, .ref mi, .int th])), (m4, .inl (cA 0, 3, .inl fv)), (m5, .inl (cA 0, 3, .inl fd)), (mr, .inl (cA 1, 24, .inr (.inl rw)))] sz) := by
  refine Met.ofW (cc := dn_c_Mod_printSeed) (maxL := 2) (ret := (some .long)) (by decide) rfl ?_
  intro p9 en9 s m args9 below9 meth9 cd9 s9 B hml hv
  obtain ⟨rfl, hsz, hP, hK0, hD0⟩ := hv
  have hx := B.exec
  have hb := B.bytes
  have hr := B.returns
  have hts : ∀ w ∈ dc_W, w.before _ s = true := fun w h => atoms_spec (ws := (.code dn_y_Mod_printSeed dn_c_Mod_printSeed 2 (some .long) :: dc_W)) B.pre w (List.mem_cons_of_mem _ h)
  have hK := hK0.1
  have hN := hK0.2
  have hown : s.vm.findClass dn_R_Mod = some m.cls := findClass_of_methodNamed B.named
  have hlocks := B.notSynchronized
  subst hsz
  have hD := hD0.self (sz := s.heap.size)
  unfold dc_ql
  generalize hAe : va_A [(mo, .inr (9, [.ref mf, .ref m1, .ref m2, .int (dc_bI so), .long se, .long sm, .long sc, .int (dc_dn sv), .int (dc_bI ak), .long cw, .int dn, .int (nI an), .ref m3, .ref m4, .ref m5, .int (nI sk), .ref m6, .ref m7, .ref m8, .ref m9, .int (nI t), .ref ma, .ref mb, .ref mc, .long ee, .long em, .long ec, .ref mg, .ref mz, .int (dc_bI gn), .int c, .ref mr, .ref mi, .int th])), (m4, .inl (cA 0, 3, .inl fv)), (m5, .inl (cA 0, 3, .inl fd)), (mr, .inl (cA 1, 24, .inr (.inl rw)))] s.heap.size = A at hD ⊢
  have hA : ∀ q : Nat, s.heap.size ≤ q → A q := fun q h => by rw [← hAe]; exact Or.inr h
  have hS : va_S A s.heap s.heap [] := va_S.rf
  have hl := lv_entry ([.ref mo]) (n := 2) (Nat.le_of_ble_eq_true rfl)
  rw [lg_entry_eq]
  generalize (lg_sl ([.ref mo]) ++ List.replicate (2 - (lg_sl ([.ref mo])).length) Slot.unset).toArray = ls at hl ⊢
  have hl : lv_has ls 2 [(0, .ref mo)] := hl
  refine lv_iconst (v := 0) hx hb dn_d_Mod_printSeed_0 (by decide) ?_
  refine lv_istore_n hx hb dn_d_Mod_printSeed_1 rfl hl (by decide) rfl (fun ls hl => ?_)
  have hl : lv_has ls 2 [(1, .int 0), (0, .ref mo)] := hl
  refine lv_iload_n hx hb dn_d_Mod_printSeed_2 rfl (lv_at hl 0 rfl) ?_
  refine lv_iconst (v := 3) hx hb dn_d_Mod_printSeed_3 (by decide) ?_
  refine lv_icmp_ge (tgt := 24) hx hb dn_d_Mod_printSeed_4 (by decide) (fun h4 => ?_) (fun h4 => ?_)
  · exact absurd h4 (by decide)
  · -- 4: ¬ 3 ≤ 0
    refine lv_aload_n hx hb dn_d_Mod_printSeed_7 rfl (lv_at hl 1 rfl) ?_
    refine va_get (D := G) (ci := 9) (v := .ref mr) (C := dn_R_Mod) (T := dn_T_Mod) (N := 34) hx hb hts (dn_u_Mod) hown hK hP 0 rfl rfl 31 (by decide) (hts _ dn_w_889) (fun _ h9 => h9) rfl dn_d_Mod_printSeed_8 ?_
    refine lv_iload_n hx hb dn_d_Mod_printSeed_11 rfl (lv_at hl 0 rfl) ?_
    refine lv_aload_n hx hb dn_d_Mod_printSeed_12 rfl (lv_at hl 1 rfl) ?_
    refine lv_iload_n hx hb dn_d_Mod_printSeed_13 rfl (lv_at hl 0 rfl) ?_
    refine vp_callSl (va_Run.run (va_runV (b := mo) (As := [.int 0]) (rest := [.int 0, .ref mr]) ⟨hx, hb, hml, hown, hts⟩ (rr_printed l G cA mo mf m1 m2 so se sm sc sv ak cw dn an m3 m4 m5 sk m6 m7 m8 m9 t ma mb mc ee em ec mg mz gn c mr mi th fv fd 0 (by first | assumption | omega)) ⟨(callB_of 1 hts (dc_good dn_w_1123) rfl rfl rfl (hts _ dn_w_12) (hts _ dn_w_1120) (by decide +kernel) ⟨Nat.le_of_ble_eq_true rfl, Nat.le_of_ble_eq_true rfl⟩), (hts _ dn_w_1122), (hts _ dn_s_Mod_printed)⟩ (dc_preVR (hP.sub [0, 1, 2] rfl) hK0 (q0 := 0) rfl rfl) rfl rfl hl.1 rfl (lv_room (Nat.le_of_ble_eq_true rfl)) dn_d_Mod_printSeed_14 ⟨Nat.le_of_ble_eq_true rfl, Nat.le_of_ble_eq_true rfl⟩)) (fun r9 hr9 => ?_)
    subst hr9
    refine dc_last (k := 0) hx hb hK hP hD hS 3 rfl (by omega) (by omega) dn_d_Mod_printSeed_17 (fun H locs hP hD hS => ?_)
    have hP : va_P G vwCl [(mo, .inr (9, [.ref mf, .ref m1, .ref m2, .int (dc_bI so), .long se, .long sm, .long sc, .int (dc_dn sv), .int (dc_bI ak), .long cw, .int dn, .int (nI an), .ref m3, .ref m4, .ref m5, .int (nI sk), .ref m6, .ref m7, .ref m8, .ref m9, .int (nI t), .ref ma, .ref mb, .ref mc, .long ee, .long em, .long ec, .ref mg, .ref mz, .int (dc_bI gn), .int c, .ref mr, .ref mi, .int th])), (m4, .inl (cA 0, 3, .inl fv)), (m5, .inl (cA 0, 3, .inl fd)), (mr, .inl (cA 1, 24, .inr (.inl (vp_updL rw 0 (dc_word fv fd 0)))))] H := hP
    have hD : va_D A [(mo, .inr (9, [.ref mf, .ref m1, .ref m2, .int (dc_bI so), .long se, .long sm, .long sc, .int (dc_dn sv), .int (dc_bI ak), .long cw, .int dn, .int (nI an), .ref m3, .ref m4, .ref m5, .int (nI sk), .ref m6, .ref m7, .ref m8, .ref m9, .int (nI t), .ref ma, .ref mb, .ref mc, .long ee, .long em, .long ec, .ref mg, .ref mz, .int (dc_bI gn), .int c, .ref mr, .ref mi, .int th])), (m4, .inl (cA 0, 3, .inl fv)), (m5, .inl (cA 0, 3, .inl fd)), (mr, .inl (cA 1, 24, .inr (.inl (vp_updL rw 0 (dc_word fv fd 0)))))] := hD
    refine lv_iinc (k := 0) (v := 1) hx hb dn_d_Mod_printSeed_18 hl rfl rfl (by decide) rfl (fun ls hl => ?_)
    have hl : lv_has ls 2 [(1, .int 1), (0, .ref mo)] := hl
    refine lv_goto (tgt := 2) hx hb dn_d_Mod_printSeed_21 (by decide) ?_
    refine lv_iload_n hx hb dn_d_Mod_printSeed_2 rfl (lv_at hl 0 rfl) ?_
    refine lv_iconst (v := 3) hx hb dn_d_Mod_printSeed_3 (by decide) ?_
    refine lv_icmp_ge (tgt := 24) hx hb dn_d_Mod_printSeed_4 (by decide) (fun h4_2 => ?_) (fun h4_2 => ?_)
    · exact absurd h4_2 (by decide)
    · -- 4: ¬ 3 ≤ 1
      refine lv_aload_n hx hb dn_d_Mod_printSeed_7 rfl (lv_at hl 1 rfl) ?_
      refine va_get (D := G) (ci := 9) (v := .ref mr) (C := dn_R_Mod) (T := dn_T_Mod) (N := 34) hx hb hts (dn_u_Mod) hown hK hP 0 rfl rfl 31 (by decide) (hts _ dn_w_889) (fun _ h9 => h9) rfl dn_d_Mod_printSeed_8 ?_
      refine lv_iload_n hx hb dn_d_Mod_printSeed_11 rfl (lv_at hl 0 rfl) ?_
      refine lv_aload_n hx hb dn_d_Mod_printSeed_12 rfl (lv_at hl 1 rfl) ?_
      refine lv_iload_n hx hb dn_d_Mod_printSeed_13 rfl (lv_at hl 0 rfl) ?_
      refine vp_callSl (va_Run.run (va_runV (b := mo) (As := [.int 1]) (rest := [.int 1, .ref mr]) ⟨hx, hb, hml, hown, hts⟩ (rr_printed l G cA mo mf m1 m2 so se sm sc sv ak cw dn an m3 m4 m5 sk m6 m7 m8 m9 t ma mb mc ee em ec mg mz gn c mr mi th fv fd 1 (by first | assumption | omega)) ⟨(callB_of 1 hts (dc_good dn_w_1123) rfl rfl rfl (hts _ dn_w_12) (hts _ dn_w_1120) (by decide +kernel) ⟨Nat.le_of_ble_eq_true rfl, Nat.le_of_ble_eq_true rfl⟩), (hts _ dn_w_1122), (hts _ dn_s_Mod_printed)⟩ (dc_preVR (hP.sub [0, 1, 2] rfl) hK0 (q0 := 0) rfl rfl) rfl rfl hl.1 rfl (lv_room (Nat.le_of_ble_eq_true rfl)) dn_d_Mod_printSeed_14 ⟨Nat.le_of_ble_eq_true rfl, Nat.le_of_ble_eq_true rfl⟩)) (fun r9 hr9 => ?_)
      subst hr9
      refine dc_last (k := 1) hx hb hK hP hD hS 3 rfl (by omega) (by omega) dn_d_Mod_printSeed_17 (fun H locs hP hD hS => ?_)
      have hP : va_P G vwCl [(mo, .inr (9, [.ref mf, .ref m1, .ref m2, .int (dc_bI so), .long se, .long sm, .long sc, .int (dc_dn sv), .int (dc_bI ak), .long cw, .int dn, .int (nI an), .ref m3, .ref m4, .ref m5, .int (nI sk), .ref m6, .ref m7, .ref m8, .ref m9, .int (nI t), .ref ma, .ref mb, .ref mc, .long ee, .long em, .long ec, .ref mg, .ref mz, .int (dc_bI gn), .int c, .ref mr, .ref mi, .int th])), (m4, .inl (cA 0, 3, .inl fv)), (m5, .inl (cA 0, 3, .inl fd)), (mr, .inl (cA 1, 24, .inr (.inl (vp_updL (vp_updL rw 0 (dc_word fv fd 0)) 1 (dc_word fv fd 1)))))] H := hP
      have hD : va_D A [(mo, .inr (9, [.ref mf, .ref m1, .ref m2, .int (dc_bI so), .long se, .long sm, .long sc, .int (dc_dn sv), .int (dc_bI ak), .long cw, .int dn, .int (nI an), .ref m3, .ref m4, .ref m5, .int (nI sk), .ref m6, .ref m7, .ref m8, .ref m9, .int (nI t), .ref ma, .ref mb, .ref mc, .long ee, .long em, .long ec, .ref mg, .ref mz, .int (dc_bI gn), .int c, .ref mr, .ref mi, .int th])), (m4, .inl (cA 0, 3, .inl fv)), (m5, .inl (cA 0, 3, .inl fd)), (mr, .inl (cA 1, 24, .inr (.inl (vp_updL (vp_updL rw 0 (dc_word fv fd 0)) 1 (dc_word fv fd 1)))))] := hD
      refine lv_iinc (k := 0) (v := 2) hx hb dn_d_Mod_printSeed_18 hl rfl rfl (by decide) rfl (fun ls hl => ?_)
      have hl : lv_has ls 2 [(1, .int 2), (0, .ref mo)] := hl
      refine lv_goto (tgt := 2) hx hb dn_d_Mod_printSeed_21 (by decide) ?_
      refine lv_iload_n hx hb dn_d_Mod_printSeed_2 rfl (lv_at hl 0 rfl) ?_
      refine lv_iconst (v := 3) hx hb dn_d_Mod_printSeed_3 (by decide) ?_
      refine lv_icmp_ge (tgt := 24) hx hb dn_d_Mod_printSeed_4 (by decide) (fun h4_3 => ?_) (fun h4_3 => ?_)
      · exact absurd h4_3 (by decide)
      · -- 4: ¬ 3 ≤ 2
        refine lv_aload_n hx hb dn_d_Mod_printSeed_7 rfl (lv_at hl 1 rfl) ?_
        refine va_get (D := G) (ci := 9) (v := .ref mr) (C := dn_R_Mod) (T := dn_T_Mod) (N := 34) hx hb hts (dn_u_Mod) hown hK hP 0 rfl rfl 31 (by decide) (hts _ dn_w_889) (fun _ h9 => h9) rfl dn_d_Mod_printSeed_8 ?_
        refine lv_iload_n hx hb dn_d_Mod_printSeed_11 rfl (lv_at hl 0 rfl) ?_
        refine lv_aload_n hx hb dn_d_Mod_printSeed_12 rfl (lv_at hl 1 rfl) ?_
        refine lv_iload_n hx hb dn_d_Mod_printSeed_13 rfl (lv_at hl 0 rfl) ?_
        refine vp_callSl (va_Run.run (va_runV (b := mo) (As := [.int 2]) (rest := [.int 2, .ref mr]) ⟨hx, hb, hml, hown, hts⟩ (rr_printed l G cA mo mf m1 m2 so se sm sc sv ak cw dn an m3 m4 m5 sk m6 m7 m8 m9 t ma mb mc ee em ec mg mz gn c mr mi th fv fd 2 (by first | assumption | omega)) ⟨(callB_of 1 hts (dc_good dn_w_1123) rfl rfl rfl (hts _ dn_w_12) (hts _ dn_w_1120) (by decide +kernel) ⟨Nat.le_of_ble_eq_true rfl, Nat.le_of_ble_eq_true rfl⟩), (hts _ dn_w_1122), (hts _ dn_s_Mod_printed)⟩ (dc_preVR (hP.sub [0, 1, 2] rfl) hK0 (q0 := 0) rfl rfl) rfl rfl hl.1 rfl (lv_room (Nat.le_of_ble_eq_true rfl)) dn_d_Mod_printSeed_14 ⟨Nat.le_of_ble_eq_true rfl, Nat.le_of_ble_eq_true rfl⟩)) (fun r9 hr9 => ?_)
        subst hr9
        refine dc_last (k := 2) hx hb hK hP hD hS 3 rfl (by omega) (by omega) dn_d_Mod_printSeed_17 (fun H locs hP hD hS => ?_)
        have hP : va_P G vwCl [(mo, .inr (9, [.ref mf, .ref m1, .ref m2, .int (dc_bI so), .long se, .long sm, .long sc, .int (dc_dn sv), .int (dc_bI ak), .long cw, .int dn, .int (nI an), .ref m3, .ref m4, .ref m5, .int (nI sk), .ref m6, .ref m7, .ref m8, .ref m9, .int (nI t), .ref ma, .ref mb, .ref mc, .long ee, .long em, .long ec, .ref mg, .ref mz, .int (dc_bI gn), .int c, .ref mr, .ref mi, .int th])), (m4, .inl (cA 0, 3, .inl fv)), (m5, .inl (cA 0, 3, .inl fd)), (mr, .inl (cA 1, 24, .inr (.inl (vp_updL (vp_updL (vp_updL rw 0 (dc_word fv fd 0)) 1 (dc_word fv fd 1)) 2 (dc_word fv fd 2)))))] H := hP
        have hD : va_D A [(mo, .inr (9, [.ref mf, .ref m1, .ref m2, .int (dc_bI so), .long se, .long sm, .long sc, .int (dc_dn sv), .int (dc_bI ak), .long cw, .int dn, .int (nI an), .ref m3, .ref m4, .ref m5, .int (nI sk), .ref m6, .ref m7, .ref m8, .ref m9, .int (nI t), .ref ma, .ref mb, .ref mc, .long ee, .long em, .long ec, .ref mg, .ref mz, .int (dc_bI gn), .int c, .ref mr, .ref mi, .int th])), (m4, .inl (cA 0, 3, .inl fv)), (m5, .inl (cA 0, 3, .inl fd)), (mr, .inl (cA 1, 24, .inr (.inl (vp_updL (vp_updL (vp_updL rw 0 (dc_word fv fd 0)) 1 (dc_word fv fd 1)) 2 (dc_word fv fd 2)))))] := hD
        refine lv_iinc (k := 0) (v := 3) hx hb dn_d_Mod_printSeed_18 hl rfl rfl (by decide) rfl (fun ls hl => ?_)
        have hl : lv_has ls 2 [(1, .int 3), (0, .ref mo)] := hl
        refine lv_goto (tgt := 2) hx hb dn_d_Mod_printSeed_21 (by decide) ?_
        refine lv_iload_n hx hb dn_d_Mod_printSeed_2 rfl (lv_at hl 0 rfl) ?_
        refine lv_iconst (v := 3) hx hb dn_d_Mod_printSeed_3 (by decide) ?_
        refine lv_icmp_ge (tgt := 24) hx hb dn_d_Mod_printSeed_4 (by decide) (fun h4_4 => ?_) (fun h4_4 => ?_)
        · -- 4: 3 ≤ 3
          refine lv_aload_n hx hb dn_d_Mod_printSeed_24 rfl (lv_at hl 1 rfl) ?_
          refine lv_iconst (v := 3) hx hb dn_d_Mod_printSeed_25 (by decide) ?_
          refine vp_callSl (va_Run.run (va_runV (b := mo) (As := [.int 3]) (rest := []) ⟨hx, hb, hml, hown, hts⟩ (rr_digRow l G cA mo mf m1 m2 so se sm sc sv ak cw dn an m3 m4 m5 sk m6 m7 m8 m9 t ma mb mc ee em ec mg mz gn c mr mi th (vp_updL (vp_updL (vp_updL rw 0 (dc_word fv fd 0)) 1 (dc_word fv fd 1)) 2 (dc_word fv fd 2)) 3 (by first | assumption | omega)) ⟨(callB_of 1 hts (dc_good dn_w_976) rfl rfl rfl (hts _ dn_w_12) (hts _ dn_w_973) (by decide +kernel) ⟨Nat.le_of_ble_eq_true rfl, Nat.le_of_ble_eq_true rfl⟩), (hts _ dn_w_975), (hts _ dn_s_Mod_digestRow)⟩ (dc_preVR (hP.sub [0, 3] rfl) hK0 (q0 := 0) rfl rfl) rfl rfl hl.1 rfl (lv_room (Nat.le_of_ble_eq_true rfl)) dn_d_Mod_printSeed_26 ⟨Nat.le_of_ble_eq_true rfl, Nat.le_of_ble_eq_true rfl⟩)) (fun r9 hr9 => ?_)
          subst hr9
          have hP9 := hP.sub (ws' := [(mo, .inr (9, [.ref mf, .ref m1, .ref m2, .int (dc_bI so), .long se, .long sm, .long sc, .int (dc_dn sv), .int (dc_bI ak), .long cw, .int dn, .int (nI an), .ref m3, .ref m4, .ref m5, .int (nI sk), .ref m6, .ref m7, .ref m8, .ref m9, .int (nI t), .ref ma, .ref mb, .ref mc, .long ee, .long em, .long ec, .ref mg, .ref mz, .int (dc_bI gn), .int c, .ref mr, .ref mi, .int th])), (m4, .inl (cA 0, 3, .inl fv)), (m5, .inl (cA 0, 3, .inl fd)), (mr, .inl (cA 1, 24, .inr (.inl (vp_updL (vp_updL (vp_updL rw 0 (dc_word fv fd 0)) 1 (dc_word fv fd 1)) 2 (dc_word fv fd 2)))))]) [0, 1, 2, 3] rfl
          have hD9 := hD.sub (ws' := [(mo, .inr (9, [.ref mf, .ref m1, .ref m2, .int (dc_bI so), .long se, .long sm, .long sc, .int (dc_dn sv), .int (dc_bI ak), .long cw, .int dn, .int (nI an), .ref m3, .ref m4, .ref m5, .int (nI sk), .ref m6, .ref m7, .ref m8, .ref m9, .int (nI t), .ref ma, .ref mb, .ref mc, .long ee, .long em, .long ec, .ref mg, .ref mz, .int (dc_bI gn), .int c, .ref mr, .ref mi, .int th])), (m4, .inl (cA 0, 3, .inl fv)), (m5, .inl (cA 0, 3, .inl fd)), (mr, .inl (cA 1, 24, .inr (.inl (vp_updL (vp_updL (vp_updL rw 0 (dc_word fv fd 0)) 1 (dc_word fv fd 1)) 2 (dc_word fv fd 2)))))]) [0, 1, 2, 3] (by decide) rfl
          have hE9 : ([(mo, .inr (9, [.ref mf, .ref m1, .ref m2, .int (dc_bI so), .long se, .long sm, .long sc, .int (dc_dn sv), .int (dc_bI ak), .long cw, .int dn, .int (nI an), .ref m3, .ref m4, .ref m5, .int (nI sk), .ref m6, .ref m7, .ref m8, .ref m9, .int (nI t), .ref ma, .ref mb, .ref mc, .long ee, .long em, .long ec, .ref mg, .ref mz, .int (dc_bI gn), .int c, .ref mr, .ref mi, .int th])), (m4, .inl (cA 0, 3, .inl fv)), (m5, .inl (cA 0, 3, .inl fd)), (mr, .inl (cA 1, 24, .inr (.inl (vp_updL (vp_updL (vp_updL rw 0 (dc_word fv fd 0)) 1 (dc_word fv fd 1)) 2 (dc_word fv fd 2)))))] : va_W) = [(mo, .inr (9, [.ref mf, .ref m1, .ref m2, .int (dc_bI so), .long se, .long sm, .long sc, .int (dc_dn sv), .int (dc_bI ak), .long cw, .int dn, .int (nI an), .ref m3, .ref m4, .ref m5, .int (nI sk), .ref m6, .ref m7, .ref m8, .ref m9, .int (nI t), .ref ma, .ref mb, .ref mc, .long ee, .long em, .long ec, .ref mg, .ref mz, .int (dc_bI gn), .int c, .ref mr, .ref mi, .int th])), (m4, .inl (cA 0, 3, .inl fv)), (m5, .inl (cA 0, 3, .inl fd)), (mr, .inl (cA 1, 24, .inr (.inl (dc_sgW rw (dc_word fv fd 0) (dc_word fv fd 1) (dc_word fv fd 2)))))] := rfl
          rw [hE9] at hP9 hD9
          exact W.lret (v := (dc_digN (vp_updL (vp_updL (vp_updL rw 0 (dc_word fv fd 0)) 1 (dc_word fv fd 1)) 2 (dc_word fv fd 2)) 3)) hx hb hr (fun t ht hW => ⟨⟨_, (), rfl, (rfl), by rw [ht]; exact hP9, hD9⟩, hS.F ht⟩) hS.2.2 dn_d_Mod_printSeed_29
        · exact absurd h4_4 (by decide)

set_option maxHeartbeats 4000000 in
set_option maxRecDepth 100000 in
theorem rr_change (l : Launch) (G : va_G) (cA : Nat → ClassId) (mo : Nat) (mf : Nat) (m1 : Nat) (m2 : Nat) (so : Bool) (se : Int64) (sm : Int64) (sc : Int64) (sv : Nat) (ak : Bool) (cw : Int64) (dn : Int32) (an : Nat) (m3 : Nat) (m4 : Nat) (m5 : Nat) (sk : Nat) (m6 : Nat) (m7 : Nat) (m8 : Nat) (m9 : Nat) (t : Nat) (ma : Nat) (mb : Nat) (mc : Nat) (ee : Int64) (em : Int64) (ec : Int64) (mg : Nat) (mz : Nat) (gn : Bool) (c : Int32) (mr : Nat) (mi : Nat) (th : Int32) (fa : Nat → Int32) (fb : Nat → Int32) (fm : Nat → Int64) (mm : Int32) (ii : Int32) (x : Int64) (ht : t ≤ 3) (sz : Nat) : Met l dn_y_Mod_change (.code dn_y_Mod_change dn_c_Mod_change 5 (some .int) :: dc_W) ({ frames := 0, cells := 0, slots := 0, locals := 0 }) (dc_pW G cA [(mo, .inr (9, [.ref mf, .ref m1, .ref m2, .int (dc_bI so), .long se, .long sm, .long sc, .int (dc_dn sv), .int (dc_bI ak), .long cw, .int dn, .int (nI an), .ref m3, .ref m4, .ref m5, .int (nI sk), .ref m6, .ref m7, .ref m8, .ref m9, .int (nI t), .ref ma, .ref mb, .ref mc, .long ee, .long em, .long ec, .ref mg, .ref mz, .int (dc_bI gn), .int c, .ref mr, .ref mi, .int th])), (ma, .inl (cA 0, 3, .inl fa)), (mb, .inl (cA 0, 3, .inl fb)), (mc, .inl (cA 1, 3, .inr (.inl fm)))] sz [.ref mo, .int mm, .int ii, .long x]) (dc_qi G (fun (r : Int32) (_ : Unit) => r = dc_sel (decide (dc_chT mm ii x t = 0)) (nI (t + 1)) 0) (fun (_ : Unit) => [(mo, .inr (9, [.ref mf, .ref m1, .ref m2, .int (dc_bI so), .long se, .long sm, .long sc, .int (dc_dn sv), .int (dc_bI ak), .long cw, .int dn, .int (nI an), .ref m3, .ref m4, .ref m5, .int (nI sk), .ref m6, .ref m7, .ref m8, .ref m9, .int (nI (dc_sel (decide (dc_chT mm ii x t = 0)) (t + 1) t)), .ref ma, .ref mb, .ref mc, .long ee, .long em, .long ec, .ref mg, .ref mz, .int (dc_bI gn), .int c, .ref mr, .ref mi, .int (dc_chT mm ii x t)])), (ma, .inl (cA 0, 3, .inl (dc_sel (decide (dc_chT mm ii x t = 0)) (upd fa t mm) fa))), (mb, .inl (cA 0, 3, .inl (dc_sel (decide (dc_chT mm ii x t = 0)) (upd fb t ii) fb))), (mc, .inl (cA 1, 3, .inr (.inl (dc_sel (decide (dc_chT mm ii x t = 0)) (vp_updL fm t x) fm))))]) sz [(mo, .inr (9, [.ref mf, .ref m1, .ref m2, .int (dc_bI so), .long se, .long sm, .long sc, .int (dc_dn sv), .int (dc_bI ak), .long cw, .int dn, .int (nI an), .ref m3, .ref m4, .ref m5, .int (nI sk), .ref m6, .ref m7, .ref m8, .ref m9, .int (nI t), .ref ma, .ref mb, .ref mc, .long ee, .long em, .long ec, .ref mg, .ref mz, .int (dc_bI gn), .int c, .ref mr, .ref mi, .int th])), (ma, .inl (cA 0, 3, .inl fa)), (mb, .inl (cA 0, 3, .inl fb)), (mc, .inl (cA 1, 3, .inr (.inl fm)))]) 0 0 (va_A [(mo, .inr (9, [.ref mf, .ref m1, .ref m2, .int (dc_bI so), .long se, .long sm, .long sc, .int (dc_dn sv), .int (dc_bI ak), .long cw, .int dn, .int (nI an), .ref m3, .ref m4, .ref m5, .int (nI sk), .ref m6, .ref m7, .ref m8, .ref m9, .int (nI t), .ref ma, .ref mb, .ref mc, .long ee, .long em, .long ec, .ref mg, .ref mz, .int (dc_bI gn), .int c, .ref mr, .ref mi, .int th])), (ma, .inl (cA 0, 3, .inl fa)), (mb, .inl (cA 0, 3, .inl fb)), (mc, .inl (cA 1, 3, .inr (.inl fm)))] sz) := by
  refine Met.ofW (cc := dn_c_Mod_change) (maxL := 5) (ret := (some .int)) (by decide) rfl ?_
  intro p9 en9 s m args9 below9 meth9 cd9 s9 B hml hv
  obtain ⟨rfl, hsz, hP, hK0, hD0⟩ := hv
  have hx := B.exec
  have hb := B.bytes
  have hr := B.returns
  have hts : ∀ w ∈ dc_W, w.before _ s = true := fun w h => atoms_spec (ws := (.code dn_y_Mod_change dn_c_Mod_change 5 (some .int) :: dc_W)) B.pre w (List.mem_cons_of_mem _ h)
  have hK := hK0.1
  have hN := hK0.2
  have hown : s.vm.findClass dn_R_Mod = some m.cls := findClass_of_methodNamed B.named
  have hlocks := B.notSynchronized
  subst hsz
  have hD := hD0.self (sz := s.heap.size)
  unfold dc_qi
  generalize hAe : va_A [(mo, .inr (9, [.ref mf, .ref m1, .ref m2, .int (dc_bI so), .long se, .long sm, .long sc, .int (dc_dn sv), .int (dc_bI ak), .long cw, .int dn, .int (nI an), .ref m3, .ref m4, .ref m5, .int (nI sk), .ref m6, .ref m7, .ref m8, .ref m9, .int (nI t), .ref ma, .ref mb, .ref mc, .long ee, .long em, .long ec, .ref mg, .ref mz, .int (dc_bI gn), .int c, .ref mr, .ref mi, .int th])), (ma, .inl (cA 0, 3, .inl fa)), (mb, .inl (cA 0, 3, .inl fb)), (mc, .inl (cA 1, 3, .inr (.inl fm)))] s.heap.size = A at hD ⊢
  have hA : ∀ q : Nat, s.heap.size ≤ q → A q := fun q h => by rw [← hAe]; exact Or.inr h
  have hS : va_S A s.heap s.heap [] := va_S.rf
  have hl := lv_entry ([.ref mo, .int mm, .int ii, .long x]) (n := 5) (Nat.le_of_ble_eq_true rfl)
  rw [lg_entry_eq]
  generalize (lg_sl ([.ref mo, .int mm, .int ii, .long x]) ++ List.replicate (5 - (lg_sl ([.ref mo, .int mm, .int ii, .long x])).length) Slot.unset).toArray = ls at hl ⊢
  have hl : lv_has ls 5 [(0, .ref mo), (1, .int mm), (2, .int ii), (3, .long x)] := hl
  refine lv_aload_n hx hb dn_d_Mod_change_0 rfl (lv_at hl 0 rfl) ?_
  refine lv_iload_n hx hb dn_d_Mod_change_1 rfl (lv_at hl 1 rfl) ?_
  refine lv_if_lt (tgt := 27) hx hb dn_d_Mod_change_2 (by decide) (fun h2 => ?_) (fun h2 => ?_)
  · -- 2: mm < 0
    refine lv_iconst (v := 1) hx hb dn_d_Mod_change_27 (by decide) ?_
    refine lv_goto (tgt := 44) hx hb dn_d_Mod_change_28 (by decide) ?_
    refine va_put (D := G) (ci := 9) (v := .int 1) (ty := (.int)) (C := dn_R_Mod) (T := dn_T_Mod) (N := 34) hx hb hts (dn_u_Mod) dn_t_Mod dn_o_Mod dn_n_Mod hown hK hP hD hS 0 rfl rfl 33 (by decide) (hts _ dn_w_891) (fun _ h9 => h9) rfl (by decide +kernel) rfl rfl (Nat.le_of_ble_eq_true rfl) dn_d_Mod_change_44 (fun H locs hP hD hS => ?_)
    have hP : va_P G vwCl [(mo, .inr (9, [.ref mf, .ref m1, .ref m2, .int (dc_bI so), .long se, .long sm, .long sc, .int (dc_dn sv), .int (dc_bI ak), .long cw, .int dn, .int (nI an), .ref m3, .ref m4, .ref m5, .int (nI sk), .ref m6, .ref m7, .ref m8, .ref m9, .int (nI t), .ref ma, .ref mb, .ref mc, .long ee, .long em, .long ec, .ref mg, .ref mz, .int (dc_bI gn), .int c, .ref mr, .ref mi, .int 1])), (ma, .inl (cA 0, 3, .inl fa)), (mb, .inl (cA 0, 3, .inl fb)), (mc, .inl (cA 1, 3, .inr (.inl fm)))] H := hP
    have hD : va_D A [(mo, .inr (9, [.ref mf, .ref m1, .ref m2, .int (dc_bI so), .long se, .long sm, .long sc, .int (dc_dn sv), .int (dc_bI ak), .long cw, .int dn, .int (nI an), .ref m3, .ref m4, .ref m5, .int (nI sk), .ref m6, .ref m7, .ref m8, .ref m9, .int (nI t), .ref ma, .ref mb, .ref mc, .long ee, .long em, .long ec, .ref mg, .ref mz, .int (dc_bI gn), .int c, .ref mr, .ref mi, .int 1])), (ma, .inl (cA 0, 3, .inl fa)), (mb, .inl (cA 0, 3, .inl fb)), (mc, .inl (cA 1, 3, .inr (.inl fm)))] := hD
    refine lv_aload_n hx hb dn_d_Mod_change_47 rfl (lv_at hl 0 rfl) ?_
    refine va_get (D := G) (ci := 9) (v := .int 1) (C := dn_R_Mod) (T := dn_T_Mod) (N := 34) hx hb hts (dn_u_Mod) hown hK hP 0 rfl rfl 33 (by decide) (hts _ dn_w_891) (fun _ h9 => h9) rfl dn_d_Mod_change_48 ?_
    refine lv_if_eq (tgt := 56) hx hb dn_d_Mod_change_51 (by decide) (fun h51 => ?_) (fun h51 => ?_)
    · exact absurd h51 (by decide)
    · -- 51: ¬ 1 = 0
      refine lv_iconst (v := 0) hx hb dn_d_Mod_change_54 (by decide) ?_
      have hk9 : dc_chT mm ii x t = 1 := by unfold dc_chT; rw [if_neg (fun z9 => z9.1 h2)]
      have hz9 : decide (dc_chT mm ii x t = 0) = false := by rw [hk9]; decide
      have hP9 := hP.sub (ws' := [(mo, .inr (9, [.ref mf, .ref m1, .ref m2, .int (dc_bI so), .long se, .long sm, .long sc, .int (dc_dn sv), .int (dc_bI ak), .long cw, .int dn, .int (nI an), .ref m3, .ref m4, .ref m5, .int (nI sk), .ref m6, .ref m7, .ref m8, .ref m9, .int (nI t), .ref ma, .ref mb, .ref mc, .long ee, .long em, .long ec, .ref mg, .ref mz, .int (dc_bI gn), .int c, .ref mr, .ref mi, .int 1])), (ma, .inl (cA 0, 3, .inl fa)), (mb, .inl (cA 0, 3, .inl fb)), (mc, .inl (cA 1, 3, .inr (.inl fm)))]) [0, 1, 2, 3] rfl
      have hD9 := hD.sub (ws' := [(mo, .inr (9, [.ref mf, .ref m1, .ref m2, .int (dc_bI so), .long se, .long sm, .long sc, .int (dc_dn sv), .int (dc_bI ak), .long cw, .int dn, .int (nI an), .ref m3, .ref m4, .ref m5, .int (nI sk), .ref m6, .ref m7, .ref m8, .ref m9, .int (nI t), .ref ma, .ref mb, .ref mc, .long ee, .long em, .long ec, .ref mg, .ref mz, .int (dc_bI gn), .int c, .ref mr, .ref mi, .int 1])), (ma, .inl (cA 0, 3, .inl fa)), (mb, .inl (cA 0, 3, .inl fb)), (mc, .inl (cA 1, 3, .inr (.inl fm)))]) [0, 1, 2, 3] (by decide) rfl
      have hE9 : ([(mo, .inr (9, [.ref mf, .ref m1, .ref m2, .int (dc_bI so), .long se, .long sm, .long sc, .int (dc_dn sv), .int (dc_bI ak), .long cw, .int dn, .int (nI an), .ref m3, .ref m4, .ref m5, .int (nI sk), .ref m6, .ref m7, .ref m8, .ref m9, .int (nI t), .ref ma, .ref mb, .ref mc, .long ee, .long em, .long ec, .ref mg, .ref mz, .int (dc_bI gn), .int c, .ref mr, .ref mi, .int 1])), (ma, .inl (cA 0, 3, .inl fa)), (mb, .inl (cA 0, 3, .inl fb)), (mc, .inl (cA 1, 3, .inr (.inl fm)))] : va_W) = [(mo, .inr (9, [.ref mf, .ref m1, .ref m2, .int (dc_bI so), .long se, .long sm, .long sc, .int (dc_dn sv), .int (dc_bI ak), .long cw, .int dn, .int (nI an), .ref m3, .ref m4, .ref m5, .int (nI sk), .ref m6, .ref m7, .ref m8, .ref m9, .int (nI (dc_sel (decide (dc_chT mm ii x t = 0)) (t + 1) t)), .ref ma, .ref mb, .ref mc, .long ee, .long em, .long ec, .ref mg, .ref mz, .int (dc_bI gn), .int c, .ref mr, .ref mi, .int (dc_chT mm ii x t)])), (ma, .inl (cA 0, 3, .inl (dc_sel (decide (dc_chT mm ii x t = 0)) (upd fa t mm) fa))), (mb, .inl (cA 0, 3, .inl (dc_sel (decide (dc_chT mm ii x t = 0)) (upd fb t ii) fb))), (mc, .inl (cA 1, 3, .inr (.inl (dc_sel (decide (dc_chT mm ii x t = 0)) (vp_updL fm t x) fm))))] := by rw [hz9, hk9]; rfl
      rw [hE9] at hP9 hD9
      exact W.iret (v := 0) hx hb hr (fun t ht hW => ⟨⟨_, (), rfl, (by rw [hz9]; rfl), by rw [ht]; exact hP9, hD9⟩, hS.F ht⟩) hS.2.2 dn_d_Mod_change_55
  · -- 2: ¬ mm < 0
    refine lv_iload_n hx hb dn_d_Mod_change_5 rfl (lv_at hl 1 rfl) ?_
    refine lv_bipush (v := 99) hx hb dn_d_Mod_change_6 (by decide) ?_
    refine lv_icmp_gt (tgt := 27) hx hb dn_d_Mod_change_8 (by decide) (fun h8 => ?_) (fun h8 => ?_)
    · -- 8: 99 < mm
      refine lv_iconst (v := 1) hx hb dn_d_Mod_change_27 (by decide) ?_
      refine lv_goto (tgt := 44) hx hb dn_d_Mod_change_28 (by decide) ?_
      refine va_put (D := G) (ci := 9) (v := .int 1) (ty := (.int)) (C := dn_R_Mod) (T := dn_T_Mod) (N := 34) hx hb hts (dn_u_Mod) dn_t_Mod dn_o_Mod dn_n_Mod hown hK hP hD hS 0 rfl rfl 33 (by decide) (hts _ dn_w_891) (fun _ h9 => h9) rfl (by decide +kernel) rfl rfl (Nat.le_of_ble_eq_true rfl) dn_d_Mod_change_44 (fun H locs hP hD hS => ?_)
      have hP : va_P G vwCl [(mo, .inr (9, [.ref mf, .ref m1, .ref m2, .int (dc_bI so), .long se, .long sm, .long sc, .int (dc_dn sv), .int (dc_bI ak), .long cw, .int dn, .int (nI an), .ref m3, .ref m4, .ref m5, .int (nI sk), .ref m6, .ref m7, .ref m8, .ref m9, .int (nI t), .ref ma, .ref mb, .ref mc, .long ee, .long em, .long ec, .ref mg, .ref mz, .int (dc_bI gn), .int c, .ref mr, .ref mi, .int 1])), (ma, .inl (cA 0, 3, .inl fa)), (mb, .inl (cA 0, 3, .inl fb)), (mc, .inl (cA 1, 3, .inr (.inl fm)))] H := hP
      have hD : va_D A [(mo, .inr (9, [.ref mf, .ref m1, .ref m2, .int (dc_bI so), .long se, .long sm, .long sc, .int (dc_dn sv), .int (dc_bI ak), .long cw, .int dn, .int (nI an), .ref m3, .ref m4, .ref m5, .int (nI sk), .ref m6, .ref m7, .ref m8, .ref m9, .int (nI t), .ref ma, .ref mb, .ref mc, .long ee, .long em, .long ec, .ref mg, .ref mz, .int (dc_bI gn), .int c, .ref mr, .ref mi, .int 1])), (ma, .inl (cA 0, 3, .inl fa)), (mb, .inl (cA 0, 3, .inl fb)), (mc, .inl (cA 1, 3, .inr (.inl fm)))] := hD
      refine lv_aload_n hx hb dn_d_Mod_change_47 rfl (lv_at hl 0 rfl) ?_
      refine va_get (D := G) (ci := 9) (v := .int 1) (C := dn_R_Mod) (T := dn_T_Mod) (N := 34) hx hb hts (dn_u_Mod) hown hK hP 0 rfl rfl 33 (by decide) (hts _ dn_w_891) (fun _ h9 => h9) rfl dn_d_Mod_change_48 ?_
      refine lv_if_eq (tgt := 56) hx hb dn_d_Mod_change_51 (by decide) (fun h51 => ?_) (fun h51 => ?_)
      · exact absurd h51 (by decide)
      · -- 51: ¬ 1 = 0
        refine lv_iconst (v := 0) hx hb dn_d_Mod_change_54 (by decide) ?_
        have hk9 : dc_chT mm ii x t = 1 := by unfold dc_chT; rw [if_neg (fun z9 => z9.2.1 h8)]
        have hz9 : decide (dc_chT mm ii x t = 0) = false := by rw [hk9]; decide
        have hP9 := hP.sub (ws' := [(mo, .inr (9, [.ref mf, .ref m1, .ref m2, .int (dc_bI so), .long se, .long sm, .long sc, .int (dc_dn sv), .int (dc_bI ak), .long cw, .int dn, .int (nI an), .ref m3, .ref m4, .ref m5, .int (nI sk), .ref m6, .ref m7, .ref m8, .ref m9, .int (nI t), .ref ma, .ref mb, .ref mc, .long ee, .long em, .long ec, .ref mg, .ref mz, .int (dc_bI gn), .int c, .ref mr, .ref mi, .int 1])), (ma, .inl (cA 0, 3, .inl fa)), (mb, .inl (cA 0, 3, .inl fb)), (mc, .inl (cA 1, 3, .inr (.inl fm)))]) [0, 1, 2, 3] rfl
        have hD9 := hD.sub (ws' := [(mo, .inr (9, [.ref mf, .ref m1, .ref m2, .int (dc_bI so), .long se, .long sm, .long sc, .int (dc_dn sv), .int (dc_bI ak), .long cw, .int dn, .int (nI an), .ref m3, .ref m4, .ref m5, .int (nI sk), .ref m6, .ref m7, .ref m8, .ref m9, .int (nI t), .ref ma, .ref mb, .ref mc, .long ee, .long em, .long ec, .ref mg, .ref mz, .int (dc_bI gn), .int c, .ref mr, .ref mi, .int 1])), (ma, .inl (cA 0, 3, .inl fa)), (mb, .inl (cA 0, 3, .inl fb)), (mc, .inl (cA 1, 3, .inr (.inl fm)))]) [0, 1, 2, 3] (by decide) rfl
        have hE9 : ([(mo, .inr (9, [.ref mf, .ref m1, .ref m2, .int (dc_bI so), .long se, .long sm, .long sc, .int (dc_dn sv), .int (dc_bI ak), .long cw, .int dn, .int (nI an), .ref m3, .ref m4, .ref m5, .int (nI sk), .ref m6, .ref m7, .ref m8, .ref m9, .int (nI t), .ref ma, .ref mb, .ref mc, .long ee, .long em, .long ec, .ref mg, .ref mz, .int (dc_bI gn), .int c, .ref mr, .ref mi, .int 1])), (ma, .inl (cA 0, 3, .inl fa)), (mb, .inl (cA 0, 3, .inl fb)), (mc, .inl (cA 1, 3, .inr (.inl fm)))] : va_W) = [(mo, .inr (9, [.ref mf, .ref m1, .ref m2, .int (dc_bI so), .long se, .long sm, .long sc, .int (dc_dn sv), .int (dc_bI ak), .long cw, .int dn, .int (nI an), .ref m3, .ref m4, .ref m5, .int (nI sk), .ref m6, .ref m7, .ref m8, .ref m9, .int (nI (dc_sel (decide (dc_chT mm ii x t = 0)) (t + 1) t)), .ref ma, .ref mb, .ref mc, .long ee, .long em, .long ec, .ref mg, .ref mz, .int (dc_bI gn), .int c, .ref mr, .ref mi, .int (dc_chT mm ii x t)])), (ma, .inl (cA 0, 3, .inl (dc_sel (decide (dc_chT mm ii x t = 0)) (upd fa t mm) fa))), (mb, .inl (cA 0, 3, .inl (dc_sel (decide (dc_chT mm ii x t = 0)) (upd fb t ii) fb))), (mc, .inl (cA 1, 3, .inr (.inl (dc_sel (decide (dc_chT mm ii x t = 0)) (vp_updL fm t x) fm))))] := by rw [hz9, hk9]; rfl
        rw [hE9] at hP9 hD9
        exact W.iret (v := 0) hx hb hr (fun t ht hW => ⟨⟨_, (), rfl, (by rw [hz9]; rfl), by rw [ht]; exact hP9, hD9⟩, hS.F ht⟩) hS.2.2 dn_d_Mod_change_55
    · -- 8: ¬ 99 < mm
      refine lv_iload_n hx hb dn_d_Mod_change_11 rfl (lv_at hl 2 rfl) ?_
      refine lv_if_lt (tgt := 27) hx hb dn_d_Mod_change_12 (by decide) (fun h12 => ?_) (fun h12 => ?_)
      · -- 12: ii < 0
        refine lv_iconst (v := 1) hx hb dn_d_Mod_change_27 (by decide) ?_
        refine lv_goto (tgt := 44) hx hb dn_d_Mod_change_28 (by decide) ?_
        refine va_put (D := G) (ci := 9) (v := .int 1) (ty := (.int)) (C := dn_R_Mod) (T := dn_T_Mod) (N := 34) hx hb hts (dn_u_Mod) dn_t_Mod dn_o_Mod dn_n_Mod hown hK hP hD hS 0 rfl rfl 33 (by decide) (hts _ dn_w_891) (fun _ h9 => h9) rfl (by decide +kernel) rfl rfl (Nat.le_of_ble_eq_true rfl) dn_d_Mod_change_44 (fun H locs hP hD hS => ?_)
        have hP : va_P G vwCl [(mo, .inr (9, [.ref mf, .ref m1, .ref m2, .int (dc_bI so), .long se, .long sm, .long sc, .int (dc_dn sv), .int (dc_bI ak), .long cw, .int dn, .int (nI an), .ref m3, .ref m4, .ref m5, .int (nI sk), .ref m6, .ref m7, .ref m8, .ref m9, .int (nI t), .ref ma, .ref mb, .ref mc, .long ee, .long em, .long ec, .ref mg, .ref mz, .int (dc_bI gn), .int c, .ref mr, .ref mi, .int 1])), (ma, .inl (cA 0, 3, .inl fa)), (mb, .inl (cA 0, 3, .inl fb)), (mc, .inl (cA 1, 3, .inr (.inl fm)))] H := hP
        have hD : va_D A [(mo, .inr (9, [.ref mf, .ref m1, .ref m2, .int (dc_bI so), .long se, .long sm, .long sc, .int (dc_dn sv), .int (dc_bI ak), .long cw, .int dn, .int (nI an), .ref m3, .ref m4, .ref m5, .int (nI sk), .ref m6, .ref m7, .ref m8, .ref m9, .int (nI t), .ref ma, .ref mb, .ref mc, .long ee, .long em, .long ec, .ref mg, .ref mz, .int (dc_bI gn), .int c, .ref mr, .ref mi, .int 1])), (ma, .inl (cA 0, 3, .inl fa)), (mb, .inl (cA 0, 3, .inl fb)), (mc, .inl (cA 1, 3, .inr (.inl fm)))] := hD
        refine lv_aload_n hx hb dn_d_Mod_change_47 rfl (lv_at hl 0 rfl) ?_
        refine va_get (D := G) (ci := 9) (v := .int 1) (C := dn_R_Mod) (T := dn_T_Mod) (N := 34) hx hb hts (dn_u_Mod) hown hK hP 0 rfl rfl 33 (by decide) (hts _ dn_w_891) (fun _ h9 => h9) rfl dn_d_Mod_change_48 ?_
        refine lv_if_eq (tgt := 56) hx hb dn_d_Mod_change_51 (by decide) (fun h51 => ?_) (fun h51 => ?_)
        · exact absurd h51 (by decide)
        · -- 51: ¬ 1 = 0
          refine lv_iconst (v := 0) hx hb dn_d_Mod_change_54 (by decide) ?_
          have hk9 : dc_chT mm ii x t = 1 := by unfold dc_chT; rw [if_neg (fun z9 => z9.2.2.1 h12)]
          have hz9 : decide (dc_chT mm ii x t = 0) = false := by rw [hk9]; decide
          have hP9 := hP.sub (ws' := [(mo, .inr (9, [.ref mf, .ref m1, .ref m2, .int (dc_bI so), .long se, .long sm, .long sc, .int (dc_dn sv), .int (dc_bI ak), .long cw, .int dn, .int (nI an), .ref m3, .ref m4, .ref m5, .int (nI sk), .ref m6, .ref m7, .ref m8, .ref m9, .int (nI t), .ref ma, .ref mb, .ref mc, .long ee, .long em, .long ec, .ref mg, .ref mz, .int (dc_bI gn), .int c, .ref mr, .ref mi, .int 1])), (ma, .inl (cA 0, 3, .inl fa)), (mb, .inl (cA 0, 3, .inl fb)), (mc, .inl (cA 1, 3, .inr (.inl fm)))]) [0, 1, 2, 3] rfl
          have hD9 := hD.sub (ws' := [(mo, .inr (9, [.ref mf, .ref m1, .ref m2, .int (dc_bI so), .long se, .long sm, .long sc, .int (dc_dn sv), .int (dc_bI ak), .long cw, .int dn, .int (nI an), .ref m3, .ref m4, .ref m5, .int (nI sk), .ref m6, .ref m7, .ref m8, .ref m9, .int (nI t), .ref ma, .ref mb, .ref mc, .long ee, .long em, .long ec, .ref mg, .ref mz, .int (dc_bI gn), .int c, .ref mr, .ref mi, .int 1])), (ma, .inl (cA 0, 3, .inl fa)), (mb, .inl (cA 0, 3, .inl fb)), (mc, .inl (cA 1, 3, .inr (.inl fm)))]) [0, 1, 2, 3] (by decide) rfl
          have hE9 : ([(mo, .inr (9, [.ref mf, .ref m1, .ref m2, .int (dc_bI so), .long se, .long sm, .long sc, .int (dc_dn sv), .int (dc_bI ak), .long cw, .int dn, .int (nI an), .ref m3, .ref m4, .ref m5, .int (nI sk), .ref m6, .ref m7, .ref m8, .ref m9, .int (nI t), .ref ma, .ref mb, .ref mc, .long ee, .long em, .long ec, .ref mg, .ref mz, .int (dc_bI gn), .int c, .ref mr, .ref mi, .int 1])), (ma, .inl (cA 0, 3, .inl fa)), (mb, .inl (cA 0, 3, .inl fb)), (mc, .inl (cA 1, 3, .inr (.inl fm)))] : va_W) = [(mo, .inr (9, [.ref mf, .ref m1, .ref m2, .int (dc_bI so), .long se, .long sm, .long sc, .int (dc_dn sv), .int (dc_bI ak), .long cw, .int dn, .int (nI an), .ref m3, .ref m4, .ref m5, .int (nI sk), .ref m6, .ref m7, .ref m8, .ref m9, .int (nI (dc_sel (decide (dc_chT mm ii x t = 0)) (t + 1) t)), .ref ma, .ref mb, .ref mc, .long ee, .long em, .long ec, .ref mg, .ref mz, .int (dc_bI gn), .int c, .ref mr, .ref mi, .int (dc_chT mm ii x t)])), (ma, .inl (cA 0, 3, .inl (dc_sel (decide (dc_chT mm ii x t = 0)) (upd fa t mm) fa))), (mb, .inl (cA 0, 3, .inl (dc_sel (decide (dc_chT mm ii x t = 0)) (upd fb t ii) fb))), (mc, .inl (cA 1, 3, .inr (.inl (dc_sel (decide (dc_chT mm ii x t = 0)) (vp_updL fm t x) fm))))] := by rw [hz9, hk9]; rfl
          rw [hE9] at hP9 hD9
          exact W.iret (v := 0) hx hb hr (fun t ht hW => ⟨⟨_, (), rfl, (by rw [hz9]; rfl), by rw [ht]; exact hP9, hD9⟩, hS.F ht⟩) hS.2.2 dn_d_Mod_change_55
      · -- 12: ¬ ii < 0
        refine lv_iload_n hx hb dn_d_Mod_change_15 rfl (lv_at hl 2 rfl) ?_
        refine lv_bipush (v := 9) hx hb dn_d_Mod_change_16 (by decide) ?_
        refine lv_icmp_gt (tgt := 27) hx hb dn_d_Mod_change_18 (by decide) (fun h18 => ?_) (fun h18 => ?_)
        · -- 18: 9 < ii
          refine lv_iconst (v := 1) hx hb dn_d_Mod_change_27 (by decide) ?_
          refine lv_goto (tgt := 44) hx hb dn_d_Mod_change_28 (by decide) ?_
          refine va_put (D := G) (ci := 9) (v := .int 1) (ty := (.int)) (C := dn_R_Mod) (T := dn_T_Mod) (N := 34) hx hb hts (dn_u_Mod) dn_t_Mod dn_o_Mod dn_n_Mod hown hK hP hD hS 0 rfl rfl 33 (by decide) (hts _ dn_w_891) (fun _ h9 => h9) rfl (by decide +kernel) rfl rfl (Nat.le_of_ble_eq_true rfl) dn_d_Mod_change_44 (fun H locs hP hD hS => ?_)
          have hP : va_P G vwCl [(mo, .inr (9, [.ref mf, .ref m1, .ref m2, .int (dc_bI so), .long se, .long sm, .long sc, .int (dc_dn sv), .int (dc_bI ak), .long cw, .int dn, .int (nI an), .ref m3, .ref m4, .ref m5, .int (nI sk), .ref m6, .ref m7, .ref m8, .ref m9, .int (nI t), .ref ma, .ref mb, .ref mc, .long ee, .long em, .long ec, .ref mg, .ref mz, .int (dc_bI gn), .int c, .ref mr, .ref mi, .int 1])), (ma, .inl (cA 0, 3, .inl fa)), (mb, .inl (cA 0, 3, .inl fb)), (mc, .inl (cA 1, 3, .inr (.inl fm)))] H := hP
          have hD : va_D A [(mo, .inr (9, [.ref mf, .ref m1, .ref m2, .int (dc_bI so), .long se, .long sm, .long sc, .int (dc_dn sv), .int (dc_bI ak), .long cw, .int dn, .int (nI an), .ref m3, .ref m4, .ref m5, .int (nI sk), .ref m6, .ref m7, .ref m8, .ref m9, .int (nI t), .ref ma, .ref mb, .ref mc, .long ee, .long em, .long ec, .ref mg, .ref mz, .int (dc_bI gn), .int c, .ref mr, .ref mi, .int 1])), (ma, .inl (cA 0, 3, .inl fa)), (mb, .inl (cA 0, 3, .inl fb)), (mc, .inl (cA 1, 3, .inr (.inl fm)))] := hD
          refine lv_aload_n hx hb dn_d_Mod_change_47 rfl (lv_at hl 0 rfl) ?_
          refine va_get (D := G) (ci := 9) (v := .int 1) (C := dn_R_Mod) (T := dn_T_Mod) (N := 34) hx hb hts (dn_u_Mod) hown hK hP 0 rfl rfl 33 (by decide) (hts _ dn_w_891) (fun _ h9 => h9) rfl dn_d_Mod_change_48 ?_
          refine lv_if_eq (tgt := 56) hx hb dn_d_Mod_change_51 (by decide) (fun h51 => ?_) (fun h51 => ?_)
          · exact absurd h51 (by decide)
          · -- 51: ¬ 1 = 0
            refine lv_iconst (v := 0) hx hb dn_d_Mod_change_54 (by decide) ?_
            have hk9 : dc_chT mm ii x t = 1 := by unfold dc_chT; rw [if_neg (fun z9 => z9.2.2.2.1 h18)]
            have hz9 : decide (dc_chT mm ii x t = 0) = false := by rw [hk9]; decide
            have hP9 := hP.sub (ws' := [(mo, .inr (9, [.ref mf, .ref m1, .ref m2, .int (dc_bI so), .long se, .long sm, .long sc, .int (dc_dn sv), .int (dc_bI ak), .long cw, .int dn, .int (nI an), .ref m3, .ref m4, .ref m5, .int (nI sk), .ref m6, .ref m7, .ref m8, .ref m9, .int (nI t), .ref ma, .ref mb, .ref mc, .long ee, .long em, .long ec, .ref mg, .ref mz, .int (dc_bI gn), .int c, .ref mr, .ref mi, .int 1])), (ma, .inl (cA 0, 3, .inl fa)), (mb, .inl (cA 0, 3, .inl fb)), (mc, .inl (cA 1, 3, .inr (.inl fm)))]) [0, 1, 2, 3] rfl
            have hD9 := hD.sub (ws' := [(mo, .inr (9, [.ref mf, .ref m1, .ref m2, .int (dc_bI so), .long se, .long sm, .long sc, .int (dc_dn sv), .int (dc_bI ak), .long cw, .int dn, .int (nI an), .ref m3, .ref m4, .ref m5, .int (nI sk), .ref m6, .ref m7, .ref m8, .ref m9, .int (nI t), .ref ma, .ref mb, .ref mc, .long ee, .long em, .long ec, .ref mg, .ref mz, .int (dc_bI gn), .int c, .ref mr, .ref mi, .int 1])), (ma, .inl (cA 0, 3, .inl fa)), (mb, .inl (cA 0, 3, .inl fb)), (mc, .inl (cA 1, 3, .inr (.inl fm)))]) [0, 1, 2, 3] (by decide) rfl
            have hE9 : ([(mo, .inr (9, [.ref mf, .ref m1, .ref m2, .int (dc_bI so), .long se, .long sm, .long sc, .int (dc_dn sv), .int (dc_bI ak), .long cw, .int dn, .int (nI an), .ref m3, .ref m4, .ref m5, .int (nI sk), .ref m6, .ref m7, .ref m8, .ref m9, .int (nI t), .ref ma, .ref mb, .ref mc, .long ee, .long em, .long ec, .ref mg, .ref mz, .int (dc_bI gn), .int c, .ref mr, .ref mi, .int 1])), (ma, .inl (cA 0, 3, .inl fa)), (mb, .inl (cA 0, 3, .inl fb)), (mc, .inl (cA 1, 3, .inr (.inl fm)))] : va_W) = [(mo, .inr (9, [.ref mf, .ref m1, .ref m2, .int (dc_bI so), .long se, .long sm, .long sc, .int (dc_dn sv), .int (dc_bI ak), .long cw, .int dn, .int (nI an), .ref m3, .ref m4, .ref m5, .int (nI sk), .ref m6, .ref m7, .ref m8, .ref m9, .int (nI (dc_sel (decide (dc_chT mm ii x t = 0)) (t + 1) t)), .ref ma, .ref mb, .ref mc, .long ee, .long em, .long ec, .ref mg, .ref mz, .int (dc_bI gn), .int c, .ref mr, .ref mi, .int (dc_chT mm ii x t)])), (ma, .inl (cA 0, 3, .inl (dc_sel (decide (dc_chT mm ii x t = 0)) (upd fa t mm) fa))), (mb, .inl (cA 0, 3, .inl (dc_sel (decide (dc_chT mm ii x t = 0)) (upd fb t ii) fb))), (mc, .inl (cA 1, 3, .inr (.inl (dc_sel (decide (dc_chT mm ii x t = 0)) (vp_updL fm t x) fm))))] := by rw [hz9, hk9]; rfl
            rw [hE9] at hP9 hD9
            exact W.iret (v := 0) hx hb hr (fun t ht hW => ⟨⟨_, (), rfl, (by rw [hz9]; rfl), by rw [ht]; exact hP9, hD9⟩, hS.F ht⟩) hS.2.2 dn_d_Mod_change_55
        · -- 18: ¬ 9 < ii
          refine lv_lload_n hx hb dn_d_Mod_change_21 rfl (lv_at hl 3 rfl) ?_
          refine lv_lconst (v := 0) hx hb dn_d_Mod_change_22 (by decide) ?_
          refine W.lcmp hx hb dn_d_Mod_change_23 ?_
          refine lv_if_ne (tgt := 31) hx hb dn_d_Mod_change_24 (by decide) (fun h24 => ?_) (fun h24 => ?_)
          · -- 24: ¬ x = 0
            have h24 : ¬ x = 0 := fun z => h24 ((lg_cmp_eq x 0).2 z)
            refine lv_aload_n hx hb dn_d_Mod_change_31 rfl (lv_at hl 0 rfl) ?_
            refine va_get (D := G) (ci := 9) (v := .int (nI t)) (C := dn_R_Mod) (T := dn_T_Mod) (N := 34) hx hb hts (dn_u_Mod) hown hK hP 0 rfl rfl 20 (by decide) (hts _ dn_w_878) (fun _ h9 => h9) rfl dn_d_Mod_change_32 ?_
            refine lv_iconst (v := 3) hx hb dn_d_Mod_change_35 (by decide) ?_
            refine lv_icmp_ne (tgt := 43) hx hb dn_d_Mod_change_36 (by decide) (fun h36 => ?_) (fun h36 => ?_)
            · -- 36: ¬ t = 3
              have h36 : ¬ t = 3 := fun z => h36 ((nI_eq (a := t) (b := 3) (by omega) (by omega)).2 z)
              refine lv_iconst (v := 0) hx hb dn_d_Mod_change_43 (by decide) ?_
              refine va_put (D := G) (ci := 9) (v := .int 0) (ty := (.int)) (C := dn_R_Mod) (T := dn_T_Mod) (N := 34) hx hb hts (dn_u_Mod) dn_t_Mod dn_o_Mod dn_n_Mod hown hK hP hD hS 0 rfl rfl 33 (by decide) (hts _ dn_w_891) (fun _ h9 => h9) rfl (by decide +kernel) rfl rfl (Nat.le_of_ble_eq_true rfl) dn_d_Mod_change_44 (fun H locs hP hD hS => ?_)
              have hP : va_P G vwCl [(mo, .inr (9, [.ref mf, .ref m1, .ref m2, .int (dc_bI so), .long se, .long sm, .long sc, .int (dc_dn sv), .int (dc_bI ak), .long cw, .int dn, .int (nI an), .ref m3, .ref m4, .ref m5, .int (nI sk), .ref m6, .ref m7, .ref m8, .ref m9, .int (nI t), .ref ma, .ref mb, .ref mc, .long ee, .long em, .long ec, .ref mg, .ref mz, .int (dc_bI gn), .int c, .ref mr, .ref mi, .int 0])), (ma, .inl (cA 0, 3, .inl fa)), (mb, .inl (cA 0, 3, .inl fb)), (mc, .inl (cA 1, 3, .inr (.inl fm)))] H := hP
              have hD : va_D A [(mo, .inr (9, [.ref mf, .ref m1, .ref m2, .int (dc_bI so), .long se, .long sm, .long sc, .int (dc_dn sv), .int (dc_bI ak), .long cw, .int dn, .int (nI an), .ref m3, .ref m4, .ref m5, .int (nI sk), .ref m6, .ref m7, .ref m8, .ref m9, .int (nI t), .ref ma, .ref mb, .ref mc, .long ee, .long em, .long ec, .ref mg, .ref mz, .int (dc_bI gn), .int c, .ref mr, .ref mi, .int 0])), (ma, .inl (cA 0, 3, .inl fa)), (mb, .inl (cA 0, 3, .inl fb)), (mc, .inl (cA 1, 3, .inr (.inl fm)))] := hD
              refine lv_aload_n hx hb dn_d_Mod_change_47 rfl (lv_at hl 0 rfl) ?_
              refine va_get (D := G) (ci := 9) (v := .int 0) (C := dn_R_Mod) (T := dn_T_Mod) (N := 34) hx hb hts (dn_u_Mod) hown hK hP 0 rfl rfl 33 (by decide) (hts _ dn_w_891) (fun _ h9 => h9) rfl dn_d_Mod_change_48 ?_
              refine lv_if_eq (tgt := 56) hx hb dn_d_Mod_change_51 (by decide) (fun h51 => ?_) (fun h51 => ?_)
              · -- 51: 0 = 0
                refine lv_aload_n hx hb dn_d_Mod_change_56 rfl (lv_at hl 0 rfl) ?_
                refine va_get (D := G) (ci := 9) (v := .ref ma) (C := dn_R_Mod) (T := dn_T_Mod) (N := 34) hx hb hts (dn_u_Mod) hown hK hP 0 rfl rfl 21 (by decide) (hts _ dn_w_879) (fun _ h9 => h9) rfl dn_d_Mod_change_57 ?_
                refine lv_aload_n hx hb dn_d_Mod_change_60 rfl (lv_at hl 0 rfl) ?_
                refine va_get (D := G) (ci := 9) (v := .int (nI t)) (C := dn_R_Mod) (T := dn_T_Mod) (N := 34) hx hb hts (dn_u_Mod) hown hK hP 0 rfl rfl 20 (by decide) (hts _ dn_w_878) (fun _ h9 => h9) rfl dn_d_Mod_change_61 ?_
                refine lv_iload_n hx hb dn_d_Mod_change_64 rfl (lv_at hl 1 rfl) ?_
                refine dc_iast (k := t) hx hb hK hP hD hS 1 rfl (by omega) (by omega) dn_d_Mod_change_65 (fun H locs hP hD hS => ?_)
                have hP : va_P G vwCl [(mo, .inr (9, [.ref mf, .ref m1, .ref m2, .int (dc_bI so), .long se, .long sm, .long sc, .int (dc_dn sv), .int (dc_bI ak), .long cw, .int dn, .int (nI an), .ref m3, .ref m4, .ref m5, .int (nI sk), .ref m6, .ref m7, .ref m8, .ref m9, .int (nI t), .ref ma, .ref mb, .ref mc, .long ee, .long em, .long ec, .ref mg, .ref mz, .int (dc_bI gn), .int c, .ref mr, .ref mi, .int 0])), (ma, .inl (cA 0, 3, .inl (upd fa t mm))), (mb, .inl (cA 0, 3, .inl fb)), (mc, .inl (cA 1, 3, .inr (.inl fm)))] H := hP
                have hD : va_D A [(mo, .inr (9, [.ref mf, .ref m1, .ref m2, .int (dc_bI so), .long se, .long sm, .long sc, .int (dc_dn sv), .int (dc_bI ak), .long cw, .int dn, .int (nI an), .ref m3, .ref m4, .ref m5, .int (nI sk), .ref m6, .ref m7, .ref m8, .ref m9, .int (nI t), .ref ma, .ref mb, .ref mc, .long ee, .long em, .long ec, .ref mg, .ref mz, .int (dc_bI gn), .int c, .ref mr, .ref mi, .int 0])), (ma, .inl (cA 0, 3, .inl (upd fa t mm))), (mb, .inl (cA 0, 3, .inl fb)), (mc, .inl (cA 1, 3, .inr (.inl fm)))] := hD
                refine lv_aload_n hx hb dn_d_Mod_change_66 rfl (lv_at hl 0 rfl) ?_
                refine va_get (D := G) (ci := 9) (v := .ref mb) (C := dn_R_Mod) (T := dn_T_Mod) (N := 34) hx hb hts (dn_u_Mod) hown hK hP 0 rfl rfl 22 (by decide) (hts _ dn_w_880) (fun _ h9 => h9) rfl dn_d_Mod_change_67 ?_
                refine lv_aload_n hx hb dn_d_Mod_change_70 rfl (lv_at hl 0 rfl) ?_
                refine va_get (D := G) (ci := 9) (v := .int (nI t)) (C := dn_R_Mod) (T := dn_T_Mod) (N := 34) hx hb hts (dn_u_Mod) hown hK hP 0 rfl rfl 20 (by decide) (hts _ dn_w_878) (fun _ h9 => h9) rfl dn_d_Mod_change_71 ?_
                refine lv_iload_n hx hb dn_d_Mod_change_74 rfl (lv_at hl 2 rfl) ?_
                refine dc_iast (k := t) hx hb hK hP hD hS 2 rfl (by omega) (by omega) dn_d_Mod_change_75 (fun H locs hP hD hS => ?_)
                have hP : va_P G vwCl [(mo, .inr (9, [.ref mf, .ref m1, .ref m2, .int (dc_bI so), .long se, .long sm, .long sc, .int (dc_dn sv), .int (dc_bI ak), .long cw, .int dn, .int (nI an), .ref m3, .ref m4, .ref m5, .int (nI sk), .ref m6, .ref m7, .ref m8, .ref m9, .int (nI t), .ref ma, .ref mb, .ref mc, .long ee, .long em, .long ec, .ref mg, .ref mz, .int (dc_bI gn), .int c, .ref mr, .ref mi, .int 0])), (ma, .inl (cA 0, 3, .inl (upd fa t mm))), (mb, .inl (cA 0, 3, .inl (upd fb t ii))), (mc, .inl (cA 1, 3, .inr (.inl fm)))] H := hP
                have hD : va_D A [(mo, .inr (9, [.ref mf, .ref m1, .ref m2, .int (dc_bI so), .long se, .long sm, .long sc, .int (dc_dn sv), .int (dc_bI ak), .long cw, .int dn, .int (nI an), .ref m3, .ref m4, .ref m5, .int (nI sk), .ref m6, .ref m7, .ref m8, .ref m9, .int (nI t), .ref ma, .ref mb, .ref mc, .long ee, .long em, .long ec, .ref mg, .ref mz, .int (dc_bI gn), .int c, .ref mr, .ref mi, .int 0])), (ma, .inl (cA 0, 3, .inl (upd fa t mm))), (mb, .inl (cA 0, 3, .inl (upd fb t ii))), (mc, .inl (cA 1, 3, .inr (.inl fm)))] := hD
                refine lv_aload_n hx hb dn_d_Mod_change_76 rfl (lv_at hl 0 rfl) ?_
                refine va_get (D := G) (ci := 9) (v := .ref mc) (C := dn_R_Mod) (T := dn_T_Mod) (N := 34) hx hb hts (dn_u_Mod) hown hK hP 0 rfl rfl 23 (by decide) (hts _ dn_w_881) (fun _ h9 => h9) rfl dn_d_Mod_change_77 ?_
                refine lv_aload_n hx hb dn_d_Mod_change_80 rfl (lv_at hl 0 rfl) ?_
                refine va_get (D := G) (ci := 9) (v := .int (nI t)) (C := dn_R_Mod) (T := dn_T_Mod) (N := 34) hx hb hts (dn_u_Mod) hown hK hP 0 rfl rfl 20 (by decide) (hts _ dn_w_878) (fun _ h9 => h9) rfl dn_d_Mod_change_81 ?_
                refine lv_lload_n hx hb dn_d_Mod_change_84 rfl (lv_at hl 3 rfl) ?_
                refine dc_last (k := t) hx hb hK hP hD hS 3 rfl (by omega) (by omega) dn_d_Mod_change_85 (fun H locs hP hD hS => ?_)
                have hP : va_P G vwCl [(mo, .inr (9, [.ref mf, .ref m1, .ref m2, .int (dc_bI so), .long se, .long sm, .long sc, .int (dc_dn sv), .int (dc_bI ak), .long cw, .int dn, .int (nI an), .ref m3, .ref m4, .ref m5, .int (nI sk), .ref m6, .ref m7, .ref m8, .ref m9, .int (nI t), .ref ma, .ref mb, .ref mc, .long ee, .long em, .long ec, .ref mg, .ref mz, .int (dc_bI gn), .int c, .ref mr, .ref mi, .int 0])), (ma, .inl (cA 0, 3, .inl (upd fa t mm))), (mb, .inl (cA 0, 3, .inl (upd fb t ii))), (mc, .inl (cA 1, 3, .inr (.inl (vp_updL fm t x))))] H := hP
                have hD : va_D A [(mo, .inr (9, [.ref mf, .ref m1, .ref m2, .int (dc_bI so), .long se, .long sm, .long sc, .int (dc_dn sv), .int (dc_bI ak), .long cw, .int dn, .int (nI an), .ref m3, .ref m4, .ref m5, .int (nI sk), .ref m6, .ref m7, .ref m8, .ref m9, .int (nI t), .ref ma, .ref mb, .ref mc, .long ee, .long em, .long ec, .ref mg, .ref mz, .int (dc_bI gn), .int c, .ref mr, .ref mi, .int 0])), (ma, .inl (cA 0, 3, .inl (upd fa t mm))), (mb, .inl (cA 0, 3, .inl (upd fb t ii))), (mc, .inl (cA 1, 3, .inr (.inl (vp_updL fm t x))))] := hD
                refine lv_aload_n hx hb dn_d_Mod_change_86 rfl (lv_at hl 0 rfl) ?_
                refine lv_dup hx hb dn_d_Mod_change_87 rfl ?_
                refine va_get (D := G) (ci := 9) (v := .int (nI t)) (C := dn_R_Mod) (T := dn_T_Mod) (N := 34) hx hb hts (dn_u_Mod) hown hK hP 0 rfl rfl 20 (by decide) (hts _ dn_w_878) (fun _ h9 => h9) rfl dn_d_Mod_change_88 ?_
                refine lv_iconst (v := 1) hx hb dn_d_Mod_change_91 (by decide) ?_
                refine lv_iadd hx hb dn_d_Mod_change_92 ?_
                rw [show (nI t) + (1 : Int32) = nI (t + 1) from nI_add t 1]
                refine va_put (D := G) (ci := 9) (v := .int (nI (t + 1))) (ty := (.int)) (C := dn_R_Mod) (T := dn_T_Mod) (N := 34) hx hb hts (dn_u_Mod) dn_t_Mod dn_o_Mod dn_n_Mod hown hK hP hD hS 0 rfl rfl 20 (by decide) (hts _ dn_w_878) (fun _ h9 => h9) rfl (by decide +kernel) rfl rfl (Nat.le_of_ble_eq_true rfl) dn_d_Mod_change_93 (fun H locs hP hD hS => ?_)
                have hP : va_P G vwCl [(mo, .inr (9, [.ref mf, .ref m1, .ref m2, .int (dc_bI so), .long se, .long sm, .long sc, .int (dc_dn sv), .int (dc_bI ak), .long cw, .int dn, .int (nI an), .ref m3, .ref m4, .ref m5, .int (nI sk), .ref m6, .ref m7, .ref m8, .ref m9, .int (nI (t + 1)), .ref ma, .ref mb, .ref mc, .long ee, .long em, .long ec, .ref mg, .ref mz, .int (dc_bI gn), .int c, .ref mr, .ref mi, .int 0])), (ma, .inl (cA 0, 3, .inl (upd fa t mm))), (mb, .inl (cA 0, 3, .inl (upd fb t ii))), (mc, .inl (cA 1, 3, .inr (.inl (vp_updL fm t x))))] H := hP
                have hD : va_D A [(mo, .inr (9, [.ref mf, .ref m1, .ref m2, .int (dc_bI so), .long se, .long sm, .long sc, .int (dc_dn sv), .int (dc_bI ak), .long cw, .int dn, .int (nI an), .ref m3, .ref m4, .ref m5, .int (nI sk), .ref m6, .ref m7, .ref m8, .ref m9, .int (nI (t + 1)), .ref ma, .ref mb, .ref mc, .long ee, .long em, .long ec, .ref mg, .ref mz, .int (dc_bI gn), .int c, .ref mr, .ref mi, .int 0])), (ma, .inl (cA 0, 3, .inl (upd fa t mm))), (mb, .inl (cA 0, 3, .inl (upd fb t ii))), (mc, .inl (cA 1, 3, .inr (.inl (vp_updL fm t x))))] := hD
                refine lv_aload_n hx hb dn_d_Mod_change_96 rfl (lv_at hl 0 rfl) ?_
                refine va_get (D := G) (ci := 9) (v := .int (nI (t + 1))) (C := dn_R_Mod) (T := dn_T_Mod) (N := 34) hx hb hts (dn_u_Mod) hown hK hP 0 rfl rfl 20 (by decide) (hts _ dn_w_878) (fun _ h9 => h9) rfl dn_d_Mod_change_97 ?_
                have hk9 : dc_chT mm ii x t = 0 := by unfold dc_chT; rw [if_pos ⟨h2, h8, h12, h18, h24⟩, if_neg h36]
                have hz9 : decide (dc_chT mm ii x t = 0) = true := by rw [hk9]; decide
                have hP9 := hP.sub (ws' := [(mo, .inr (9, [.ref mf, .ref m1, .ref m2, .int (dc_bI so), .long se, .long sm, .long sc, .int (dc_dn sv), .int (dc_bI ak), .long cw, .int dn, .int (nI an), .ref m3, .ref m4, .ref m5, .int (nI sk), .ref m6, .ref m7, .ref m8, .ref m9, .int (nI (t + 1)), .ref ma, .ref mb, .ref mc, .long ee, .long em, .long ec, .ref mg, .ref mz, .int (dc_bI gn), .int c, .ref mr, .ref mi, .int 0])), (ma, .inl (cA 0, 3, .inl (upd fa t mm))), (mb, .inl (cA 0, 3, .inl (upd fb t ii))), (mc, .inl (cA 1, 3, .inr (.inl (vp_updL fm t x))))]) [0, 1, 2, 3] rfl
                have hD9 := hD.sub (ws' := [(mo, .inr (9, [.ref mf, .ref m1, .ref m2, .int (dc_bI so), .long se, .long sm, .long sc, .int (dc_dn sv), .int (dc_bI ak), .long cw, .int dn, .int (nI an), .ref m3, .ref m4, .ref m5, .int (nI sk), .ref m6, .ref m7, .ref m8, .ref m9, .int (nI (t + 1)), .ref ma, .ref mb, .ref mc, .long ee, .long em, .long ec, .ref mg, .ref mz, .int (dc_bI gn), .int c, .ref mr, .ref mi, .int 0])), (ma, .inl (cA 0, 3, .inl (upd fa t mm))), (mb, .inl (cA 0, 3, .inl (upd fb t ii))), (mc, .inl (cA 1, 3, .inr (.inl (vp_updL fm t x))))]) [0, 1, 2, 3] (by decide) rfl
                have hE9 : ([(mo, .inr (9, [.ref mf, .ref m1, .ref m2, .int (dc_bI so), .long se, .long sm, .long sc, .int (dc_dn sv), .int (dc_bI ak), .long cw, .int dn, .int (nI an), .ref m3, .ref m4, .ref m5, .int (nI sk), .ref m6, .ref m7, .ref m8, .ref m9, .int (nI (t + 1)), .ref ma, .ref mb, .ref mc, .long ee, .long em, .long ec, .ref mg, .ref mz, .int (dc_bI gn), .int c, .ref mr, .ref mi, .int 0])), (ma, .inl (cA 0, 3, .inl (upd fa t mm))), (mb, .inl (cA 0, 3, .inl (upd fb t ii))), (mc, .inl (cA 1, 3, .inr (.inl (vp_updL fm t x))))] : va_W) = [(mo, .inr (9, [.ref mf, .ref m1, .ref m2, .int (dc_bI so), .long se, .long sm, .long sc, .int (dc_dn sv), .int (dc_bI ak), .long cw, .int dn, .int (nI an), .ref m3, .ref m4, .ref m5, .int (nI sk), .ref m6, .ref m7, .ref m8, .ref m9, .int (nI (dc_sel (decide (dc_chT mm ii x t = 0)) (t + 1) t)), .ref ma, .ref mb, .ref mc, .long ee, .long em, .long ec, .ref mg, .ref mz, .int (dc_bI gn), .int c, .ref mr, .ref mi, .int (dc_chT mm ii x t)])), (ma, .inl (cA 0, 3, .inl (dc_sel (decide (dc_chT mm ii x t = 0)) (upd fa t mm) fa))), (mb, .inl (cA 0, 3, .inl (dc_sel (decide (dc_chT mm ii x t = 0)) (upd fb t ii) fb))), (mc, .inl (cA 1, 3, .inr (.inl (dc_sel (decide (dc_chT mm ii x t = 0)) (vp_updL fm t x) fm))))] := by rw [hz9, hk9]; rfl
                rw [hE9] at hP9 hD9
                exact W.iret (v := (nI (t + 1))) hx hb hr (fun t ht hW => ⟨⟨_, (), rfl, (by rw [hz9]; rfl), by rw [ht]; exact hP9, hD9⟩, hS.F ht⟩) hS.2.2 dn_d_Mod_change_100
              · exact absurd h51 (by decide)
            · -- 36: t = 3
              have h36 : t = 3 := (nI_eq (a := t) (b := 3) (by omega) (by omega)).1 h36
              refine lv_iconst (v := 2) hx hb dn_d_Mod_change_39 (by decide) ?_
              refine lv_goto (tgt := 44) hx hb dn_d_Mod_change_40 (by decide) ?_
              refine va_put (D := G) (ci := 9) (v := .int 2) (ty := (.int)) (C := dn_R_Mod) (T := dn_T_Mod) (N := 34) hx hb hts (dn_u_Mod) dn_t_Mod dn_o_Mod dn_n_Mod hown hK hP hD hS 0 rfl rfl 33 (by decide) (hts _ dn_w_891) (fun _ h9 => h9) rfl (by decide +kernel) rfl rfl (Nat.le_of_ble_eq_true rfl) dn_d_Mod_change_44 (fun H locs hP hD hS => ?_)
              have hP : va_P G vwCl [(mo, .inr (9, [.ref mf, .ref m1, .ref m2, .int (dc_bI so), .long se, .long sm, .long sc, .int (dc_dn sv), .int (dc_bI ak), .long cw, .int dn, .int (nI an), .ref m3, .ref m4, .ref m5, .int (nI sk), .ref m6, .ref m7, .ref m8, .ref m9, .int (nI t), .ref ma, .ref mb, .ref mc, .long ee, .long em, .long ec, .ref mg, .ref mz, .int (dc_bI gn), .int c, .ref mr, .ref mi, .int 2])), (ma, .inl (cA 0, 3, .inl fa)), (mb, .inl (cA 0, 3, .inl fb)), (mc, .inl (cA 1, 3, .inr (.inl fm)))] H := hP
              have hD : va_D A [(mo, .inr (9, [.ref mf, .ref m1, .ref m2, .int (dc_bI so), .long se, .long sm, .long sc, .int (dc_dn sv), .int (dc_bI ak), .long cw, .int dn, .int (nI an), .ref m3, .ref m4, .ref m5, .int (nI sk), .ref m6, .ref m7, .ref m8, .ref m9, .int (nI t), .ref ma, .ref mb, .ref mc, .long ee, .long em, .long ec, .ref mg, .ref mz, .int (dc_bI gn), .int c, .ref mr, .ref mi, .int 2])), (ma, .inl (cA 0, 3, .inl fa)), (mb, .inl (cA 0, 3, .inl fb)), (mc, .inl (cA 1, 3, .inr (.inl fm)))] := hD
              refine lv_aload_n hx hb dn_d_Mod_change_47 rfl (lv_at hl 0 rfl) ?_
              refine va_get (D := G) (ci := 9) (v := .int 2) (C := dn_R_Mod) (T := dn_T_Mod) (N := 34) hx hb hts (dn_u_Mod) hown hK hP 0 rfl rfl 33 (by decide) (hts _ dn_w_891) (fun _ h9 => h9) rfl dn_d_Mod_change_48 ?_
              refine lv_if_eq (tgt := 56) hx hb dn_d_Mod_change_51 (by decide) (fun h51 => ?_) (fun h51 => ?_)
              · exact absurd h51 (by decide)
              · -- 51: ¬ 2 = 0
                refine lv_iconst (v := 0) hx hb dn_d_Mod_change_54 (by decide) ?_
                have hk9 : dc_chT mm ii x t = 2 := by unfold dc_chT; rw [if_pos ⟨h2, h8, h12, h18, h24⟩, if_pos h36]
                have hz9 : decide (dc_chT mm ii x t = 0) = false := by rw [hk9]; decide
                have hP9 := hP.sub (ws' := [(mo, .inr (9, [.ref mf, .ref m1, .ref m2, .int (dc_bI so), .long se, .long sm, .long sc, .int (dc_dn sv), .int (dc_bI ak), .long cw, .int dn, .int (nI an), .ref m3, .ref m4, .ref m5, .int (nI sk), .ref m6, .ref m7, .ref m8, .ref m9, .int (nI t), .ref ma, .ref mb, .ref mc, .long ee, .long em, .long ec, .ref mg, .ref mz, .int (dc_bI gn), .int c, .ref mr, .ref mi, .int 2])), (ma, .inl (cA 0, 3, .inl fa)), (mb, .inl (cA 0, 3, .inl fb)), (mc, .inl (cA 1, 3, .inr (.inl fm)))]) [0, 1, 2, 3] rfl
                have hD9 := hD.sub (ws' := [(mo, .inr (9, [.ref mf, .ref m1, .ref m2, .int (dc_bI so), .long se, .long sm, .long sc, .int (dc_dn sv), .int (dc_bI ak), .long cw, .int dn, .int (nI an), .ref m3, .ref m4, .ref m5, .int (nI sk), .ref m6, .ref m7, .ref m8, .ref m9, .int (nI t), .ref ma, .ref mb, .ref mc, .long ee, .long em, .long ec, .ref mg, .ref mz, .int (dc_bI gn), .int c, .ref mr, .ref mi, .int 2])), (ma, .inl (cA 0, 3, .inl fa)), (mb, .inl (cA 0, 3, .inl fb)), (mc, .inl (cA 1, 3, .inr (.inl fm)))]) [0, 1, 2, 3] (by decide) rfl
                have hE9 : ([(mo, .inr (9, [.ref mf, .ref m1, .ref m2, .int (dc_bI so), .long se, .long sm, .long sc, .int (dc_dn sv), .int (dc_bI ak), .long cw, .int dn, .int (nI an), .ref m3, .ref m4, .ref m5, .int (nI sk), .ref m6, .ref m7, .ref m8, .ref m9, .int (nI t), .ref ma, .ref mb, .ref mc, .long ee, .long em, .long ec, .ref mg, .ref mz, .int (dc_bI gn), .int c, .ref mr, .ref mi, .int 2])), (ma, .inl (cA 0, 3, .inl fa)), (mb, .inl (cA 0, 3, .inl fb)), (mc, .inl (cA 1, 3, .inr (.inl fm)))] : va_W) = [(mo, .inr (9, [.ref mf, .ref m1, .ref m2, .int (dc_bI so), .long se, .long sm, .long sc, .int (dc_dn sv), .int (dc_bI ak), .long cw, .int dn, .int (nI an), .ref m3, .ref m4, .ref m5, .int (nI sk), .ref m6, .ref m7, .ref m8, .ref m9, .int (nI (dc_sel (decide (dc_chT mm ii x t = 0)) (t + 1) t)), .ref ma, .ref mb, .ref mc, .long ee, .long em, .long ec, .ref mg, .ref mz, .int (dc_bI gn), .int c, .ref mr, .ref mi, .int (dc_chT mm ii x t)])), (ma, .inl (cA 0, 3, .inl (dc_sel (decide (dc_chT mm ii x t = 0)) (upd fa t mm) fa))), (mb, .inl (cA 0, 3, .inl (dc_sel (decide (dc_chT mm ii x t = 0)) (upd fb t ii) fb))), (mc, .inl (cA 1, 3, .inr (.inl (dc_sel (decide (dc_chT mm ii x t = 0)) (vp_updL fm t x) fm))))] := by rw [hz9, hk9]; rfl
                rw [hE9] at hP9 hD9
                exact W.iret (v := 0) hx hb hr (fun t ht hW => ⟨⟨_, (), rfl, (by rw [hz9]; rfl), by rw [ht]; exact hP9, hD9⟩, hS.F ht⟩) hS.2.2 dn_d_Mod_change_55
          · -- 24: x = 0
            have h24 : x = 0 := (lg_cmp_eq x 0).1 h24
            refine lv_iconst (v := 1) hx hb dn_d_Mod_change_27 (by decide) ?_
            refine lv_goto (tgt := 44) hx hb dn_d_Mod_change_28 (by decide) ?_
            refine va_put (D := G) (ci := 9) (v := .int 1) (ty := (.int)) (C := dn_R_Mod) (T := dn_T_Mod) (N := 34) hx hb hts (dn_u_Mod) dn_t_Mod dn_o_Mod dn_n_Mod hown hK hP hD hS 0 rfl rfl 33 (by decide) (hts _ dn_w_891) (fun _ h9 => h9) rfl (by decide +kernel) rfl rfl (Nat.le_of_ble_eq_true rfl) dn_d_Mod_change_44 (fun H locs hP hD hS => ?_)
            have hP : va_P G vwCl [(mo, .inr (9, [.ref mf, .ref m1, .ref m2, .int (dc_bI so), .long se, .long sm, .long sc, .int (dc_dn sv), .int (dc_bI ak), .long cw, .int dn, .int (nI an), .ref m3, .ref m4, .ref m5, .int (nI sk), .ref m6, .ref m7, .ref m8, .ref m9, .int (nI t), .ref ma, .ref mb, .ref mc, .long ee, .long em, .long ec, .ref mg, .ref mz, .int (dc_bI gn), .int c, .ref mr, .ref mi, .int 1])), (ma, .inl (cA 0, 3, .inl fa)), (mb, .inl (cA 0, 3, .inl fb)), (mc, .inl (cA 1, 3, .inr (.inl fm)))] H := hP
            have hD : va_D A [(mo, .inr (9, [.ref mf, .ref m1, .ref m2, .int (dc_bI so), .long se, .long sm, .long sc, .int (dc_dn sv), .int (dc_bI ak), .long cw, .int dn, .int (nI an), .ref m3, .ref m4, .ref m5, .int (nI sk), .ref m6, .ref m7, .ref m8, .ref m9, .int (nI t), .ref ma, .ref mb, .ref mc, .long ee, .long em, .long ec, .ref mg, .ref mz, .int (dc_bI gn), .int c, .ref mr, .ref mi, .int 1])), (ma, .inl (cA 0, 3, .inl fa)), (mb, .inl (cA 0, 3, .inl fb)), (mc, .inl (cA 1, 3, .inr (.inl fm)))] := hD
            refine lv_aload_n hx hb dn_d_Mod_change_47 rfl (lv_at hl 0 rfl) ?_
            refine va_get (D := G) (ci := 9) (v := .int 1) (C := dn_R_Mod) (T := dn_T_Mod) (N := 34) hx hb hts (dn_u_Mod) hown hK hP 0 rfl rfl 33 (by decide) (hts _ dn_w_891) (fun _ h9 => h9) rfl dn_d_Mod_change_48 ?_
            refine lv_if_eq (tgt := 56) hx hb dn_d_Mod_change_51 (by decide) (fun h51 => ?_) (fun h51 => ?_)
            · exact absurd h51 (by decide)
            · -- 51: ¬ 1 = 0
              refine lv_iconst (v := 0) hx hb dn_d_Mod_change_54 (by decide) ?_
              have hk9 : dc_chT mm ii x t = 1 := by unfold dc_chT; rw [if_neg (fun z9 => z9.2.2.2.2 h24)]
              have hz9 : decide (dc_chT mm ii x t = 0) = false := by rw [hk9]; decide
              have hP9 := hP.sub (ws' := [(mo, .inr (9, [.ref mf, .ref m1, .ref m2, .int (dc_bI so), .long se, .long sm, .long sc, .int (dc_dn sv), .int (dc_bI ak), .long cw, .int dn, .int (nI an), .ref m3, .ref m4, .ref m5, .int (nI sk), .ref m6, .ref m7, .ref m8, .ref m9, .int (nI t), .ref ma, .ref mb, .ref mc, .long ee, .long em, .long ec, .ref mg, .ref mz, .int (dc_bI gn), .int c, .ref mr, .ref mi, .int 1])), (ma, .inl (cA 0, 3, .inl fa)), (mb, .inl (cA 0, 3, .inl fb)), (mc, .inl (cA 1, 3, .inr (.inl fm)))]) [0, 1, 2, 3] rfl
              have hD9 := hD.sub (ws' := [(mo, .inr (9, [.ref mf, .ref m1, .ref m2, .int (dc_bI so), .long se, .long sm, .long sc, .int (dc_dn sv), .int (dc_bI ak), .long cw, .int dn, .int (nI an), .ref m3, .ref m4, .ref m5, .int (nI sk), .ref m6, .ref m7, .ref m8, .ref m9, .int (nI t), .ref ma, .ref mb, .ref mc, .long ee, .long em, .long ec, .ref mg, .ref mz, .int (dc_bI gn), .int c, .ref mr, .ref mi, .int 1])), (ma, .inl (cA 0, 3, .inl fa)), (mb, .inl (cA 0, 3, .inl fb)), (mc, .inl (cA 1, 3, .inr (.inl fm)))]) [0, 1, 2, 3] (by decide) rfl
              have hE9 : ([(mo, .inr (9, [.ref mf, .ref m1, .ref m2, .int (dc_bI so), .long se, .long sm, .long sc, .int (dc_dn sv), .int (dc_bI ak), .long cw, .int dn, .int (nI an), .ref m3, .ref m4, .ref m5, .int (nI sk), .ref m6, .ref m7, .ref m8, .ref m9, .int (nI t), .ref ma, .ref mb, .ref mc, .long ee, .long em, .long ec, .ref mg, .ref mz, .int (dc_bI gn), .int c, .ref mr, .ref mi, .int 1])), (ma, .inl (cA 0, 3, .inl fa)), (mb, .inl (cA 0, 3, .inl fb)), (mc, .inl (cA 1, 3, .inr (.inl fm)))] : va_W) = [(mo, .inr (9, [.ref mf, .ref m1, .ref m2, .int (dc_bI so), .long se, .long sm, .long sc, .int (dc_dn sv), .int (dc_bI ak), .long cw, .int dn, .int (nI an), .ref m3, .ref m4, .ref m5, .int (nI sk), .ref m6, .ref m7, .ref m8, .ref m9, .int (nI (dc_sel (decide (dc_chT mm ii x t = 0)) (t + 1) t)), .ref ma, .ref mb, .ref mc, .long ee, .long em, .long ec, .ref mg, .ref mz, .int (dc_bI gn), .int c, .ref mr, .ref mi, .int (dc_chT mm ii x t)])), (ma, .inl (cA 0, 3, .inl (dc_sel (decide (dc_chT mm ii x t = 0)) (upd fa t mm) fa))), (mb, .inl (cA 0, 3, .inl (dc_sel (decide (dc_chT mm ii x t = 0)) (upd fb t ii) fb))), (mc, .inl (cA 1, 3, .inr (.inl (dc_sel (decide (dc_chT mm ii x t = 0)) (vp_updL fm t x) fm))))] := by rw [hz9, hk9]; rfl
              rw [hE9] at hP9 hD9
              exact W.iret (v := 0) hx hb hr (fun t ht hW => ⟨⟨_, (), rfl, (by rw [hz9]; rfl), by rw [ht]; exact hP9, hD9⟩, hS.F ht⟩) hS.2.2 dn_d_Mod_change_55

set_option maxHeartbeats 4000000 in
set_option maxRecDepth 100000 in
theorem rr_trust (l : Launch) (G : va_G) (cA : Nat → ClassId) (mo : Nat) (mf : Nat) (m1 : Nat) (m2 : Nat) (so : Bool) (se : Int64) (sm : Int64) (sc : Int64) (sv : Nat) (ak : Bool) (cw : Int64) (dn : Int32) (an : Nat) (m3 : Nat) (m4 : Nat) (m5 : Nat) (sk : Nat) (m6 : Nat) (m7 : Nat) (m8 : Nat) (m9 : Nat) (t : Nat) (ma : Nat) (mb : Nat) (mc : Nat) (ee : Int64) (em : Int64) (ec : Int64) (mg : Nat) (mz : Nat) (gn : Bool) (c : Int32) (mr : Nat) (mi : Nat) (th : Int32) (fn : Nat → Int64) (fo : Nat → Int32) (fe : Nat → Int32) (x : Int64) (mm : Int32) (ee9 : Int32) (hsk : sk ≤ 4) (sz : Nat) : Met l dn_y_Mod_trust (.code dn_y_Mod_trust dn_c_Mod_trust 5 (some .int) :: dc_W) ({ frames := 0, cells := 0, slots := 0, locals := 0 }) (dc_pW G cA [(mo, .inr (9, [.ref mf, .ref m1, .ref m2, .int (dc_bI so), .long se, .long sm, .long sc, .int (dc_dn sv), .int (dc_bI ak), .long cw, .int dn, .int (nI an), .ref m3, .ref m4, .ref m5, .int (nI sk), .ref m6, .ref m7, .ref m8, .ref m9, .int (nI t), .ref ma, .ref mb, .ref mc, .long ee, .long em, .long ec, .ref mg, .ref mz, .int (dc_bI gn), .int c, .ref mr, .ref mi, .int th])), (m6, .inl (cA 1, 4, .inr (.inl fn))), (m7, .inl (cA 0, 4, .inl fo)), (m8, .inl (cA 0, 4, .inl fe))] sz [.ref mo, .long x, .int mm, .int ee9]) (dc_qi G (fun (r : Int32) (_ : Unit) => r = dc_sel (decide (dc_trT mm ee9 sk = 0)) (nI (sk + 1)) 0) (fun (_ : Unit) => [(mo, .inr (9, [.ref mf, .ref m1, .ref m2, .int (dc_bI so), .long se, .long sm, .long sc, .int (dc_dn sv), .int (dc_bI ak), .long cw, .int dn, .int (nI an), .ref m3, .ref m4, .ref m5, .int (nI (dc_sel (decide (dc_trT mm ee9 sk = 0)) (sk + 1) sk)), .ref m6, .ref m7, .ref m8, .ref m9, .int (nI t), .ref ma, .ref mb, .ref mc, .long ee, .long em, .long ec, .ref mg, .ref mz, .int (dc_bI gn), .int c, .ref mr, .ref mi, .int (dc_trT mm ee9 sk)])), (m6, .inl (cA 1, 4, .inr (.inl (dc_sel (decide (dc_trT mm ee9 sk = 0)) (vp_updL fn sk x) fn)))), (m7, .inl (cA 0, 4, .inl (dc_sel (decide (dc_trT mm ee9 sk = 0)) (upd fo sk mm) fo))), (m8, .inl (cA 0, 4, .inl (dc_sel (decide (dc_trT mm ee9 sk = 0)) (upd fe sk ee9) fe)))]) sz [(mo, .inr (9, [.ref mf, .ref m1, .ref m2, .int (dc_bI so), .long se, .long sm, .long sc, .int (dc_dn sv), .int (dc_bI ak), .long cw, .int dn, .int (nI an), .ref m3, .ref m4, .ref m5, .int (nI sk), .ref m6, .ref m7, .ref m8, .ref m9, .int (nI t), .ref ma, .ref mb, .ref mc, .long ee, .long em, .long ec, .ref mg, .ref mz, .int (dc_bI gn), .int c, .ref mr, .ref mi, .int th])), (m6, .inl (cA 1, 4, .inr (.inl fn))), (m7, .inl (cA 0, 4, .inl fo)), (m8, .inl (cA 0, 4, .inl fe))]) 0 0 (va_A [(mo, .inr (9, [.ref mf, .ref m1, .ref m2, .int (dc_bI so), .long se, .long sm, .long sc, .int (dc_dn sv), .int (dc_bI ak), .long cw, .int dn, .int (nI an), .ref m3, .ref m4, .ref m5, .int (nI sk), .ref m6, .ref m7, .ref m8, .ref m9, .int (nI t), .ref ma, .ref mb, .ref mc, .long ee, .long em, .long ec, .ref mg, .ref mz, .int (dc_bI gn), .int c, .ref mr, .ref mi, .int th])), (m6, .inl (cA 1, 4, .inr (.inl fn))), (m7, .inl (cA 0, 4, .inl fo)), (m8, .inl (cA 0, 4, .inl fe))] sz) := by
  refine Met.ofW (cc := dn_c_Mod_trust) (maxL := 5) (ret := (some .int)) (by decide) rfl ?_
  intro p9 en9 s m args9 below9 meth9 cd9 s9 B hml hv
  obtain ⟨rfl, hsz, hP, hK0, hD0⟩ := hv
  have hx := B.exec
  have hb := B.bytes
  have hr := B.returns
  have hts : ∀ w ∈ dc_W, w.before _ s = true := fun w h => atoms_spec (ws := (.code dn_y_Mod_trust dn_c_Mod_trust 5 (some .int) :: dc_W)) B.pre w (List.mem_cons_of_mem _ h)
  have hK := hK0.1
  have hN := hK0.2
  have hown : s.vm.findClass dn_R_Mod = some m.cls := findClass_of_methodNamed B.named
  have hlocks := B.notSynchronized
  subst hsz
  have hD := hD0.self (sz := s.heap.size)
  unfold dc_qi
  generalize hAe : va_A [(mo, .inr (9, [.ref mf, .ref m1, .ref m2, .int (dc_bI so), .long se, .long sm, .long sc, .int (dc_dn sv), .int (dc_bI ak), .long cw, .int dn, .int (nI an), .ref m3, .ref m4, .ref m5, .int (nI sk), .ref m6, .ref m7, .ref m8, .ref m9, .int (nI t), .ref ma, .ref mb, .ref mc, .long ee, .long em, .long ec, .ref mg, .ref mz, .int (dc_bI gn), .int c, .ref mr, .ref mi, .int th])), (m6, .inl (cA 1, 4, .inr (.inl fn))), (m7, .inl (cA 0, 4, .inl fo)), (m8, .inl (cA 0, 4, .inl fe))] s.heap.size = A at hD ⊢
  have hA : ∀ q : Nat, s.heap.size ≤ q → A q := fun q h => by rw [← hAe]; exact Or.inr h
  have hS : va_S A s.heap s.heap [] := va_S.rf
  have hl := lv_entry ([.ref mo, .long x, .int mm, .int ee9]) (n := 5) (Nat.le_of_ble_eq_true rfl)
  rw [lg_entry_eq]
  generalize (lg_sl ([.ref mo, .long x, .int mm, .int ee9]) ++ List.replicate (5 - (lg_sl ([.ref mo, .long x, .int mm, .int ee9])).length) Slot.unset).toArray = ls at hl ⊢
  have hl : lv_has ls 5 [(0, .ref mo), (1, .long x), (3, .int mm), (4, .int ee9)] := hl
  refine lv_aload_n hx hb dn_d_Mod_trust_0 rfl (lv_at hl 0 rfl) ?_
  refine lv_iload_n hx hb dn_d_Mod_trust_1 rfl (lv_at hl 2 rfl) ?_
  refine lv_iconst (v := 2) hx hb dn_d_Mod_trust_2 (by decide) ?_
  refine lv_icmp_lt (tgt := 19) hx hb dn_d_Mod_trust_3 (by decide) (fun h3 => ?_) (fun h3 => ?_)
  · -- 3: mm < 2
    refine lv_iconst (v := 1) hx hb dn_d_Mod_trust_19 (by decide) ?_
    refine lv_goto (tgt := 36) hx hb dn_d_Mod_trust_20 (by decide) ?_
    refine va_put (D := G) (ci := 9) (v := .int 1) (ty := (.int)) (C := dn_R_Mod) (T := dn_T_Mod) (N := 34) hx hb hts (dn_u_Mod) dn_t_Mod dn_o_Mod dn_n_Mod hown hK hP hD hS 0 rfl rfl 33 (by decide) (hts _ dn_w_891) (fun _ h9 => h9) rfl (by decide +kernel) rfl rfl (Nat.le_of_ble_eq_true rfl) dn_d_Mod_trust_36 (fun H locs hP hD hS => ?_)
    have hP : va_P G vwCl [(mo, .inr (9, [.ref mf, .ref m1, .ref m2, .int (dc_bI so), .long se, .long sm, .long sc, .int (dc_dn sv), .int (dc_bI ak), .long cw, .int dn, .int (nI an), .ref m3, .ref m4, .ref m5, .int (nI sk), .ref m6, .ref m7, .ref m8, .ref m9, .int (nI t), .ref ma, .ref mb, .ref mc, .long ee, .long em, .long ec, .ref mg, .ref mz, .int (dc_bI gn), .int c, .ref mr, .ref mi, .int 1])), (m6, .inl (cA 1, 4, .inr (.inl fn))), (m7, .inl (cA 0, 4, .inl fo)), (m8, .inl (cA 0, 4, .inl fe))] H := hP
    have hD : va_D A [(mo, .inr (9, [.ref mf, .ref m1, .ref m2, .int (dc_bI so), .long se, .long sm, .long sc, .int (dc_dn sv), .int (dc_bI ak), .long cw, .int dn, .int (nI an), .ref m3, .ref m4, .ref m5, .int (nI sk), .ref m6, .ref m7, .ref m8, .ref m9, .int (nI t), .ref ma, .ref mb, .ref mc, .long ee, .long em, .long ec, .ref mg, .ref mz, .int (dc_bI gn), .int c, .ref mr, .ref mi, .int 1])), (m6, .inl (cA 1, 4, .inr (.inl fn))), (m7, .inl (cA 0, 4, .inl fo)), (m8, .inl (cA 0, 4, .inl fe))] := hD
    refine lv_aload_n hx hb dn_d_Mod_trust_39 rfl (lv_at hl 0 rfl) ?_
    refine va_get (D := G) (ci := 9) (v := .int 1) (C := dn_R_Mod) (T := dn_T_Mod) (N := 34) hx hb hts (dn_u_Mod) hown hK hP 0 rfl rfl 33 (by decide) (hts _ dn_w_891) (fun _ h9 => h9) rfl dn_d_Mod_trust_40 ?_
    refine lv_if_eq (tgt := 48) hx hb dn_d_Mod_trust_43 (by decide) (fun h43 => ?_) (fun h43 => ?_)
    · exact absurd h43 (by decide)
    · -- 43: ¬ 1 = 0
      refine lv_iconst (v := 0) hx hb dn_d_Mod_trust_46 (by decide) ?_
      have hk9 : dc_trT mm ee9 sk = 1 := by unfold dc_trT; rw [if_neg (fun z9 => z9.1 h3)]
      have hz9 : decide (dc_trT mm ee9 sk = 0) = false := by rw [hk9]; decide
      have hP9 := hP.sub (ws' := [(mo, .inr (9, [.ref mf, .ref m1, .ref m2, .int (dc_bI so), .long se, .long sm, .long sc, .int (dc_dn sv), .int (dc_bI ak), .long cw, .int dn, .int (nI an), .ref m3, .ref m4, .ref m5, .int (nI sk), .ref m6, .ref m7, .ref m8, .ref m9, .int (nI t), .ref ma, .ref mb, .ref mc, .long ee, .long em, .long ec, .ref mg, .ref mz, .int (dc_bI gn), .int c, .ref mr, .ref mi, .int 1])), (m6, .inl (cA 1, 4, .inr (.inl fn))), (m7, .inl (cA 0, 4, .inl fo)), (m8, .inl (cA 0, 4, .inl fe))]) [0, 1, 2, 3] rfl
      have hD9 := hD.sub (ws' := [(mo, .inr (9, [.ref mf, .ref m1, .ref m2, .int (dc_bI so), .long se, .long sm, .long sc, .int (dc_dn sv), .int (dc_bI ak), .long cw, .int dn, .int (nI an), .ref m3, .ref m4, .ref m5, .int (nI sk), .ref m6, .ref m7, .ref m8, .ref m9, .int (nI t), .ref ma, .ref mb, .ref mc, .long ee, .long em, .long ec, .ref mg, .ref mz, .int (dc_bI gn), .int c, .ref mr, .ref mi, .int 1])), (m6, .inl (cA 1, 4, .inr (.inl fn))), (m7, .inl (cA 0, 4, .inl fo)), (m8, .inl (cA 0, 4, .inl fe))]) [0, 1, 2, 3] (by decide) rfl
      have hE9 : ([(mo, .inr (9, [.ref mf, .ref m1, .ref m2, .int (dc_bI so), .long se, .long sm, .long sc, .int (dc_dn sv), .int (dc_bI ak), .long cw, .int dn, .int (nI an), .ref m3, .ref m4, .ref m5, .int (nI sk), .ref m6, .ref m7, .ref m8, .ref m9, .int (nI t), .ref ma, .ref mb, .ref mc, .long ee, .long em, .long ec, .ref mg, .ref mz, .int (dc_bI gn), .int c, .ref mr, .ref mi, .int 1])), (m6, .inl (cA 1, 4, .inr (.inl fn))), (m7, .inl (cA 0, 4, .inl fo)), (m8, .inl (cA 0, 4, .inl fe))] : va_W) = [(mo, .inr (9, [.ref mf, .ref m1, .ref m2, .int (dc_bI so), .long se, .long sm, .long sc, .int (dc_dn sv), .int (dc_bI ak), .long cw, .int dn, .int (nI an), .ref m3, .ref m4, .ref m5, .int (nI (dc_sel (decide (dc_trT mm ee9 sk = 0)) (sk + 1) sk)), .ref m6, .ref m7, .ref m8, .ref m9, .int (nI t), .ref ma, .ref mb, .ref mc, .long ee, .long em, .long ec, .ref mg, .ref mz, .int (dc_bI gn), .int c, .ref mr, .ref mi, .int (dc_trT mm ee9 sk)])), (m6, .inl (cA 1, 4, .inr (.inl (dc_sel (decide (dc_trT mm ee9 sk = 0)) (vp_updL fn sk x) fn)))), (m7, .inl (cA 0, 4, .inl (dc_sel (decide (dc_trT mm ee9 sk = 0)) (upd fo sk mm) fo))), (m8, .inl (cA 0, 4, .inl (dc_sel (decide (dc_trT mm ee9 sk = 0)) (upd fe sk ee9) fe)))] := by rw [hz9, hk9]; rfl
      rw [hE9] at hP9 hD9
      exact W.iret (v := 0) hx hb hr (fun t ht hW => ⟨⟨_, (), rfl, (by rw [hz9]; rfl), by rw [ht]; exact hP9, hD9⟩, hS.F ht⟩) hS.2.2 dn_d_Mod_trust_47
  · -- 3: ¬ mm < 2
    refine lv_iload hx hb dn_d_Mod_trust_6 (lv_at hl 3 rfl) ?_
    refine lv_iconst (v := 1) hx hb dn_d_Mod_trust_8 (by decide) ?_
    refine lv_icmp_lt (tgt := 19) hx hb dn_d_Mod_trust_9 (by decide) (fun h9 => ?_) (fun h9 => ?_)
    · -- 9: ee9 < 1
      refine lv_iconst (v := 1) hx hb dn_d_Mod_trust_19 (by decide) ?_
      refine lv_goto (tgt := 36) hx hb dn_d_Mod_trust_20 (by decide) ?_
      refine va_put (D := G) (ci := 9) (v := .int 1) (ty := (.int)) (C := dn_R_Mod) (T := dn_T_Mod) (N := 34) hx hb hts (dn_u_Mod) dn_t_Mod dn_o_Mod dn_n_Mod hown hK hP hD hS 0 rfl rfl 33 (by decide) (hts _ dn_w_891) (fun _ h9 => h9) rfl (by decide +kernel) rfl rfl (Nat.le_of_ble_eq_true rfl) dn_d_Mod_trust_36 (fun H locs hP hD hS => ?_)
      have hP : va_P G vwCl [(mo, .inr (9, [.ref mf, .ref m1, .ref m2, .int (dc_bI so), .long se, .long sm, .long sc, .int (dc_dn sv), .int (dc_bI ak), .long cw, .int dn, .int (nI an), .ref m3, .ref m4, .ref m5, .int (nI sk), .ref m6, .ref m7, .ref m8, .ref m9, .int (nI t), .ref ma, .ref mb, .ref mc, .long ee, .long em, .long ec, .ref mg, .ref mz, .int (dc_bI gn), .int c, .ref mr, .ref mi, .int 1])), (m6, .inl (cA 1, 4, .inr (.inl fn))), (m7, .inl (cA 0, 4, .inl fo)), (m8, .inl (cA 0, 4, .inl fe))] H := hP
      have hD : va_D A [(mo, .inr (9, [.ref mf, .ref m1, .ref m2, .int (dc_bI so), .long se, .long sm, .long sc, .int (dc_dn sv), .int (dc_bI ak), .long cw, .int dn, .int (nI an), .ref m3, .ref m4, .ref m5, .int (nI sk), .ref m6, .ref m7, .ref m8, .ref m9, .int (nI t), .ref ma, .ref mb, .ref mc, .long ee, .long em, .long ec, .ref mg, .ref mz, .int (dc_bI gn), .int c, .ref mr, .ref mi, .int 1])), (m6, .inl (cA 1, 4, .inr (.inl fn))), (m7, .inl (cA 0, 4, .inl fo)), (m8, .inl (cA 0, 4, .inl fe))] := hD
      refine lv_aload_n hx hb dn_d_Mod_trust_39 rfl (lv_at hl 0 rfl) ?_
      refine va_get (D := G) (ci := 9) (v := .int 1) (C := dn_R_Mod) (T := dn_T_Mod) (N := 34) hx hb hts (dn_u_Mod) hown hK hP 0 rfl rfl 33 (by decide) (hts _ dn_w_891) (fun _ h9 => h9) rfl dn_d_Mod_trust_40 ?_
      refine lv_if_eq (tgt := 48) hx hb dn_d_Mod_trust_43 (by decide) (fun h43 => ?_) (fun h43 => ?_)
      · exact absurd h43 (by decide)
      · -- 43: ¬ 1 = 0
        refine lv_iconst (v := 0) hx hb dn_d_Mod_trust_46 (by decide) ?_
        have hk9 : dc_trT mm ee9 sk = 1 := by unfold dc_trT; rw [if_neg (fun z9 => z9.2.1 h9)]
        have hz9 : decide (dc_trT mm ee9 sk = 0) = false := by rw [hk9]; decide
        have hP9 := hP.sub (ws' := [(mo, .inr (9, [.ref mf, .ref m1, .ref m2, .int (dc_bI so), .long se, .long sm, .long sc, .int (dc_dn sv), .int (dc_bI ak), .long cw, .int dn, .int (nI an), .ref m3, .ref m4, .ref m5, .int (nI sk), .ref m6, .ref m7, .ref m8, .ref m9, .int (nI t), .ref ma, .ref mb, .ref mc, .long ee, .long em, .long ec, .ref mg, .ref mz, .int (dc_bI gn), .int c, .ref mr, .ref mi, .int 1])), (m6, .inl (cA 1, 4, .inr (.inl fn))), (m7, .inl (cA 0, 4, .inl fo)), (m8, .inl (cA 0, 4, .inl fe))]) [0, 1, 2, 3] rfl
        have hD9 := hD.sub (ws' := [(mo, .inr (9, [.ref mf, .ref m1, .ref m2, .int (dc_bI so), .long se, .long sm, .long sc, .int (dc_dn sv), .int (dc_bI ak), .long cw, .int dn, .int (nI an), .ref m3, .ref m4, .ref m5, .int (nI sk), .ref m6, .ref m7, .ref m8, .ref m9, .int (nI t), .ref ma, .ref mb, .ref mc, .long ee, .long em, .long ec, .ref mg, .ref mz, .int (dc_bI gn), .int c, .ref mr, .ref mi, .int 1])), (m6, .inl (cA 1, 4, .inr (.inl fn))), (m7, .inl (cA 0, 4, .inl fo)), (m8, .inl (cA 0, 4, .inl fe))]) [0, 1, 2, 3] (by decide) rfl
        have hE9 : ([(mo, .inr (9, [.ref mf, .ref m1, .ref m2, .int (dc_bI so), .long se, .long sm, .long sc, .int (dc_dn sv), .int (dc_bI ak), .long cw, .int dn, .int (nI an), .ref m3, .ref m4, .ref m5, .int (nI sk), .ref m6, .ref m7, .ref m8, .ref m9, .int (nI t), .ref ma, .ref mb, .ref mc, .long ee, .long em, .long ec, .ref mg, .ref mz, .int (dc_bI gn), .int c, .ref mr, .ref mi, .int 1])), (m6, .inl (cA 1, 4, .inr (.inl fn))), (m7, .inl (cA 0, 4, .inl fo)), (m8, .inl (cA 0, 4, .inl fe))] : va_W) = [(mo, .inr (9, [.ref mf, .ref m1, .ref m2, .int (dc_bI so), .long se, .long sm, .long sc, .int (dc_dn sv), .int (dc_bI ak), .long cw, .int dn, .int (nI an), .ref m3, .ref m4, .ref m5, .int (nI (dc_sel (decide (dc_trT mm ee9 sk = 0)) (sk + 1) sk)), .ref m6, .ref m7, .ref m8, .ref m9, .int (nI t), .ref ma, .ref mb, .ref mc, .long ee, .long em, .long ec, .ref mg, .ref mz, .int (dc_bI gn), .int c, .ref mr, .ref mi, .int (dc_trT mm ee9 sk)])), (m6, .inl (cA 1, 4, .inr (.inl (dc_sel (decide (dc_trT mm ee9 sk = 0)) (vp_updL fn sk x) fn)))), (m7, .inl (cA 0, 4, .inl (dc_sel (decide (dc_trT mm ee9 sk = 0)) (upd fo sk mm) fo))), (m8, .inl (cA 0, 4, .inl (dc_sel (decide (dc_trT mm ee9 sk = 0)) (upd fe sk ee9) fe)))] := by rw [hz9, hk9]; rfl
        rw [hE9] at hP9 hD9
        exact W.iret (v := 0) hx hb hr (fun t ht hW => ⟨⟨_, (), rfl, (by rw [hz9]; rfl), by rw [ht]; exact hP9, hD9⟩, hS.F ht⟩) hS.2.2 dn_d_Mod_trust_47
    · -- 9: ¬ ee9 < 1
      refine lv_iload hx hb dn_d_Mod_trust_12 (lv_at hl 3 rfl) ?_
      refine lv_ldc (v := 65537) hx hb hown (hts _ dn_w_1026) dn_d_Mod_trust_14 ?_
      refine lv_icmp_le (tgt := 23) hx hb dn_d_Mod_trust_16 (by decide) (fun h16 => ?_) (fun h16 => ?_)
      · -- 16: ee9 ≤ 65537
        refine lv_aload_n hx hb dn_d_Mod_trust_23 rfl (lv_at hl 0 rfl) ?_
        refine va_get (D := G) (ci := 9) (v := .int (nI sk)) (C := dn_R_Mod) (T := dn_T_Mod) (N := 34) hx hb hts (dn_u_Mod) hown hK hP 0 rfl rfl 15 (by decide) (hts _ dn_w_873) (fun _ h9 => h9) rfl dn_d_Mod_trust_24 ?_
        refine lv_iconst (v := 4) hx hb dn_d_Mod_trust_27 (by decide) ?_
        refine lv_icmp_ne (tgt := 35) hx hb dn_d_Mod_trust_28 (by decide) (fun h28 => ?_) (fun h28 => ?_)
        · -- 28: ¬ sk = 4
          have h28 : ¬ sk = 4 := fun z => h28 ((nI_eq (a := sk) (b := 4) (by omega) (by omega)).2 z)
          refine lv_iconst (v := 0) hx hb dn_d_Mod_trust_35 (by decide) ?_
          refine va_put (D := G) (ci := 9) (v := .int 0) (ty := (.int)) (C := dn_R_Mod) (T := dn_T_Mod) (N := 34) hx hb hts (dn_u_Mod) dn_t_Mod dn_o_Mod dn_n_Mod hown hK hP hD hS 0 rfl rfl 33 (by decide) (hts _ dn_w_891) (fun _ h9 => h9) rfl (by decide +kernel) rfl rfl (Nat.le_of_ble_eq_true rfl) dn_d_Mod_trust_36 (fun H locs hP hD hS => ?_)
          have hP : va_P G vwCl [(mo, .inr (9, [.ref mf, .ref m1, .ref m2, .int (dc_bI so), .long se, .long sm, .long sc, .int (dc_dn sv), .int (dc_bI ak), .long cw, .int dn, .int (nI an), .ref m3, .ref m4, .ref m5, .int (nI sk), .ref m6, .ref m7, .ref m8, .ref m9, .int (nI t), .ref ma, .ref mb, .ref mc, .long ee, .long em, .long ec, .ref mg, .ref mz, .int (dc_bI gn), .int c, .ref mr, .ref mi, .int 0])), (m6, .inl (cA 1, 4, .inr (.inl fn))), (m7, .inl (cA 0, 4, .inl fo)), (m8, .inl (cA 0, 4, .inl fe))] H := hP
          have hD : va_D A [(mo, .inr (9, [.ref mf, .ref m1, .ref m2, .int (dc_bI so), .long se, .long sm, .long sc, .int (dc_dn sv), .int (dc_bI ak), .long cw, .int dn, .int (nI an), .ref m3, .ref m4, .ref m5, .int (nI sk), .ref m6, .ref m7, .ref m8, .ref m9, .int (nI t), .ref ma, .ref mb, .ref mc, .long ee, .long em, .long ec, .ref mg, .ref mz, .int (dc_bI gn), .int c, .ref mr, .ref mi, .int 0])), (m6, .inl (cA 1, 4, .inr (.inl fn))), (m7, .inl (cA 0, 4, .inl fo)), (m8, .inl (cA 0, 4, .inl fe))] := hD
          refine lv_aload_n hx hb dn_d_Mod_trust_39 rfl (lv_at hl 0 rfl) ?_
          refine va_get (D := G) (ci := 9) (v := .int 0) (C := dn_R_Mod) (T := dn_T_Mod) (N := 34) hx hb hts (dn_u_Mod) hown hK hP 0 rfl rfl 33 (by decide) (hts _ dn_w_891) (fun _ h9 => h9) rfl dn_d_Mod_trust_40 ?_
          refine lv_if_eq (tgt := 48) hx hb dn_d_Mod_trust_43 (by decide) (fun h43 => ?_) (fun h43 => ?_)
          · -- 43: 0 = 0
            refine lv_aload_n hx hb dn_d_Mod_trust_48 rfl (lv_at hl 0 rfl) ?_
            refine va_get (D := G) (ci := 9) (v := .ref m6) (C := dn_R_Mod) (T := dn_T_Mod) (N := 34) hx hb hts (dn_u_Mod) hown hK hP 0 rfl rfl 16 (by decide) (hts _ dn_w_874) (fun _ h9 => h9) rfl dn_d_Mod_trust_49 ?_
            refine lv_aload_n hx hb dn_d_Mod_trust_52 rfl (lv_at hl 0 rfl) ?_
            refine va_get (D := G) (ci := 9) (v := .int (nI sk)) (C := dn_R_Mod) (T := dn_T_Mod) (N := 34) hx hb hts (dn_u_Mod) hown hK hP 0 rfl rfl 15 (by decide) (hts _ dn_w_873) (fun _ h9 => h9) rfl dn_d_Mod_trust_53 ?_
            refine lv_lload_n hx hb dn_d_Mod_trust_56 rfl (lv_at hl 1 rfl) ?_
            refine dc_last (k := sk) hx hb hK hP hD hS 1 rfl (by omega) (by omega) dn_d_Mod_trust_57 (fun H locs hP hD hS => ?_)
            have hP : va_P G vwCl [(mo, .inr (9, [.ref mf, .ref m1, .ref m2, .int (dc_bI so), .long se, .long sm, .long sc, .int (dc_dn sv), .int (dc_bI ak), .long cw, .int dn, .int (nI an), .ref m3, .ref m4, .ref m5, .int (nI sk), .ref m6, .ref m7, .ref m8, .ref m9, .int (nI t), .ref ma, .ref mb, .ref mc, .long ee, .long em, .long ec, .ref mg, .ref mz, .int (dc_bI gn), .int c, .ref mr, .ref mi, .int 0])), (m6, .inl (cA 1, 4, .inr (.inl (vp_updL fn sk x)))), (m7, .inl (cA 0, 4, .inl fo)), (m8, .inl (cA 0, 4, .inl fe))] H := hP
            have hD : va_D A [(mo, .inr (9, [.ref mf, .ref m1, .ref m2, .int (dc_bI so), .long se, .long sm, .long sc, .int (dc_dn sv), .int (dc_bI ak), .long cw, .int dn, .int (nI an), .ref m3, .ref m4, .ref m5, .int (nI sk), .ref m6, .ref m7, .ref m8, .ref m9, .int (nI t), .ref ma, .ref mb, .ref mc, .long ee, .long em, .long ec, .ref mg, .ref mz, .int (dc_bI gn), .int c, .ref mr, .ref mi, .int 0])), (m6, .inl (cA 1, 4, .inr (.inl (vp_updL fn sk x)))), (m7, .inl (cA 0, 4, .inl fo)), (m8, .inl (cA 0, 4, .inl fe))] := hD
            refine lv_aload_n hx hb dn_d_Mod_trust_58 rfl (lv_at hl 0 rfl) ?_
            refine va_get (D := G) (ci := 9) (v := .ref m7) (C := dn_R_Mod) (T := dn_T_Mod) (N := 34) hx hb hts (dn_u_Mod) hown hK hP 0 rfl rfl 17 (by decide) (hts _ dn_w_875) (fun _ h9 => h9) rfl dn_d_Mod_trust_59 ?_
            refine lv_aload_n hx hb dn_d_Mod_trust_62 rfl (lv_at hl 0 rfl) ?_
            refine va_get (D := G) (ci := 9) (v := .int (nI sk)) (C := dn_R_Mod) (T := dn_T_Mod) (N := 34) hx hb hts (dn_u_Mod) hown hK hP 0 rfl rfl 15 (by decide) (hts _ dn_w_873) (fun _ h9 => h9) rfl dn_d_Mod_trust_63 ?_
            refine lv_iload_n hx hb dn_d_Mod_trust_66 rfl (lv_at hl 2 rfl) ?_
            refine dc_iast (k := sk) hx hb hK hP hD hS 2 rfl (by omega) (by omega) dn_d_Mod_trust_67 (fun H locs hP hD hS => ?_)
            have hP : va_P G vwCl [(mo, .inr (9, [.ref mf, .ref m1, .ref m2, .int (dc_bI so), .long se, .long sm, .long sc, .int (dc_dn sv), .int (dc_bI ak), .long cw, .int dn, .int (nI an), .ref m3, .ref m4, .ref m5, .int (nI sk), .ref m6, .ref m7, .ref m8, .ref m9, .int (nI t), .ref ma, .ref mb, .ref mc, .long ee, .long em, .long ec, .ref mg, .ref mz, .int (dc_bI gn), .int c, .ref mr, .ref mi, .int 0])), (m6, .inl (cA 1, 4, .inr (.inl (vp_updL fn sk x)))), (m7, .inl (cA 0, 4, .inl (upd fo sk mm))), (m8, .inl (cA 0, 4, .inl fe))] H := hP
            have hD : va_D A [(mo, .inr (9, [.ref mf, .ref m1, .ref m2, .int (dc_bI so), .long se, .long sm, .long sc, .int (dc_dn sv), .int (dc_bI ak), .long cw, .int dn, .int (nI an), .ref m3, .ref m4, .ref m5, .int (nI sk), .ref m6, .ref m7, .ref m8, .ref m9, .int (nI t), .ref ma, .ref mb, .ref mc, .long ee, .long em, .long ec, .ref mg, .ref mz, .int (dc_bI gn), .int c, .ref mr, .ref mi, .int 0])), (m6, .inl (cA 1, 4, .inr (.inl (vp_updL fn sk x)))), (m7, .inl (cA 0, 4, .inl (upd fo sk mm))), (m8, .inl (cA 0, 4, .inl fe))] := hD
            refine lv_aload_n hx hb dn_d_Mod_trust_68 rfl (lv_at hl 0 rfl) ?_
            refine va_get (D := G) (ci := 9) (v := .ref m8) (C := dn_R_Mod) (T := dn_T_Mod) (N := 34) hx hb hts (dn_u_Mod) hown hK hP 0 rfl rfl 18 (by decide) (hts _ dn_w_876) (fun _ h9 => h9) rfl dn_d_Mod_trust_69 ?_
            refine lv_aload_n hx hb dn_d_Mod_trust_72 rfl (lv_at hl 0 rfl) ?_
            refine va_get (D := G) (ci := 9) (v := .int (nI sk)) (C := dn_R_Mod) (T := dn_T_Mod) (N := 34) hx hb hts (dn_u_Mod) hown hK hP 0 rfl rfl 15 (by decide) (hts _ dn_w_873) (fun _ h9 => h9) rfl dn_d_Mod_trust_73 ?_
            refine lv_iload hx hb dn_d_Mod_trust_76 (lv_at hl 3 rfl) ?_
            refine dc_iast (k := sk) hx hb hK hP hD hS 3 rfl (by omega) (by omega) dn_d_Mod_trust_78 (fun H locs hP hD hS => ?_)
            have hP : va_P G vwCl [(mo, .inr (9, [.ref mf, .ref m1, .ref m2, .int (dc_bI so), .long se, .long sm, .long sc, .int (dc_dn sv), .int (dc_bI ak), .long cw, .int dn, .int (nI an), .ref m3, .ref m4, .ref m5, .int (nI sk), .ref m6, .ref m7, .ref m8, .ref m9, .int (nI t), .ref ma, .ref mb, .ref mc, .long ee, .long em, .long ec, .ref mg, .ref mz, .int (dc_bI gn), .int c, .ref mr, .ref mi, .int 0])), (m6, .inl (cA 1, 4, .inr (.inl (vp_updL fn sk x)))), (m7, .inl (cA 0, 4, .inl (upd fo sk mm))), (m8, .inl (cA 0, 4, .inl (upd fe sk ee9)))] H := hP
            have hD : va_D A [(mo, .inr (9, [.ref mf, .ref m1, .ref m2, .int (dc_bI so), .long se, .long sm, .long sc, .int (dc_dn sv), .int (dc_bI ak), .long cw, .int dn, .int (nI an), .ref m3, .ref m4, .ref m5, .int (nI sk), .ref m6, .ref m7, .ref m8, .ref m9, .int (nI t), .ref ma, .ref mb, .ref mc, .long ee, .long em, .long ec, .ref mg, .ref mz, .int (dc_bI gn), .int c, .ref mr, .ref mi, .int 0])), (m6, .inl (cA 1, 4, .inr (.inl (vp_updL fn sk x)))), (m7, .inl (cA 0, 4, .inl (upd fo sk mm))), (m8, .inl (cA 0, 4, .inl (upd fe sk ee9)))] := hD
            refine lv_aload_n hx hb dn_d_Mod_trust_79 rfl (lv_at hl 0 rfl) ?_
            refine lv_dup hx hb dn_d_Mod_trust_80 rfl ?_
            refine va_get (D := G) (ci := 9) (v := .int (nI sk)) (C := dn_R_Mod) (T := dn_T_Mod) (N := 34) hx hb hts (dn_u_Mod) hown hK hP 0 rfl rfl 15 (by decide) (hts _ dn_w_873) (fun _ h9 => h9) rfl dn_d_Mod_trust_81 ?_
            refine lv_iconst (v := 1) hx hb dn_d_Mod_trust_84 (by decide) ?_
            refine lv_iadd hx hb dn_d_Mod_trust_85 ?_
            rw [show (nI sk) + (1 : Int32) = nI (sk + 1) from nI_add sk 1]
            refine va_put (D := G) (ci := 9) (v := .int (nI (sk + 1))) (ty := (.int)) (C := dn_R_Mod) (T := dn_T_Mod) (N := 34) hx hb hts (dn_u_Mod) dn_t_Mod dn_o_Mod dn_n_Mod hown hK hP hD hS 0 rfl rfl 15 (by decide) (hts _ dn_w_873) (fun _ h9 => h9) rfl (by decide +kernel) rfl rfl (Nat.le_of_ble_eq_true rfl) dn_d_Mod_trust_86 (fun H locs hP hD hS => ?_)
            have hP : va_P G vwCl [(mo, .inr (9, [.ref mf, .ref m1, .ref m2, .int (dc_bI so), .long se, .long sm, .long sc, .int (dc_dn sv), .int (dc_bI ak), .long cw, .int dn, .int (nI an), .ref m3, .ref m4, .ref m5, .int (nI (sk + 1)), .ref m6, .ref m7, .ref m8, .ref m9, .int (nI t), .ref ma, .ref mb, .ref mc, .long ee, .long em, .long ec, .ref mg, .ref mz, .int (dc_bI gn), .int c, .ref mr, .ref mi, .int 0])), (m6, .inl (cA 1, 4, .inr (.inl (vp_updL fn sk x)))), (m7, .inl (cA 0, 4, .inl (upd fo sk mm))), (m8, .inl (cA 0, 4, .inl (upd fe sk ee9)))] H := hP
            have hD : va_D A [(mo, .inr (9, [.ref mf, .ref m1, .ref m2, .int (dc_bI so), .long se, .long sm, .long sc, .int (dc_dn sv), .int (dc_bI ak), .long cw, .int dn, .int (nI an), .ref m3, .ref m4, .ref m5, .int (nI (sk + 1)), .ref m6, .ref m7, .ref m8, .ref m9, .int (nI t), .ref ma, .ref mb, .ref mc, .long ee, .long em, .long ec, .ref mg, .ref mz, .int (dc_bI gn), .int c, .ref mr, .ref mi, .int 0])), (m6, .inl (cA 1, 4, .inr (.inl (vp_updL fn sk x)))), (m7, .inl (cA 0, 4, .inl (upd fo sk mm))), (m8, .inl (cA 0, 4, .inl (upd fe sk ee9)))] := hD
            refine lv_aload_n hx hb dn_d_Mod_trust_89 rfl (lv_at hl 0 rfl) ?_
            refine va_get (D := G) (ci := 9) (v := .int (nI (sk + 1))) (C := dn_R_Mod) (T := dn_T_Mod) (N := 34) hx hb hts (dn_u_Mod) hown hK hP 0 rfl rfl 15 (by decide) (hts _ dn_w_873) (fun _ h9 => h9) rfl dn_d_Mod_trust_90 ?_
            have hk9 : dc_trT mm ee9 sk = 0 := by unfold dc_trT; rw [if_pos ⟨h3, h9, h16⟩, if_neg h28]
            have hz9 : decide (dc_trT mm ee9 sk = 0) = true := by rw [hk9]; decide
            have hP9 := hP.sub (ws' := [(mo, .inr (9, [.ref mf, .ref m1, .ref m2, .int (dc_bI so), .long se, .long sm, .long sc, .int (dc_dn sv), .int (dc_bI ak), .long cw, .int dn, .int (nI an), .ref m3, .ref m4, .ref m5, .int (nI (sk + 1)), .ref m6, .ref m7, .ref m8, .ref m9, .int (nI t), .ref ma, .ref mb, .ref mc, .long ee, .long em, .long ec, .ref mg, .ref mz, .int (dc_bI gn), .int c, .ref mr, .ref mi, .int 0])), (m6, .inl (cA 1, 4, .inr (.inl (vp_updL fn sk x)))), (m7, .inl (cA 0, 4, .inl (upd fo sk mm))), (m8, .inl (cA 0, 4, .inl (upd fe sk ee9)))]) [0, 1, 2, 3] rfl
            have hD9 := hD.sub (ws' := [(mo, .inr (9, [.ref mf, .ref m1, .ref m2, .int (dc_bI so), .long se, .long sm, .long sc, .int (dc_dn sv), .int (dc_bI ak), .long cw, .int dn, .int (nI an), .ref m3, .ref m4, .ref m5, .int (nI (sk + 1)), .ref m6, .ref m7, .ref m8, .ref m9, .int (nI t), .ref ma, .ref mb, .ref mc, .long ee, .long em, .long ec, .ref mg, .ref mz, .int (dc_bI gn), .int c, .ref mr, .ref mi, .int 0])), (m6, .inl (cA 1, 4, .inr (.inl (vp_updL fn sk x)))), (m7, .inl (cA 0, 4, .inl (upd fo sk mm))), (m8, .inl (cA 0, 4, .inl (upd fe sk ee9)))]) [0, 1, 2, 3] (by decide) rfl
            have hE9 : ([(mo, .inr (9, [.ref mf, .ref m1, .ref m2, .int (dc_bI so), .long se, .long sm, .long sc, .int (dc_dn sv), .int (dc_bI ak), .long cw, .int dn, .int (nI an), .ref m3, .ref m4, .ref m5, .int (nI (sk + 1)), .ref m6, .ref m7, .ref m8, .ref m9, .int (nI t), .ref ma, .ref mb, .ref mc, .long ee, .long em, .long ec, .ref mg, .ref mz, .int (dc_bI gn), .int c, .ref mr, .ref mi, .int 0])), (m6, .inl (cA 1, 4, .inr (.inl (vp_updL fn sk x)))), (m7, .inl (cA 0, 4, .inl (upd fo sk mm))), (m8, .inl (cA 0, 4, .inl (upd fe sk ee9)))] : va_W) = [(mo, .inr (9, [.ref mf, .ref m1, .ref m2, .int (dc_bI so), .long se, .long sm, .long sc, .int (dc_dn sv), .int (dc_bI ak), .long cw, .int dn, .int (nI an), .ref m3, .ref m4, .ref m5, .int (nI (dc_sel (decide (dc_trT mm ee9 sk = 0)) (sk + 1) sk)), .ref m6, .ref m7, .ref m8, .ref m9, .int (nI t), .ref ma, .ref mb, .ref mc, .long ee, .long em, .long ec, .ref mg, .ref mz, .int (dc_bI gn), .int c, .ref mr, .ref mi, .int (dc_trT mm ee9 sk)])), (m6, .inl (cA 1, 4, .inr (.inl (dc_sel (decide (dc_trT mm ee9 sk = 0)) (vp_updL fn sk x) fn)))), (m7, .inl (cA 0, 4, .inl (dc_sel (decide (dc_trT mm ee9 sk = 0)) (upd fo sk mm) fo))), (m8, .inl (cA 0, 4, .inl (dc_sel (decide (dc_trT mm ee9 sk = 0)) (upd fe sk ee9) fe)))] := by rw [hz9, hk9]; rfl
            rw [hE9] at hP9 hD9
            exact W.iret (v := (nI (sk + 1))) hx hb hr (fun t ht hW => ⟨⟨_, (), rfl, (by rw [hz9]; rfl), by rw [ht]; exact hP9, hD9⟩, hS.F ht⟩) hS.2.2 dn_d_Mod_trust_93
          · exact absurd h43 (by decide)
        · -- 28: sk = 4
          have h28 : sk = 4 := (nI_eq (a := sk) (b := 4) (by omega) (by omega)).1 h28
          refine lv_iconst (v := 2) hx hb dn_d_Mod_trust_31 (by decide) ?_
          refine lv_goto (tgt := 36) hx hb dn_d_Mod_trust_32 (by decide) ?_
          refine va_put (D := G) (ci := 9) (v := .int 2) (ty := (.int)) (C := dn_R_Mod) (T := dn_T_Mod) (N := 34) hx hb hts (dn_u_Mod) dn_t_Mod dn_o_Mod dn_n_Mod hown hK hP hD hS 0 rfl rfl 33 (by decide) (hts _ dn_w_891) (fun _ h9 => h9) rfl (by decide +kernel) rfl rfl (Nat.le_of_ble_eq_true rfl) dn_d_Mod_trust_36 (fun H locs hP hD hS => ?_)
          have hP : va_P G vwCl [(mo, .inr (9, [.ref mf, .ref m1, .ref m2, .int (dc_bI so), .long se, .long sm, .long sc, .int (dc_dn sv), .int (dc_bI ak), .long cw, .int dn, .int (nI an), .ref m3, .ref m4, .ref m5, .int (nI sk), .ref m6, .ref m7, .ref m8, .ref m9, .int (nI t), .ref ma, .ref mb, .ref mc, .long ee, .long em, .long ec, .ref mg, .ref mz, .int (dc_bI gn), .int c, .ref mr, .ref mi, .int 2])), (m6, .inl (cA 1, 4, .inr (.inl fn))), (m7, .inl (cA 0, 4, .inl fo)), (m8, .inl (cA 0, 4, .inl fe))] H := hP
          have hD : va_D A [(mo, .inr (9, [.ref mf, .ref m1, .ref m2, .int (dc_bI so), .long se, .long sm, .long sc, .int (dc_dn sv), .int (dc_bI ak), .long cw, .int dn, .int (nI an), .ref m3, .ref m4, .ref m5, .int (nI sk), .ref m6, .ref m7, .ref m8, .ref m9, .int (nI t), .ref ma, .ref mb, .ref mc, .long ee, .long em, .long ec, .ref mg, .ref mz, .int (dc_bI gn), .int c, .ref mr, .ref mi, .int 2])), (m6, .inl (cA 1, 4, .inr (.inl fn))), (m7, .inl (cA 0, 4, .inl fo)), (m8, .inl (cA 0, 4, .inl fe))] := hD
          refine lv_aload_n hx hb dn_d_Mod_trust_39 rfl (lv_at hl 0 rfl) ?_
          refine va_get (D := G) (ci := 9) (v := .int 2) (C := dn_R_Mod) (T := dn_T_Mod) (N := 34) hx hb hts (dn_u_Mod) hown hK hP 0 rfl rfl 33 (by decide) (hts _ dn_w_891) (fun _ h9 => h9) rfl dn_d_Mod_trust_40 ?_
          refine lv_if_eq (tgt := 48) hx hb dn_d_Mod_trust_43 (by decide) (fun h43 => ?_) (fun h43 => ?_)
          · exact absurd h43 (by decide)
          · -- 43: ¬ 2 = 0
            refine lv_iconst (v := 0) hx hb dn_d_Mod_trust_46 (by decide) ?_
            have hk9 : dc_trT mm ee9 sk = 2 := by unfold dc_trT; rw [if_pos ⟨h3, h9, h16⟩, if_pos h28]
            have hz9 : decide (dc_trT mm ee9 sk = 0) = false := by rw [hk9]; decide
            have hP9 := hP.sub (ws' := [(mo, .inr (9, [.ref mf, .ref m1, .ref m2, .int (dc_bI so), .long se, .long sm, .long sc, .int (dc_dn sv), .int (dc_bI ak), .long cw, .int dn, .int (nI an), .ref m3, .ref m4, .ref m5, .int (nI sk), .ref m6, .ref m7, .ref m8, .ref m9, .int (nI t), .ref ma, .ref mb, .ref mc, .long ee, .long em, .long ec, .ref mg, .ref mz, .int (dc_bI gn), .int c, .ref mr, .ref mi, .int 2])), (m6, .inl (cA 1, 4, .inr (.inl fn))), (m7, .inl (cA 0, 4, .inl fo)), (m8, .inl (cA 0, 4, .inl fe))]) [0, 1, 2, 3] rfl
            have hD9 := hD.sub (ws' := [(mo, .inr (9, [.ref mf, .ref m1, .ref m2, .int (dc_bI so), .long se, .long sm, .long sc, .int (dc_dn sv), .int (dc_bI ak), .long cw, .int dn, .int (nI an), .ref m3, .ref m4, .ref m5, .int (nI sk), .ref m6, .ref m7, .ref m8, .ref m9, .int (nI t), .ref ma, .ref mb, .ref mc, .long ee, .long em, .long ec, .ref mg, .ref mz, .int (dc_bI gn), .int c, .ref mr, .ref mi, .int 2])), (m6, .inl (cA 1, 4, .inr (.inl fn))), (m7, .inl (cA 0, 4, .inl fo)), (m8, .inl (cA 0, 4, .inl fe))]) [0, 1, 2, 3] (by decide) rfl
            have hE9 : ([(mo, .inr (9, [.ref mf, .ref m1, .ref m2, .int (dc_bI so), .long se, .long sm, .long sc, .int (dc_dn sv), .int (dc_bI ak), .long cw, .int dn, .int (nI an), .ref m3, .ref m4, .ref m5, .int (nI sk), .ref m6, .ref m7, .ref m8, .ref m9, .int (nI t), .ref ma, .ref mb, .ref mc, .long ee, .long em, .long ec, .ref mg, .ref mz, .int (dc_bI gn), .int c, .ref mr, .ref mi, .int 2])), (m6, .inl (cA 1, 4, .inr (.inl fn))), (m7, .inl (cA 0, 4, .inl fo)), (m8, .inl (cA 0, 4, .inl fe))] : va_W) = [(mo, .inr (9, [.ref mf, .ref m1, .ref m2, .int (dc_bI so), .long se, .long sm, .long sc, .int (dc_dn sv), .int (dc_bI ak), .long cw, .int dn, .int (nI an), .ref m3, .ref m4, .ref m5, .int (nI (dc_sel (decide (dc_trT mm ee9 sk = 0)) (sk + 1) sk)), .ref m6, .ref m7, .ref m8, .ref m9, .int (nI t), .ref ma, .ref mb, .ref mc, .long ee, .long em, .long ec, .ref mg, .ref mz, .int (dc_bI gn), .int c, .ref mr, .ref mi, .int (dc_trT mm ee9 sk)])), (m6, .inl (cA 1, 4, .inr (.inl (dc_sel (decide (dc_trT mm ee9 sk = 0)) (vp_updL fn sk x) fn)))), (m7, .inl (cA 0, 4, .inl (dc_sel (decide (dc_trT mm ee9 sk = 0)) (upd fo sk mm) fo))), (m8, .inl (cA 0, 4, .inl (dc_sel (decide (dc_trT mm ee9 sk = 0)) (upd fe sk ee9) fe)))] := by rw [hz9, hk9]; rfl
            rw [hE9] at hP9 hD9
            exact W.iret (v := 0) hx hb hr (fun t ht hW => ⟨⟨_, (), rfl, (by rw [hz9]; rfl), by rw [ht]; exact hP9, hD9⟩, hS.F ht⟩) hS.2.2 dn_d_Mod_trust_47
      · -- 16: ¬ ee9 ≤ 65537
        refine lv_iconst (v := 1) hx hb dn_d_Mod_trust_19 (by decide) ?_
        refine lv_goto (tgt := 36) hx hb dn_d_Mod_trust_20 (by decide) ?_
        refine va_put (D := G) (ci := 9) (v := .int 1) (ty := (.int)) (C := dn_R_Mod) (T := dn_T_Mod) (N := 34) hx hb hts (dn_u_Mod) dn_t_Mod dn_o_Mod dn_n_Mod hown hK hP hD hS 0 rfl rfl 33 (by decide) (hts _ dn_w_891) (fun _ h9 => h9) rfl (by decide +kernel) rfl rfl (Nat.le_of_ble_eq_true rfl) dn_d_Mod_trust_36 (fun H locs hP hD hS => ?_)
        have hP : va_P G vwCl [(mo, .inr (9, [.ref mf, .ref m1, .ref m2, .int (dc_bI so), .long se, .long sm, .long sc, .int (dc_dn sv), .int (dc_bI ak), .long cw, .int dn, .int (nI an), .ref m3, .ref m4, .ref m5, .int (nI sk), .ref m6, .ref m7, .ref m8, .ref m9, .int (nI t), .ref ma, .ref mb, .ref mc, .long ee, .long em, .long ec, .ref mg, .ref mz, .int (dc_bI gn), .int c, .ref mr, .ref mi, .int 1])), (m6, .inl (cA 1, 4, .inr (.inl fn))), (m7, .inl (cA 0, 4, .inl fo)), (m8, .inl (cA 0, 4, .inl fe))] H := hP
        have hD : va_D A [(mo, .inr (9, [.ref mf, .ref m1, .ref m2, .int (dc_bI so), .long se, .long sm, .long sc, .int (dc_dn sv), .int (dc_bI ak), .long cw, .int dn, .int (nI an), .ref m3, .ref m4, .ref m5, .int (nI sk), .ref m6, .ref m7, .ref m8, .ref m9, .int (nI t), .ref ma, .ref mb, .ref mc, .long ee, .long em, .long ec, .ref mg, .ref mz, .int (dc_bI gn), .int c, .ref mr, .ref mi, .int 1])), (m6, .inl (cA 1, 4, .inr (.inl fn))), (m7, .inl (cA 0, 4, .inl fo)), (m8, .inl (cA 0, 4, .inl fe))] := hD
        refine lv_aload_n hx hb dn_d_Mod_trust_39 rfl (lv_at hl 0 rfl) ?_
        refine va_get (D := G) (ci := 9) (v := .int 1) (C := dn_R_Mod) (T := dn_T_Mod) (N := 34) hx hb hts (dn_u_Mod) hown hK hP 0 rfl rfl 33 (by decide) (hts _ dn_w_891) (fun _ h9 => h9) rfl dn_d_Mod_trust_40 ?_
        refine lv_if_eq (tgt := 48) hx hb dn_d_Mod_trust_43 (by decide) (fun h43 => ?_) (fun h43 => ?_)
        · exact absurd h43 (by decide)
        · -- 43: ¬ 1 = 0
          refine lv_iconst (v := 0) hx hb dn_d_Mod_trust_46 (by decide) ?_
          have hk9 : dc_trT mm ee9 sk = 1 := by unfold dc_trT; rw [if_neg (fun z9 => h16 z9.2.2)]
          have hz9 : decide (dc_trT mm ee9 sk = 0) = false := by rw [hk9]; decide
          have hP9 := hP.sub (ws' := [(mo, .inr (9, [.ref mf, .ref m1, .ref m2, .int (dc_bI so), .long se, .long sm, .long sc, .int (dc_dn sv), .int (dc_bI ak), .long cw, .int dn, .int (nI an), .ref m3, .ref m4, .ref m5, .int (nI sk), .ref m6, .ref m7, .ref m8, .ref m9, .int (nI t), .ref ma, .ref mb, .ref mc, .long ee, .long em, .long ec, .ref mg, .ref mz, .int (dc_bI gn), .int c, .ref mr, .ref mi, .int 1])), (m6, .inl (cA 1, 4, .inr (.inl fn))), (m7, .inl (cA 0, 4, .inl fo)), (m8, .inl (cA 0, 4, .inl fe))]) [0, 1, 2, 3] rfl
          have hD9 := hD.sub (ws' := [(mo, .inr (9, [.ref mf, .ref m1, .ref m2, .int (dc_bI so), .long se, .long sm, .long sc, .int (dc_dn sv), .int (dc_bI ak), .long cw, .int dn, .int (nI an), .ref m3, .ref m4, .ref m5, .int (nI sk), .ref m6, .ref m7, .ref m8, .ref m9, .int (nI t), .ref ma, .ref mb, .ref mc, .long ee, .long em, .long ec, .ref mg, .ref mz, .int (dc_bI gn), .int c, .ref mr, .ref mi, .int 1])), (m6, .inl (cA 1, 4, .inr (.inl fn))), (m7, .inl (cA 0, 4, .inl fo)), (m8, .inl (cA 0, 4, .inl fe))]) [0, 1, 2, 3] (by decide) rfl
          have hE9 : ([(mo, .inr (9, [.ref mf, .ref m1, .ref m2, .int (dc_bI so), .long se, .long sm, .long sc, .int (dc_dn sv), .int (dc_bI ak), .long cw, .int dn, .int (nI an), .ref m3, .ref m4, .ref m5, .int (nI sk), .ref m6, .ref m7, .ref m8, .ref m9, .int (nI t), .ref ma, .ref mb, .ref mc, .long ee, .long em, .long ec, .ref mg, .ref mz, .int (dc_bI gn), .int c, .ref mr, .ref mi, .int 1])), (m6, .inl (cA 1, 4, .inr (.inl fn))), (m7, .inl (cA 0, 4, .inl fo)), (m8, .inl (cA 0, 4, .inl fe))] : va_W) = [(mo, .inr (9, [.ref mf, .ref m1, .ref m2, .int (dc_bI so), .long se, .long sm, .long sc, .int (dc_dn sv), .int (dc_bI ak), .long cw, .int dn, .int (nI an), .ref m3, .ref m4, .ref m5, .int (nI (dc_sel (decide (dc_trT mm ee9 sk = 0)) (sk + 1) sk)), .ref m6, .ref m7, .ref m8, .ref m9, .int (nI t), .ref ma, .ref mb, .ref mc, .long ee, .long em, .long ec, .ref mg, .ref mz, .int (dc_bI gn), .int c, .ref mr, .ref mi, .int (dc_trT mm ee9 sk)])), (m6, .inl (cA 1, 4, .inr (.inl (dc_sel (decide (dc_trT mm ee9 sk = 0)) (vp_updL fn sk x) fn)))), (m7, .inl (cA 0, 4, .inl (dc_sel (decide (dc_trT mm ee9 sk = 0)) (upd fo sk mm) fo))), (m8, .inl (cA 0, 4, .inl (dc_sel (decide (dc_trT mm ee9 sk = 0)) (upd fe sk ee9) fe)))] := by rw [hz9, hk9]; rfl
          rw [hE9] at hP9 hD9
          exact W.iret (v := 0) hx hb hr (fun t ht hW => ⟨⟨_, (), rfl, (by rw [hz9]; rfl), by rw [ht]; exact hP9, hD9⟩, hS.F ht⟩) hS.2.2 dn_d_Mod_trust_47
