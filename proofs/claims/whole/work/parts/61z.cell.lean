theorem ll_cell (l : Launch) (b L : Nat) (xs : Nat → Int32) (k : Nat) (hk : k < 2147483648) (hL : L < 2147483648) : Met l dn_y_Law_cell (.code dn_y_Law_cell dn_c_Law_cell 2 (some .int) :: dc_W) ({ frames := 0, cells := 0, slots := 0, locals := 0 }) (va_Pc [.ref b, .int (nI k)] (fun U => va_X b L xs U U.heap)) (vp_Si (fun r => r = dc_cell xs L k)) 0 0 (fun _ => False) := by
  refine Met.ofW (cc := dn_c_Law_cell) (maxL := 2) (ret := (some .int)) (by decide) rfl ?_
  intro p9 en9 s m args9 below9 meth9 cd9 s9 B hml hv
  obtain ⟨rfl, hX⟩ := hv
  have hx := B.exec
  have hb := B.bytes
  have hr := B.returns
  have hlocks := B.notSynchronized
  have hbl : b < s.heap.size := by
    obtain ⟨scr, h1, -⟩ := hX
    exact (Array.getElem?_eq_some_iff.mp h1).1
  have hS : va_S (fun _ => False) s.heap s.heap [] := va_S.rf
  have hl := lv_entry ([.ref b, .int (nI k)]) (n := 2) (Nat.le_of_ble_eq_true rfl)
  rw [lg_entry_eq]
  generalize (lg_sl ([.ref b, .int (nI k)]) ++ List.replicate (2 - (lg_sl ([.ref b, .int (nI k)])).length) Slot.unset).toArray = ls at hl ⊢
  have hl : lv_has ls 2 [(0, .ref b), (1, .int (nI k))] := hl
  refine lv_iload_n hx hb dn_d_Law_cell_0 rfl (lv_at hl 1 rfl) ?_
  refine lv_aload_n hx hb dn_d_Law_cell_1 rfl (lv_at hl 0 rfl) ?_
  refine va_slen hx hb hX hbl (fun z => z) hS dn_d_Law_cell_2 ?_
  refine lv_icmp_ge (tgt := 12) hx hb dn_d_Law_cell_3 (by decide) (fun h3 => ?_) (fun h3 => ?_)
  · have h3 : L ≤ k := (nI_leI (a := L) (b := k) (by omega) (by omega)).1 h3
    refine lv_iconst (v := 0) hx hb dn_d_Law_cell_12 (by decide) ?_
    exact W.iret (v := 0) hx hb hr (fun t ht hW => ⟨_, rfl, (by unfold dc_cell; rw [if_neg (by omega)]), ht⟩) (fun q h => by cases h) dn_d_Law_cell_13
  · have h3 : ¬ L ≤ k := fun z => h3 ((nI_leI (a := L) (b := k) (by omega) (by omega)).2 z)
    refine lv_aload_n hx hb dn_d_Law_cell_6 rfl (lv_at hl 0 rfl) ?_
    refine lv_iload_n hx hb dn_d_Law_cell_7 rfl (lv_at hl 1 rfl) ?_
    refine dc_sld (k := k) hx hb hX hbl (fun z => z) hS (by omega) (by omega) dn_d_Law_cell_8 ?_
    refine lv_goto (tgt := 13) hx hb dn_d_Law_cell_9 (by decide) ?_
    exact W.iret (v := xs k) hx hb hr (fun t ht hW => ⟨_, rfl, (by unfold dc_cell; rw [if_pos (by omega)]), ht⟩) (fun q h => by cases h) dn_d_Law_cell_13
theorem dc_preX {A : Nat → Prop} {b L : Nat} {xs : Nat → Int32} {s : State} {H : Heap} {locs : List Loc} {As : List Value} (hX : va_X b L xs s s.heap) (hbl : b < s.heap.size) (hbA : ¬ A b) (hS : va_S A s.heap H locs) : PreS s H (va_Pc As (fun U => va_X b L xs U U.heap)) As :=
  ⟨fun a U g mk q => ⟨q.1, va_X.moved (u := U) (U := U.calling g mk a) (Vm.Alike.refl U.vm) q.2⟩, fun U hU hW => ⟨rfl, by show va_X b L xs U U.heap; rw [hU]; exact va_X.moved hW.alike (hX.kept (hS.2.1 b hbl hbA))⟩⟩
theorem dc_lp {L i : Nat} (hL : L ≤ 4611) (hi : i ≤ 4620) (h : ¬ (Int32.ofNat L - 9 < nI i)) : i + 9 ≤ L := by
  refine Decidable.byContradiction fun hn => h ?_
  rw [Int32.lt_iff_toInt_lt, nI_toInt (by omega)]
  by_cases h9 : 9 ≤ L
  · have e : Int32.ofNat L - 9 = nI (L - 9) := pk_sub (a := L) (b := 9) (by omega)
    rw [e, nI_toInt (by omega)]
    omega
  · rcases (show L = 0 ∨ L = 1 ∨ L = 2 ∨ L = 3 ∨ L = 4 ∨ L = 5 ∨ L = 6 ∨ L = 7 ∨ L = 8 by omega) with rfl | rfl | rfl | rfl | rfl | rfl | rfl | rfl | rfl
    · have e : (Int32.ofNat 0 - 9).toInt = -9 := by decide
      rw [e]; omega
    · have e : (Int32.ofNat 1 - 9).toInt = -8 := by decide
      rw [e]; omega
    · have e : (Int32.ofNat 2 - 9).toInt = -7 := by decide
      rw [e]; omega
    · have e : (Int32.ofNat 3 - 9).toInt = -6 := by decide
      rw [e]; omega
    · have e : (Int32.ofNat 4 - 9).toInt = -5 := by decide
      rw [e]; omega
    · have e : (Int32.ofNat 5 - 9).toInt = -4 := by decide
      rw [e]; omega
    · have e : (Int32.ofNat 6 - 9).toInt = -3 := by decide
      rw [e]; omega
    · have e : (Int32.ofNat 7 - 9).toInt = -2 := by decide
      rw [e]; omega
    · have e : (Int32.ofNat 8 - 9).toInt = -1 := by decide
      rw [e]; omega
theorem dc_w19 (x : Int32) : x = 0 ∨ x = 1 ∨ x = 2 ∨ x = 3 ∨ x = 4 ∨ x = 5 ∨ x = 6 ∨ x = 7 ∨ x = 8 ∨ x = 9 ∨ x = 10 ∨ x = 11 ∨ x = 12 ∨ x = 13 ∨ x = 14 ∨ x = 15 ∨ x = 16 ∨ x = 17 ∨ x = 18 ∨ (x.toInt < 0 ∨ 18 < x.toInt) := by
  by_cases h : x.toInt < 0 ∨ 18 < x.toInt
  · simp only [h, or_true]
  · have hx : x = nI x.toInt.toNat := by
      rw [← Int32.toInt_inj, nI_toInt (by omega)]
      omega
    obtain ⟨k, hk⟩ : ∃ k, k = x.toInt.toNat := ⟨_, rfl⟩
    rw [← hk] at hx
    have h18 : k ≤ 18 := by omega
    rw [hx]
    rcases (show k = 0 ∨ k = 1 ∨ k = 2 ∨ k = 3 ∨ k = 4 ∨ k = 5 ∨ k = 6 ∨ k = 7 ∨ k = 8 ∨ k = 9 ∨ k = 10 ∨ k = 11 ∨ k = 12 ∨ k = 13 ∨ k = 14 ∨ k = 15 ∨ k = 16 ∨ k = 17 ∨ k = 18 by omega) with rfl | rfl | rfl | rfl | rfl | rfl | rfl | rfl | rfl | rfl | rfl | rfl | rfl | rfl | rfl | rfl | rfl | rfl | rfl <;> decide
theorem dc_fit0 {j : Nat} {x : Int32} : ¬ dc_fit j x < 0 := by
  have hm : 0 < (dc_lim j).toInt ∧ (dc_lim j).toInt ≤ 1000000000 := by
    rcases j with _ | j
    · exact ⟨by decide, by decide⟩
    · exact ⟨(by decide : 0 < (1000000 : Int32).toInt), (by decide : (1000000 : Int32).toInt ≤ 1000000000)⟩
  have t := tmod_bounds (a := x.toInt) hm.1
  have e : (dc_irem x (dc_lim j)).toInt = x.toInt.tmod (dc_lim j).toInt := rem_toInt x (dc_lim j)
  unfold dc_fit dc_abs
  split
  · rename_i h
    exact Int32.not_lt.mpr h
  · rename_i h
    rw [Int32.le_iff_toInt_le, Int32.toInt_zero, e] at h
    rw [Int32.lt_iff_toInt_lt, Int32.toInt_zero, Int32.toInt_sub, Int32.toInt_zero, e]
    unfold Int.bmod
    dsimp only
    split <;> omega
