theorem lw_know {s : State} {args : Array Value} (hts : ∀ w ∈ dc_W, w.before args s = true) (hao : (Cond.arrayOver (.object "DocumentChip$Row")).before args s = true) : ∃ (G : va_G) (cA : Nat → ClassId), va_K G vwCl (dc_TY cA) s := by
  have h0 : ∀ c : Nat, ∃ g : ClassId × (Nat → Nat), ∀ q : vw_C, vwCl[c]? = some q → u_Kn s q.1 q.2.1 q.2.2 g.1 g.2 := by
    intro c
    match c with
    | 0 =>
      obtain ⟨cC, iS, h⟩ := u_known (C := dn_R_Doc) (T := dn_T_Doc) (N := 5) (n := 5) hts dn_u_Doc (hts _ dn_w_22)
      exact ⟨(cC, iS), fun q hq => by cases hq; exact h⟩
    | 1 =>
      obtain ⟨cC, iS, h⟩ := u_known (C := dn_R_Access) (T := dn_T_Access) (N := 2) (n := 2) hts dn_u_Access (hts _ dn_w_50)
      exact ⟨(cC, iS), fun q hq => by cases hq; exact h⟩
    | 2 =>
      obtain ⟨cC, iS, h⟩ := u_known (C := dn_R_Chip) (T := dn_T_Chip) (N := 9) (n := 9) hts dn_u_Chip (hts _ dn_w_44)
      exact ⟨(cC, iS), fun q hq => by cases hq; exact h⟩
    | 3 =>
      obtain ⟨cC, iS, h⟩ := u_known (C := dn_R_Desk) (T := dn_T_Desk) (N := 12) (n := 12) hts dn_u_Desk (hts _ dn_w_184)
      exact ⟨(cC, iS), fun q hq => by cases hq; exact h⟩
    | 4 =>
      obtain ⟨cC, iS, h⟩ := u_known (C := dn_R_Line) (T := dn_T_Line) (N := 2) (n := 2) hts dn_u_Line (hts _ dn_w_86)
      exact ⟨(cC, iS), fun q hq => by cases hq; exact h⟩
    | 5 =>
      obtain ⟨cC, iS, h⟩ := u_known (C := dn_R_Row) (T := dn_T_Row) (N := 2) (n := 2) hts dn_u_Row (hts _ dn_w_30)
      exact ⟨(cC, iS), fun q hq => by cases hq; exact h⟩
    | 6 =>
      obtain ⟨cC, iS, h⟩ := u_known (C := dn_R_Session) (T := dn_T_Session) (N := 4) (n := 4) hts dn_u_Session (hts _ dn_w_63)
      exact ⟨(cC, iS), fun q hq => by cases hq; exact h⟩
    | 7 =>
      obtain ⟨cC, iS, h⟩ := u_known (C := dn_R_Signers) (T := dn_T_Signers) (N := 4) (n := 4) hts dn_u_Signers (hts _ dn_w_192)
      exact ⟨(cC, iS), fun q hq => by cases hq; exact h⟩
    | 8 =>
      obtain ⟨cC, iS, h⟩ := u_known (C := dn_R_Way) (T := dn_T_Way) (N := 5) (n := 5) hts dn_u_Way (hts _ dn_w_211)
      exact ⟨(cC, iS), fun q hq => by cases hq; exact h⟩
    | 9 =>
      obtain ⟨cC, iS, h⟩ := u_known (C := dn_R_Mod) (T := dn_T_Mod) (N := 34) (n := 34) hts dn_u_Mod (hts _ dn_w_851)
      exact ⟨(cC, iS), fun q hq => by cases hq; exact h⟩
    | c + 10 => exact ⟨(0, fun _ => 0), fun q hq => by cases (show (none : Option vw_C) = some q from hq)⟩
  obtain ⟨g, hg⟩ := Classical.axiomOfChoice h0
  obtain ⟨c0, k0, p0, f0, e0, d0⟩ := Cond.arrayClass_spec (hts _ dn_w_98)
  obtain ⟨c1, k1, p1, f1, e1, d1⟩ := Cond.arrayClass_spec (hts _ dn_w_42)
  obtain ⟨p2, c2, k2, f2, -, e2, d2, n2⟩ := Cond.arrayOver_spec hao
  refine ⟨(fun c => (g c).1, fun c => (g c).2), fun k => match k with | 0 => c0 | 1 => c1 | _ => c2, fun c q hq => hg c q hq, fun k q hk => ?_⟩
  match k with
  | 0 => cases hk; exact ⟨fun n z => ⟨(fun k h => by cases h), k0, e0, p0, d0⟩, f0⟩
  | 1 => cases hk; exact ⟨fun n z => ⟨(fun k h => by cases h), k1, e1, p1, d1⟩, f1⟩
  | 2 => cases hk; exact ⟨fun n z => ⟨(fun k h => by cases h), k2, e2, p2, d2⟩, k2, p2, e2, d2, f2, n2⟩
  | k + 3 => cases (show (none : Option (ClassId × FieldType)) = some q from hk)
theorem lw_nest {s : State} {args : Array Value} (ht : ∀ w ∈ tables_1, w.before args s = true) : dc_N s := by
  have e1 : dc_nF.map (fun (q : String × Nat × String × String × String) => Cond.fieldLinkNest q.1 q.2.1 q.2.2.1 q.2.2.2.1 q.2.2.2.2 "DocumentChip") = [69, 70, 151, 153, 154, 156, 159, 161, 240, 242, 244, 250, 252].filterMap (fun i => tables_1[i]?) := by decide +kernel
  have e2 : dc_nM.map (fun (q : String × Nat × MethodName) => Cond.methodLinkNest q.1 q.2.1 q.2.2 "DocumentChip") = [51, 64, 87, 190, 193, 212, 233, 235, 506].filterMap (fun i => tables_1[i]?) := by decide +kernel
  refine ⟨fun q hq => ?_, fun q hq => ?_, va_AO.of (ht _ (List.mem_of_getElem? (i := 84) (by decide +kernel)))⟩
  · have h1 := List.mem_map_of_mem (f := (fun (q : String × Nat × String × String × String) => Cond.fieldLinkNest q.1 q.2.1 q.2.2.1 q.2.2.2.1 q.2.2.2.2 "DocumentChip")) hq
    rw [e1] at h1
    obtain ⟨i, -, hi⟩ := List.mem_filterMap.mp h1
    exact va_Nw.of rfl (ht _ (List.mem_of_getElem? hi))
  · have h1 := List.mem_map_of_mem (f := (fun (q : String × Nat × MethodName) => Cond.methodLinkNest q.1 q.2.1 q.2.2 "DocumentChip")) hq
    rw [e2] at h1
    obtain ⟨i, -, hi⟩ := List.mem_filterMap.mp h1
    exact va_Nw.of rfl (ht _ (List.mem_of_getElem? hi))
theorem lw_stat {s : State} {b : Nat} {A : Nat → Prop} (hgv : (Jvm.Cond.and given_1 narrow_1).before #[Value.ref b] s = true) (ht : ∀ w ∈ tables_1, w.before #[Value.ref b] s = true) (hA : ∀ a : Nat, a < s.heap.size → ¬ A a) : ∃ z : Nat → Nat, dc_Z z A s s.heap := by
  have hs := flat_of_before _ hgv
  obtain ⟨z0, e0, t0⟩ := va_Tof (args := #[Value.ref b]) (s := s) (tm := (.static "DocumentChip$Line" "LIMITS" "[I")) (ty := .int) (N := 3) (f := fun j => .int (dc_lim j)) (A := A) (by decide) (hs _ (by decide +kernel)) (va_eqt (hs (.eq (.length (.static "DocumentChip$Line" "LIMITS" "[I")) (.int 3)) (by decide +kernel))) (fun j hj => by
    rcases (show j = 0 ∨ j = 1 ∨ j = 2 by omega) with rfl | rfl | rfl
    · exact va_eqt (hs (.eq (.elem (.static "DocumentChip$Line" "LIMITS" "[I") (.int 0)) (.int 1000000000)) (by decide +kernel))
    · exact va_eqt (hs (.eq (.elem (.static "DocumentChip$Line" "LIMITS" "[I") (.int 1)) (.int 1000000)) (by decide +kernel))
    · exact va_eqt (hs (.eq (.elem (.static "DocumentChip$Line" "LIMITS" "[I") (.int 2)) (.int 1000000)) (by decide +kernel))) hA
  obtain ⟨z1, e1, t1⟩ := va_Tof (args := #[Value.ref b]) (s := s) (tm := (.static "DocumentChip$Line" "WIDTHS" "[I")) (ty := .int) (N := 3) (f := fun j => .int (nI (dc_wd j))) (A := A) (by decide) (hs _ (by decide +kernel)) (va_eqt (hs (.eq (.length (.static "DocumentChip$Line" "WIDTHS" "[I")) (.int 3)) (by decide +kernel))) (fun j hj => by
    rcases (show j = 0 ∨ j = 1 ∨ j = 2 by omega) with rfl | rfl | rfl
    · exact va_eqt (hs (.eq (.elem (.static "DocumentChip$Line" "WIDTHS" "[I") (.int 0)) (.int 9)) (by decide +kernel))
    · exact va_eqt (hs (.eq (.elem (.static "DocumentChip$Line" "WIDTHS" "[I") (.int 1)) (.int 6)) (by decide +kernel))
    · exact va_eqt (hs (.eq (.elem (.static "DocumentChip$Line" "WIDTHS" "[I") (.int 2)) (.int 6)) (by decide +kernel))) hA
  obtain ⟨z2, e2, t2⟩ := va_Tof (args := #[Value.ref b]) (s := s) (tm := (.static "DocumentChip$Line" "WEIGHTS" "[I")) (ty := .int) (N := 3) (f := fun j => .int (dc_wei j)) (A := A) (by decide) (hs _ (by decide +kernel)) (va_eqt (hs (.eq (.length (.static "DocumentChip$Line" "WEIGHTS" "[I")) (.int 3)) (by decide +kernel))) (fun j hj => by
    rcases (show j = 0 ∨ j = 1 ∨ j = 2 by omega) with rfl | rfl | rfl
    · exact va_eqt (hs (.eq (.elem (.static "DocumentChip$Line" "WEIGHTS" "[I") (.int 0)) (.int 7)) (by decide +kernel))
    · exact va_eqt (hs (.eq (.elem (.static "DocumentChip$Line" "WEIGHTS" "[I") (.int 1)) (.int 3)) (by decide +kernel))
    · exact va_eqt (hs (.eq (.elem (.static "DocumentChip$Line" "WEIGHTS" "[I") (.int 2)) (.int 1)) (by decide +kernel))) hA
  obtain ⟨z3, e3, t3⟩ := va_Tof (args := #[Value.ref b]) (s := s) (tm := (.static "DocumentChip$Desk" "READING_ORDER" "[I")) (ty := .int) (N := 4) (f := fun j => .int (nI (dc_ord j))) (A := A) (by decide) (hs _ (by decide +kernel)) (va_eqt (hs (.eq (.length (.static "DocumentChip$Desk" "READING_ORDER" "[I")) (.int 4)) (by decide +kernel))) (fun j hj => by
    rcases (show j = 0 ∨ j = 1 ∨ j = 2 ∨ j = 3 by omega) with rfl | rfl | rfl | rfl
    · exact va_eqt (hs (.eq (.elem (.static "DocumentChip$Desk" "READING_ORDER" "[I") (.int 0)) (.int 3)) (by decide +kernel))
    · exact va_eqt (hs (.eq (.elem (.static "DocumentChip$Desk" "READING_ORDER" "[I") (.int 1)) (.int 0)) (by decide +kernel))
    · exact va_eqt (hs (.eq (.elem (.static "DocumentChip$Desk" "READING_ORDER" "[I") (.int 2)) (.int 1)) (by decide +kernel))
    · exact va_eqt (hs (.eq (.elem (.static "DocumentChip$Desk" "READING_ORDER" "[I") (.int 3)) (.int 2)) (by decide +kernel))) hA
  exact ⟨fun k => match k with | 0 => z0 | 1 => z1 | 2 => z2 | _ => z3, va_Zref (ht _ (List.mem_of_getElem? (i := 107) (by decide +kernel))) (ht _ (List.mem_of_getElem? (i := 6) (by decide +kernel))) e0 hA, t0, va_Zref (ht _ (List.mem_of_getElem? (i := 112) (by decide +kernel))) (ht _ (List.mem_of_getElem? (i := 6) (by decide +kernel))) e1 hA, t1, va_Zref (ht _ (List.mem_of_getElem? (i := 117) (by decide +kernel))) (ht _ (List.mem_of_getElem? (i := 6) (by decide +kernel))) e2 hA, t2, va_Zref (ht _ (List.mem_of_getElem? (i := 467) (by decide +kernel))) (ht _ (List.mem_of_getElem? (i := 9) (by decide +kernel))) e3 hA, t3⟩
theorem lw_thr {s : State} {b : Nat} {A : Nat → Prop} (hgv : (Jvm.Cond.and given_1 narrow_1).before #[Value.ref b] s = true) (ht : ∀ w ∈ tables_1, w.before #[Value.ref b] s = true) (hA : ∀ a : Nat, a < s.heap.size → ¬ A a) : dc_V A s s.heap := by
  have hs := flat_of_before _ hgv
  have e1 : dc_dT.map Cond.declares = [612, 614, 616].filterMap (fun i => tables_1[i]?) := by decide +kernel
  have e2 : dc_sT.map (fun (q : Nat × String) => Cond.stringRef "DocumentChip" q.1 q.2) = [651, 688, 705, 718, 735, 740, 753, 758, 771, 773, 781, 783, 799, 800, 810, 826, 833].filterMap (fun i => tables_1[i]?) := by decide +kernel
  have e3 : (dc_nT.all fun q => decide (Cond.not (.castable q.1 q.2) ∈ flatC (Jvm.Cond.and given_1 narrow_1))) = true := by decide +kernel
  obtain ⟨cC, kC, hfc, -⟩ := Cond.instantiable_spec (ht _ (List.mem_of_getElem? (i := 22) (by decide +kernel)) : (Cond.instantiable "DocumentChip" 5).before #[Value.ref b] s = true)
  refine ⟨dc_X1of (ht _ (List.mem_of_getElem? (i := 635) (by decide +kernel))) (hs _ (by decide +kernel)) hA, dc_X1of (ht _ (List.mem_of_getElem? (i := 637) (by decide +kernel))) (hs _ (by decide +kernel)) hA, fun q hq => ?_, fun q hq => ?_, fun q hq => va_Nc.of (hs _ (of_decide_eq_true (List.all_eq_true.mp e3 q hq)))⟩
  · have h1 := List.mem_map_of_mem (f := Cond.declares) hq
    rw [e1] at h1
    obtain ⟨i, -, hi⟩ := List.mem_filterMap.mp h1
    exact va_any rfl (ht _ (List.mem_of_getElem? hi))
  · have h1 := List.mem_map_of_mem (f := (fun (q : Nat × String) => Cond.stringRef "DocumentChip" q.1 q.2)) hq
    rw [e2] at h1
    obtain ⟨i, -, hi⟩ := List.mem_filterMap.mp h1
    have h := ht _ (List.mem_of_getElem? hi)
    obtain ⟨-, -, -, sa, -, -, -, -, -, hev⟩ := Cond.stringRef_spec hfc h
    exact ⟨sa, vk_R.of h hev⟩
theorem dc_ff0 {x1 x2 x3 : Int32} : ∀ j : Nat, ¬ upd (upd (upd (fun _ => 0) 0 (dc_fit 0 x1)) 1 (dc_fit 1 x2)) 2 (dc_fit 2 x3) j < 0 := fun j => by
  unfold upd
  split
  · exact dc_fit0
  · split
    · exact dc_fit0
    · split
      · exact dc_fit0
      · exact (by decide : ¬ (0 : Int32) < 0)
theorem dc_csE {x1 x2 x3 : Int32} : dc_cseed x1 x2 x3 = dc_seed (upd (upd (upd (fun _ => 0) 0 (dc_fit 0 x1)) 1 (dc_fit 1 x2)) 2 (dc_fit 2 x3)) (fun j => dc_rd (upd (upd (upd (fun _ => 0) 0 (dc_fit 0 x1)) 1 (dc_fit 1 x2)) 2 (dc_fit 2 x3) j) (dc_wd j)) := by
  have h0 : ∀ a b c : Int32, upd (upd (upd (fun _ => (0 : Int32)) 0 a) 1 b) 2 c 0 = a := fun a b c => by simp [upd]
  have h1 : ∀ a b c : Int32, upd (upd (upd (fun _ => (0 : Int32)) 0 a) 1 b) 2 c 1 = b := fun a b c => by simp [upd]
  have h2 : ∀ a b c : Int32, upd (upd (upd (fun _ => (0 : Int32)) 0 a) 1 b) 2 c 2 = c := fun a b c => by simp [upd]
  unfold dc_cseed dc_seed dc_word
  simp only [h0, h1, h2]
