-- pure rows: the opening in the reference, on one row of mail
theorem dc_aw4 {a b : Nat → Int64} {ka kb x y u : Int64} : dc_aEq (dc_awrap a ka kb x y u) (dc_awrap b ka kb x y u) 4 := fun j hj => by
  rcases (show j = 0 ∨ j = 1 ∨ j = 2 ∨ j = 3 by omega) with rfl | rfl | rfl | rfl <;> rfl
theorem dc_pq {fa fb : Nat → Int32} {fm : Nat → Int64} {c : Int32} {t : Nat} {M wU : Nat → Int64} {x : Int64} : dc_carW fa fb fm (c + 1) 1 (vp_updL M 0 x) t 0 = dc_ocQ fa fb fm c t wU x := by
  unfold dc_ocQ dc_oc2
  rw [dc_g4 (i := 0) (j := 0) rfl (by decide) (by decide)]
  refine dc_carC (by decide) (fun j hj => ?_) t 0 (by decide)
  obtain rfl : j = 0 := by omega
  rw [pk_uLs, pk_uLs]
theorem dc_p3 {fa fb : Nat → Int32} {fm : Nat → Int64} {c : Int32} {t : Nat} {M wT wU : Nat → Int64} {fv fd : Nat → Int32} {dT dK cq q : Int64} (hq : q = dc_ocQ fa fb fm c t wU cq) :
    dc_aEq (dc_carW fa fb fm (c + 1 + 1) 4 (dc_awrap M (dc_dig2 (dc_seed fv fd) 1) (dc_dig2 (dc_seed fv fd) 2) dT q dK) t) (dc_oc3 fa fb fm c t wT wU fv fd dT dK cq) 4 := by
  rw [hq]
  exact dc_carC (by decide) dc_aw4 t
theorem dc_pK {ka kb cw : Int64} {a b : Nat → Int64} (h : dc_aEq a b 4) : dc_meetOk true ka kb a 4 cw = dc_meetOk true ka kb b 4 cw := dc_meC (h 0 (by decide)) (h 1 (by decide)) (h 2 (by decide)) (h 3 (by decide))
theorem dc_pf0 {ka : Int64} {a b : Nat → Int64} (h : dc_aEq a b 4) : dc_find ka a 4 0 = dc_find ka b 4 0 := by
  rw [dc_fd0 (by decide) (by decide), dc_fd0 (by decide) (by decide), h 0 (by decide)]
theorem dc_pf1 {ka : Int64} {a b : Nat → Int64} (h : dc_aEq a b 4) : dc_find ka a 4 1 = dc_find ka b 4 1 := by
  rw [dc_fd1 (by decide) (by decide), dc_fd1 (by decide) (by decide), h 0 (by decide), h 1 (by decide)]
theorem dc_pf2 {ka : Int64} {a b : Nat → Int64} (h : dc_aEq a b 4) : dc_find ka a 4 2 = dc_find ka b 4 2 := by
  rw [dc_fd2 (by decide) (by decide), dc_fd2 (by decide) (by decide), h 1 (by decide), h 2 (by decide)]
theorem dc_p4 {fa fb : Nat → Int32} {fm : Nat → Int64} {c : Int32} {t : Nat} {M wT wU : Nat → Int64} {fv fd : Nat → Int32} {dT dK cq ka kb cj : Int64} (h3 : dc_aEq M (dc_oc3 fa fb fm c t wT wU fv fd dT dK cq) 4) (hK : dc_ocK fa fb fm c t wT wU fv fd dT dK cq ka kb = true) :
    dc_aEq (dc_carW fa fb fm (c + 1 + 1 + 1) 4 (dc_awrap M ka kb cq (dc_find ka M 4 0) cj) t) (dc_oc4 fa fb fm c t wT wU fv fd dT dK cq ka kb cj) 4 := by
  unfold dc_oc4
  rw [hK, dc_pf0 h3]
  exact dc_carC (by decide) dc_aw4 t
theorem dc_pS {kb : Int64} {a b : Nat → Int64} (h : dc_aEq a b 4) : dc_sealOk kb b 4 = decide (dc_seal3 kb (a 0) (a 1) (a 2) = a 3) := by
  rw [dc_slE, ← h 0 (by decide), ← h 1 (by decide), ← h 2 (by decide), ← h 3 (by decide)]
  exact decide_eq_decide.mpr ⟨Eq.symm, Eq.symm⟩
