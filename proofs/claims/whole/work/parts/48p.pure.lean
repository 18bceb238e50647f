-- pure rows: one question of the desk in the reference, on one row of mail
theorem dc_aw3 {a b : Nat → Int64} {x y u : Int64} : dc_aEq (vp_updL (vp_updL (vp_updL a 0 x) 1 y) 2 u) (vp_updL (vp_updL (vp_updL b 0 x) 1 y) 2 u) 3 := fun j hj => by
  rcases (show j = 0 ∨ j = 1 ∨ j = 2 by omega) with rfl | rfl | rfl <;> rfl
theorem dc_qW {fa fb : Nat → Int32} {fm : Nat → Int64} {c : Int32} {t hh num : Nat} {M wT : Nat → Int64} {ee em ec : Int64} :
    dc_aEq (dc_carW fa fb fm c 3 (vp_updL (vp_updL (vp_updL M 0 (lN hh)) 1 ((dc_enc ee (lN num)) ^^^ (ec + 1))) 2 (dc_seal3 em (ec + 1) (lN hh) ((dc_enc ee (lN num)) ^^^ (ec + 1)))) t) (dc_askW fa fb fm c t wT hh num ee em ec) 3 := by
  unfold dc_askW
  exact dc_carC (by decide) dc_aw3 t
theorem dc_qG {a b : Nat → Int64} {n j : Nat} {i : Int32} (h : dc_aEq a b n) (hi : i = nI j) (hj : j < n) (hn : n < 2147483648) : dc_get b n i = a j := by
  rw [dc_g4 hi hj hn, h j hj]
theorem dc_aTr {a b c : Nat → Int64} {n : Nat} (h1 : dc_aEq a b n) (h2 : dc_aEq b c n) : dc_aEq a c n := fun j hj => (h1 j hj).trans (h2 j hj)
theorem dc_cpE {rw9 g : Nat → Int64} {n : Nat} : dc_aEq (dc_cpN rw9 g n) g n := fun j hj => dc_cpN_at n j hj
theorem dc_unwE {M w : Nat → Int64} {n k : Nat} {m c : Int64} (h : dc_aEq M w n) (hn : n = k + 2) (hk : k ≤ 4) : dc_unwOk w n k m c = decide (M k = 36864 ∧ M (k + 1) = dc_sealR m (dc_enc m c) M (k + 1)) := by
  unfold dc_unwOk
  have e1 : dc_get w n (nI k) = M k := dc_qG h rfl (by omega) (by omega)
  have e2 : dc_get w n (nI (k + 1)) = M (k + 1) := dc_qG h rfl (by omega) (by omega)
  have e3 : dc_sealR m (dc_enc m c) w (k + 1) = dc_sealR m (dc_enc m c) M (k + 1) := dc_sealRe (k + 1) (fun j hj => (h j (by omega)).symm)
  rw [e1, e2, e3]
  exact decide_eq_decide.mpr ⟨fun z => z.2, fun z => ⟨hn, z⟩⟩
theorem dc_unwF {w : Nat → Int64} {n k : Nat} {m c : Int64} (hn : ¬ n = k + 2) : dc_unwOk w n k m c = false := decide_eq_false (fun z => hn z.1)
theorem dc_unwN_at {w w2 : Nat → Int64} {e c : Int64} {n2 : Nat} : ∀ (k j : Nat), j < k → dc_unwN w e c w2 n2 k (n2 + j) = dc_dec e (w j) ^^^ c
  | 0, j, h => absurd h (Nat.not_lt_zero j)
  | k + 1, j, h => by
    show vp_updL (dc_unwN w e c w2 n2 k) (n2 + k) (dc_dec e (w k) ^^^ c) (n2 + j) = _
    by_cases ej : j = k
    · subst ej; rw [pk_uLs]
    · rw [pk_uLn (by omega)]; exact dc_unwN_at k j (by omega)
theorem dc_unwN_lo {w w2 : Nat → Int64} {e c : Int64} {n2 : Nat} : ∀ (k j : Nat), j < n2 → dc_unwN w e c w2 n2 k j = w2 j
  | 0, j, _ => rfl
  | k + 1, j, h => by
    show vp_updL (dc_unwN w e c w2 n2 k) (n2 + k) (dc_dec e (w k) ^^^ c) j = _
    rw [pk_uLn (by omega)]; exact dc_unwN_lo k j h
