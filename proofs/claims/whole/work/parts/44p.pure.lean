-- pure rows: the desk's judgement in the reference; a row's words below n decide what is carried
def dc_jd (fv fd : Nat → Int32) (GF fn : Nat → Int64) (fo fe : Nat → Int32) (sk m0 m1 m2 m3 : Nat) : Int32 :=
  if m0 = 1 ∧ GF 0 = 19 ∧ m3 = 4 then
    (if dc_digN (fun p => GF (20 * 1 + p)) m1 = GF 60 ∧ dc_digN (fun p => GF (20 * 2 + p)) m2 = GF 61 then
      (if dc_sgn GF fn fo fe sk = 0 then (if m1 = 3 ∧ GF 20 = dc_word fv fd 0 ∧ GF 21 = dc_word fv fd 1 ∧ GF 22 = dc_word fv fd 2 then 0 else 10) else dc_sgn GF fn fo fe sk)
    else 7)
  else 6
theorem dc_isInT {fv fd : Nat → Int32} {GF w : Nat → Int64} {m : Nat} (f1 : ∀ p : Nat, p < m → GF (20 * 1 + p) = w p) (h : m = 3 ∧ GF 20 = dc_word fv fd 0 ∧ GF 21 = dc_word fv fd 1 ∧ GF 22 = dc_word fv fd 2) : dc_isIn fv fd w m = true := by
  obtain ⟨rfl, h0, h1, h2⟩ := h
  refine decide_eq_true ⟨rfl, ?_, ?_, ?_⟩
  · exact (dc_g4 (i := 0) (j := 0) rfl (by decide) (by decide)).trans ((f1 0 (by decide)).symm.trans h0)
  · exact (dc_g4 (i := 1) (j := 1) rfl (by decide) (by decide)).trans ((f1 1 (by decide)).symm.trans h1)
  · exact (dc_g4 (i := 2) (j := 2) rfl (by decide) (by decide)).trans ((f1 2 (by decide)).symm.trans h2)
theorem dc_isInF {fv fd : Nat → Int32} {GF w : Nat → Int64} {m : Nat} (f1 : ∀ p : Nat, p < m → GF (20 * 1 + p) = w p) (h : dc_isIn fv fd w m = true) : m = 3 ∧ GF 20 = dc_word fv fd 0 ∧ GF 21 = dc_word fv fd 1 ∧ GF 22 = dc_word fv fd 2 := by
  obtain ⟨rfl, h0, h1, h2⟩ := of_decide_eq_true h
  refine ⟨rfl, ?_, ?_, ?_⟩
  · exact (f1 0 (by decide)).trans ((dc_g4 (i := 0) (j := 0) rfl (by decide) (by decide)).symm.trans h0)
  · exact (f1 1 (by decide)).trans ((dc_g4 (i := 1) (j := 1) rfl (by decide) (by decide)).symm.trans h1)
  · exact (f1 2 (by decide)).trans ((dc_g4 (i := 2) (j := 2) rfl (by decide) (by decide)).symm.trans h2)
theorem dc_jdE {fv fd : Nat → Int32} {GF fn : Nat → Int64} {fo fe : Nat → Int32} {sk m0 m1 m2 m3 : Nat} {w0 w1 w2 w3 : Nat → Int64} (hF : dc_fiR GF w0 m0 w1 m1 w2 m2 w3 m3) : dc_judge fv fd fn fo fe sk w0 m0 w1 m1 w2 m2 w3 m3 = dc_jd fv fd GF fn fo fe sk m0 m1 m2 m3 := by
  obtain ⟨f0, f1, f2, f3⟩ := hF
  have d1 : dc_digN (fun p => GF (20 * 1 + p)) m1 = dc_digN w1 m1 := dc_digN_eq m1 f1
  have d2 : dc_digN (fun p => GF (20 * 2 + p)) m2 = dc_digN w2 m2 := dc_digN_eq m2 f2
  unfold dc_judge dc_jd
  rw [d1, d2]
  by_cases h0 : m0 = 1
  · by_cases h3 : m3 = 4
    · subst h0; subst h3
      have e0 : dc_get w0 1 0 = GF 0 := (dc_g4 (i := 0) (j := 0) rfl (by decide) (by decide)).trans (f0 0 (by decide)).symm
      have g0 : dc_get w3 4 0 = GF 60 := (dc_g4 (i := 0) (j := 0) rfl (by decide) (by decide)).trans (f3 0 (by decide)).symm
      have g1 : dc_get w3 4 1 = GF 61 := (dc_g4 (i := 1) (j := 1) rfl (by decide) (by decide)).trans (f3 1 (by decide)).symm
      have g2 : dc_get w3 4 2 = GF 62 := (dc_g4 (i := 2) (j := 2) rfl (by decide) (by decide)).trans (f3 2 (by decide)).symm
      have g3 : dc_get w3 4 3 = GF 63 := (dc_g4 (i := 3) (j := 3) rfl (by decide) (by decide)).trans (f3 3 (by decide)).symm
      rw [e0, g0, g1, g2, g3]
      by_cases hc : 1 = 1 ∧ GF 0 = 19 ∧ 4 = 4
      · rw [if_pos hc, if_pos hc]
        by_cases hd : GF 60 = dc_digN w1 m1 ∧ GF 61 = dc_digN w2 m2
        · have hd2 : dc_digN w1 m1 = GF 60 ∧ dc_digN w2 m2 = GF 61 := ⟨hd.1.symm, hd.2.symm⟩
          rw [if_pos hd, if_pos hd2]
          unfold dc_sgn
          by_cases hs : 0 ≤ dc_sfind fn (GF 62) sk
          · by_cases hk : dc_sigOk (fo (dc_sfind fn (GF 62) sk).toNatClampNeg) (fe (dc_sfind fn (GF 62) sk).toNatClampNeg) (dc_ju (dc_dig3 (GF 60) (GF 61) (GF 62)) 1) (GF 63) = true
            · simp only [if_pos hs, if_pos hk]
              rw [if_pos trivial]
              by_cases hi : dc_isIn fv fd w1 m1 = true
              · rw [if_pos hi, if_pos (dc_isInF f1 hi)]
              · have hi2 : ¬ (m1 = 3 ∧ GF 20 = dc_word fv fd 0 ∧ GF 21 = dc_word fv fd 1 ∧ GF 22 = dc_word fv fd 2) := fun z => hi (dc_isInT f1 z)
                rw [if_neg hi, if_neg hi2]
            · simp only [if_pos hs, if_neg hk]
              rw [if_neg (show ¬ (9 : Int32) = 0 by decide)]
          · simp only [if_neg hs]
            rw [if_neg (show ¬ (8 : Int32) = 0 by decide)]
        · have hd2 : ¬ (dc_digN w1 m1 = GF 60 ∧ dc_digN w2 m2 = GF 61) := fun z => hd ⟨z.1.symm, z.2.symm⟩
          rw [if_neg hd, if_neg hd2]
      · rw [if_neg hc, if_neg hc]
    · have q1 : ¬ (m0 = 1 ∧ dc_get w0 m0 0 = 19 ∧ m3 = 4) := fun z => h3 z.2.2
      have q2 : ¬ (m0 = 1 ∧ GF 0 = 19 ∧ m3 = 4) := fun z => h3 z.2.2
      rw [if_neg q1, if_neg q2]
  · have q1 : ¬ (m0 = 1 ∧ dc_get w0 m0 0 = 19 ∧ m3 = 4) := fun z => h0 z.1
    have q2 : ¬ (m0 = 1 ∧ GF 0 = 19 ∧ m3 = 4) := fun z => h0 z.1
    rw [if_neg q1, if_neg q2]
theorem dc_carC {fa fb : Nat → Int32} {fm : Nat → Int64} {c : Int32} {n : Nat} {a b : Nat → Int64} (hn : n < 2147483648) (h : dc_aEq a b n) : ∀ t : Nat, dc_aEq (dc_carW fa fb fm c n a t) (dc_carW fa fb fm c n b t) n
  | 0 => h
  | t + 1 => by
    intro j hj
    have ih := dc_carC (fa := fa) (fb := fb) (fm := fm) (c := c) hn h t
    have ea : dc_carW fa fb fm c n a (t + 1) = if fa t = c then dc_put (dc_carW fa fb fm c n a t) n (fb t) ((dc_get (dc_carW fa fb fm c n a t) n (fb t)) ^^^ (fm t)) else dc_carW fa fb fm c n a t := rfl
    have eb : dc_carW fa fb fm c n b (t + 1) = if fa t = c then dc_put (dc_carW fa fb fm c n b t) n (fb t) ((dc_get (dc_carW fa fb fm c n b t) n (fb t)) ^^^ (fm t)) else dc_carW fa fb fm c n b t := rfl
    rw [ea, eb]
    by_cases e : fa t = c
    · rw [if_pos e, if_pos e]
      cases hb : dc_has n (fb t) with
      | false => rw [dc_putF hb, dc_putF hb]; exact ih j hj
      | true =>
        obtain ⟨i, hi, ei⟩ := dc_hasE hn hb
        rw [ei, dc_putN hi hn, dc_putN hi hn, dc_getN hi hn, dc_getN hi hn, ih i hi]
        by_cases e2 : j = i
        · subst e2; rw [pk_uLs, pk_uLs]
        · rw [pk_uLn e2, pk_uLn e2]; exact ih j hj
    · rw [if_neg e, if_neg e]; exact ih j hj
