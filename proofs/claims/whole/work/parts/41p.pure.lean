-- pure rows: the signature in the reference, its fields
def dc_sgn (GF fn : Nat → Int64) (fo fe : Nat → Int32) (sk : Nat) : Int32 :=
  if 0 ≤ dc_sfind fn (GF 62) sk then
    (if dc_sigOk (fo (dc_sfind fn (GF 62) sk).toNatClampNeg) (fe (dc_sfind fn (GF 62) sk).toNatClampNeg) (dc_ju (dc_dig3 (GF 60) (GF 61) (GF 62)) 1) (GF 63) = true then 0 else 9)
  else 8
theorem dc_nI0 {i : Nat} (h : i < 2147483648) : (0 : Int32) ≤ nI i := (nI_leI (a := 0) (b := i) (by omega) h).2 (Nat.zero_le i)
theorem dc_sgn8 {GF fn : Nat → Int64} {fo fe : Nat → Int32} {sk : Nat} (hg : dc_sfind fn (GF 62) sk = -1) : 8 = dc_sgn GF fn fo fe sk := by
  unfold dc_sgn; rw [hg, if_neg (by decide)]
theorem dc_sgn9 {GF fn : Nat → Int64} {fo fe : Nat → Int32} {sk i : Nat} (hi : i < 2147483648) (hg : dc_sfind fn (GF 62) sk = nI i) (h : dc_sigOk (fo i) (fe i) (dc_ju (dc_dig3 (GF 60) (GF 61) (GF 62)) 1) (GF 63) = false) : 9 = dc_sgn GF fn fo fe sk := by
  unfold dc_sgn; rw [hg, if_pos (dc_nI0 hi), nI_clamp (by omega), if_neg (by rw [h]; decide)]
theorem dc_sgn0 {GF fn : Nat → Int64} {fo fe : Nat → Int32} {sk i : Nat} (hi : i < 2147483648) (hg : dc_sfind fn (GF 62) sk = nI i) (h : dc_sigOk (fo i) (fe i) (dc_ju (dc_dig3 (GF 60) (GF 61) (GF 62)) 1) (GF 63) = true) : 0 = dc_sgn GF fn fo fe sk := by
  unfold dc_sgn; rw [hg, if_pos (dc_nI0 hi), nI_clamp (by omega), if_pos h]
theorem dc_fitP {j : Nat} {x y : Int32} (hy : dc_irem x (dc_lim j) = y) (h : 0 ≤ y) : y = dc_fit j x := by
  unfold dc_fit dc_abs; rw [hy, if_pos h]
theorem dc_fitN {j : Nat} {x y : Int32} (hy : dc_irem x (dc_lim j) = y) (h : ¬ 0 ≤ y) : -y = dc_fit j x := by
  unfold dc_fit dc_abs; rw [hy, if_neg h, Int32.zero_sub]
