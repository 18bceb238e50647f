def dc_cpN (rw9 : Nat → Int64) (g : Nat → Int64) : Nat → Nat → Int64
  | 0 => rw9
  | i + 1 => vp_updL (dc_cpN rw9 g i) i (g i)
theorem dc_cpN_at {rw9 g : Nat → Int64} : ∀ (n p : Nat), p < n → dc_cpN rw9 g n p = g p
  | 0, p, h => absurd h (Nat.not_lt_zero p)
  | n + 1, p, h => by
    show vp_updL (dc_cpN rw9 g n) n (g n) p = g p
    by_cases hp : p = n
    · subst hp; exact pk_uLs
    · rw [pk_uLn hp]; exact dc_cpN_at n p (by omega)
theorem dc_digN_eq {a b : Nat → Int64} : ∀ (n : Nat), (∀ p, p < n → a p = b p) → dc_digN a n = dc_digN b n
  | 0, _ => rfl
  | n + 1, h => by
    show dc_mix (dc_digN a n) (a n) = dc_mix (dc_digN b n) (b n)
    rw [dc_digN_eq n (fun p hp => h p (by omega)), h n (by omega)]
theorem dc_digN_cp {rw9 F wj : Nat → Int64} {j nj : Nat} (hF : ∀ p : Nat, p < nj → F (20 * j + p) = wj p) : dc_digN (dc_cpN rw9 (fun p => F (20 * j + p)) nj) nj = dc_digN wj nj :=
  dc_digN_eq nj (fun p hp => (dc_cpN_at nj p hp).trans (hF p hp))
def dc_sgR (rw9 F : Nat → Int64) (n1 n2 : Nat) (F3 : Nat → Int64) : Nat → Int64 := dc_cpN (dc_cpN (dc_cpN rw9 (fun p => F (20 * 1 + p)) n1) (fun p => F (20 * 2 + p)) n2) (fun p => F3 (20 * 3 + p)) 3
theorem dc_cpN_eq {rw9 a b : Nat → Int64} : ∀ (n : Nat), (∀ p, p < n → a p = b p) → dc_cpN rw9 a n = dc_cpN rw9 b n
  | 0, _ => rfl
  | n + 1, h => by
    show vp_updL (dc_cpN rw9 a n) n (a n) = vp_updL (dc_cpN rw9 b n) n (b n)
    rw [dc_cpN_eq n (fun p hp => h p (by omega)), h n (by omega)]
theorem dc_sgRe {rw9 F F3 : Nat → Int64} {n1 n2 : Nat} {d : Int64} (hn2 : n2 ≤ 20) : dc_sgR rw9 F n1 n2 F3 = dc_cpN (dc_cpN (dc_cpN rw9 (fun p => F (20 * 1 + p)) n1) (fun p => vp_updL F 60 d (20 * 2 + p)) n2) (fun p => F3 (20 * 3 + p)) 3 := by
  unfold dc_sgR
  rw [dc_cpN_eq (a := fun p => vp_updL F 60 d (20 * 2 + p)) (b := fun p => F (20 * 2 + p)) n2 (fun p hp => pk_uLn (by omega))]
theorem dc_sgF {F w : Nat → Int64} {d1 d2 x : Int64} : ∀ p : Nat, p < 3 → vp_updL (vp_updL (vp_updL F 60 d1) 61 d2) 62 x (20 * 3 + p) = dc_sgW w d1 d2 x p := by
  intro p hp
  rcases (show p = 0 ∨ p = 1 ∨ p = 2 by omega) with rfl | rfl | rfl <;> rfl
def dc_dgS (v : Int32) (k : Nat) : Nat → Int32
  | 0 => 0
  | i + 1 => dc_dgS v k i + (dc_irem (v / nI (10 ^ (k - 1 - i))) 10) * (dc_wei (i % 3))
theorem dc_dgStep {v u y : Int32} {k i T : Nat} (hu : u = dc_dgS v k i) (hT : T = 10 ^ (k - 1 - i)) (hw : y = dc_wei (i % 3)) : u + (dc_irem (v / nI T) 10) * y = dc_dgS v k (i + 1) := by
  subst hu; subst hT; subst hw; rfl
theorem dc_we0 {i : Nat} (h : i % 3 = 0) : (7 : Int32) = dc_wei (i % 3) := by rw [h]; rfl
theorem dc_we1 {i : Nat} (h : i % 3 = 1) : (3 : Int32) = dc_wei (i % 3) := by rw [h]; rfl
theorem dc_we2 {i : Nat} (h0 : ¬ i % 3 = 0) (h1 : ¬ i % 3 = 1) : (1 : Int32) = dc_wei (i % 3) := by
  rw [show i % 3 = 2 by omega]; rfl
theorem dc_p9 {T i k : Nat} (hT : T = 10 ^ (i - 1)) (hi : i ≤ k) (hk : k ≤ 9) : T < 2147483648 := by
  rw [hT]
  exact Nat.lt_of_le_of_lt (Nat.pow_le_pow_right (by decide) (show i - 1 ≤ 8 by omega)) (by decide)
theorem dc_p0 {T k : Nat} (h : T = 10 ^ k) : 0 < T := by rw [h]; exact Nat.pow_pos (by decide)
theorem dc_dgA {x j : Nat} (hx : x < 2147483648) (hj : j ≤ 8) : ∀ i, i ≤ j → dc_dgS (nI x) (j + 1) i = dc_dgS (nI (x / 10)) j i
  | 0, _ => rfl
  | i + 1, h => by
    show dc_dgS (nI x) (j + 1) i + (dc_irem (nI x / nI (10 ^ (j + 1 - 1 - i))) 10) * (dc_wei (i % 3)) = dc_dgS (nI (x / 10)) j i + (dc_irem (nI (x / 10) / nI (10 ^ (j - 1 - i))) 10) * (dc_wei (i % 3))
    rw [dc_dgA hx hj i (by omega)]
    have hb : ∀ a, a ≤ 8 → 10 ^ a < 2147483648 := fun a ha => Nat.lt_of_le_of_lt (Nat.pow_le_pow_right (by decide) ha) (by decide)
    rw [pk_div hx (Nat.pow_pos (by decide)) (hb _ (by omega)), pk_div (by omega) (Nat.pow_pos (by decide)) (hb _ (by omega)), Nat.div_div_eq_div_mul, ← Nat.pow_succ', show (j - 1 - i).succ = j + 1 - 1 - i by omega]
theorem dc_rdRe : ∀ (j : Nat) (u : Int32) (x : Nat), x < 2147483648 → j ≤ 9 → dc_rdR j u (nI x) = dc_irem (u + dc_dgS (nI x) j j) 10
  | 0, u, x, _, _ => by
    show dc_irem u 10 = dc_irem (u + 0) 10
    rw [Int32.add_zero]
  | j + 1, u, x, hx, hj => by
    show dc_rdR j (u + (dc_irem (nI x) 10) * (dc_wei (j % 3))) (nI x / 10) = dc_irem (u + (dc_dgS (nI x) (j + 1) j + (dc_irem (nI x / nI (10 ^ (j + 1 - 1 - j))) 10) * (dc_wei (j % 3)))) 10
    rw [show nI x / 10 = nI (x / 10) from pk_div (d := 10) (by omega) (by decide) (by decide), dc_rdRe j _ (x / 10) (by omega) (by omega), dc_dgA hx (by omega) j (Nat.le_refl _)]
    rw [show nI (10 ^ (j + 1 - 1 - j)) = nI 1 by rw [show j + 1 - 1 - j = 0 by omega]]
    rw [show nI x / nI 1 = nI x from by rw [pk_div (by omega) (by decide) (by decide), Nat.div_one]]
    rw [Int32.add_assoc, Int32.add_comm (dc_irem (nI x) 10 * dc_wei (j % 3))]
theorem dc_dgRd {v : Int32} {k : Nat} (hv : ¬ v < 0) (hk1 : 1 ≤ k) (hk : k ≤ 9) : dc_irem (dc_dgS v k k) 10 = dc_rd v k := by
  obtain ⟨x, hx, rfl⟩ := nI_of hv
  unfold dc_rd
  rw [dc_rdRe k 0 x (by omega) hk, Int32.zero_add]
