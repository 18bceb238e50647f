-- pure rows: files and sizes of the reference, what each call answers
def dc_aEq (a b : Nat → Int64) (n : Nat) : Prop := ∀ j : Nat, j < n → a j = b j
def dc_szR (zs : Nat → Int32) (n0 n1 n2 n3 : Nat) : Prop := zs 0 = nI n0 ∧ zs 1 = nI n1 ∧ zs 2 = nI n2 ∧ zs 3 = nI n3
def dc_fiR (F w0 : Nat → Int64) (n0 : Nat) (w1 : Nat → Int64) (n1 : Nat) (w2 : Nat → Int64) (n2 : Nat) (w3 : Nat → Int64) (n3 : Nat) : Prop :=
  (∀ p : Nat, p < n0 → F (20 * 0 + p) = w0 p) ∧ (∀ p : Nat, p < n1 → F (20 * 1 + p) = w1 p) ∧ (∀ p : Nat, p < n2 → F (20 * 2 + p) = w2 p) ∧ (∀ p : Nat, p < n3 → F (20 * 3 + p) = w3 p)
theorem dc_toI {x k : Int32} {j : Int} (h : x.toInt = j) (hk : k.toInt = j) : x = k := Int32.toInt_inj.mp (h.trans hk.symm)
theorem dc_w8 (x : Int32) : x = 0 ∨ x = 1 ∨ x = 2 ∨ x = 3 ∨ x = 4 ∨ x = 5 ∨ x = 6 ∨ x = 7 ∨ (x.toInt < 0 ∨ 7 < x.toInt) := by
  by_cases h : x.toInt < 0 ∨ 7 < x.toInt
  · exact Or.inr (Or.inr (Or.inr (Or.inr (Or.inr (Or.inr (Or.inr (Or.inr h)))))))
  · rcases (show x.toInt = 0 ∨ x.toInt = 1 ∨ x.toInt = 2 ∨ x.toInt = 3 ∨ x.toInt = 4 ∨ x.toInt = 5 ∨ x.toInt = 6 ∨ x.toInt = 7 by omega) with h | h | h | h | h | h | h | h
    · exact Or.inl (dc_toI h rfl)
    · exact Or.inr (Or.inl (dc_toI h rfl))
    · exact Or.inr (Or.inr (Or.inl (dc_toI h rfl)))
    · exact Or.inr (Or.inr (Or.inr (Or.inl (dc_toI h rfl))))
    · exact Or.inr (Or.inr (Or.inr (Or.inr (Or.inl (dc_toI h rfl)))))
    · exact Or.inr (Or.inr (Or.inr (Or.inr (Or.inr (Or.inl (dc_toI h rfl))))))
    · exact Or.inr (Or.inr (Or.inr (Or.inr (Or.inr (Or.inr (Or.inl (dc_toI h rfl)))))))
    · exact Or.inr (Or.inr (Or.inr (Or.inr (Or.inr (Or.inr (Or.inr (Or.inl (dc_toI h rfl))))))))
theorem dc_w4 (x : Int32) : dc_has 4 x = false ∨ x = 0 ∨ x = 1 ∨ x = 2 ∨ x = 3 := by
  cases hb : dc_has 4 x with
  | false => exact Or.inl rfl
  | true =>
    obtain ⟨j, hj, rfl⟩ := dc_hasE (by decide) hb
    rcases (show j = 0 ∨ j = 1 ∨ j = 2 ∨ j = 3 by omega) with rfl | rfl | rfl | rfl
    · exact Or.inr (Or.inl rfl)
    · exact Or.inr (Or.inr (Or.inl rfl))
    · exact Or.inr (Or.inr (Or.inr (Or.inl rfl)))
    · exact Or.inr (Or.inr (Or.inr (Or.inr rfl)))
theorem dc_w3 (x : Int32) : dc_has 3 x = false ∨ x = 0 ∨ x = 1 ∨ x = 2 := by
  cases hb : dc_has 3 x with
  | false => exact Or.inl rfl
  | true =>
    obtain ⟨j, hj, rfl⟩ := dc_hasE (by decide) hb
    rcases (show j = 0 ∨ j = 1 ∨ j = 2 by omega) with rfl | rfl | rfl
    · exact Or.inr (Or.inl rfl)
    · exact Or.inr (Or.inr (Or.inl rfl))
    · exact Or.inr (Or.inr (Or.inr rfl))
theorem dc_out3 {f : Int32} (hout : dc_has 4 f = false) (h2 : ¬ f < 0) : ¬ f ≤ 3 := by
  have h := of_decide_eq_false hout
  rw [Int32.lt_iff_toInt_lt, Int32.toInt_zero] at h2
  rw [Int32.le_iff_toInt_le]
  have e3 : (3 : Int32).toInt = 3 := rfl
  rw [e3]
  omega
theorem dc_out2 {f : Int32} (hout : dc_has 3 f = false) (h2 : ¬ f < 0) : 3 ≤ f := by
  have h := of_decide_eq_false hout
  rw [Int32.lt_iff_toInt_lt, Int32.toInt_zero] at h2
  rw [Int32.le_iff_toInt_le]
  have e3 : (3 : Int32).toInt = 3 := rfl
  rw [e3]
  omega
theorem dc_k1 {k : Nat} (h : ¬ nI k < (1 : Int32)) : 1 ≤ k := by
  rcases k with _ | k
  · exact absurd (by decide) h
  · omega
theorem dc_wd1 (j : Nat) : 1 ≤ dc_wd j := by
  rcases j with _ | j
  · decide
  · show 1 ≤ 6
    decide
-- load
def dc_ldT (f : Int32) (n0 n1 n2 n3 : Nat) : Int32 := if dc_has 4 f = true then (if dc_f4 n0 n1 n2 n3 f.toNatClampNeg = 20 then 2 else 0) else 1
def dc_ldB (f : Int32) (k n0 n1 n2 n3 : Nat) : Bool := decide (f = nI k ∧ dc_ldT f n0 n1 n2 n3 = 0)
def dc_ldV (f : Int32) (n0 n1 n2 n3 : Nat) : Int32 := if dc_ldT f n0 n1 n2 n3 = 0 then nI (dc_f4 n0 n1 n2 n3 f.toNatClampNeg + 1) else 0
theorem dc_ldO {f : Int32} {n0 n1 n2 n3 : Nat} (h : dc_has 4 f = false) : dc_ldT f n0 n1 n2 n3 = 1 := by
  unfold dc_ldT; rw [if_neg (by rw [h]; decide)]
theorem dc_ldF {j n0 n1 n2 n3 : Nat} (hj : j < 4) (h : dc_f4 n0 n1 n2 n3 j = 20) : dc_ldT (nI j) n0 n1 n2 n3 = 2 := by
  unfold dc_ldT; rw [if_pos (dc_hasN hj (by decide)), nI_clamp (by omega), if_pos h]
theorem dc_ldG {j n0 n1 n2 n3 : Nat} (hj : j < 4) (h : ¬ dc_f4 n0 n1 n2 n3 j = 20) : dc_ldT (nI j) n0 n1 n2 n3 = 0 := by
  unfold dc_ldT; rw [if_pos (dc_hasN hj (by decide)), nI_clamp (by omega), if_neg h]
theorem dc_ldB0 {f : Int32} {k n0 n1 n2 n3 : Nat} (h : ¬ dc_ldT f n0 n1 n2 n3 = 0) : dc_ldB f k n0 n1 n2 n3 = false := decide_eq_false (fun z => h z.2)
theorem dc_ldBn {j k n0 n1 n2 n3 : Nat} (hj : j < 4) (hk : k < 4) (h : ¬ j = k) : dc_ldB (nI j) k n0 n1 n2 n3 = false := decide_eq_false (fun z => h ((nI_eq (by omega) (by omega)).1 z.1))
theorem dc_ldBy {j n0 n1 n2 n3 : Nat} (h : dc_ldT (nI j) n0 n1 n2 n3 = 0) : dc_ldB (nI j) j n0 n1 n2 n3 = true := decide_eq_true ⟨rfl, h⟩
theorem dc_ldV0 {f : Int32} {n0 n1 n2 n3 : Nat} (h : ¬ dc_ldT f n0 n1 n2 n3 = 0) : 0 = dc_ldV f n0 n1 n2 n3 := by unfold dc_ldV; rw [if_neg h]
theorem dc_ldV1 {j n0 n1 n2 n3 : Nat} (hj : j < 4) (h : dc_ldT (nI j) n0 n1 n2 n3 = 0) : nI (dc_f4 n0 n1 n2 n3 j + 1) = dc_ldV (nI j) n0 n1 n2 n3 := by unfold dc_ldV; rw [if_pos h, nI_clamp (by omega)]
def dc_ldN (f : Int32) (k n0 n1 n2 n3 : Nat) : Nat := dc_sel (dc_ldB f k n0 n1 n2 n3) (dc_f4 n0 n1 n2 n3 k + 1) (dc_f4 n0 n1 n2 n3 k)
def dc_ldW (f : Int32) (k n0 n1 n2 n3 : Nat) (x : Int64) (w : Nat → Int64) : Nat → Int64 := dc_sel (dc_ldB f k n0 n1 n2 n3) (vp_updL w (dc_f4 n0 n1 n2 n3 k) x) w
def dc_ldS (f : Int32) (x : Int64) (zs : Nat → Int32) (F w0 : Nat → Int64) (n0 : Nat) (w1 : Nat → Int64) (n1 : Nat) (w2 : Nat → Int64) (n2 : Nat) (w3 : Nat → Int64) (n3 : Nat) : Prop :=
  dc_szR zs (dc_ldN f 0 n0 n1 n2 n3) (dc_ldN f 1 n0 n1 n2 n3) (dc_ldN f 2 n0 n1 n2 n3) (dc_ldN f 3 n0 n1 n2 n3) ∧
  dc_fiR F (dc_ldW f 0 n0 n1 n2 n3 x w0) (dc_ldN f 0 n0 n1 n2 n3) (dc_ldW f 1 n0 n1 n2 n3 x w1) (dc_ldN f 1 n0 n1 n2 n3) (dc_ldW f 2 n0 n1 n2 n3 x w2) (dc_ldN f 2 n0 n1 n2 n3) (dc_ldW f 3 n0 n1 n2 n3 x w3) (dc_ldN f 3 n0 n1 n2 n3)
theorem dc_ldS0 {f : Int32} {x : Int64} {zs : Nat → Int32} {F w0 w1 w2 w3 : Nat → Int64} {n0 n1 n2 n3 : Nat} (h : ¬ dc_ldT f n0 n1 n2 n3 = 0) (hz : dc_szR zs n0 n1 n2 n3) (hF : dc_fiR F w0 n0 w1 n1 w2 n2 w3 n3) : dc_ldS f x zs F w0 n0 w1 n1 w2 n2 w3 n3 := by
  unfold dc_ldS dc_ldN dc_ldW
  rw [dc_ldB0 h, dc_ldB0 h, dc_ldB0 h, dc_ldB0 h]
  exact ⟨hz, hF⟩
theorem dc_fiU {F w : Nat → Int64} {j n k m : Nat} {x : Int64} (h : ∀ p : Nat, p < n → F (20 * j + p) = w p) (hn : n ≤ 20) (hm : m < 20) (hjk : ¬ j = k) : ∀ p : Nat, p < n → vp_updL F (20 * k + m) x (20 * j + p) = w p := fun p hp => by
  rw [pk_uLn (by omega)]; exact h p hp
theorem dc_fiY {F w : Nat → Int64} {j n : Nat} {x : Int64} (h : ∀ p : Nat, p < n → F (20 * j + p) = w p) : ∀ p : Nat, p < n + 1 → vp_updL F (20 * j + n) x (20 * j + p) = vp_updL w n x p := fun p hp => by
  by_cases e : p = n
  · subst e; rw [pk_uLs, pk_uLs]
  · rw [pk_uLn (by omega), pk_uLn e]; exact h p (by omega)
theorem dc_ldS1 {j : Nat} {x : Int64} {zs : Nat → Int32} {F w0 w1 w2 w3 : Nat → Int64} {n0 n1 n2 n3 : Nat} (hj : j < 4) (h : dc_ldT (nI j) n0 n1 n2 n3 = 0) (hm : dc_f4 n0 n1 n2 n3 j < 20) (h0 : n0 ≤ 20) (h1 : n1 ≤ 20) (h2 : n2 ≤ 20) (h3 : n3 ≤ 20) (hz : dc_szR zs n0 n1 n2 n3) (hF : dc_fiR F w0 n0 w1 n1 w2 n2 w3 n3) :
    dc_ldS (nI j) x (upd zs j (nI (dc_f4 n0 n1 n2 n3 j + 1))) (vp_updL F (20 * j + dc_f4 n0 n1 n2 n3 j) x) w0 n0 w1 n1 w2 n2 w3 n3 := by
  obtain ⟨z0, z1, z2, z3⟩ := hz
  obtain ⟨f0, f1, f2, f3⟩ := hF
  unfold dc_ldS dc_ldN dc_ldW
  rcases (show j = 0 ∨ j = 1 ∨ j = 2 ∨ j = 3 by omega) with rfl | rfl | rfl | rfl
  · rw [dc_ldBy h, dc_ldBn (j := 0) (k := 1) (by decide) (by decide) (by decide), dc_ldBn (j := 0) (k := 2) (by decide) (by decide) (by decide), dc_ldBn (j := 0) (k := 3) (by decide) (by decide) (by decide)]
    exact ⟨⟨rfl, z1, z2, z3⟩, dc_fiY f0, dc_fiU f1 h1 hm (by decide), dc_fiU f2 h2 hm (by decide), dc_fiU f3 h3 hm (by decide)⟩
  · rw [dc_ldBy h, dc_ldBn (j := 1) (k := 0) (by decide) (by decide) (by decide), dc_ldBn (j := 1) (k := 2) (by decide) (by decide) (by decide), dc_ldBn (j := 1) (k := 3) (by decide) (by decide) (by decide)]
    exact ⟨⟨z0, rfl, z2, z3⟩, dc_fiU f0 h0 hm (by decide), dc_fiY f1, dc_fiU f2 h2 hm (by decide), dc_fiU f3 h3 hm (by decide)⟩
  · rw [dc_ldBy h, dc_ldBn (j := 2) (k := 0) (by decide) (by decide) (by decide), dc_ldBn (j := 2) (k := 1) (by decide) (by decide) (by decide), dc_ldBn (j := 2) (k := 3) (by decide) (by decide) (by decide)]
    exact ⟨⟨z0, z1, rfl, z3⟩, dc_fiU f0 h0 hm (by decide), dc_fiU f1 h1 hm (by decide), dc_fiY f2, dc_fiU f3 h3 hm (by decide)⟩
  · rw [dc_ldBy h, dc_ldBn (j := 3) (k := 0) (by decide) (by decide) (by decide), dc_ldBn (j := 3) (k := 1) (by decide) (by decide) (by decide), dc_ldBn (j := 3) (k := 2) (by decide) (by decide) (by decide)]
    exact ⟨⟨z0, z1, z2, rfl⟩, dc_fiU f0 h0 hm (by decide), dc_fiU f1 h1 hm (by decide), dc_fiU f2 h2 hm (by decide), dc_fiY f3⟩
-- print
def dc_prT (f v d : Int32) : Int32 := if dc_has 3 f = true then (if ¬ v < 0 ∧ v < dc_lim f.toNatClampNeg ∧ ¬ d < 0 ∧ ¬ 9 < d then 0 else 2) else 1
theorem dc_prO {f v d : Int32} (h : dc_has 3 f = false) : dc_prT f v d = 1 := by unfold dc_prT; rw [if_neg (by rw [h]; decide)]
theorem dc_prF {j : Nat} {v d : Int32} (hj : j < 3) (h : ¬ (¬ v < 0 ∧ v < dc_lim j ∧ ¬ d < 0 ∧ ¬ 9 < d)) : dc_prT (nI j) v d = 2 := by
  unfold dc_prT; rw [if_pos (dc_hasN hj (by decide)), nI_clamp (by omega), if_neg h]
theorem dc_prG {j : Nat} {v d : Int32} (hj : j < 3) (h : ¬ v < 0 ∧ v < dc_lim j ∧ ¬ d < 0 ∧ ¬ 9 < d) : dc_prT (nI j) v d = 0 := by
  unfold dc_prT; rw [if_pos (dc_hasN hj (by decide)), nI_clamp (by omega), if_pos h]
theorem dc_lt0 {v : Int32} : (999999999 : Int32) < v ↔ ¬ v < dc_lim 0 := by
  rw [Int32.lt_iff_toInt_lt, Int32.lt_iff_toInt_lt]
  have e1 : (999999999 : Int32).toInt = 999999999 := rfl
  have e2 : (dc_lim 0).toInt = 1000000000 := rfl
  rw [e1, e2]
  omega
theorem dc_lt1 {v : Int32} {j : Nat} : (999999 : Int32) < v ↔ ¬ v < dc_lim (j + 1) := by
  rw [Int32.lt_iff_toInt_lt, Int32.lt_iff_toInt_lt]
  have e1 : (999999 : Int32).toInt = 999999 := rfl
  have e2 : (dc_lim (j + 1)).toInt = 1000000 := rfl
  rw [e1, e2]
  omega
def dc_prV (f v d : Int32) : Bool := decide (dc_prT f v d = 0 ∧ d = dc_rd v (dc_wd f.toNatClampNeg))
-- chip
def dc_chipF (so ak : Bool) (sv : Nat) (dn : Int32) (n0 n1 n2 n3 : Nat) (x : Int32) : Int32 :=
  if x = 0 then dc_bI so else if x = 1 then dc_bI ak else if x = 2 then dc_dn sv else if x = 7 then dn else if x = 3 then nI n0 else if x = 4 then nI n1 else if x = 5 then nI n2 else if x = 6 then nI n3 else -2
theorem dc_chipO {so ak : Bool} {sv : Nat} {dn : Int32} {n0 n1 n2 n3 : Nat} {x : Int32} (h : x.toInt < 0 ∨ 7 < x.toInt) : (-2 : Int32) = dc_chipF so ak sv dn n0 n1 n2 n3 x := by
  have hn : ∀ k : Int32, (0 ≤ k.toInt ∧ k.toInt ≤ 7) → ¬ x = k := fun k hk e => by subst e; omega
  unfold dc_chipF
  rw [if_neg (hn 0 (by decide)), if_neg (hn 1 (by decide)), if_neg (hn 2 (by decide)), if_neg (hn 7 (by decide)), if_neg (hn 3 (by decide)), if_neg (hn 4 (by decide)), if_neg (hn 5 (by decide)), if_neg (hn 6 (by decide))]
theorem dc_w8F {x : Int32} (h : x.toInt < 0 ∨ 7 < x.toInt) : dc_isFile (x - 3).toInt64 = false := by
  refine decide_eq_false (fun z => ?_)
  obtain ⟨z1, z2⟩ := z
  rw [Int64.lt_iff_toInt_lt, Int32.toInt_toInt64] at z1 z2
  have e0 : (0 : Int64).toInt = 0 := rfl
  have e4 : (4 : Int64).toInt = 4 := rfl
  rw [e0] at z1
  rw [e4] at z2
  have hx : x = (x - 3) + 3 := by rw [Int32.sub_add_cancel]
  have hy : x - 3 = nI (x - 3).toInt.toNat := by
    rw [← Int32.toInt_inj, nI_toInt (by omega)]
    omega
  have h3 : x.toInt = ((x - 3).toInt.toNat + 3 : Nat) := by
    conv => lhs; rw [hx, hy]
    rw [show nI (x - 3).toInt.toNat + 3 = nI ((x - 3).toInt.toNat + 3) from nI_add _ 3, nI_toInt (by omega)]
  omega
theorem dc_w8a {x : Int32} (h : x.toInt < 0 ∨ 7 < x.toInt) (h3 : ¬ x < 3) : ¬ x ≤ 6 := by
  rw [Int32.lt_iff_toInt_lt] at h3
  rw [Int32.le_iff_toInt_le]
  have e3 : (3 : Int32).toInt = 3 := rfl
  have e6 : (6 : Int32).toInt = 6 := rfl
  rw [e3] at h3
  rw [e6]
  omega
-- held
def dc_hdT (gn : Bool) (f p : Int32) (m0 m1 m2 m3 : Nat) : Int32 := if gn = true then (if dc_has 4 f = true ∧ dc_has (dc_f4 m0 m1 m2 m3 f.toNatClampNeg) p = true then 0 else 2) else 1
def dc_hdV (gn : Bool) (f p : Int32) (w0 : Nat → Int64) (m0 : Nat) (w1 : Nat → Int64) (m1 : Nat) (w2 : Nat → Int64) (m2 : Nat) (w3 : Nat → Int64) (m3 : Nat) : Int64 := if dc_hdT gn f p m0 m1 m2 m3 = 0 then dc_get (dc_f4 w0 w1 w2 w3 f.toNatClampNeg) (dc_f4 m0 m1 m2 m3 f.toNatClampNeg) p else 0
theorem dc_hd1 {gn : Bool} {f p : Int32} {m0 m1 m2 m3 : Nat} (h : gn = false) : dc_hdT gn f p m0 m1 m2 m3 = 1 := by unfold dc_hdT; rw [if_neg (by rw [h]; decide)]
theorem dc_hd2 {gn : Bool} {f p : Int32} {m0 m1 m2 m3 : Nat} (h : gn = true) (h2 : dc_has 4 f = false) : dc_hdT gn f p m0 m1 m2 m3 = 2 := by unfold dc_hdT; rw [if_pos h, if_neg (fun z => by rw [h2] at z; exact absurd z.1 (by decide))]
theorem dc_hd3 {gn : Bool} {p : Int32} {j m0 m1 m2 m3 : Nat} (h : gn = true) (hj : j < 4) (h2 : dc_has (dc_f4 m0 m1 m2 m3 j) p = false) : dc_hdT gn (nI j) p m0 m1 m2 m3 = 2 := by unfold dc_hdT; rw [if_pos h, nI_clamp (by omega), if_neg (fun z => by rw [h2] at z; exact absurd z.2 (by decide))]
theorem dc_hd0 {gn : Bool} {p : Int32} {j m0 m1 m2 m3 : Nat} (h : gn = true) (hj : j < 4) (h2 : dc_has (dc_f4 m0 m1 m2 m3 j) p = true) : dc_hdT gn (nI j) p m0 m1 m2 m3 = 0 := by unfold dc_hdT; rw [if_pos h, nI_clamp (by omega), if_pos ⟨dc_hasN hj (by decide), h2⟩]
theorem dc_hdV0 {gn : Bool} {f p : Int32} {w0 w1 w2 w3 : Nat → Int64} {m0 m1 m2 m3 : Nat} (h : ¬ dc_hdT gn f p m0 m1 m2 m3 = 0) : 0 = dc_hdV gn f p w0 m0 w1 m1 w2 m2 w3 m3 := by unfold dc_hdV; rw [if_neg h]
theorem dc_hdV1 {gn : Bool} {w0 w1 w2 w3 : Nat → Int64} {i j m0 m1 m2 m3 : Nat} (hj : j < 4) (hi : i < dc_f4 m0 m1 m2 m3 j) (hm : dc_f4 m0 m1 m2 m3 j ≤ 20) (h : dc_hdT gn (nI j) (nI i) m0 m1 m2 m3 = 0) : dc_f4 w0 w1 w2 w3 j i = dc_hdV gn (nI j) (nI i) w0 m0 w1 m1 w2 m2 w3 m3 := by
  unfold dc_hdV; rw [if_pos h, nI_clamp (by omega), dc_getN hi (by omega)]
