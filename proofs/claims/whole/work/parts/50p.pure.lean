theorem dc_askZ {ve : Int32} {ok : Bool} (h : dc_askR ve ok = 0) : ve = 0 ∧ ok = true := by
  unfold dc_askR at h
  by_cases hv : ve = 0
  · rw [if_pos hv] at h
    cases ok with
    | true => exact ⟨hv, rfl⟩
    | false => exact absurd h (by decide)
  · rw [if_neg hv] at h
    exact absurd h (by decide)
/-- one reading of the reference, beside the class's -/
theorem dc_ftS {G0 G1 W2 M w0 w1 : Nat → Int64} {ee em ec0 ec1 ecr : Int64} {f p nf k n0 n1 NU : Nat} {v ve : Int32}
    (hr : v = dc_askR ve (dc_unwOk W2 NU k em ec1)) (hv : v = 0) (hM : ve = 0 → dc_aEq M W2 NU)
    (hw : w1 = dc_sel ((decide (ve = 0)) && (dc_unwOk W2 NU k em ec1)) (dc_unwN W2 ee ec1 w0 n0 k) w0) (hn : n1 = dc_sel ((decide (ve = 0)) && (dc_unwOk W2 NU k em ec1)) (n0 + k) n0) (hec : ecr = dc_sel (decide (ve = 0)) ec1 ec0)
    (hn0 : n0 = min p nf) (hp : p < nf) (hk : k = min 4 (nf - p)) (hold : ∀ j : Nat, j < min p nf → G0 (20 * f + j) = w0 j)
    (hGi : ∀ j : Nat, j < k → G1 (20 * f + p + j) = dc_dec ee (M j) ^^^ ecr) (hGo : ∀ q : Nat, q < 20 * f + p ∨ 20 * f + p + k ≤ q → G1 q = G0 q) :
    n1 = min (p + 4) nf ∧ ∀ j : Nat, j < min (p + 4) nf → G1 (20 * f + j) = w1 j := by
  rw [hv] at hr
  obtain ⟨hve, hok⟩ := dc_askZ hr.symm
  have hb : ((decide (ve = 0)) && (dc_unwOk W2 NU k em ec1)) = true := by rw [decide_eq_true hve, hok]; rfl
  rw [hb, dc_selT] at hw hn
  rw [decide_eq_true hve, dc_selT] at hec
  have hNU := (of_decide_eq_true hok).1
  subst hw
  have e0 : n0 = p := by omega
  refine ⟨by omega, fun j hj => ?_⟩
  by_cases hlt : j < p
  · rw [dc_unwN_lo k j (by omega), hGo (20 * f + j) (Or.inl (by omega))]
    exact hold j (by omega)
  · have ej : j = n0 + (j - p) := by omega
    have e1 : dc_unwN W2 ee ec1 w0 n0 k j = dc_dec ee (W2 (j - p)) ^^^ ec1 := by
      conv => lhs; rw [ej]
      exact dc_unwN_at k (j - p) (by omega)
    have e2 : 20 * f + j = 20 * f + p + (j - p) := by omega
    rw [e1, e2, hGi (j - p) (by omega), hec, hM hve (j - p) (by omega)]
/-- the words that lie outside -/
theorem dc_ftO {G0 G1 G2 : Nat → Int64} {f p k nf : Nat} (hp : p < nf) (hnf : nf ≤ 20) (hk : k = min 4 (nf - p)) (hG : ∀ q : Nat, q < 20 * f ∨ 20 * f + 20 ≤ q → G1 q = G0 q) (hGo : ∀ q : Nat, q < 20 * f + p ∨ 20 * f + p + k ≤ q → G2 q = G1 q) : ∀ q : Nat, q < 20 * f ∨ 20 * f + 20 ≤ q → G2 q = G0 q := fun q hq => by
  rw [hGo q (by omega)]; exact hG q hq
theorem dc_fiI {G x : Nat → Int64} {b i : Nat} (h : ∀ j : Nat, j < i → G (b + j) = x j) {u : Int64} (hu : u = x i) : ∀ j : Nat, j < i + 1 → vp_updL G (b + i) u (b + j) = x j := fun j hj => by
  by_cases e : j = i
  · subst e; rw [pk_uLs]; exact hu
  · rw [pk_uLn (by omega)]; exact h j (by omega)
theorem dc_fiO {G0 G : Nat → Int64} {b i : Nat} {u : Int64} (h : ∀ q : Nat, q < b ∨ b + i ≤ q → G q = G0 q) : ∀ q : Nat, q < b ∨ b + (i + 1) ≤ q → vp_updL G (b + i) u q = G0 q := fun q hq => by
  rw [pk_uLn (by omega)]; exact h q (by omega)
