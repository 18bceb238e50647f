abbrev dc_AS : Type := Int64 × Int32 × (Nat → Int64) × Nat × (Nat → Int64) × Nat × Bool × Nat × Int32 × Bool × Int64 × (Nat → Int64) × Nat
abbrev dc_BS : Type := Int64 × Int32 × (Nat → Int64) × Nat × (Nat → Int64) × Nat × Bool × Nat × Int32 × Bool × Int64
def dc_ask (fa fb : Nat → Int32) (fm : Nat → Int64) (t : Nat) (ee em se sm : Int64) (w0 : Nat → Int64) (n0 : Nat) (w1 : Nat → Int64) (n1 : Nat) (w2 : Nat → Int64) (n2 : Nat) (w3 : Nat → Int64) (n3 : Nat) (hh num k : Nat) (x : dc_AS) : Int32 × dc_AS := match x with
  | (ec, c, wT, nT, wU, nU, ak, sv, dn, so, sc, w, n) => (dc_askR (dc_obE so se sm sc sv n0 n1 n2 n3 (dc_get (dc_askW fa fb fm c t wT hh num ee em ec) 3 0) (dc_get (dc_askW fa fb fm c t wT hh num ee em ec) 3 1) (dc_get (dc_askW fa fb fm c t wT hh num ee em ec) 3 2)) (dc_unwOk (dc_carW fa fb fm (c + 1) (dc_sel (decide (dc_obE so se sm sc sv n0 n1 n2 n3 (dc_get (dc_askW fa fb fm c t wT hh num ee em ec) 3 0) (dc_get (dc_askW fa fb fm c t wT hh num ee em ec) 3 1) (dc_get (dc_askW fa fb fm c t wT hh num ee em ec) 3 2) = 0)) (dc_obN se sc (dc_get (dc_askW fa fb fm c t wT hh num ee em ec) 3 0) (dc_get (dc_askW fa fb fm c t wT hh num ee em ec) 3 1) + 2) 0) (dc_sel (decide (dc_obE so se sm sc sv n0 n1 n2 n3 (dc_get (dc_askW fa fb fm c t wT hh num ee em ec) 3 0) (dc_get (dc_askW fa fb fm c t wT hh num ee em ec) 3 1) (dc_get (dc_askW fa fb fm c t wT hh num ee em ec) 3 2) = 0)) (dc_swrap (dc_obW se sc sv w0 w1 w2 w3 (dc_get (dc_askW fa fb fm c t wT hh num ee em ec) 3 0) (dc_get (dc_askW fa fb fm c t wT hh num ee em ec) 3 1) wU) (dc_obN se sc (dc_get (dc_askW fa fb fm c t wT hh num ee em ec) 3 0) (dc_get (dc_askW fa fb fm c t wT hh num ee em ec) 3 1)) se sm (sc + 1 + 1)) wU) t) (dc_sel (decide (dc_obE so se sm sc sv n0 n1 n2 n3 (dc_get (dc_askW fa fb fm c t wT hh num ee em ec) 3 0) (dc_get (dc_askW fa fb fm c t wT hh num ee em ec) 3 1) (dc_get (dc_askW fa fb fm c t wT hh num ee em ec) 3 2) = 0)) (dc_obN se sc (dc_get (dc_askW fa fb fm c t wT hh num ee em ec) 3 0) (dc_get (dc_askW fa fb fm c t wT hh num ee em ec) 3 1) + 2) 0) k em (ec + 1 + 1)), dc_sel (decide (dc_obE so se sm sc sv n0 n1 n2 n3 (dc_get (dc_askW fa fb fm c t wT hh num ee em ec) 3 0) (dc_get (dc_askW fa fb fm c t wT hh num ee em ec) 3 1) (dc_get (dc_askW fa fb fm c t wT hh num ee em ec) 3 2) = 0)) (ec + 1 + 1) (ec + 1), c + 1 + 1, dc_askW fa fb fm c t wT hh num ee em ec, 3, dc_carW fa fb fm (c + 1) (dc_sel (decide (dc_obE so se sm sc sv n0 n1 n2 n3 (dc_get (dc_askW fa fb fm c t wT hh num ee em ec) 3 0) (dc_get (dc_askW fa fb fm c t wT hh num ee em ec) 3 1) (dc_get (dc_askW fa fb fm c t wT hh num ee em ec) 3 2) = 0)) (dc_obN se sc (dc_get (dc_askW fa fb fm c t wT hh num ee em ec) 3 0) (dc_get (dc_askW fa fb fm c t wT hh num ee em ec) 3 1) + 2) 0) (dc_sel (decide (dc_obE so se sm sc sv n0 n1 n2 n3 (dc_get (dc_askW fa fb fm c t wT hh num ee em ec) 3 0) (dc_get (dc_askW fa fb fm c t wT hh num ee em ec) 3 1) (dc_get (dc_askW fa fb fm c t wT hh num ee em ec) 3 2) = 0)) (dc_swrap (dc_obW se sc sv w0 w1 w2 w3 (dc_get (dc_askW fa fb fm c t wT hh num ee em ec) 3 0) (dc_get (dc_askW fa fb fm c t wT hh num ee em ec) 3 1) wU) (dc_obN se sc (dc_get (dc_askW fa fb fm c t wT hh num ee em ec) 3 0) (dc_get (dc_askW fa fb fm c t wT hh num ee em ec) 3 1)) se sm (sc + 1 + 1)) wU) t, dc_sel (decide (dc_obE so se sm sc sv n0 n1 n2 n3 (dc_get (dc_askW fa fb fm c t wT hh num ee em ec) 3 0) (dc_get (dc_askW fa fb fm c t wT hh num ee em ec) 3 1) (dc_get (dc_askW fa fb fm c t wT hh num ee em ec) 3 2) = 0)) (dc_obN se sc (dc_get (dc_askW fa fb fm c t wT hh num ee em ec) 3 0) (dc_get (dc_askW fa fb fm c t wT hh num ee em ec) 3 1) + 2) 0, dc_sel (decide (dc_obE so se sm sc sv n0 n1 n2 n3 (dc_get (dc_askW fa fb fm c t wT hh num ee em ec) 3 0) (dc_get (dc_askW fa fb fm c t wT hh num ee em ec) 3 1) (dc_get (dc_askW fa fb fm c t wT hh num ee em ec) 3 2) = 0)) ak false, dc_sel (decide (dc_obE so se sm sc sv n0 n1 n2 n3 (dc_get (dc_askW fa fb fm c t wT hh num ee em ec) 3 0) (dc_get (dc_askW fa fb fm c t wT hh num ee em ec) 3 1) (dc_get (dc_askW fa fb fm c t wT hh num ee em ec) 3 2) = 0)) (dc_obSv se sc sv (dc_get (dc_askW fa fb fm c t wT hh num ee em ec) 3 0) (dc_get (dc_askW fa fb fm c t wT hh num ee em ec) 3 1)) 0, dc_sel (decide (dc_obE so se sm sc sv n0 n1 n2 n3 (dc_get (dc_askW fa fb fm c t wT hh num ee em ec) 3 0) (dc_get (dc_askW fa fb fm c t wT hh num ee em ec) 3 1) (dc_get (dc_askW fa fb fm c t wT hh num ee em ec) 3 2) = 0)) (dn + 1) dn, decide (dc_obE so se sm sc sv n0 n1 n2 n3 (dc_get (dc_askW fa fb fm c t wT hh num ee em ec) 3 0) (dc_get (dc_askW fa fb fm c t wT hh num ee em ec) 3 1) (dc_get (dc_askW fa fb fm c t wT hh num ee em ec) 3 2) = 0), dc_sel so (dc_sel (decide (dc_obE so se sm sc sv n0 n1 n2 n3 (dc_get (dc_askW fa fb fm c t wT hh num ee em ec) 3 0) (dc_get (dc_askW fa fb fm c t wT hh num ee em ec) 3 1) (dc_get (dc_askW fa fb fm c t wT hh num ee em ec) 3 2) = 0)) (sc + 1 + 1) (sc + 1)) sc, dc_sel ((decide (dc_obE so se sm sc sv n0 n1 n2 n3 (dc_get (dc_askW fa fb fm c t wT hh num ee em ec) 3 0) (dc_get (dc_askW fa fb fm c t wT hh num ee em ec) 3 1) (dc_get (dc_askW fa fb fm c t wT hh num ee em ec) 3 2) = 0)) && (dc_unwOk (dc_carW fa fb fm (c + 1) (dc_sel (decide (dc_obE so se sm sc sv n0 n1 n2 n3 (dc_get (dc_askW fa fb fm c t wT hh num ee em ec) 3 0) (dc_get (dc_askW fa fb fm c t wT hh num ee em ec) 3 1) (dc_get (dc_askW fa fb fm c t wT hh num ee em ec) 3 2) = 0)) (dc_obN se sc (dc_get (dc_askW fa fb fm c t wT hh num ee em ec) 3 0) (dc_get (dc_askW fa fb fm c t wT hh num ee em ec) 3 1) + 2) 0) (dc_sel (decide (dc_obE so se sm sc sv n0 n1 n2 n3 (dc_get (dc_askW fa fb fm c t wT hh num ee em ec) 3 0) (dc_get (dc_askW fa fb fm c t wT hh num ee em ec) 3 1) (dc_get (dc_askW fa fb fm c t wT hh num ee em ec) 3 2) = 0)) (dc_swrap (dc_obW se sc sv w0 w1 w2 w3 (dc_get (dc_askW fa fb fm c t wT hh num ee em ec) 3 0) (dc_get (dc_askW fa fb fm c t wT hh num ee em ec) 3 1) wU) (dc_obN se sc (dc_get (dc_askW fa fb fm c t wT hh num ee em ec) 3 0) (dc_get (dc_askW fa fb fm c t wT hh num ee em ec) 3 1)) se sm (sc + 1 + 1)) wU) t) (dc_sel (decide (dc_obE so se sm sc sv n0 n1 n2 n3 (dc_get (dc_askW fa fb fm c t wT hh num ee em ec) 3 0) (dc_get (dc_askW fa fb fm c t wT hh num ee em ec) 3 1) (dc_get (dc_askW fa fb fm c t wT hh num ee em ec) 3 2) = 0)) (dc_obN se sc (dc_get (dc_askW fa fb fm c t wT hh num ee em ec) 3 0) (dc_get (dc_askW fa fb fm c t wT hh num ee em ec) 3 1) + 2) 0) k em (ec + 1 + 1))) (dc_unwN (dc_carW fa fb fm (c + 1) (dc_sel (decide (dc_obE so se sm sc sv n0 n1 n2 n3 (dc_get (dc_askW fa fb fm c t wT hh num ee em ec) 3 0) (dc_get (dc_askW fa fb fm c t wT hh num ee em ec) 3 1) (dc_get (dc_askW fa fb fm c t wT hh num ee em ec) 3 2) = 0)) (dc_obN se sc (dc_get (dc_askW fa fb fm c t wT hh num ee em ec) 3 0) (dc_get (dc_askW fa fb fm c t wT hh num ee em ec) 3 1) + 2) 0) (dc_sel (decide (dc_obE so se sm sc sv n0 n1 n2 n3 (dc_get (dc_askW fa fb fm c t wT hh num ee em ec) 3 0) (dc_get (dc_askW fa fb fm c t wT hh num ee em ec) 3 1) (dc_get (dc_askW fa fb fm c t wT hh num ee em ec) 3 2) = 0)) (dc_swrap (dc_obW se sc sv w0 w1 w2 w3 (dc_get (dc_askW fa fb fm c t wT hh num ee em ec) 3 0) (dc_get (dc_askW fa fb fm c t wT hh num ee em ec) 3 1) wU) (dc_obN se sc (dc_get (dc_askW fa fb fm c t wT hh num ee em ec) 3 0) (dc_get (dc_askW fa fb fm c t wT hh num ee em ec) 3 1)) se sm (sc + 1 + 1)) wU) t) ee (ec + 1 + 1) w n k) w, dc_sel ((decide (dc_obE so se sm sc sv n0 n1 n2 n3 (dc_get (dc_askW fa fb fm c t wT hh num ee em ec) 3 0) (dc_get (dc_askW fa fb fm c t wT hh num ee em ec) 3 1) (dc_get (dc_askW fa fb fm c t wT hh num ee em ec) 3 2) = 0)) && (dc_unwOk (dc_carW fa fb fm (c + 1) (dc_sel (decide (dc_obE so se sm sc sv n0 n1 n2 n3 (dc_get (dc_askW fa fb fm c t wT hh num ee em ec) 3 0) (dc_get (dc_askW fa fb fm c t wT hh num ee em ec) 3 1) (dc_get (dc_askW fa fb fm c t wT hh num ee em ec) 3 2) = 0)) (dc_obN se sc (dc_get (dc_askW fa fb fm c t wT hh num ee em ec) 3 0) (dc_get (dc_askW fa fb fm c t wT hh num ee em ec) 3 1) + 2) 0) (dc_sel (decide (dc_obE so se sm sc sv n0 n1 n2 n3 (dc_get (dc_askW fa fb fm c t wT hh num ee em ec) 3 0) (dc_get (dc_askW fa fb fm c t wT hh num ee em ec) 3 1) (dc_get (dc_askW fa fb fm c t wT hh num ee em ec) 3 2) = 0)) (dc_swrap (dc_obW se sc sv w0 w1 w2 w3 (dc_get (dc_askW fa fb fm c t wT hh num ee em ec) 3 0) (dc_get (dc_askW fa fb fm c t wT hh num ee em ec) 3 1) wU) (dc_obN se sc (dc_get (dc_askW fa fb fm c t wT hh num ee em ec) 3 0) (dc_get (dc_askW fa fb fm c t wT hh num ee em ec) 3 1)) se sm (sc + 1 + 1)) wU) t) (dc_sel (decide (dc_obE so se sm sc sv n0 n1 n2 n3 (dc_get (dc_askW fa fb fm c t wT hh num ee em ec) 3 0) (dc_get (dc_askW fa fb fm c t wT hh num ee em ec) 3 1) (dc_get (dc_askW fa fb fm c t wT hh num ee em ec) 3 2) = 0)) (dc_obN se sc (dc_get (dc_askW fa fb fm c t wT hh num ee em ec) 3 0) (dc_get (dc_askW fa fb fm c t wT hh num ee em ec) 3 1) + 2) 0) k em (ec + 1 + 1))) (n + k) n)
def dc_rl (A : Nat → Nat → dc_AS → Int32 × dc_AS) (size : Nat) : Nat → Nat → Int32 → dc_AS → Int32 × dc_AS
  | 0, _, v, x => (v, x)
  | f + 1, p, v, x => if p < size ∧ v = 0 then dc_rl A size f (p + 4) (A (p + 32 * min 4 (size - p)) (min 4 (size - p)) x).1 (A (p + 32 * min 4 (size - p)) (min 4 (size - p)) x).2 else (v, x)
theorem dc_rlX {A : Nat → Nat → dc_AS → Int32 × dc_AS} {size f p : Nat} {v : Int32} {x : dc_AS} (h : ¬ (p < size ∧ v = 0)) : dc_rl A size f p v x = (v, x) := by
  cases f with
  | zero => rfl
  | succ f =>
    show (if p < size ∧ v = 0 then _ else (v, x)) = (v, x)
    rw [if_neg h]
theorem dc_rlS {A : Nat → Nat → dc_AS → Int32 × dc_AS} {size f p k : Nat} {v : Int32} {x : dc_AS} {y : Int32 × dc_AS} (hf : 0 < f) (h1 : p < size) (h2 : v = 0) (hk : k = min 4 (size - p)) (hy : y = A (p + 32 * k) k x) : dc_rl A size f p v x = dc_rl A size (f - 1) (p + 4) y.1 y.2 := by
  obtain ⟨g, rfl⟩ : ∃ g, f = g + 1 := ⟨f - 1, by omega⟩
  show (if p < size ∧ v = 0 then _ else (v, x)) = _
  rw [if_pos ⟨h1, h2⟩, ← hk, ← hy]
  rfl
def dc_turn (A : Nat → Nat → Nat → dc_AS → Int32 × dc_AS) (f n : Nat) (x : dc_AS) : Int32 × dc_AS := dc_rl (A 2) n 6 0 (A 1 f 0 x).1 (A 1 f 0 x).2
def dc_rf (A : Nat → Nat → Nat → dc_AS → Int32 × dc_AS) (n0 n1 n2 n3 : Nat) (x : dc_BS) (x0 x1 x2 x3 : Nat → Int64) : Int32 × Int64 × Int32 × (Nat → Int64) × Nat × (Nat → Int64) × Nat × Bool × Nat × Int32 × Bool × Int64 × (Nat → Int64) × Nat × (Nat → Int64) × Nat × (Nat → Int64) × Nat × (Nat → Int64) × Nat := match x with
  | (ec, c, wT, nT, wU, nU, ak, sv, dn, so, sc) =>
    match dc_turn A 3 n3 (ec, c, wT, nT, wU, nU, ak, sv, dn, so, sc, x3, 0) with
    | (v, ec, c, wT, nT, wU, nU, ak, sv, dn, so, sc, w3, m3) =>
      if v = 0 then
        match dc_turn A 0 n0 (ec, c, wT, nT, wU, nU, ak, sv, dn, so, sc, x0, 0) with
        | (v, ec, c, wT, nT, wU, nU, ak, sv, dn, so, sc, w0, m0) =>
          if v = 0 then
            match dc_turn A 1 n1 (ec, c, wT, nT, wU, nU, ak, sv, dn, so, sc, x1, 0) with
            | (v, ec, c, wT, nT, wU, nU, ak, sv, dn, so, sc, w1, m1) =>
              if v = 0 then
                match dc_turn A 2 n2 (ec, c, wT, nT, wU, nU, ak, sv, dn, so, sc, x2, 0) with
                | (v, ec, c, wT, nT, wU, nU, ak, sv, dn, so, sc, w2, m2) => if v = 0 then (0, ec, c, wT, nT, wU, nU, ak, sv, dn, so, sc, w0, m0, w1, m1, w2, m2, w3, m3) else (v, ec, c, wT, nT, wU, nU, ak, sv, dn, so, sc, w0, m0, w1, m1, w2, m2, w3, m3)
              else (v, ec, c, wT, nT, wU, nU, ak, sv, dn, so, sc, w0, m0, w1, m1, x2, 0, w3, m3)
          else (v, ec, c, wT, nT, wU, nU, ak, sv, dn, so, sc, w0, m0, x1, 0, x2, 0, w3, m3)
      else (v, ec, c, wT, nT, wU, nU, ak, sv, dn, so, sc, x0, 0, x1, 0, x2, 0, w3, m3)
theorem dc_askN {ve : Int32} {ok : Bool} {α : Type} {x y : α} (h : dc_askR ve ok = 0) : dc_sel ((decide (ve = 0)) && ok) x y = x := by
  unfold dc_askR at h
  by_cases hv : ve = 0
  · rw [if_pos hv] at h
    cases ok with
    | true => rw [decide_eq_true hv]; rfl
    | false => exact absurd h (by decide)
  · rw [if_neg hv] at h
    exact absurd h (by decide)
theorem dc_sel00 {b : Bool} : dc_sel b (0 + 0) 0 = 0 := by cases b <;> rfl
theorem dc_isFile3 {x : Int64} (h : dc_isFile x = true) : x.toInt.toNat + 1 ≤ 4 := by
  have h1 := (of_decide_eq_true h).2
  rw [Int64.lt_iff_toInt_lt] at h1
  have e4 : (4 : Int64).toInt = 4 := rfl
  rw [e4] at h1
  omega
theorem dc_obSv4 {so : Bool} {se sm sc : Int64} {sv n0 n1 n2 n3 : Nat} {x y u : Int64} (hsv : sv ≤ 4) : dc_sel (decide (dc_obE so se sm sc sv n0 n1 n2 n3 x y u = 0)) (dc_obSv se sc sv x y) 0 ≤ 4 := by
  unfold dc_sel
  split
  · rename_i h
    obtain ⟨-, -, h⟩ := dc_obE0 (of_decide_eq_true h)
    unfold dc_obR at h
    unfold dc_obSv
    by_cases h1 : x = 1
    · rw [if_pos h1] at h ⊢
      exact dc_isFile3 (dc_selE h)
    · rw [if_neg h1]
      exact hsv
  · omega
theorem dc_minE {m : Nat} (hm : m < 1000) : ∃ k : Nat, k ≤ 4 ∧ k ≤ m ∧ (k = 4 ∨ k = m) ∧ k = min 4 m ∧ dc_min (4 : Int32) (nI m) = nI k := by
  unfold dc_min
  by_cases h : m < 4
  · refine ⟨m, by omega, Nat.le_refl _, Or.inr rfl, by omega, ?_⟩
    exact if_pos ((nI_ltI (a := m) (b := 4) (by omega) (by omega)).2 h)
  · refine ⟨4, Nat.le_refl _, by omega, Or.inl rfl, by omega, ?_⟩
    exact if_neg (fun z => h ((nI_ltI (a := m) (b := 4) (by omega) (by omega)).1 z))
theorem dc_selLe {b : Bool} {x y m : Nat} (hx : x ≤ m) (hy : y ≤ m) : dc_sel b x y ≤ m := by
  cases b with
  | true => exact hx
  | false => exact hy
