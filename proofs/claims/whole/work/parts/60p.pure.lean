-- pure rows for the law's loop
theorem dc_f4le {n0 n1 n2 n3 m : Nat} (h0 : n0 ≤ m) (h1 : n1 ≤ m) (h2 : n2 ≤ m) (h3 : n3 ≤ m) (k : Nat) (hk : k < 4) : dc_f4 n0 n1 n2 n3 k ≤ m := by
  rcases (show k = 0 ∨ k = 1 ∨ k = 2 ∨ k = 3 by omega) with rfl | rfl | rfl | rfl
  · exact h0
  · exact h1
  · exact h2
  · exact h3
theorem dc_ldN20 {f : Int32} {k n0 n1 n2 n3 : Nat} (hk : k < 4) (h0 : n0 ≤ 20) (h1 : n1 ≤ 20) (h2 : n2 ≤ 20) (h3 : n3 ≤ 20) : dc_ldN f k n0 n1 n2 n3 ≤ 20 := by
  have hle := dc_f4le h0 h1 h2 h3 k hk
  unfold dc_ldN
  cases hb : dc_ldB f k n0 n1 n2 n3 with
  | false => exact hle
  | true =>
    obtain ⟨rfl, hT⟩ := of_decide_eq_true hb
    have hne : ¬ dc_f4 n0 n1 n2 n3 k = 20 := fun z => by
      rw [dc_ldF hk z] at hT
      exact absurd hT (by decide)
    show dc_f4 n0 n1 n2 n3 k + 1 ≤ 20
    omega
theorem dc_prFv {f v d : Int32} {fv : Nat → Int32} (h : ∀ j : Nat, ¬ fv j < 0) : ∀ j : Nat, ¬ dc_sel (decide (dc_prT f v d = 0)) (upd fv (Int32.toNatClampNeg f) v) fv j < 0 := fun j => by
  by_cases hT : dc_prT f v d = 0
  · rw [decide_eq_true hT, dc_selT]
    have hv : ¬ v < 0 := by
      unfold dc_prT at hT
      split at hT
      · split at hT
        · rename_i h1
          exact h1.1
        · exact absurd hT (by decide)
      · exact absurd hT (by decide)
    unfold upd
    split
    · exact hv
    · exact h j
  · rw [decide_eq_false hT]
    exact h j
theorem dc_trSk {a b : Int32} {k : Nat} (h : k ≤ 4) : dc_sel (decide (dc_trT a b k = 0)) (k + 1) k ≤ 4 := by
  by_cases hT : dc_trT a b k = 0
  · rw [decide_eq_true hT, dc_selT]
    unfold dc_trT at hT
    split at hT
    · split at hT
      · exact absurd hT (by decide)
      · omega
    · exact absurd hT (by decide)
  · rw [decide_eq_false hT]
    exact h
theorem dc_trMd {a b : Int32} {k : Nat} {fo : Nat → Int32} (h : ∀ i : Nat, i < k → ¬ fo i < 2) : ∀ i : Nat, i < dc_sel (decide (dc_trT a b k = 0)) (k + 1) k → ¬ dc_sel (decide (dc_trT a b k = 0)) (upd fo k a) fo i < 2 := by
  by_cases hT : dc_trT a b k = 0
  · rw [decide_eq_true hT, dc_selT, dc_selT]
    have ha : ¬ a < 2 := by
      unfold dc_trT at hT
      split at hT
      · rename_i h1
        exact h1.1
      · exact absurd hT (by decide)
    intro i hi
    unfold upd
    split
    · exact ha
    · exact h i (by omega)
  · rw [decide_eq_false hT]
    exact h
theorem dc_chT4 {a b : Int32} {x : Int64} {k : Nat} (h : k ≤ 3) : dc_sel (decide (dc_chT a b x k = 0)) (k + 1) k ≤ 3 := by
  by_cases hT : dc_chT a b x k = 0
  · rw [decide_eq_true hT, dc_selT]
    unfold dc_chT at hT
    split at hT
    · split at hT
      · exact absurd hT (by decide)
      · omega
    · exact absurd hT (by decide)
  · rw [decide_eq_false hT]
    exact h
theorem dc_chFb {a b : Int32} {x : Int64} {k : Nat} {fb : Nat → Int32} (h : ∀ i : Nat, i < k → ¬ fb i < 0) : ∀ i : Nat, i < dc_sel (decide (dc_chT a b x k = 0)) (k + 1) k → ¬ dc_sel (decide (dc_chT a b x k = 0)) (upd fb k b) fb i < 0 := by
  by_cases hT : dc_chT a b x k = 0
  · rw [decide_eq_true hT, dc_selT, dc_selT]
    have hb : ¬ b < 0 := by
      unfold dc_chT at hT
      split at hT
      · rename_i h1
        exact h1.2.2.1
      · exact absurd hT (by decide)
    intro i hi
    unfold upd
    split
    · exact hb
    · exact h i (by omega)
  · rw [decide_eq_false hT]
    exact h
theorem dc_sgZ {zs : Nat → Int32} {n0 n1 n2 n3 : Nat} (h : dc_szR zs n0 n1 n2 n3) : dc_szR (upd zs 3 3) n0 n1 n2 3 := ⟨h.1, h.2.1, h.2.2.1, rfl⟩
theorem dc_sgFi {F w0 w1 w2 w3 : Nat → Int64} {n0 n1 n2 n3 : Nat} {x y u : Int64} (h : dc_fiR F w0 n0 w1 n1 w2 n2 w3 n3) (h0 : n0 ≤ 20) (h1 : n1 ≤ 20) (h2 : n2 ≤ 20) : dc_fiR (vp_updL (vp_updL (vp_updL F 60 x) 61 y) 62 u) w0 n0 w1 n1 w2 n2 (dc_sgW w3 x y u) 3 := by
  have hlo : ∀ q : Nat, q < 60 → vp_updL (vp_updL (vp_updL F 60 x) 61 y) 62 u q = F q := fun q hq => by
    rw [pk_uLn (by omega), pk_uLn (by omega), pk_uLn (by omega)]
  refine ⟨fun p hp => ?_, fun p hp => ?_, fun p hp => ?_, fun p hp => ?_⟩
  · rw [hlo _ (by omega)]; exact h.1 p hp
  · rw [hlo _ (by omega)]; exact h.2.1 p hp
  · rw [hlo _ (by omega)]; exact h.2.2.1 p hp
  · rcases (show p = 0 ∨ p = 1 ∨ p = 2 by omega) with rfl | rfl | rfl
    · rfl
    · rfl
    · rfl
theorem dc_aE0 {a b : Nat → Int64} : dc_aEq a b 0 := fun j h => absurd h (Nat.not_lt_zero j)
theorem dc_cmA {E : Int32} {N : Nat} {wa w0 w1 : Nat → Int64} (h : E = 0 → dc_aEq wa w1 N) : dc_aEq wa (dc_sel (decide (E = 0)) w1 w0) (dc_sel (decide (E = 0)) N 0) := by
  by_cases hE : E = 0
  · rw [decide_eq_true hE]
    exact h hE
  · rw [decide_eq_false hE]
    exact dc_aE0
def dc_a2 (xs : Nat → Int32) (k : Nat) : Int64 := dc_jl (xs k).toInt64 (32 : Int32) ||| ((xs (k + 1)).toInt64 &&& (4294967295 : Int64))
def dc_cell (xs : Nat → Int32) (L k : Nat) : Int32 := if k < L then xs k else 0
theorem dc_getEq {a b : Nat → Int64} {n : Nat} {x : Int32} (h : dc_aEq b a n) : dc_get a n x = dc_get b n x := by
  unfold dc_get
  split
  · rename_i h1
    refine (h _ ?_).symm
    have h2 := of_decide_eq_true h1
    have h3 : x.toNatClampNeg = x.toInt.toNat := rfl
    omega
  · rfl
section DCL
variable {p : Program} {l : Launch} {e : Env} {R : Room} {s : State} {m : MethodId} {args : Array Value} {below : List Frame} {meth : Method} {c : Code} {H : Heap} {locs : List Loc} {cells slots : Nat} {Q : State → Prop} {pc : Nat} {ls : Array Slot} {rest : List Value} {A : Nat → Prop} {H0 : Heap} {cc : ByteArray}
theorem dc_sld (hexec : p.tables.exec = Jvm.exec) (hb : c.code = cc) {b L k : Nat} {xs : Nat → Int32} (hX : va_X b L xs s H0) (hbl : b < H0.size) (hbA : ¬ A b) (hS : va_S A H0 H locs) (hk : k < L) (hL : L < 2 ^ 31) (hdg : decode cc pc = .ok (.iaload, 1))
    (kk : W p l e R s m args below meth c H locs cells slots Q (F0 m (pc + 1) ls (.int (xs k) :: rest))) : W p l e R s m args below meth c H locs cells slots Q (F0 m pc ls (.int (nI k) :: .ref b :: rest)) := by
  refine va_sld hexec hb hX hbl hbA hS (vp_in_nI hk hL) hdg ?_
  rw [nI_clamp (by omega)]; exact kk
end DCL
