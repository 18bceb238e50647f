-- the verifier's own pure picture: what the words and rows of the document compute
def dc_mix (h x : Int64) : Int64 := ((h ^^^ x) * (-7046029254386353131 : Int64)) ^^^ (dc_ju ((h ^^^ x) * (-7046029254386353131 : Int64)) 29)
def dc_dig2 (a b : Int64) : Int64 := dc_mix (dc_mix 2611923443488327891 a) b
def dc_dig3 (a b c : Int64) : Int64 := dc_mix (dc_dig2 a b) c
def dc_digN (w : Nat → Int64) : Nat → Int64
  | 0 => 2611923443488327891
  | n + 1 => dc_mix (dc_digN w n) (w n)
def dc_scrT (k : Int64) (i x : Int32) : Int32 := x + ((dc_ju k (8 * i)) ||| (dc_jl k (64 - 8 * i))).toInt32
def dc_scr (k : Int64) (i x : Int32) : Int32 := ((((dc_scrT k i x) <<< ((4 : Int32) &&& 31)) ^^^ (dc_iu (dc_scrT k i x) 5)) + dc_scrT k i x) ^^^ (i * (-1640531527 : Int32))
def dc_join (a b : Int64) : Int64 := (dc_jl a 32) ||| (b &&& (4294967295 : Int64))
def dc_encL (k b : Int64) : Nat → Int32 × Int32
  | 0 => ((dc_ju b 32).toInt32, b.toInt32)
  | i + 1 => ((dc_encL k b i).2, (dc_encL k b i).1 ^^^ dc_scr k (nI i) (dc_encL k b i).2)
def dc_enc (k b : Int64) : Int64 := dc_join (dc_encL k b 8).1.toInt64 (dc_encL k b 8).2.toInt64
def dc_decR (k : Int64) : Nat → Int32 → Int32 → Int64
  | 0, lf, rt => dc_join lf.toInt64 rt.toInt64
  | j + 1, lf, rt => dc_decR k j (rt ^^^ dc_scr k (nI j) lf) lf
def dc_dec (k b : Int64) : Int64 := dc_decR k 8 (dc_ju b 32).toInt32 b.toInt32
def dc_seal3 (k a b c : Int64) : Int64 := dc_enc k (dc_enc k (dc_enc k a ^^^ b) ^^^ c)
def dc_has (n : Nat) (i : Int32) : Bool := decide (0 ≤ i.toInt ∧ i.toInt < n)
theorem dc_has0 {n : Nat} {i : Int32} (h : i < 0) : dc_has n i = false := by
  rw [Int32.lt_iff_toInt_lt, Int32.toInt_zero] at h
  exact decide_eq_false (by omega)
theorem dc_has1 {n : Nat} {i : Int32} (hn : n < 2147483648) (h : nI n ≤ i) : dc_has n i = false := by
  rw [Int32.le_iff_toInt_le, nI_toInt (by omega)] at h
  exact decide_eq_false (by omega)
theorem dc_has2 {n : Nat} {i : Int32} (hn : n < 2147483648) (h0 : ¬ i < 0) (h : ¬ nI n ≤ i) : dc_has n i = true := by
  rw [Int32.lt_iff_toInt_lt, Int32.toInt_zero] at h0
  rw [Int32.le_iff_toInt_le, nI_toInt (by omega)] at h
  exact decide_eq_true (by omega)
theorem dc_hasE {n : Nat} {i : Int32} (hn : n < 2147483648) (h : dc_has n i = true) : ∃ j, j < n ∧ i = nI j := by
  have h1 := of_decide_eq_true h
  refine ⟨i.toInt.toNat, by omega, ?_⟩
  rw [← Int32.toInt_inj, nI_toInt (by omega)]
  omega
theorem dc_hasN {n j : Nat} (hj : j < n) (hn : n < 2147483648) : dc_has n (nI j) = true := by
  refine decide_eq_true ?_
  rw [nI_toInt (by omega)]
  omega
def dc_get (w : Nat → Int64) (n : Nat) (i : Int32) : Int64 := if dc_has n i = true then w i.toNatClampNeg else 0
theorem dc_getF {w : Nat → Int64} {n : Nat} {i : Int32} (h : dc_has n i = false) : 0 = dc_get w n i := by
  unfold dc_get; rw [h]; rfl
theorem dc_getN {w : Nat → Int64} {n j : Nat} (hj : j < n) (hn : n < 2147483648) : dc_get w n (nI j) = w j := by
  unfold dc_get; rw [if_pos (dc_hasN hj hn), nI_clamp (by omega)]
def dc_put (w : Nat → Int64) (n : Nat) (i : Int32) (x : Int64) : Nat → Int64 := if dc_has n i = true then vp_updL w i.toNatClampNeg x else w
theorem dc_putF {w : Nat → Int64} {n : Nat} {i : Int32} {x : Int64} (h : dc_has n i = false) : dc_put w n i x = w := by
  unfold dc_put; rw [h]; rfl
theorem dc_putN {w : Nat → Int64} {n j : Nat} {x : Int64} (hj : j < n) (hn : n < 2147483648) : dc_put w n (nI j) x = vp_updL w j x := by
  unfold dc_put; rw [if_pos (dc_hasN hj hn), nI_clamp (by omega)]
def dc_awrap (w : Nat → Int64) (ka kb x y u : Int64) : Nat → Int64 := vp_updL (vp_updL (vp_updL (vp_updL w 0 (dc_enc ka x)) 1 (dc_enc ka (y ^^^ dc_enc ka x))) 2 (dc_enc ka (u ^^^ dc_enc ka (y ^^^ dc_enc ka x)))) 3 (dc_seal3 kb (dc_enc ka x) (dc_enc ka (y ^^^ dc_enc ka x)) (dc_enc ka (u ^^^ dc_enc ka (y ^^^ dc_enc ka x))))
def dc_sealR (k s0 : Int64) (w : Nat → Int64) : Nat → Int64
  | 0 => s0
  | i + 1 => dc_enc k (dc_sealR k s0 w i ^^^ w i)
def dc_swrapN (w : Nat → Int64) (e c : Int64) : Nat → Nat → Int64
  | 0 => w
  | i + 1 => vp_updL (dc_swrapN w e c i) i (dc_enc e (dc_swrapN w e c i i ^^^ c))
def dc_swrap (w : Nat → Int64) (n : Nat) (e m c : Int64) : Nat → Int64 := vp_updL (vp_updL (dc_swrapN w e c n) n 36864) (n + 1) (dc_sealR m (dc_enc m c) (vp_updL (dc_swrapN w e c n) n 36864) (n + 1))
def dc_sel {α : Type} (b : Bool) (x y : α) : α := if b = true then x else y
def dc_unwOk (w : Nat → Int64) (n k : Nat) (m c : Int64) : Bool := decide (n = k + 2 ∧ dc_get w n (nI k) = 36864 ∧ dc_get w n (nI (k + 1)) = dc_sealR m (dc_enc m c) w (k + 1))
def dc_unwN (w : Nat → Int64) (e c : Int64) (w2 : Nat → Int64) (n2 : Nat) : Nat → Nat → Int64
  | 0 => w2
  | i + 1 => vp_updL (dc_unwN w e c w2 n2 i) (n2 + i) (dc_dec e (w i) ^^^ c)
def dc_carW (fa fb : Nat → Int32) (fm : Nat → Int64) (c : Int32) (n : Nat) (w : Nat → Int64) : Nat → Nat → Int64
  | 0 => w
  | i + 1 => if fa i = c then dc_put (dc_carW fa fb fm c n w i) n (fb i) ((dc_get (dc_carW fa fb fm c n w i) n (fb i)) ^^^ (fm i)) else dc_carW fa fb fm c n w i
def dc_sfindR (fn : Nat → Int64) (x : Int64) : Nat → Nat → Int32
  | 0, _ => -1
  | r + 1, i => if fn i = x then nI i else dc_sfindR fn x r (i + 1)
def dc_sfind (fn : Nat → Int64) (x : Int64) (k : Nat) : Int32 := dc_sfindR fn x (k - 0) 0
def dc_powR (b : Int64) (e m : Int32) : Nat → Int64 → Int64
  | 0, x => x
  | j + 1, x => dc_powR b e m j (if (e >>> ((nI j) &&& 31)) &&& (1 : Int32) = 1 then dc_lrem ((dc_lrem (x * x) m.toInt64) * b) m.toInt64 else dc_lrem (x * x) m.toInt64)
def dc_sigOk (m e : Int32) (x y : Int64) : Bool := decide (¬ m < 2 ∧ ¬ y < 0 ∧ y < m.toInt64 ∧ dc_powR y e m 17 1 = dc_lrem x m.toInt64)
theorem dc_mne {m : Int32} (h : ¬ m < 2) : ¬ m.toInt64 = 0 := by
  intro hz
  have h1 : m.toInt64.toInt = 0 := by rw [hz]; rfl
  rw [Int32.toInt_toInt64] at h1
  apply h
  rw [Int32.lt_iff_toInt_lt, h1]
  decide
def dc_f4 {α : Type} (a b c d : α) : Nat → α := fun k => match k with
  | 0 => a
  | 1 => b
  | 2 => c
  | _ => d
theorem dc_dnm (k : Nat) : nI k - (1 : Int32) = dc_dn k := by
  cases k with
  | zero => rfl
  | succ k => exact nI_pred k
def dc_rdR : Nat → Int32 → Int32 → Int32
  | 0, u, _ => dc_irem u 10
  | j + 1, u, x => dc_rdR j (u + (dc_irem x 10) * (dc_wei (j % 3))) (x / 10)
def dc_rd (v : Int32) (k : Nat) : Int32 := dc_rdR k 0 v
def dc_fit (j : Nat) (x : Int32) : Int32 := dc_abs (dc_irem x (dc_lim j))
theorem dc_lim0 (j : Nat) : ¬ dc_lim j = 0 := by
  rcases j with _ | j
  · decide
  · show ¬ (1000000 : Int32) = 0
    decide
theorem dc_wd9 (j : Nat) : dc_wd j ≤ 9 := by
  rcases j with _ | j
  · decide
  · show 6 ≤ 9
    decide
def dc_allRight (fv fd : Nat → Int32) : Bool := decide (fd 0 = dc_rd (fv 0) (dc_wd 0)) && (decide (fd 1 = dc_rd (fv 1) (dc_wd 1)) && decide (fd 2 = dc_rd (fv 2) (dc_wd 2)))
def dc_word (fv fd : Nat → Int32) (j : Nat) : Int64 := (fv j).toInt64 * (10 : Int64) + (fd j).toInt64
def dc_seed (fv fd : Nat → Int32) : Int64 := dc_dig3 (dc_word fv fd 0) (dc_word fv fd 1) (dc_word fv fd 2)
def dc_isIn (fv fd : Nat → Int32) (w : Nat → Int64) (n : Nat) : Bool := decide (n = 3 ∧ dc_get w n 0 = dc_word fv fd 0 ∧ dc_get w n 1 = dc_word fv fd 1 ∧ dc_get w n 2 = dc_word fv fd 2)
def dc_q4 (a b c d : Nat) : Nat → Option Nat := fun k => match k with
  | 0 => some a
  | 1 => some b
  | 2 => some c
  | 3 => some d
  | _ => none
theorem dc_up4 (a b c d : Nat) : va_up (va_up (va_up (va_up (fun _ => none) 0 (some a)) 1 (some b)) 2 (some c)) 3 (some d) = dc_q4 a b c d := by
  funext k
  match k with
  | 0 => rfl
  | 1 => rfl
  | 2 => rfl
  | 3 => rfl
  | k + 4 =>
    have h0 : ¬ k + 4 = 0 := by omega
    have h1 : ¬ k + 4 = 1 := by omega
    have h2 : ¬ k + 4 = 2 := by omega
    have h3 : ¬ k + 4 = 3 := by omega
    simp only [va_up, if_neg h0, if_neg h1, if_neg h2, if_neg h3]
    rfl
def dc_isFile (x : Int64) : Bool := decide (¬ x < 0 ∧ x < 4)
def dc_sgW (w : Nat → Int64) (x y u : Int64) : Nat → Int64 := vp_updL (vp_updL (vp_updL w 0 x) 1 y) 2 u
theorem dc_isFileE {x : Int64} (h : dc_isFile x = true) : dc_dn (x.toInt.toNat + 1) = x.toInt32 := by
  have h1 := of_decide_eq_true h
  rw [Int64.lt_iff_toInt_lt, Int64.lt_iff_toInt_lt] at h1
  have h0 : (0 : Int64).toInt = 0 := rfl
  have h4 : (4 : Int64).toInt = 4 := rfl
  rw [h0, h4] at h1
  have hx : x = lN x.toInt.toNat := by
    rw [← Int64.toInt_inj, pk_lT (by omega)]
    omega
  show nI x.toInt.toNat = x.toInt32
  conv => rhs; rw [hx, lN_i]
def dc_rdOk (x : Int64) (n : Nat) : Bool := decide (¬ dc_jr x 5 < 1 ∧ ¬ 4 < dc_jr x 5 ∧ (x &&& 31) + dc_jr x 5 ≤ lN n)
def dc_readOk (sv : Nat) (x : Int64) (n0 n1 n2 n3 : Nat) : Bool := match sv with
  | 0 => false
  | v + 1 => dc_rdOk x (dc_f4 n0 n1 n2 n3 v)
def dc_readR (sv : Nat) (x : Int64) (n0 n1 n2 n3 : Nat) : Int32 := match sv with
  | 0 => 4
  | v + 1 => if dc_rdOk x (dc_f4 n0 n1 n2 n3 v) = true then 0 else 5
def dc_rdN (w : Nat → Int64) (p : Nat) (wr : Nat → Int64) (nr : Nat) : Nat → Nat → Int64
  | 0 => wr
  | i + 1 => vp_updL (dc_rdN w p wr nr i) (nr + i) (w (p + i))
theorem dc_rdE {x : Int64} {n : Nat} (h1 : ¬ dc_jr x 5 < 1) (h2 : ¬ 4 < dc_jr x 5) (h3 : (x &&& 31) + dc_jr x 5 ≤ lN n) (hn : n ≤ 20 := by omega) :
    ∃ p k : Nat, p < 32 ∧ k ≤ 4 ∧ 1 ≤ k ∧ p + k ≤ n ∧ x &&& (31 : Int64) = lN p ∧ dc_jr x (5 : Int32) = lN k := by
  rw [Int64.lt_iff_toInt_lt] at h1 h2
  have e1 : (1 : Int64).toInt = 1 := rfl
  have e4 : (4 : Int64).toInt = 4 := rfl
  rw [e1] at h1
  rw [e4] at h2
  have hk : dc_jr x 5 = lN (dc_jr x 5).toInt.toNat := by
    rw [← Int64.toInt_inj, pk_lT (by omega)]
    omega
  have hp : ∃ p : Nat, p < 32 ∧ x &&& (31 : Int64) = lN p := by
    refine ⟨(x &&& (31 : Int64)).toBitVec.toNat, ?_, ?_⟩
    · have : (x &&& (31 : Int64)).toBitVec = x.toBitVec &&& 31#64 := rfl
      rw [this, BitVec.toNat_and]
      exact Nat.lt_of_le_of_lt Nat.and_le_right (by decide)
    · rw [← Int64.toBitVec_inj]
      show _ = BitVec.ofNat 64 _
      rw [BitVec.ofNat_toNat, BitVec.setWidth_eq]
  obtain ⟨p, hp1, hp2⟩ := hp
  refine ⟨p, (dc_jr x 5).toInt.toNat, hp1, by omega, by omega, ?_, hp2, hk⟩
  rw [hp2, hk, lN_add] at h3
  have := (pk_lLE (by omega) (by omega)).1 h3
  exact this
theorem dc_rdP {x : Int64} {p : Nat} (h : x &&& (31 : Int64) = lN p) (hp : p < 32) : (x &&& 31).toInt.toNat = p := by
  rw [h, pk_lT (by omega)]; omega
theorem dc_rdK {x : Int64} {k : Nat} (h : dc_jr x (5 : Int32) = lN k) (hk : k ≤ 4) : (dc_jr x 5).toInt.toNat = k := by
  rw [h, pk_lT (by omega)]; omega
def dc_sealOk (kb : Int64) (w : Nat → Int64) (n : Nat) : Bool := decide (dc_get w n 3 = dc_seal3 kb (dc_get w n 0) (dc_get w n 1) (dc_get w n 2))
def dc_find (ka : Int64) (w : Nat → Int64) (n : Nat) (i : Int32) : Int64 := dc_dec ka (dc_get w n i) ^^^ dc_get w n (i - 1)
def dc_meetOk (ak : Bool) (ka kb : Int64) (w : Nat → Int64) (n : Nat) (cw : Int64) : Bool := ak && (dc_sealOk kb w n && decide (dc_find ka w n 1 = cw))
def dc_obF (se sc y : Int64) : Int64 := dc_dec se (y ^^^ (sc + 1))
def dc_obR (sv : Nat) (F : Int64) (n0 n1 n2 n3 : Nat) (x : Int64) : Int32 := if x = 1 then dc_sel (dc_isFile F) 0 4 else if x = 2 then dc_readR sv F n0 n1 n2 n3 else 3
def dc_obE (so : Bool) (se sm sc : Int64) (sv n0 n1 n2 n3 : Nat) (x y u : Int64) : Int32 := if so = false then 1 else if u = dc_seal3 sm (sc + 1) x y then dc_obR sv (dc_obF se sc y) n0 n1 n2 n3 x else 2
def dc_obSv (se sc : Int64) (sv : Nat) (x y : Int64) : Nat := if x = 1 then (dc_obF se sc y).toInt.toNat + 1 else sv
def dc_obW (se sc : Int64) (sv : Nat) (w0 w1 w2 w3 : Nat → Int64) (x y : Int64) (w : Nat → Int64) : Nat → Int64 := if x = 1 then w else dc_rdN (dc_f4 w0 w1 w2 w3 (sv - 1)) ((dc_obF se sc y) &&& 31).toInt.toNat w 0 (dc_jr (dc_obF se sc y) 5).toInt.toNat
def dc_obN (se sc x y : Int64) : Nat := if x = 1 then 0 else 0 + (dc_jr (dc_obF se sc y) 5).toInt.toNat
theorem dc_selE {b : Bool} (h : dc_sel b (0 : Int32) 4 = 0) : b = true := by
  cases b with
  | true => rfl
  | false => exact absurd h (by decide)
theorem dc_readRE {sv : Nat} {x : Int64} {n0 n1 n2 n3 : Nat} (h : dc_readR sv x n0 n1 n2 n3 = 0) : dc_readOk sv x n0 n1 n2 n3 = true := by
  cases sv with
  | zero => exact absurd (show (4 : Int32) = 0 from h) (by decide)
  | succ v =>
    show dc_rdOk x (dc_f4 n0 n1 n2 n3 v) = true
    have h : (if dc_rdOk x (dc_f4 n0 n1 n2 n3 v) = true then (0 : Int32) else 5) = 0 := h
    cases hb : dc_rdOk x (dc_f4 n0 n1 n2 n3 v) with
    | true => rfl
    | false => rw [hb] at h; exact absurd h (by decide)
theorem dc_rdOkK {x : Int64} {n : Nat} (h : dc_rdOk x n = true) : (dc_jr x 5).toInt.toNat ≤ 4 := by
  have h1 := (of_decide_eq_true h).2.1
  rw [Int64.lt_iff_toInt_lt] at h1
  have e4 : (4 : Int64).toInt = 4 := rfl
  rw [e4] at h1
  omega
theorem dc_readK {sv : Nat} {x : Int64} {n0 n1 n2 n3 : Nat} (h : dc_readOk sv x n0 n1 n2 n3 = true) : (dc_jr x 5).toInt.toNat ≤ 4 := by
  cases sv with
  | zero => exact absurd (show false = true from h) (by decide)
  | succ v => exact dc_rdOkK h
def dc_other (a b x y : Int64) : Bool := decide (¬ (a = x ∧ b = y))
def dc_askW (fa fb : Nat → Int32) (fm : Nat → Int64) (c : Int32) (t : Nat) (wT : Nat → Int64) (hh num : Nat) (ee em ec : Int64) : Nat → Int64 :=
  dc_carW fa fb fm c 3 (vp_updL (vp_updL (vp_updL wT 0 (lN hh)) 1 ((dc_enc ee (lN num)) ^^^ (ec + 1))) 2 (dc_seal3 em (ec + 1) (lN hh) ((dc_enc ee (lN num)) ^^^ (ec + 1)))) t
def dc_askR (ve : Int32) (ok : Bool) : Int32 := if ve = 0 then (if ok = true then 0 else 3) else 5
theorem dc_obE0 {so : Bool} {se sm sc : Int64} {sv n0 n1 n2 n3 : Nat} {x y u : Int64} (h : dc_obE so se sm sc sv n0 n1 n2 n3 x y u = 0) : so = true ∧ u = dc_seal3 sm (sc + 1) x y ∧ dc_obR sv (dc_obF se sc y) n0 n1 n2 n3 x = 0 := by
  unfold dc_obE at h
  cases so with
  | false => rw [if_pos rfl] at h; exact absurd h (by decide)
  | true =>
    rw [if_neg (by decide)] at h
    by_cases hu : u = dc_seal3 sm (sc + 1) x y
    · rw [if_pos hu] at h; exact ⟨rfl, hu, h⟩
    · rw [if_neg hu] at h; exact absurd h (by decide)
theorem dc_obN4 {so : Bool} {se sm sc : Int64} {sv n0 n1 n2 n3 : Nat} {x y u : Int64} (h : dc_obE so se sm sc sv n0 n1 n2 n3 x y u = 0) : dc_obN se sc x y ≤ 4 := by
  obtain ⟨-, -, h⟩ := dc_obE0 h
  unfold dc_obR at h
  unfold dc_obN
  by_cases h1 : x = 1
  · rw [if_pos h1]; omega
  · rw [if_neg h1] at h ⊢
    by_cases h2 : x = 2
    · rw [if_pos h2] at h
      have := dc_readK (dc_readRE h)
      omega
    · rw [if_neg h2] at h; exact absurd h (by decide)
theorem dc_obN6 {so : Bool} {se sm sc : Int64} {sv n0 n1 n2 n3 : Nat} {x y u : Int64} : dc_sel (decide (dc_obE so se sm sc sv n0 n1 n2 n3 x y u = 0)) (dc_obN se sc x y + 2) 0 ≤ 6 := by
  unfold dc_sel
  split
  · rename_i h
    have := dc_obN4 (of_decide_eq_true h)
    omega
  · omega
def dc_oc2 (fa fb : Nat → Int32) (fm : Nat → Int64) (c : Int32) (t : Nat) (wU : Nat → Int64) (cq : Int64) : Nat → Int64 := dc_carW fa fb fm (c + 1) 1 (vp_updL wU 0 cq) t
def dc_ocQ (fa fb : Nat → Int32) (fm : Nat → Int64) (c : Int32) (t : Nat) (wU : Nat → Int64) (cq : Int64) : Int64 := dc_get (dc_oc2 fa fb fm c t wU cq) 1 0
def dc_oc3 (fa fb : Nat → Int32) (fm : Nat → Int64) (c : Int32) (t : Nat) (wT wU : Nat → Int64) (fv fd : Nat → Int32) (dT dK cq : Int64) : Nat → Int64 :=
  dc_carW fa fb fm (c + 1 + 1) 4 (dc_awrap (dc_carW fa fb fm c 0 wT t) (dc_dig2 (dc_seed fv fd) 1) (dc_dig2 (dc_seed fv fd) 2) dT (dc_ocQ fa fb fm c t wU cq) dK) t
def dc_ocK (fa fb : Nat → Int32) (fm : Nat → Int64) (c : Int32) (t : Nat) (wT wU : Nat → Int64) (fv fd : Nat → Int32) (dT dK cq ka kb : Int64) : Bool := dc_meetOk true ka kb (dc_oc3 fa fb fm c t wT wU fv fd dT dK cq) 4 cq
def dc_oc4 (fa fb : Nat → Int32) (fm : Nat → Int64) (c : Int32) (t : Nat) (wT wU : Nat → Int64) (fv fd : Nat → Int32) (dT dK cq ka kb cj : Int64) : Nat → Int64 :=
  dc_carW fa fb fm (c + 1 + 1 + 1) (dc_sel (dc_ocK fa fb fm c t wT wU fv fd dT dK cq ka kb) 4 0) (dc_sel (dc_ocK fa fb fm c t wT wU fv fd dT dK cq ka kb) (dc_awrap (dc_oc2 fa fb fm c t wU cq) ka kb cq (dc_find ka (dc_oc3 fa fb fm c t wT wU fv fd dT dK cq) 4 0) cj) (dc_oc2 fa fb fm c t wU cq)) t
def dc_ocR (fa fb : Nat → Int32) (fm : Nat → Int64) (c : Int32) (t : Nat) (wT wU : Nat → Int64) (fv fd : Nat → Int32) (dT dK cq ka kb cj : Int64) : Int32 :=
  if dc_ocK fa fb fm c t wT wU fv fd dT dK cq ka kb = true then
    (if dc_sealOk (dc_dig2 (dc_seed fv fd) 2) (dc_oc4 fa fb fm c t wT wU fv fd dT dK cq ka kb cj) (dc_sel (dc_ocK fa fb fm c t wT wU fv fd dT dK cq ka kb) 4 0) = true then
      (if dc_find (dc_dig2 (dc_seed fv fd) 1) (dc_oc4 fa fb fm c t wT wU fv fd dT dK cq ka kb cj) (dc_sel (dc_ocK fa fb fm c t wT wU fv fd dT dK cq ka kb) 4 0) 0 = dc_ocQ fa fb fm c t wU cq ∧ dc_find (dc_dig2 (dc_seed fv fd) 1) (dc_oc4 fa fb fm c t wT wU fv fd dT dK cq ka kb cj) (dc_sel (dc_ocK fa fb fm c t wT wU fv fd dT dK cq ka kb) 4 0) 1 = dT then 0 else 4)
    else 3)
  else 2
theorem dc_sel46 {b : Bool} : dc_sel b 4 0 ≤ 6 := by cases b <;> decide
def dc_judge (fv fd : Nat → Int32) (fn : Nat → Int64) (fo fe : Nat → Int32) (sk : Nat) (w0 : Nat → Int64) (n0 : Nat) (w1 : Nat → Int64) (n1 : Nat) (w2 : Nat → Int64) (n2 : Nat) (w3 : Nat → Int64) (n3 : Nat) : Int32 :=
  if n0 = 1 ∧ dc_get w0 n0 0 = 19 ∧ n3 = 4 then
    (if dc_get w3 n3 0 = dc_digN w1 n1 ∧ dc_get w3 n3 1 = dc_digN w2 n2 then
      (if 0 ≤ dc_sfind fn (dc_get w3 n3 2) sk then
        (if dc_sigOk (fo (dc_sfind fn (dc_get w3 n3 2) sk).toNatClampNeg) (fe (dc_sfind fn (dc_get w3 n3 2) sk).toNatClampNeg) (dc_ju (dc_dig3 (dc_get w3 n3 0) (dc_get w3 n3 1) (dc_get w3 n3 2)) 1) (dc_get w3 n3 3) = true then
          (if dc_isIn fv fd w1 n1 = true then 0 else 10)
        else 9)
      else 8)
    else 7)
  else 6
theorem dc_sfindRE {fn : Nat → Int64} {x : Int64} : ∀ (r i : Nat), 0 ≤ dc_sfindR fn x r i → ∃ g, i ≤ g ∧ g < i + r ∧ dc_sfindR fn x r i = nI g
  | 0, i, h => absurd h (by show ¬ (0 : Int32) ≤ -1; decide)
  | r + 1, i, h => by
    by_cases hx : fn i = x
    · refine ⟨i, by omega, by omega, ?_⟩
      show (if fn i = x then nI i else dc_sfindR fn x r (i + 1)) = nI i
      rw [if_pos hx]
    · have e : dc_sfindR fn x (r + 1) i = dc_sfindR fn x r (i + 1) := by
        show (if fn i = x then nI i else dc_sfindR fn x r (i + 1)) = _
        rw [if_neg hx]
      rw [e] at h ⊢
      obtain ⟨g, h1, h2, h3⟩ := dc_sfindRE r (i + 1) h
      exact ⟨g, by omega, by omega, h3⟩
theorem dc_sfindE {fn : Nat → Int64} {x : Int64} {k : Nat} (h : 0 ≤ dc_sfind fn x k) : ∃ g, g < k ∧ dc_sfind fn x k = nI g := by
  obtain ⟨g, -, h2, h3⟩ := dc_sfindRE (k - 0) 0 h
  exact ⟨g, by omega, h3⟩
def dc_check (v dg : Int32) : Int32 := if ¬ dg < 1 ∧ ¬ 9 < dg ∧ 0 ≤ v then dc_rd v dg.toNatClampNeg else -1
theorem dc_ix9 {dg : Int32} (h1 : ¬ dg < 1) (h2 : ¬ 9 < dg) : ∃ k, k ≤ 9 ∧ dg = nI k := by
  rw [Int32.lt_iff_toInt_lt] at h1 h2
  have e1 : (1 : Int32).toInt = 1 := rfl
  have e9 : (9 : Int32).toInt = 9 := rfl
  rw [e1] at h1
  rw [e9] at h2
  refine ⟨dg.toInt.toNat, by omega, ?_⟩
  rw [← Int32.toInt_inj, nI_toInt (by omega)]
  omega
def dc_cseed (x1 x2 x3 : Int32) : Int64 := dc_seed (upd (upd (upd (fun _ => 0) 0 (dc_fit 0 x1)) 1 (dc_fit 1 x2)) 2 (dc_fit 2 x3)) (upd (upd (upd (fun _ => 0) 0 (dc_rd (dc_fit 0 x1) (dc_wd 0))) 1 (dc_rd (dc_fit 1 x2) (dc_wd 1))) 2 (dc_rd (dc_fit 2 x3) (dc_wd 2)))
