-- pure rows: the chip's side in the reference
theorem dc_and31 (x : Int64) : ∃ p : Nat, p < 32 ∧ x &&& (31 : Int64) = lN p := by
  refine ⟨(x &&& (31 : Int64)).toBitVec.toNat, ?_, ?_⟩
  · have : (x &&& (31 : Int64)).toBitVec = x.toBitVec &&& 31#64 := rfl
    rw [this, BitVec.toNat_and]
    exact Nat.lt_of_le_of_lt Nat.and_le_right (by decide)
  · rw [← Int64.toBitVec_inj]
    show _ = BitVec.ofNat 64 _
    rw [BitVec.ofNat_toNat, BitVec.setWidth_eq]
theorem dc_lo31 (x : Int64) : ((x &&& (31 : Int64)).toInt32).toInt64 = x &&& (31 : Int64) := by
  obtain ⟨p, hp, e⟩ := dc_and31 x
  rw [e, lN_i, nI_l (by omega)]
theorem dc_joinI (a b : Int64) : dc_join a.toInt32.toInt64 b.toInt32.toInt64 = dc_join a b := by
  unfold dc_join dc_jl
  have e1 : ((32 : Int32).toInt64 &&& 63) = 32 := by decide
  rw [e1, ← Int64.toBitVec_inj]
  rw [Int64.toBitVec_or, Int64.toBitVec_or, Int64.toBitVec_and, Int64.toBitVec_and, Int64.toBitVec_shiftLeft, Int64.toBitVec_shiftLeft, Int32.toBitVec_toInt64, Int32.toBitVec_toInt64, Int64.toBitVec_toInt32, Int64.toBitVec_toInt32]
  have e2 : ((32 : Int64).toBitVec.smod 64) = 32#64 := by decide
  have e3 : (4294967295 : Int64).toBitVec = 4294967295#64 := rfl
  rw [e2, e3]
  apply BitVec.eq_of_getLsbD_eq
  intro i hi
  rw [BitVec.getLsbD_or, BitVec.getLsbD_or, BitVec.getLsbD_and, BitVec.getLsbD_and]
  have hm : (4294967295#64).getLsbD i = decide (i < 32) := by
    rcases (show i < 32 ∨ ¬ i < 32 by omega) with h | h
    · rw [decide_eq_true h]
      revert h; revert i; decide
    · rw [decide_eq_false h]
      revert h; revert hi; revert i; decide
  rw [hm]
  rw [BitVec.shiftLeft_eq', BitVec.shiftLeft_eq']
  rw [BitVec.getLsbD_shiftLeft, BitVec.getLsbD_shiftLeft, BitVec.getLsbD_signExtend, BitVec.getLsbD_signExtend, BitVec.getLsbD_signExtend, BitVec.getLsbD_signExtend]
  have t32 : (32#64).toNat = 32 := rfl
  rw [t32]
  by_cases h : i < 32
  · have h5 : i < 64 := by omega
    simp [h, h5]
  · have h6 : i - 32 < 32 := by omega
    have h7 : i - 32 < 64 := by omega
    simp [h, h6, h7]
theorem dc_sealMR {m c : Int64} {rx w : Nat → Int64} (h0 : rx 0 = c) : ∀ (i : Nat), (∀ j, j < i → rx (1 + j) = w j) → dc_sealM m rx (i + 1) = dc_sealR m (dc_enc m c) w i
  | 0, _ => by
    show dc_enc m (rx 0 ^^^ 0) = dc_enc m c
    rw [h0, Int64.xor_zero]
  | i + 1, h => by
    show dc_enc m (rx (i + 1) ^^^ dc_sealM m rx (i + 1)) = dc_enc m (dc_sealR m (dc_enc m c) w i ^^^ w i)
    rw [dc_sealMR h0 i (fun j hj => h j (by omega)), show i + 1 = 1 + i by omega, h i (by omega), Int64.xor_comm]
theorem dc_swN_ge {w : Nat → Int64} {e c : Int64} : ∀ (n j : Nat), n ≤ j → dc_swrapN w e c n j = w j
  | 0, j, _ => rfl
  | n + 1, j, h => by
    show vp_updL (dc_swrapN w e c n) n _ j = w j
    rw [pk_uLn (by omega)]; exact dc_swN_ge n j (by omega)
theorem dc_swN_lt {w : Nat → Int64} {e c : Int64} : ∀ (n j : Nat), j < n → dc_swrapN w e c n j = dc_enc e (w j ^^^ c)
  | 0, j, h => absurd h (Nat.not_lt_zero j)
  | n + 1, j, h => by
    show vp_updL (dc_swrapN w e c n) n (dc_enc e (dc_swrapN w e c n n ^^^ c)) j = dc_enc e (w j ^^^ c)
    by_cases hj : j = n
    · subst hj; rw [pk_uLs, dc_swN_ge j j (Nat.le_refl _)]
    · rw [pk_uLn hj]; exact dc_swN_lt n j (by omega)
theorem dc_sealRe {m s0 : Int64} {a b : Nat → Int64} : ∀ (n : Nat), (∀ j, j < n → a j = b j) → dc_sealR m s0 a n = dc_sealR m s0 b n
  | 0, _ => rfl
  | n + 1, h => by
    show dc_enc m (dc_sealR m s0 a n ^^^ a n) = dc_enc m (dc_sealR m s0 b n ^^^ b n)
    rw [dc_sealRe n (fun j hj => h j (by omega)), h n (by omega)]
theorem dc_ansE {wx rx wq g : Nat → Int64} {se sm c2 : Int64} {n : Nat} (hw : ∀ j : Nat, j < n → wx j = dc_enc se (g j ^^^ c2) ∧ rx (1 + j) = wx j) (h0 : rx 0 = c2) (hq : ∀ j : Nat, j < n → wq j = g j) :
    dc_aEq (vp_updL (vp_updL wx n 36864) (n + 1) (dc_sealM sm (vp_updL rx (1 + n) 36864) (n + 2))) (dc_swrap wq n se sm c2) (n + 2) := by
  intro j hj
  have hin : ∀ i : Nat, i < n + 1 → vp_updL wx n 36864 i = vp_updL (dc_swrapN wq se c2 n) n 36864 i := fun i hi => by
    by_cases e : i = n
    · subst e; rw [pk_uLs, pk_uLs]
    · rw [pk_uLn e, pk_uLn e, (hw i (by omega)).1, dc_swN_lt n i (by omega), hq i (by omega)]
  show _ = vp_updL (vp_updL (dc_swrapN wq se c2 n) n 36864) (n + 1) (dc_sealR sm (dc_enc sm c2) (vp_updL (dc_swrapN wq se c2 n) n 36864) (n + 1)) j
  by_cases e : j = n + 1
  · subst e
    rw [pk_uLs, pk_uLs]
    have h00 : vp_updL rx (1 + n) 36864 0 = c2 := (pk_uLn (by omega)).trans h0
    have hrow : ∀ i : Nat, i < n + 1 → vp_updL rx (1 + n) 36864 (1 + i) = vp_updL wx n 36864 i := fun i hi => by
      by_cases e : i = n
      · subst e; rw [pk_uLs, pk_uLs]
      · rw [pk_uLn (by omega), pk_uLn e]; exact (hw i (by omega)).2
    exact (dc_sealMR (m := sm) (c := c2) (rx := vp_updL rx (1 + n) 36864) (w := vp_updL wx n 36864) h00 (n + 1) hrow).trans (dc_sealRe (m := sm) (s0 := dc_enc sm c2) (a := vp_updL wx n 36864) (b := vp_updL (dc_swrapN wq se c2 n) n 36864) (n + 1) hin)
  · rw [pk_uLn e, pk_uLn e]; exact hin j (by omega)
theorem dc_cmS {wx rx : Nat → Int64} {g : Nat → Int64} {e c y : Int64} {i : Nat} (hw : ∀ j : Nat, j < i → wx j = dc_enc e (g j ^^^ c) ∧ rx (1 + j) = wx j) (hy : y = dc_enc e (g i ^^^ c)) :
    ∀ j : Nat, j < i + 1 → vp_updL wx i y j = dc_enc e (g j ^^^ c) ∧ vp_updL rx (1 + i) y (1 + j) = vp_updL wx i y j := fun j hj => by
  by_cases h : j = i
  · subst h; rw [pk_uLs, pk_uLs]; exact ⟨hy, rfl⟩
  · rw [pk_uLn h, pk_uLn (by omega)]; exact hw j (by omega)
theorem dc_Fat {F w : Nat → Int64} {n v b p i : Nat} (h : ∀ p : Nat, p < n → F (20 * v + p) = w p) (hb : b = 20 * v) (hp : p + i < n) : F (b + p + i) = w (p + i) := by
  rw [Nat.add_assoc, hb]; exact h _ hp
theorem dc_rdN_at {w wr : Nat → Int64} {p : Nat} : ∀ (k j : Nat), j < k → dc_rdN w p wr 0 k j = w (p + j)
  | 0, j, h => absurd h (Nat.not_lt_zero j)
  | k + 1, j, h => by
    show vp_updL (dc_rdN w p wr 0 k) (0 + k) (w (p + k)) j = w (p + j)
    rw [Nat.zero_add]
    by_cases e : j = k
    · subst e; rw [pk_uLs]
    · rw [pk_uLn e]; exact dc_rdN_at k j (by omega)
theorem dc_obRd {sv n0 n1 n2 n3 : Nat} {F x : Int64} (h : dc_obR sv F n0 n1 n2 n3 x = 0) (hx : ¬ x = 1) : 1 ≤ sv ∧ dc_readOk sv F n0 n1 n2 n3 = true := by
  unfold dc_obR at h
  rw [if_neg hx] at h
  by_cases h2 : x = 2
  · rw [if_pos h2] at h
    have hr := dc_readRE h
    cases sv with
    | zero => exact absurd (show false = true from hr) (by decide)
    | succ v => exact ⟨by omega, hr⟩
  · rw [if_neg h2] at h
    exact absurd h (by decide)
theorem dc_le3 {x : Int64} : x ≤ 3 ↔ x < 4 := by
  rw [Int64.le_iff_toInt_le, Int64.lt_iff_toInt_lt]
  have e3 : (3 : Int64).toInt = 3 := rfl
  have e4 : (4 : Int64).toInt = 4 := rfl
  rw [e3, e4]
  omega
theorem dc_g4 {w : Nat → Int64} {n j : Nat} {i : Int32} (hi : i = nI j) (hj : j < n) (hn : n < 2147483648) : dc_get w n i = w j := by rw [hi]; exact dc_getN hj hn
theorem dc_fd0 {ka : Int64} {w : Nat → Int64} {n : Nat} (hn : 0 < n) (h : n < 2147483648) : dc_find ka w n 0 = dc_dec ka (w 0) := by
  unfold dc_find
  rw [dc_g4 (i := 0) (j := 0) rfl hn h, ← dc_getF (w := w) (n := n) (i := (0 : Int32) - 1) (dc_has0 (by decide)), Int64.xor_zero]
theorem dc_fd1 {ka : Int64} {w : Nat → Int64} {n : Nat} (hn : 1 < n) (h : n < 2147483648) : dc_find ka w n 1 = (dc_dec ka (w 1)) ^^^ (w 0) := by
  unfold dc_find
  rw [dc_g4 (i := 1) (j := 1) rfl hn h, dc_g4 (i := (1 : Int32) - 1) (j := 0) rfl (by omega) h]
theorem dc_fd2 {ka : Int64} {w : Nat → Int64} {n : Nat} (hn : 2 < n) (h : n < 2147483648) : dc_find ka w n 2 = (dc_dec ka (w 2)) ^^^ (w 1) := by
  unfold dc_find
  rw [dc_g4 (i := 2) (j := 2) rfl hn h, dc_g4 (i := (2 : Int32) - 1) (j := 1) rfl (by omega) h]
theorem dc_slE {kb : Int64} {w : Nat → Int64} : dc_sealOk kb w 4 = decide (w 3 = dc_seal3 kb (w 0) (w 1) (w 2)) := by
  unfold dc_sealOk
  rw [dc_g4 (i := 0) (j := 0) rfl (by decide) (by decide), dc_g4 (i := 1) (j := 1) rfl (by decide) (by decide), dc_g4 (i := 2) (j := 2) rfl (by decide) (by decide), dc_g4 (i := 3) (j := 3) rfl (by decide) (by decide)]
theorem dc_meE {ak : Bool} {ka kb cw : Int64} {w : Nat → Int64} : dc_meetOk ak ka kb w 4 cw = (ak && (decide (w 3 = dc_seal3 kb (w 0) (w 1) (w 2)) && decide ((dc_dec ka (w 1)) ^^^ (w 0) = cw))) := by
  unfold dc_meetOk
  rw [dc_slE, dc_fd1 (by decide) (by decide)]
theorem dc_meT {ka kb cw : Int64} {w : Nat → Int64} (h1 : dc_seal3 kb (w 0) (w 1) (w 2) = w 3) (h2 : (dc_dec ka (w 1)) ^^^ (w 0) = cw) : dc_meetOk true ka kb w 4 cw = true := by
  rw [dc_meE, decide_eq_true h1.symm, decide_eq_true h2]; rfl
theorem dc_meF1 {ka kb cw : Int64} {w : Nat → Int64} (h1 : ¬ dc_seal3 kb (w 0) (w 1) (w 2) = w 3) : dc_meetOk true ka kb w 4 cw = false := by
  rw [dc_meE, decide_eq_false (fun z => h1 z.symm)]; rfl
theorem dc_meF2 {ka kb cw : Int64} {w : Nat → Int64} (h2 : ¬ (dc_dec ka (w 1)) ^^^ (w 0) = cw) : dc_meetOk true ka kb w 4 cw = false := by
  rw [dc_meE, decide_eq_false h2, Bool.and_false]; rfl
theorem dc_meC {ak : Bool} {ka kb cw : Int64} {w v : Nat → Int64} (h0 : w 0 = v 0) (h1 : w 1 = v 1) (h2 : w 2 = v 2) (h3 : w 3 = v 3) : dc_meetOk ak ka kb w 4 cw = dc_meetOk ak ka kb v 4 cw := by
  rw [dc_meE, dc_meE, h0, h1, h2, h3]
