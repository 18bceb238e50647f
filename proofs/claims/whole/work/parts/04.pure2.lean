-- pure rows for the reference
def dc_sealM (k : Int64) (w : Nat → Int64) : Nat → Int64
  | 0 => 0
  | i + 1 => dc_enc k ((w i) ^^^ (dc_sealM k w i))
theorem dc_sealM3 (k : Int64) (rw9 : Nat → Int64) (x y u : Int64) : dc_sealM k (vp_updL (vp_updL (vp_updL rw9 0 x) 1 y) 2 u) 3 = dc_seal3 k x y u := by
  show dc_enc k (u ^^^ dc_enc k (y ^^^ dc_enc k (x ^^^ 0))) = dc_enc k (dc_enc k (dc_enc k x ^^^ y) ^^^ u)
  rw [Int64.xor_zero, Int64.xor_comm u, Int64.xor_comm y]
theorem dc_ju0 (k : Int64) : dc_ju k (8 * 0) ||| dc_jl k (64 - 8 * 0) = k := by
  have h1 : dc_ju k (8 * 0) = k := by
    unfold dc_ju
    have e : (((8 : Int32) * 0).toInt64.toUInt64 &&& Int64.toUInt64 63) = 0 := by decide
    rw [e]
    rw [← Int64.toBitVec_inj]
    simp
  have h2 : dc_jl k (64 - 8 * 0) = k := by
    unfold dc_jl
    have e : (((64 : Int32) - 8 * 0).toInt64 &&& 63) = 0 := by decide
    rw [e]
    rw [← Int64.toBitVec_inj]
    simp
  rw [h1, h2]
  rw [← Int64.toBitVec_inj]
  simp
theorem dc_scr0 (k : Int64) (x : Int32) : (((((x + k.toInt32) <<< ((4 : Int32) &&& 31)) ^^^ (dc_iu (x + k.toInt32) (5 : Int32))) + (x + k.toInt32)) ^^^ ((0 : Int32) * (-1640531527 : Int32))) = dc_scr k 0 x := by
  have e : dc_scrT k 0 x = x + k.toInt32 := by
    unfold dc_scrT
    rw [dc_ju0]
  unfold dc_scr
  rw [e]
theorem dc_hi (b : Int64) : (dc_jr b (32 : Int32)).toInt32 = (dc_ju b 32).toInt32 := by
  unfold dc_jr dc_ju
  rw [← Int32.toBitVec_inj]
  have e1 : ((32 : Int32).toInt64 &&& 63) = 32 := by decide
  have e2 : ((32 : Int32).toInt64.toUInt64 &&& Int64.toUInt64 63) = 32 := by decide
  rw [e1, e2]
  rw [Int64.toBitVec_toInt32, Int64.toBitVec_toInt32]
  have h1 : (b >>> (32 : Int64)).toBitVec = b.toBitVec.sshiftRight 32 := by
    rw [Int64.toBitVec_shiftRight]
    rfl
  have h2 : (b.toUInt64 >>> (32 : UInt64)).toInt64.toBitVec = b.toBitVec >>> 32 := rfl
  rw [h1, h2]
  apply BitVec.eq_of_getLsbD_eq
  intro i hi
  rw [BitVec.getLsbD_signExtend, BitVec.getLsbD_signExtend, BitVec.getLsbD_sshiftRight, BitVec.getLsbD_ushiftRight]
  have h5 : i < 64 := by omega
  have h3 : 32 + i < 64 := by omega
  have h4 : ¬ 64 ≤ i := by omega
  simp [h3, h4, h5]
