theorem dc_one {m : Int32} (h : ¬ m < 2) : (1 : Int64) - 1 / m.toInt64 * m.toInt64 = 1 := by
  have h2 : 2 ≤ m.toInt64.toInt := by
    rw [Int32.toInt_toInt64]
    rw [Int32.lt_iff_toInt_lt] at h
    have e2 : (2 : Int32).toInt = 2 := rfl
    rw [e2] at h
    omega
  have hz : (1 : Int64) / m.toInt64 = 0 := by
    rw [← Int64.toInt_inj, Int64.toInt_div]
    have e1 : (1 : Int64).toInt = 1 := rfl
    have e0 : (0 : Int64).toInt = 0 := rfl
    rw [e1, e0]
    have : Int.tdiv 1 m.toInt64.toInt = 0 := Int.tdiv_eq_zero_of_lt (by omega) (by omega)
    rw [this]
    rfl
  rw [hz]
  rw [Int64.zero_mul, Int64.sub_zero]
def dc_chT (mm ii : Int32) (x : Int64) (t : Nat) : Int32 := if ¬ mm < 0 ∧ ¬ 99 < mm ∧ ¬ ii < 0 ∧ ¬ 9 < ii ∧ ¬ x = 0 then (if t = 3 then 2 else 0) else 1
def dc_trT (mm ee : Int32) (k : Nat) : Int32 := if ¬ mm < 2 ∧ ¬ ee < 1 ∧ ee ≤ 65537 then (if k = 4 then 2 else 0) else 1
