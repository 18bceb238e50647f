theorem dc_readRN {sv : Nat} {x : Int64} {n0 n1 n2 n3 : Nat} (h : ¬ dc_readR sv x n0 n1 n2 n3 = 0) : dc_readOk sv x n0 n1 n2 n3 = false := by
  cases sv with
  | zero => rfl
  | succ v =>
    show dc_rdOk x (dc_f4 n0 n1 n2 n3 v) = false
    cases hb : dc_rdOk x (dc_f4 n0 n1 n2 n3 v) with
    | false => rfl
    | true =>
      refine absurd ?_ h
      show (if dc_rdOk x (dc_f4 n0 n1 n2 n3 v) = true then (0 : Int32) else 5) = 0
      rw [if_pos hb]
