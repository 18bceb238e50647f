theorem dc_selT {α : Type} {a b : α} : dc_sel true a b = a := rfl
theorem dc_selF {α : Type} {a b : α} : dc_sel false a b = b := rfl
