theorem bc_14 : (14 : Int) ≤ (14 : Int32).toInt ∧ (14 : Int32).toInt ≤ 14 := by decide
theorem bc_17 : (17 : Int) ≤ (17 : Int32).toInt ∧ (17 : Int32).toInt ≤ 17 := by decide
theorem bc_19 : (19 : Int) ≤ (19 : Int32).toInt ∧ (19 : Int32).toInt ≤ 19 := by decide
