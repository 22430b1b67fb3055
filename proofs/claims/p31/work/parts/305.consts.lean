theorem bc_m2048144789 : (-2048144789 : Int) ≤ ((-2048144789) : Int32).toInt ∧ ((-2048144789) : Int32).toInt ≤ -2048144789 := by decide
theorem bc_m1640531535 : (-1640531535 : Int) ≤ ((-1640531535) : Int32).toInt ∧ ((-1640531535) : Int32).toInt ≤ -1640531535 := by decide
theorem bc_m1028477387 : (-1028477387 : Int) ≤ ((-1028477387) : Int32).toInt ∧ ((-1028477387) : Int32).toInt ≤ -1028477387 := by decide
theorem bc_121 : (121 : Int) ≤ (121 : Int32).toInt ∧ (121 : Int32).toInt ≤ 121 := by decide
theorem bc_256 : (256 : Int) ≤ (256 : Int32).toInt ∧ (256 : Int32).toInt ≤ 256 := by decide
theorem bc_65535 : (65535 : Int) ≤ (65535 : Int32).toInt ∧ (65535 : Int32).toInt ≤ 65535 := by decide
theorem bc_131072 : (131072 : Int) ≤ (131072 : Int32).toInt ∧ (131072 : Int32).toInt ≤ 131072 := by decide
