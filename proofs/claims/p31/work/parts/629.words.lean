theorem tb_129 : (Jvm.Cond.instantiable "LieClock" (17 : Nat)) ∈ TB := TB_of 129 (by decide +kernel) (by decide +kernel)
theorem tb_137 : (Jvm.Cond.instantiable "LieClock$Tape" (2 : Nat)) ∈ TB := TB_of 137 (by decide +kernel) (by decide +kernel)
theorem tb_153 : (Jvm.Cond.instantiable "LieClock$Told" (20 : Nat)) ∈ TB := TB_of 153 (by decide +kernel) (by decide +kernel)
theorem tb_289 : (Jvm.Cond.instantiable "LieClock$Parser" (7 : Nat)) ∈ TB := TB_of 289 (by decide +kernel) (by decide +kernel)
theorem tb_487 : (Jvm.Cond.instantiable "LieClock$Nodes" (7 : Nat)) ∈ TB := TB_of 487 (by decide +kernel) (by decide +kernel)
theorem tb_523 : (Jvm.Cond.instantiable "LieClock$Sets" (6 : Nat)) ∈ TB := TB_of 523 (by decide +kernel) (by decide +kernel)
theorem tb_548 : (Jvm.Cond.instantiable "LieClock$Orders" (8 : Nat)) ∈ TB := TB_of 548 (by decide +kernel) (by decide +kernel)
theorem tb_584 : (Jvm.Cond.instantiable "LieClock$Ahead" (8 : Nat)) ∈ TB := TB_of 584 (by decide +kernel) (by decide +kernel)
theorem tb_621 : (Jvm.Cond.instantiable "LieClock$Book" (8 : Nat)) ∈ TB := TB_of 621 (by decide +kernel) (by decide +kernel)
theorem tb_1362 : (Jvm.Cond.instantiable "LieClockModel" (69 : Nat)) ∈ TB := TB_of 1362 (by decide +kernel) (by decide +kernel)
theorem nw_381 : (Jvm.Cond.arrayOver (Jvm.ClassFile.FieldType.object "LieClock$Tape")) ∈ NWs := NW_of 381 (by decide +kernel) rfl

