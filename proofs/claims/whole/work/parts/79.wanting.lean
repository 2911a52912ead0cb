theorem op_text : OpI (mi_X3_text) (mi_X4_text) := sorry
theorem op_copy (z0 : Int32) (z1 : Int32) (z2 : Int32) (z3 : Int32) (z4 : Int32) : OpI (mi_X3_copy z0 z1 z2 z3 z4) (mi_X4_copy z0 z1 z2 z3 z4) := sorry
