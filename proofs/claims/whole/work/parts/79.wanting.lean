theorem op_text : OpI (mi_X3_text) (mi_X4_text) := sorry
