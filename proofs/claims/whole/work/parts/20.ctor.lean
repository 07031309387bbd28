set_option maxRecDepth 1000000 in
theorem k_X : s_run 2000 8 0 0 (j_ent 0 [.ref 1]) [] (p_x [(10, j_dflt 10)]) = some (none, p_x (f_part 345)) := by decide +kernel
set_option maxRecDepth 1000000 in
theorem k_M : s_run 2000 8 110 0 (j_ent 110 [.ref 346]) [] (p_x (f_part 345 ++ [(11, j_dflt 11)])) = some (none, p_x (f_part (f_N - 1))) := by decide +kernel
