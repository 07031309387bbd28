set_option maxRecDepth 1000000 in
theorem k_t0 : s_seg 5 7 0 0 [some (.ref 1), none] [] (p_x k_w0) = some (9, [some (.ref 1), none], [.ref 2, .ref 2, .ref 1], p_x k_w1) := by decide +kernel
set_option maxRecDepth 1000000 in
theorem k_t1 : s_seg 6 7 0 12 [some (.ref 1), none] [.ref 2, .ref 1] (p_x k_w2) = some (24, [some (.ref 1), none], [.ref 2, .ref 123, .ref 123, .ref 1], p_x k_w3) := by decide +kernel
set_option maxRecDepth 1000000 in
theorem k_t2 : s_seg 16 7 0 27 [some (.ref 1), none] [.ref 123, .ref 1] (p_x k_w4) = some (61, [some (.ref 1), none], [.ref 325, .ref 1], p_x k_w5) := by decide +kernel
