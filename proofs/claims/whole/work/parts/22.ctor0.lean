set_option maxRecDepth 1000000 in
theorem k_t0 : s_seg 5 7 0 0 [some (.ref 1), none] [] (p_x k_w0) = some (9, [some (.ref 1), none], [.ref 2, .ref 2, .ref 1], p_x k_w1) := by decide +kernel
set_option maxRecDepth 1000000 in
theorem k_t1 : s_seg 6 7 0 12 [some (.ref 1), none] [.ref 2, .ref 1] (p_x k_w2) = some (24, [some (.ref 1), none], [.ref 2, .ref 123, .ref 123, .ref 1], p_x k_w3) := by decide +kernel
set_option maxRecDepth 1000000 in
theorem k_t2 : s_seg 16 7 0 27 [some (.ref 1), none] [.ref 123, .ref 1] (p_x k_w4) = some (61, [some (.ref 1), none], [.ref 325, .ref 1], p_x k_w5) := by decide +kernel
set_option maxRecDepth 1000000 in
theorem k_t3 : s_seg 24 7 0 61 [some (.ref 1), none] [.ref 325, .ref 1] (p_x k_w5) = some (109, [some (.ref 1), some (.int 0)], [.ref 335], p_x k_w6) := by decide +kernel
set_option maxRecDepth 1000000 in
theorem k_t4 : s_seg 31 7 0 109 [some (.ref 1), some (.int 0)] [.ref 335] (p_x k_w6) = some (100, [some (.ref 1), some (.int 3)], [], p_x k_w7) := by decide +kernel
set_option maxRecDepth 1000000 in
theorem k_t5 : s_seg 15 7 0 100 [some (.ref 1), some (.int 3)] [] (p_x k_w7) = some (124, [some (.ref 1), some (.int 4)], [], p_x k_w8) := by decide +kernel
set_option maxRecDepth 1000000 in
theorem k_t6 : s_seg 34 6 1 0 [some (.ref 2), none] [] (p_x k_w1) = some (70, [some (.ref 2), some (.int 0)], [.ref 9, .int 0, .ref 3], p_x k_w9) := by decide +kernel
set_option maxRecDepth 1000000 in
theorem k_t7 : s_seg 12 6 1 70 [some (.ref 2), some (.int 0)] [.ref 9, .int 0, .ref 3] (p_x k_w9) = some (70, [some (.ref 2), some (.int 1)], [.ref 16, .int 1, .ref 3], p_x k_w10) := by decide +kernel
set_option maxRecDepth 1000000 in
theorem k_t8 : s_seg 12 6 1 70 [some (.ref 2), some (.int 1)] [.ref 16, .int 1, .ref 3] (p_x k_w10) = some (70, [some (.ref 2), some (.int 2)], [.ref 23, .int 2, .ref 3], p_x k_w11) := by decide +kernel
set_option maxRecDepth 1000000 in
theorem k_t9 : s_seg 12 6 1 70 [some (.ref 2), some (.int 2)] [.ref 23, .int 2, .ref 3] (p_x k_w11) = some (70, [some (.ref 2), some (.int 3)], [.ref 30, .int 3, .ref 3], p_x k_w12) := by decide +kernel
set_option maxRecDepth 1000000 in
theorem k_t10 : s_seg 12 6 1 70 [some (.ref 2), some (.int 3)] [.ref 30, .int 3, .ref 3] (p_x k_w12) = some (70, [some (.ref 2), some (.int 4)], [.ref 37, .int 4, .ref 3], p_x k_w13) := by decide +kernel
set_option maxRecDepth 1000000 in
theorem k_t11 : s_seg 12 6 1 70 [some (.ref 2), some (.int 4)] [.ref 37, .int 4, .ref 3] (p_x k_w13) = some (70, [some (.ref 2), some (.int 5)], [.ref 44, .int 5, .ref 3], p_x k_w14) := by decide +kernel
set_option maxRecDepth 1000000 in
theorem k_t12 : s_seg 17 6 1 70 [some (.ref 2), some (.int 5)] [.ref 44, .int 5, .ref 3] (p_x k_w14) = some (97, [some (.ref 2), some (.int 0)], [.ref 51, .int 0, .ref 4], p_x k_w15) := by decide +kernel
set_option maxRecDepth 1000000 in
theorem k_t13 : s_seg 12 6 1 97 [some (.ref 2), some (.int 0)] [.ref 51, .int 0, .ref 4] (p_x k_w15) = some (97, [some (.ref 2), some (.int 1)], [.ref 57, .int 1, .ref 4], p_x k_w16) := by decide +kernel
