set_option maxRecDepth 1000000 in
theorem k_t14 : s_seg 12 6 1 97 [some (.ref 2), some (.int 1)] [.ref 57, .int 1, .ref 4] (p_x k_w16) = some (97, [some (.ref 2), some (.int 2)], [.ref 63, .int 2, .ref 4], p_x k_w17) := by decide +kernel
set_option maxRecDepth 1000000 in
theorem k_t15 : s_seg 12 6 1 97 [some (.ref 2), some (.int 2)] [.ref 63, .int 2, .ref 4] (p_x k_w17) = some (97, [some (.ref 2), some (.int 3)], [.ref 69, .int 3, .ref 4], p_x k_w18) := by decide +kernel
set_option maxRecDepth 1000000 in
theorem k_t16 : s_seg 12 6 1 97 [some (.ref 2), some (.int 3)] [.ref 69, .int 3, .ref 4] (p_x k_w18) = some (97, [some (.ref 2), some (.int 4)], [.ref 75, .int 4, .ref 4], p_x k_w19) := by decide +kernel
set_option maxRecDepth 1000000 in
theorem k_t17 : s_seg 12 6 1 97 [some (.ref 2), some (.int 4)] [.ref 75, .int 4, .ref 4] (p_x k_w19) = some (97, [some (.ref 2), some (.int 5)], [.ref 81, .int 5, .ref 4], p_x k_w20) := by decide +kernel
set_option maxRecDepth 1000000 in
theorem k_t18 : s_seg 12 6 1 97 [some (.ref 2), some (.int 5)] [.ref 81, .int 5, .ref 4] (p_x k_w20) = some (97, [some (.ref 2), some (.int 6)], [.ref 87, .int 6, .ref 4], p_x k_w21) := by decide +kernel
set_option maxRecDepth 1000000 in
theorem k_t19 : s_seg 12 6 1 97 [some (.ref 2), some (.int 6)] [.ref 87, .int 6, .ref 4] (p_x k_w21) = some (97, [some (.ref 2), some (.int 7)], [.ref 93, .int 7, .ref 4], p_x k_w22) := by decide +kernel
set_option maxRecDepth 1000000 in
theorem k_t20 : s_seg 12 6 1 97 [some (.ref 2), some (.int 7)] [.ref 93, .int 7, .ref 4] (p_x k_w22) = some (97, [some (.ref 2), some (.int 8)], [.ref 99, .int 8, .ref 4], p_x k_w23) := by decide +kernel
set_option maxRecDepth 1000000 in
theorem k_t21 : s_seg 12 6 1 97 [some (.ref 2), some (.int 8)] [.ref 99, .int 8, .ref 4] (p_x k_w23) = some (97, [some (.ref 2), some (.int 9)], [.ref 105, .int 9, .ref 4], p_x k_w24) := by decide +kernel
set_option maxRecDepth 1000000 in
theorem k_t22 : s_seg 12 6 1 97 [some (.ref 2), some (.int 9)] [.ref 105, .int 9, .ref 4] (p_x k_w24) = some (97, [some (.ref 2), some (.int 10)], [.ref 111, .int 10, .ref 4], p_x k_w25) := by decide +kernel
set_option maxRecDepth 1000000 in
theorem k_t23 : s_seg 12 6 1 97 [some (.ref 2), some (.int 10)] [.ref 111, .int 10, .ref 4] (p_x k_w25) = some (97, [some (.ref 2), some (.int 11)], [.ref 117, .int 11, .ref 4], p_x k_w26) := by decide +kernel
set_option maxRecDepth 1000000 in
theorem k_t24 : s_seg 11 6 1 97 [some (.ref 2), some (.int 11)] [.ref 117, .int 11, .ref 4] (p_x k_w26) = some (115, [some (.ref 2), some (.int 12)], [], p_x k_w2) := by decide +kernel
set_option maxRecDepth 1000000 in
theorem k_t25 : s_seg 37 6 7 0 [some (.ref 123), some (.ref 2), none] [] (p_x k_w3) = some (74, [some (.ref 123), some (.ref 2), some (.int 0)], [.ref 130, .int 0, .ref 124], p_x k_w27) := by decide +kernel
set_option maxRecDepth 1000000 in
theorem k_t26 : s_seg 31 6 7 74 [some (.ref 123), some (.ref 2), some (.int 0)] [.ref 130, .int 0, .ref 124] (p_x k_w27) = some (63, [some (.ref 123), some (.ref 2), some (.int 3)], [.ref 123], p_x k_w28) := by decide +kernel
set_option maxRecDepth 1000000 in
theorem k_t27 : s_seg 29 6 7 63 [some (.ref 123), some (.ref 2), some (.int 3)] [.ref 123] (p_x k_w28) = some (74, [some (.ref 123), some (.ref 2), some (.int 5)], [.ref 145, .int 5, .ref 124], p_x k_w29) := by decide +kernel
