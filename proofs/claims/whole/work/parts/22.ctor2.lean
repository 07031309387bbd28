set_option maxRecDepth 1000000 in
theorem k_t28 : s_seg 31 6 7 74 [some (.ref 123), some (.ref 2), some (.int 5)] [.ref 145, .int 5, .ref 124] (p_x k_w29) = some (63, [some (.ref 123), some (.ref 2), some (.int 8)], [.ref 123], p_x k_w30) := by decide +kernel
set_option maxRecDepth 1000000 in
theorem k_t29 : s_seg 29 6 7 63 [some (.ref 123), some (.ref 2), some (.int 8)] [.ref 123] (p_x k_w30) = some (74, [some (.ref 123), some (.ref 2), some (.int 10)], [.ref 160, .int 10, .ref 124], p_x k_w31) := by decide +kernel
set_option maxRecDepth 1000000 in
theorem k_t30 : s_seg 31 6 7 74 [some (.ref 123), some (.ref 2), some (.int 10)] [.ref 160, .int 10, .ref 124] (p_x k_w31) = some (63, [some (.ref 123), some (.ref 2), some (.int 13)], [.ref 123], p_x k_w32) := by decide +kernel
set_option maxRecDepth 1000000 in
theorem k_t31 : s_seg 29 6 7 63 [some (.ref 123), some (.ref 2), some (.int 13)] [.ref 123] (p_x k_w32) = some (74, [some (.ref 123), some (.ref 2), some (.int 15)], [.ref 175, .int 15, .ref 124], p_x k_w33) := by decide +kernel
set_option maxRecDepth 1000000 in
theorem k_t32 : s_seg 31 6 7 74 [some (.ref 123), some (.ref 2), some (.int 15)] [.ref 175, .int 15, .ref 124] (p_x k_w33) = some (63, [some (.ref 123), some (.ref 2), some (.int 18)], [.ref 123], p_x k_w34) := by decide +kernel
set_option maxRecDepth 1000000 in
theorem k_t33 : s_seg 29 6 7 63 [some (.ref 123), some (.ref 2), some (.int 18)] [.ref 123] (p_x k_w34) = some (74, [some (.ref 123), some (.ref 2), some (.int 20)], [.ref 190, .int 20, .ref 124], p_x k_w35) := by decide +kernel
set_option maxRecDepth 1000000 in
theorem k_t34 : s_seg 31 6 7 74 [some (.ref 123), some (.ref 2), some (.int 20)] [.ref 190, .int 20, .ref 124] (p_x k_w35) = some (63, [some (.ref 123), some (.ref 2), some (.int 23)], [.ref 123], p_x k_w36) := by decide +kernel
set_option maxRecDepth 1000000 in
theorem k_t35 : s_seg 29 6 7 63 [some (.ref 123), some (.ref 2), some (.int 23)] [.ref 123] (p_x k_w36) = some (74, [some (.ref 123), some (.ref 2), some (.int 25)], [.ref 205, .int 25, .ref 124], p_x k_w37) := by decide +kernel
set_option maxRecDepth 1000000 in
theorem k_t36 : s_seg 31 6 7 74 [some (.ref 123), some (.ref 2), some (.int 25)] [.ref 205, .int 25, .ref 124] (p_x k_w37) = some (63, [some (.ref 123), some (.ref 2), some (.int 28)], [.ref 123], p_x k_w38) := by decide +kernel
set_option maxRecDepth 1000000 in
theorem k_t37 : s_seg 29 6 7 63 [some (.ref 123), some (.ref 2), some (.int 28)] [.ref 123] (p_x k_w38) = some (74, [some (.ref 123), some (.ref 2), some (.int 30)], [.ref 220, .int 30, .ref 124], p_x k_w39) := by decide +kernel
set_option maxRecDepth 1000000 in
theorem k_t38 : s_seg 31 6 7 74 [some (.ref 123), some (.ref 2), some (.int 30)] [.ref 220, .int 30, .ref 124] (p_x k_w39) = some (63, [some (.ref 123), some (.ref 2), some (.int 33)], [.ref 123], p_x k_w40) := by decide +kernel
set_option maxRecDepth 1000000 in
theorem k_t39 : s_seg 29 6 7 63 [some (.ref 123), some (.ref 2), some (.int 33)] [.ref 123] (p_x k_w40) = some (74, [some (.ref 123), some (.ref 2), some (.int 35)], [.ref 235, .int 35, .ref 124], p_x k_w41) := by decide +kernel
set_option maxRecDepth 1000000 in
theorem k_t40 : s_seg 31 6 7 74 [some (.ref 123), some (.ref 2), some (.int 35)] [.ref 235, .int 35, .ref 124] (p_x k_w41) = some (63, [some (.ref 123), some (.ref 2), some (.int 38)], [.ref 123], p_x k_w42) := by decide +kernel
set_option maxRecDepth 1000000 in
theorem k_t41 : s_seg 29 6 7 63 [some (.ref 123), some (.ref 2), some (.int 38)] [.ref 123] (p_x k_w42) = some (74, [some (.ref 123), some (.ref 2), some (.int 40)], [.ref 250, .int 40, .ref 124], p_x k_w43) := by decide +kernel
