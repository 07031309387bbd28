set_option maxRecDepth 1000000 in
theorem k_t42 : s_seg 31 6 7 74 [some (.ref 123), some (.ref 2), some (.int 40)] [.ref 250, .int 40, .ref 124] (p_x k_w43) = some (63, [some (.ref 123), some (.ref 2), some (.int 43)], [.ref 123], p_x k_w44) := by decide +kernel
set_option maxRecDepth 1000000 in
theorem k_t43 : s_seg 29 6 7 63 [some (.ref 123), some (.ref 2), some (.int 43)] [.ref 123] (p_x k_w44) = some (74, [some (.ref 123), some (.ref 2), some (.int 45)], [.ref 265, .int 45, .ref 124], p_x k_w45) := by decide +kernel
set_option maxRecDepth 1000000 in
theorem k_t44 : s_seg 31 6 7 74 [some (.ref 123), some (.ref 2), some (.int 45)] [.ref 265, .int 45, .ref 124] (p_x k_w45) = some (63, [some (.ref 123), some (.ref 2), some (.int 48)], [.ref 123], p_x k_w46) := by decide +kernel
set_option maxRecDepth 1000000 in
theorem k_t45 : s_seg 29 6 7 63 [some (.ref 123), some (.ref 2), some (.int 48)] [.ref 123] (p_x k_w46) = some (74, [some (.ref 123), some (.ref 2), some (.int 50)], [.ref 280, .int 50, .ref 124], p_x k_w47) := by decide +kernel
set_option maxRecDepth 1000000 in
theorem k_t46 : s_seg 31 6 7 74 [some (.ref 123), some (.ref 2), some (.int 50)] [.ref 280, .int 50, .ref 124] (p_x k_w47) = some (63, [some (.ref 123), some (.ref 2), some (.int 53)], [.ref 123], p_x k_w48) := by decide +kernel
set_option maxRecDepth 1000000 in
theorem k_t47 : s_seg 29 6 7 63 [some (.ref 123), some (.ref 2), some (.int 53)] [.ref 123] (p_x k_w48) = some (74, [some (.ref 123), some (.ref 2), some (.int 55)], [.ref 295, .int 55, .ref 124], p_x k_w49) := by decide +kernel
set_option maxRecDepth 1000000 in
theorem k_t48 : s_seg 31 6 7 74 [some (.ref 123), some (.ref 2), some (.int 55)] [.ref 295, .int 55, .ref 124] (p_x k_w49) = some (63, [some (.ref 123), some (.ref 2), some (.int 58)], [.ref 123], p_x k_w50) := by decide +kernel
set_option maxRecDepth 1000000 in
theorem k_t49 : s_seg 29 6 7 63 [some (.ref 123), some (.ref 2), some (.int 58)] [.ref 123] (p_x k_w50) = some (74, [some (.ref 123), some (.ref 2), some (.int 60)], [.ref 310, .int 60, .ref 124], p_x k_w51) := by decide +kernel
set_option maxRecDepth 1000000 in
theorem k_t50 : s_seg 31 6 7 74 [some (.ref 123), some (.ref 2), some (.int 60)] [.ref 310, .int 60, .ref 124] (p_x k_w51) = some (63, [some (.ref 123), some (.ref 2), some (.int 63)], [.ref 123], p_x k_w52) := by decide +kernel
set_option maxRecDepth 1000000 in
theorem k_t51 : s_seg 11 6 7 63 [some (.ref 123), some (.ref 2), some (.int 63)] [.ref 123] (p_x k_w52) = some (81, [some (.ref 123), some (.ref 2), some (.int 64)], [], p_x k_w4) := by decide +kernel
set_option maxRecDepth 1000000 in
theorem k_t52 : s_seg 61 7 110 0 [some (.ref 346)] [] (p_x k_w53) = some (96, [some (.ref 346)], [.ref 354, .ref 354, .ref 346], p_x k_w54) := by decide +kernel
set_option maxRecDepth 1000000 in
theorem k_t53 : s_seg 61 7 110 96 [some (.ref 346)] [.ref 354, .ref 354, .ref 346] (p_x k_w54) = some (208, [some (.ref 346)], [.int 64, .ref 346], p_x k_w55) := by decide +kernel
set_option maxRecDepth 1000000 in
theorem k_t54 : s_seg 46 7 110 208 [some (.ref 346)] [.int 64, .ref 346] (p_x k_w55) = some (288, [some (.ref 346)], [], p_x k_w56) := by decide +kernel
