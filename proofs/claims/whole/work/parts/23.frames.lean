set_option maxRecDepth 1000000 in
theorem k_f1 : Rn 7 1 0 (j_ent 1 [.ref 2]) [] (p_x k_w1) (none, p_x k_w2) := by
  refine s_seg_ok _ _ _ _ _ _ _ _ _ k_t6 ?_
  refine s_seg_ok _ _ _ _ _ _ _ _ _ k_t7 ?_
  refine s_seg_ok _ _ _ _ _ _ _ _ _ k_t8 ?_
  refine s_seg_ok _ _ _ _ _ _ _ _ _ k_t9 ?_
  refine s_seg_ok _ _ _ _ _ _ _ _ _ k_t10 ?_
  refine s_seg_ok _ _ _ _ _ _ _ _ _ k_t11 ?_
  refine s_seg_ok _ _ _ _ _ _ _ _ _ k_t12 ?_
  refine s_seg_ok _ _ _ _ _ _ _ _ _ k_t13 ?_
  refine s_seg_ok _ _ _ _ _ _ _ _ _ k_t14 ?_
  refine s_seg_ok _ _ _ _ _ _ _ _ _ k_t15 ?_
  refine s_seg_ok _ _ _ _ _ _ _ _ _ k_t16 ?_
  refine s_seg_ok _ _ _ _ _ _ _ _ _ k_t17 ?_
  refine s_seg_ok _ _ _ _ _ _ _ _ _ k_t18 ?_
  refine s_seg_ok _ _ _ _ _ _ _ _ _ k_t19 ?_
  refine s_seg_ok _ _ _ _ _ _ _ _ _ k_t20 ?_
  refine s_seg_ok _ _ _ _ _ _ _ _ _ k_t21 ?_
  refine s_seg_ok _ _ _ _ _ _ _ _ _ k_t22 ?_
  refine s_seg_ok _ _ _ _ _ _ _ _ _ k_t23 ?_
  refine s_seg_ok _ _ _ _ _ _ _ _ _ k_t24 ?_
  exact Rn.ret (s_ins_ok (q := (.return_, 1)) rfl) rfl
set_option maxRecDepth 1000000 in
theorem k_f7 : Rn 7 7 0 (j_ent 7 [.ref 123, .ref 2]) [] (p_x k_w3) (none, p_x k_w4) := by
  refine s_seg_ok _ _ _ _ _ _ _ _ _ k_t25 ?_
  refine s_seg_ok _ _ _ _ _ _ _ _ _ k_t26 ?_
  refine s_seg_ok _ _ _ _ _ _ _ _ _ k_t27 ?_
  refine s_seg_ok _ _ _ _ _ _ _ _ _ k_t28 ?_
  refine s_seg_ok _ _ _ _ _ _ _ _ _ k_t29 ?_
  refine s_seg_ok _ _ _ _ _ _ _ _ _ k_t30 ?_
  refine s_seg_ok _ _ _ _ _ _ _ _ _ k_t31 ?_
  refine s_seg_ok _ _ _ _ _ _ _ _ _ k_t32 ?_
  refine s_seg_ok _ _ _ _ _ _ _ _ _ k_t33 ?_
  refine s_seg_ok _ _ _ _ _ _ _ _ _ k_t34 ?_
  refine s_seg_ok _ _ _ _ _ _ _ _ _ k_t35 ?_
  refine s_seg_ok _ _ _ _ _ _ _ _ _ k_t36 ?_
  refine s_seg_ok _ _ _ _ _ _ _ _ _ k_t37 ?_
  refine s_seg_ok _ _ _ _ _ _ _ _ _ k_t38 ?_
  refine s_seg_ok _ _ _ _ _ _ _ _ _ k_t39 ?_
  refine s_seg_ok _ _ _ _ _ _ _ _ _ k_t40 ?_
  refine s_seg_ok _ _ _ _ _ _ _ _ _ k_t41 ?_
  refine s_seg_ok _ _ _ _ _ _ _ _ _ k_t42 ?_
  refine s_seg_ok _ _ _ _ _ _ _ _ _ k_t43 ?_
  refine s_seg_ok _ _ _ _ _ _ _ _ _ k_t44 ?_
  refine s_seg_ok _ _ _ _ _ _ _ _ _ k_t45 ?_
  refine s_seg_ok _ _ _ _ _ _ _ _ _ k_t46 ?_
  refine s_seg_ok _ _ _ _ _ _ _ _ _ k_t47 ?_
  refine s_seg_ok _ _ _ _ _ _ _ _ _ k_t48 ?_
  refine s_seg_ok _ _ _ _ _ _ _ _ _ k_t49 ?_
  refine s_seg_ok _ _ _ _ _ _ _ _ _ k_t50 ?_
  refine s_seg_ok _ _ _ _ _ _ _ _ _ k_t51 ?_
  exact Rn.ret (s_ins_ok (q := (.return_, 1)) rfl) rfl
set_option maxRecDepth 1000000 in
theorem k_f0 : Rn 8 0 0 (j_ent 0 [.ref 1]) [] (p_x k_w0) (none, p_x k_w8) := by
  refine s_seg_ok _ _ _ _ _ _ _ _ _ k_t0 ?_
  refine Rn.cal (v := none) (w1 := p_x k_w2) (s_ins_ok (q := (.invokespecial 9, 3)) rfl) (kd := 2) (y' := 1) (as := [.ref 2]) (rest := [.ref 2, .ref 1]) rfl k_f1 ?_
  refine s_seg_ok _ _ _ _ _ _ _ _ _ k_t1 ?_
  refine Rn.cal (v := none) (w1 := p_x k_w4) (s_ins_ok (q := (.invokespecial 18, 3)) rfl) (kd := 2) (y' := 7) (as := [.ref 123, .ref 2]) (rest := [.ref 123, .ref 1]) rfl k_f7 ?_
  refine s_seg_ok _ _ _ _ _ _ _ _ _ k_t2 ?_
  refine s_seg_ok _ _ _ _ _ _ _ _ _ k_t3 ?_
  refine s_seg_ok _ _ _ _ _ _ _ _ _ k_t4 ?_
  refine s_seg_ok _ _ _ _ _ _ _ _ _ k_t5 ?_
  exact Rn.ret (s_ins_ok (q := (.return_, 1)) rfl) rfl
set_option maxRecDepth 1000000 in
theorem k_f110 : Rn 8 110 0 (j_ent 110 [.ref 346]) [] (p_x k_w53) (none, p_x k_w56) := by
  refine s_seg_ok _ _ _ _ _ _ _ _ _ k_t52 ?_
  refine s_seg_ok _ _ _ _ _ _ _ _ _ k_t53 ?_
  refine s_seg_ok _ _ _ _ _ _ _ _ _ k_t54 ?_
  exact Rn.ret (s_ins_ok (q := (.return_, 1)) rfl) rfl
