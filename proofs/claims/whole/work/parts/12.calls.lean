/-! WORDS OF CALLS, places written by program (wip/whole/gen/calls.py) -/
def j_c3 : List (Nat × Nat × Nat × Nat) := j_ca.filter (fun q => q.2.2.1 != 3)
def j_c3W (q : Nat × Nat × Nat × Nat) : Cond := if q.2.2.1 = 1 ∨ q.2.2.1 = 4 ∨ 5 < q.2.2.1 then .static (j_nm q.2.2.2) else .instanceMethod (j_nm q.2.2.2)
def j_c3p : List Nat := [63, 71, 81, 91, 81, 97, 101, 128, 81, 97, 97, 220, 81, 229, 81, 307, 330, 81, 348, 81, 81, 380, 418, 422, 426, 430, 434, 437, 101, 441, 445, 449, 453, 457, 461, 465, 469, 473, 477, 481, 485, 430, 490, 494, 498, 502, 505, 509, 512, 517, 490, 522, 526, 530, 533, 537, 542, 545, 549, 553, 557, 437, 498, 505, 101, 566, 569, 573, 577, 581, 585, 569, 590, 577, 594, 505, 498, 600, 604, 607, 610, 614, 618, 622, 626, 631, 618, 636, 505, 498, 641, 647, 651, 655, 660, 569, 498, 502, 667, 671, 505, 453, 557, 677, 681, 685, 689, 97, 101, 695, 699, 703, 707, 485, 713, 430, 545, 719, 723, 490, 494, 512, 533, 731, 553, 577, 736, 740, 485, 614, 746, 750, 754, 498, 760, 545, 490, 765, 769, 557, 101, 618, 776, 780, 577, 590, 533, 788, 553, 792, 796, 799, 802, 509, 807, 811, 816, 820, 823, 828, 831, 607, 836, 490, 841, 847, 963, 967, 970, 975, 978, 981, 985, 988, 992, 996, 1001, 1004, 1008, 1013, 1017, 1021, 1026, 1031, 1035, 1039, 1043, 1047, 1051, 1055, 1059, 1063, 1067, 1071, 1075, 1079, 1083, 1087, 1091, 1095, 1098, 1102, 1106, 1110, 1116, 1119, 1123, 1128, 1132, 1135, 1140, 1144, 1148, 1153, 1157, 1160, 1164, 1169, 1172, 1177, 1180, 1185, 1190, 1194, 1198]
def j_c0 : List (Nat × Nat × Nat × Nat) := j_ca.filter (fun q => q.2.2.1 == 0)
def j_c0W (q : Nat × Nat × Nat × Nat) : Cond := .selects (j_nm q.2.2.2).cls (j_nm q.2.2.2) (j_nm q.2.2.2)
def j_c0p : List Nat := [98, 102, 98, 98, 419, 423, 427, 431, 102, 442, 446, 450, 454, 458, 462, 466, 470, 474, 478, 482, 486, 431, 491, 495, 499, 506, 513, 0, 491, 1, 2, 3, 534, 538, 4, 546, 550, 554, 558, 499, 506, 102, 5, 570, 574, 578, 582, 586, 570, 578, 595, 506, 499, 601, 611, 615, 619, 623, 627, 6, 619, 7, 506, 499, 648, 652, 656, 8, 570, 499, 9, 10, 506, 454, 558, 678, 682, 686, 690, 98, 102, 696, 700, 704, 708, 486, 11, 431, 546, 12, 13, 491, 495, 513, 534, 14, 554, 578, 737, 741, 486, 615, 747, 751, 755, 499, 15, 546, 491, 766, 770, 558, 102, 619, 777, 781, 578, 534, 16, 554, 793, 803, 808, 812, 17, 18, 824, 19, 832, 837, 491, 842, 964, 971, 20, 989, 993, 997, 21, 1005, 1009, 1014, 1018, 1022, 1027, 22, 23, 24, 25, 26, 27, 28, 29, 30, 31, 32, 33, 34, 35, 36, 37, 38, 1099, 1103, 1107, 39, 1120, 1124, 40, 41, 1136, 1141, 1145, 1149, 42, 43, 1161, 1165, 1173, 44, 1181, 1186, 1191, 1195, 1199]
set_option maxRecDepth 100000 in
theorem j_c3W_ok : ((j_c3.map j_c3W).zip j_c3p).all j_at = true := by decide +kernel
set_option maxRecDepth 100000 in
theorem j_c0W_ok : ((j_c0.map j_c0W).zip j_c0p).all j_at = true := by decide +kernel
theorem j_c3_in {o x k y : Nat} (h : j_lk j_ca o x = some (k, y)) (hk : k ≠ 3) : j_c3W (o, x, k, y) ∈ lw_tbl :=
  j_at_all (by decide +kernel) j_c3W_ok _ (List.mem_map.mpr ⟨_, List.mem_filter.mpr ⟨j_lk_mem h, by simpa using hk⟩, rfl⟩)
theorem j_c0_in {o x y : Nat} (h : j_lk j_ca o x = some (0, y)) : j_c0W (o, x, 0, y) ∈ lw_tbl :=
  j_at_all (by decide +kernel) j_c0W_ok _ (List.mem_map.mpr ⟨_, List.mem_filter.mpr ⟨j_lk_mem h, rfl⟩, rfl⟩)
theorem j_init_in {y : Nat} (h : y < j_N) : Cond.initialized (j_nm y).cls ∈ lw_tbl :=
  j_at_all (by decide +kernel) j_initW_ok _ (List.mem_map.mpr ⟨y, List.mem_range.mpr h, rfl⟩)
/-- of each method: its class, its size, its arguments -/
def j_mOk (y : Nat) : Bool := (j_nm y).cls == j_cname (j_mc y) && decide (j_mx y ≤ 13) && plainName (j_nm y).cls && (j_nm y).cls != "java/lang/invoke/MethodHandle" && (j_nm y).cls != "java/lang/invoke/VarHandle"
theorem j_m {y : Nat} (h : j_mOk y = true) : (j_nm y).cls = j_cname (j_mc y) ∧ j_mx y ≤ 13 ∧ plainName (j_nm y).cls = true ∧ (j_nm y).cls ≠ "java/lang/invoke/MethodHandle" ∧ (j_nm y).cls ≠ "java/lang/invoke/VarHandle" := by
  unfold j_mOk at h
  simp only [Bool.and_eq_true, beq_iff_eq, decide_eq_true_eq, bne_iff_ne] at h
  exact ⟨h.1.1.1.1, h.1.1.1.2, h.1.1.2, h.1.2, h.2⟩
/-- of each call: how many arguments the descriptor tells, static calls stay in their class, init is named so -/
def j_aOk (q : Nat × Nat × Nat × Nat) : Bool := q.2.2.1 == 3 || q.2.2.1 == 6 || q.2.2.1 == 7 || (j_mOk q.2.2.2 && (parseMethodDescriptor (j_nm q.2.2.2).desc).map (fun d => d.parameters.length) == some (if q.2.2.1 = 1 ∨ q.2.2.1 = 4 then j_na q.2.2.2 else j_na q.2.2.2 - 1) && (!(q.2.2.1 == 2 || q.2.2.1 == 5) || (j_nm q.2.2.2).name == "<init>") && (q.2.2.1 == 1 || q.2.2.1 == 4 || decide (0 < j_na q.2.2.2)) && (!(q.2.2.1 == 2 || q.2.2.1 == 5) || j_rt q.2.2.2 == none))
set_option maxRecDepth 100000 in
theorem j_aOk_all : j_ca.all j_aOk = true := by decide +kernel
theorem j_a {o x k y : Nat} (h : j_lk j_ca o x = some (k, y)) : j_aOk (o, x, k, y) = true := List.all_eq_true.mp j_aOk_all _ (j_lk_mem h)
theorem j_oinW : Cond.instanceMethod Lib.objectInit ∈ lw_tbl ∧ Cond.code Lib.objectInit ⟨#[0xb1]⟩ 1 none ∈ lw_tbl := ⟨List.mem_of_getElem? (i := 66) rfl, List.mem_of_getElem? (i := 67) rfl⟩
