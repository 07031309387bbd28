/-! WORDS OF CALLS, places written by program (wip/whole/gen/calls.py) -/
def j_c3 : List (Nat × Nat × Nat × Nat) := j_ca.filter (fun q => q.2.2.1 != 3)
def j_c3W (q : Nat × Nat × Nat × Nat) : Cond := if q.2.2.1 = 1 ∨ q.2.2.1 = 4 ∨ 5 < q.2.2.1 then .static (j_nm q.2.2.2) else .instanceMethod (j_nm q.2.2.2)
def j_c3p : List Nat := [64, 72, 82, 92, 82, 98, 102, 129, 82, 98, 98, 218, 82, 227, 82, 305, 328, 82, 346, 82, 82, 378, 416, 420, 424, 428, 432, 435, 102, 439, 443, 447, 451, 455, 459, 463, 467, 471, 475, 479, 483, 428, 488, 492, 496, 500, 503, 507, 510, 515, 488, 520, 524, 528, 531, 535, 539, 543, 547, 552, 555, 559, 563, 567, 435, 496, 503, 102, 576, 579, 583, 587, 591, 535, 596, 583, 600, 503, 496, 606, 610, 613, 616, 620, 624, 628, 632, 637, 624, 642, 503, 496, 647, 653, 657, 661, 666, 535, 531, 496, 500, 674, 435, 679, 683, 543, 503, 451, 567, 690, 694, 698, 702, 98, 102, 708, 712, 716, 720, 483, 726, 428, 555, 732, 736, 488, 492, 510, 539, 744, 563, 583, 749, 753, 483, 620, 759, 763, 767, 543, 496, 774, 555, 488, 779, 783, 567, 102, 624, 790, 794, 583, 596, 539, 802, 563, 806, 810, 813, 816, 507, 821, 825, 830, 834, 837, 842, 845, 613, 850, 488, 855, 861, 977, 981, 984, 989, 992, 995, 999, 1002, 1006, 1010, 1015, 1018, 1022, 1027, 1031, 1035, 1040, 1045, 1049, 1053, 1057, 1061, 1065, 1069, 1073, 1077, 1081, 1085, 1089, 1093, 1097, 1101, 1105, 1109, 1112, 1116, 1120, 1124, 1130, 1133, 1137, 1142, 1146, 1149, 1154, 1158, 1162, 1167, 1171, 1174, 1178, 1183, 1186, 1191, 1194, 1199, 1204, 1208, 1212]
def j_c0 : List (Nat × Nat × Nat × Nat) := j_ca.filter (fun q => q.2.2.1 == 0)
def j_c0W (q : Nat × Nat × Nat × Nat) : Cond := .selects (j_nm q.2.2.2).cls (j_nm q.2.2.2) (j_nm q.2.2.2)
def j_c0p : List Nat := [99, 103, 99, 99, 417, 421, 425, 429, 103, 440, 444, 448, 452, 456, 460, 464, 468, 472, 476, 480, 484, 429, 489, 493, 497, 504, 511, 0, 489, 1, 2, 3, 532, 536, 540, 544, 548, 4, 556, 560, 564, 568, 497, 504, 103, 5, 580, 584, 588, 592, 536, 584, 601, 504, 497, 607, 617, 621, 625, 629, 633, 6, 625, 7, 504, 497, 654, 658, 662, 8, 536, 532, 497, 9, 10, 11, 544, 504, 452, 568, 691, 695, 699, 703, 99, 103, 709, 713, 717, 721, 484, 12, 429, 556, 13, 14, 489, 493, 511, 540, 15, 564, 584, 750, 754, 484, 621, 760, 764, 768, 544, 497, 16, 556, 489, 780, 784, 568, 103, 625, 791, 795, 584, 540, 17, 564, 807, 817, 822, 826, 18, 19, 838, 20, 846, 851, 489, 856, 978, 985, 21, 1003, 1007, 1011, 22, 1019, 1023, 1028, 1032, 1036, 1041, 23, 24, 25, 26, 27, 28, 29, 30, 31, 32, 33, 34, 35, 36, 37, 38, 39, 1113, 1117, 1121, 40, 1134, 1138, 41, 42, 1150, 1155, 1159, 1163, 43, 44, 1175, 1179, 1187, 45, 1195, 1200, 1205, 1209, 1213]
set_option maxRecDepth 100000 in
theorem j_c3W_ok : ((j_c3.map j_c3W).zip j_c3p).all j_at = true := by decide +kernel
set_option maxRecDepth 100000 in
theorem j_c0W_ok : ((j_c0.map j_c0W).zip j_c0p).all j_at = true := by decide +kernel
theorem j_c3_in {o x k y : Nat} (h : j_lk j_ca o x = some (k, y)) (hk : k ≠ 3) : j_c3W (o, x, k, y) ∈ lw_tbl :=
  j_at_all (by decide +kernel) j_c3W_ok _ (List.mem_map.mpr ⟨_, List.mem_filter.mpr ⟨j_lk_mem h, by simpa using hk⟩, rfl⟩)
theorem j_c0_in {o x y : Nat} (h : j_lk j_ca o x = some (0, y)) : j_c0W (o, x, 0, y) ∈ lw_tbl :=
  j_at_all (by decide +kernel) j_c0W_ok _ (List.mem_map.mpr ⟨_, List.mem_filter.mpr ⟨j_lk_mem h, rfl⟩, rfl⟩)
theorem j_init_in {y : Nat} (h : y < j_N) : Cond.initialized (j_nm y).cls ∈ lw_tbl :=
  j_at_all (by decide +kernel) j_initW_ok _ (List.mem_map.mpr ⟨y, List.mem_range.mpr h, rfl⟩)
/-- of each method: its class, its size, its arguments -/
def j_mOk (y : Nat) : Bool := (j_nm y).cls == j_cname (j_mc y) && decide (j_mx y ≤ 13) && plainName (j_nm y).cls && (j_nm y).cls != "java/lang/invoke/MethodHandle" && (j_nm y).cls != "java/lang/invoke/VarHandle"
theorem j_m {y : Nat} (h : j_mOk y = true) : (j_nm y).cls = j_cname (j_mc y) ∧ j_mx y ≤ 13 ∧ plainName (j_nm y).cls = true ∧ (j_nm y).cls ≠ "java/lang/invoke/MethodHandle" ∧ (j_nm y).cls ≠ "java/lang/invoke/VarHandle" := by
  unfold j_mOk at h
  simp only [Bool.and_eq_true, beq_iff_eq, decide_eq_true_eq, bne_iff_ne] at h
  exact ⟨h.1.1.1.1, h.1.1.1.2, h.1.1.2, h.1.2, h.2⟩
/-- of each call: how many arguments the descriptor tells, static calls stay in their class, init is named so -/
def j_aOk (q : Nat × Nat × Nat × Nat) : Bool := q.2.2.1 == 3 || q.2.2.1 == 6 || q.2.2.1 == 7 || (j_mOk q.2.2.2 && (parseMethodDescriptor (j_nm q.2.2.2).desc).map (fun d => d.parameters.length) == some (if q.2.2.1 = 1 ∨ q.2.2.1 = 4 then j_na q.2.2.2 else j_na q.2.2.2 - 1) && (!(q.2.2.1 == 2 || q.2.2.1 == 5) || (j_nm q.2.2.2).name == "<init>") && (q.2.2.1 == 1 || q.2.2.1 == 4 || decide (0 < j_na q.2.2.2)) && (!(q.2.2.1 == 2 || q.2.2.1 == 5) || j_rt q.2.2.2 == none))
set_option maxRecDepth 100000 in
theorem j_aOk_all : j_ca.all j_aOk = true := by decide +kernel
theorem j_a {o x k y : Nat} (h : j_lk j_ca o x = some (k, y)) : j_aOk (o, x, k, y) = true := List.all_eq_true.mp j_aOk_all _ (j_lk_mem h)
theorem j_oinW : Cond.instanceMethod Lib.objectInit ∈ lw_tbl ∧ Cond.code Lib.objectInit ⟨#[0xb1]⟩ 1 none ∈ lw_tbl := ⟨List.mem_of_getElem? (i := 67) rfl, List.mem_of_getElem? (i := 68) rfl⟩
