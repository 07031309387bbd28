/-! THE CONSTRUCTORS, run by the kernel (wip/whole/gen/ctor.py) -/
def f_inL : List (List Int32) := [[], [], [0, 0, 0, 0, 0, 0, 0, -4], [], [], [], [], [], [-20, 20, -20, 20, -20, 20], [], [], [-20, 20, -20, 20, -20, 20], [], [], [], [], [], [], [-20, 20, -20, 20, -20, 20], [],
  [], [], [], [], [], [-20, 20, -20, 20, -20, 20], [], [], [], [], [], [], [-20, 20, -20, 20, -20, 20], [], [], [], [], [], [], [-20, 20, -20, 20, -20, 20],
  [], [], [], [], [], [], [-20, 20, -20, 20, -20, 20], [], [], [], [], [], [], [-20, 20, -20, 20, -20, 20], [], [], [], [], [], [-20, 20, -20, 20, -20, 20],
  [], [], [], [], [], [-20, 20, -20, 20, -20, 20], [], [], [], [], [], [-20, 20, -20, 20, -20, 20], [], [], [], [], [], [-20, 20, -20, 20, -20, 20], [], [],
  [], [], [], [-20, 20, -20, 20, -20, 20], [], [], [], [], [], [-20, 20, -20, 20, -20, 20], [], [], [], [], [], [-20, 20, -20, 20, -20, 20], [], [], [], [],
  [], [-20, 20, -20, 20, -20, 20], [], [], [], [], [], [-20, 20, -20, 20, -20, 20], [], [], [], [], [], [-20, 20, -20, 20, -20, 20], [], [], [], [], [], [-20, 20, -20, 20, -20, 20],
  [], [], [], [0, 0, 0, 0, 0, 12], [], [], [], [], [], [], [], [], [], [], [], [], [], [], [], [],
  [], [], [], [], [], [], [], [], [], [], [], [], [], [], [], [], [], [], [], [],
  [], [], [], [], [], [], [], [], [], [], [], [], [], [], [], [], [], [], [], [],
  [], [], [], [], [], [], [], [], [], [], [], [], [], [], [], [], [], [], [], [],
  [], [], [], [], [], [], [], [], [], [], [], [], [], [], [], [], [], [], [], [],
  [], [], [], [], [], [], [], [], [], [], [], [], [], [], [], [], [], [], [], [],
  [], [], [], [], [], [], [], [], [], [], [], [], [], [], [], [], [], [], [], [],
  [], [], [], [], [], [], [], [], [], [], [], [], [], [], [], [], [], [], [], [],
  [], [], [], [], [], [], [], [], [], [], [], [], [], [], [], [], [], [], [], [],
  [], [], [], [], [], [], [], [], [], [], [], [], [], [], [], [], [], [], [], [],
  [], [], [], [], [], [], [], [], [], [], [], [], [], [], [], [], [], [], [0, -4], [],
  [0, -4], [], [0, -4], [], [0, -4], [], [0, 0, 0, 0, 0, 0, 0, 0, 0, 0, -4, 0, 12], [], [], [], [], [], [], [], [0, 0, 0, 0, 0, 0, -20, 20, -20, 20, -20, 20], [], [], [], [], [],
  [], [], [], [], [], [], [], [], [-4, -4, -4, -4], [], []]
def s_tb : List (Nat × List (Nat × Instr × Nat)) := [
  (0, [(0, .aload_n 0, 1), (1, .invokespecial 1, 3), (4, .aload_n 0, 1), (5, .new 7, 3), (8, .dup, 1), (9, .invokespecial 9, 3), (12, .putfield 10, 3), (15, .aload_n 0, 1), (16, .new 16, 3), (19, .dup, 1), (20, .aload_n 0, 1), (21, .getfield 10, 3), (24, .invokespecial 18, 3), (27, .putfield 21, 3), (30, .aload_n 0, 1), (31, .new 25, 3), (34, .dup, 1), (35, .aload_n 0, 1), (36, .getfield 10, 3), (39, .aload_n 0, 1), (40, .getfield 21, 3), (43, .invokespecial 27, 3), (46, .putfield 30, 3), (49, .aload_n 0, 1), (50, .new 34, 3), (53, .dup, 1), (54, .aload_n 0, 1), (55, .getfield 10, 3), (58, .invokespecial 36, 3), (61, .putfield 37, 3), (64, .aload_n 0, 1), (65, .new 41, 3), (68, .dup, 1), (69, .aload_n 0, 1), (70, .getfield 10, 3), (73, .invokespecial 43, 3), (76, .putfield 44, 3), (79, .aload_n 0, 1), (80, .iconst 4, 1), (81, .anewarray 48, 3), (84, .putfield 50, 3), (87, .aload_n 0, 1), (88, .new 54, 3), (91, .dup, 1), (92, .invokespecial 56, 3), (95, .putfield 57, 3), (98, .iconst 0, 1), (99, .istore_n 1, 1), (100, .iload_n 1, 1), (101, .iconst 4, 1), (102, .if_icmp .ge 22, 3), (105, .aload_n 0, 1), (106, .getfield 50, 3), (109, .iload_n 1, 1), (110, .new 48, 3), (113, .dup, 1), (114, .invokespecial 61, 3), (117, .aastore, 1), (118, .iinc 1 1, 3), (121, .goto (-21), 3), (124, .return_, 1)]),
  (1, [(0, .aload_n 0, 1), (1, .invokespecial 3, 3), (4, .aload_n 0, 1), (5, .bipush 6, 2), (7, .anewarray 9, 3), (10, .putfield 11, 3), (13, .aload_n 0, 1), (14, .bipush 12, 2), (16, .anewarray 17, 3), (19, .putfield 19, 3), (22, .aload_n 0, 1), (23, .new 23, 3), (26, .dup, 1), (27, .invokespecial 25, 3), (30, .putfield 26, 3), (33, .aload_n 0, 1), (34, .new 23, 3), (37, .dup, 1), (38, .invokespecial 25, 3), (41, .putfield 30, 3), (44, .aload_n 0, 1), (45, .bipush (-4), 2), (47, .putfield 33, 3), (50, .iconst 0, 1), (51, .istore_n 1, 1), (52, .iload_n 1, 1), (53, .bipush 6, 2), (55, .if_icmp .ge 22, 3), (58, .aload_n 0, 1), (59, .getfield 11, 3), (62, .iload_n 1, 1), (63, .new 9, 3), (66, .dup, 1), (67, .invokespecial 37, 3), (70, .aastore, 1), (71, .iinc 1 1, 3), (74, .goto (-22), 3), (77, .iconst 0, 1), (78, .istore_n 1, 1), (79, .iload_n 1, 1), (80, .bipush 12, 2), (82, .if_icmp .ge 22, 3), (85, .aload_n 0, 1), (86, .getfield 19, 3), (89, .iload_n 1, 1), (90, .new 17, 3), (93, .dup, 1), (94, .invokespecial 38, 3), (97, .aastore, 1), (98, .iinc 1 1, 3), (101, .goto (-22), 3), (104, .aload_n 0, 1), (105, .getfield 30, 3), (108, .bipush (-20), 2), (110, .bipush 20, 2), (112, .invokevirtual 39, 3), (115, .return_, 1)]),
  (2, [(0, .aload_n 0, 1), (1, .invokespecial 3, 3), (4, .aload_n 0, 1), (5, .bipush 6, 2), (7, .newarray .int, 2), (9, .putfield 9, 3), (12, .return_, 1)]),
  (3, [(0, .aload_n 0, 1), (1, .invokespecial 3, 3), (4, .aload_n 0, 1), (5, .new 9, 3), (8, .dup, 1), (9, .invokespecial 11, 3), (12, .putfield 12, 3), (15, .aload_n 0, 1), (16, .new 9, 3), (19, .dup, 1), (20, .invokespecial 11, 3), (23, .putfield 18, 3), (26, .aload_n 0, 1), (27, .new 9, 3), (30, .dup, 1), (31, .invokespecial 11, 3), (34, .putfield 21, 3), (37, .aload_n 0, 1), (38, .getfield 12, 3), (41, .bipush (-20), 2), (43, .bipush 20, 2), (45, .invokevirtual 24, 3), (48, .return_, 1)]),
  (4, [(0, .iconst 0, 1), (1, .istore_n 3, 1), (2, .iload_n 3, 1), (3, .iconst 3, 1), (4, .if_icmp .ge 16, 3), (7, .aload_n 0, 1), (8, .iload_n 3, 1), (9, .iload_n 1, 1), (10, .iload_n 2, 1), (11, .invokevirtual 15, 3), (14, .iinc 3 1, 3), (17, .goto (-15), 3), (20, .return_, 1)]),
  (5, [(0, .iload_n 1, 1), (1, .ifCond .lt 28, 3), (4, .iload_n 1, 1), (5, .iconst 3, 1), (6, .if_icmp .ge 23, 3), (9, .aload_n 0, 1), (10, .getfield 9, 3), (13, .iconst 2, 1), (14, .iload_n 1, 1), (15, .imul, 1), (16, .iload_n 2, 1), (17, .iastore, 1), (18, .aload_n 0, 1), (19, .getfield 9, 3), (22, .iconst 2, 1), (23, .iload_n 1, 1), (24, .imul, 1), (25, .iconst 1, 1), (26, .iadd, 1), (27, .iload_n 3, 1), (28, .iastore, 1), (29, .return_, 1)]),
  (6, [(0, .aload_n 0, 1), (1, .invokespecial 3, 3), (4, .aload_n 0, 1), (5, .new 9, 3), (8, .dup, 1), (9, .invokespecial 11, 3), (12, .putfield 12, 3), (15, .aload_n 0, 1), (16, .new 9, 3), (19, .dup, 1), (20, .invokespecial 11, 3), (23, .putfield 18, 3), (26, .aload_n 0, 1), (27, .iconst 3, 1), (28, .newarray .boolean, 2), (30, .putfield 21, 3), (33, .aload_n 0, 1), (34, .getfield 12, 3), (37, .bipush (-20), 2), (39, .bipush 20, 2), (41, .invokevirtual 25, 3), (44, .return_, 1)]),
  (7, [(0, .aload_n 0, 1), (1, .invokespecial 3, 3), (4, .aload_n 0, 1), (5, .bipush 64, 2), (7, .anewarray 9, 3), (10, .putfield 11, 3), (13, .aload_n 0, 1), (14, .new 17, 3), (17, .dup, 1), (18, .invokespecial 19, 3), (21, .putfield 20, 3), (24, .aload_n 0, 1), (25, .new 17, 3), (28, .dup, 1), (29, .invokespecial 19, 3), (32, .putfield 24, 3), (35, .aload_n 0, 1), (36, .bipush 41, 2), (38, .newarray .long, 2), (40, .putfield 27, 3), (43, .aload_n 0, 1), (44, .bipush 12, 2), (46, .putfield 31, 3), (49, .aload_n 0, 1), (50, .aload_n 1, 1), (51, .putfield 35, 3), (54, .iconst 0, 1), (55, .istore_n 2, 1), (56, .iload_n 2, 1), (57, .bipush 64, 2), (59, .if_icmp .ge 22, 3), (62, .aload_n 0, 1), (63, .getfield 11, 3), (66, .iload_n 2, 1), (67, .new 9, 3), (70, .dup, 1), (71, .invokespecial 39, 3), (74, .aastore, 1), (75, .iinc 2 1, 3), (78, .goto (-22), 3), (81, .return_, 1)]),
  (8, [(0, .aload_n 0, 1), (1, .invokespecial 1, 3), (4, .aload_n 0, 1), (5, .new 7, 3), (8, .dup, 1), (9, .invokespecial 9, 3), (12, .putfield 10, 3), (15, .return_, 1)]),
  (9, [(0, .aload_n 0, 1), (1, .invokespecial 3, 3), (4, .aload_n 0, 1), (5, .bipush 64, 2), (7, .newarray .int, 2), (9, .putfield 9, 3), (12, .aload_n 0, 1), (13, .sipush 192, 3), (16, .newarray .int, 2), (18, .putfield 15, 3), (21, .aload_n 0, 1), (22, .aload_n 1, 1), (23, .putfield 18, 3), (26, .aload_n 0, 1), (27, .aload_n 2, 1), (28, .putfield 22, 3), (31, .return_, 1)]),
  (10, [(0, .aload_n 0, 1), (1, .invokespecial 3, 3), (4, .aload_n 0, 1), (5, .new 9, 3), (8, .dup, 1), (9, .invokespecial 11, 3), (12, .putfield 12, 3), (15, .aload_n 0, 1), (16, .new 9, 3), (19, .dup, 1), (20, .invokespecial 11, 3), (23, .putfield 18, 3), (26, .aload_n 0, 1), (27, .aload_n 1, 1), (28, .putfield 21, 3), (31, .return_, 1)]),
  (11, [(0, .aload_n 0, 1), (1, .invokespecial 3, 3), (4, .aload_n 0, 1), (5, .new 9, 3), (8, .dup, 1), (9, .invokespecial 11, 3), (12, .putfield 12, 3), (15, .aload_n 0, 1), (16, .new 9, 3), (19, .dup, 1), (20, .invokespecial 11, 3), (23, .putfield 18, 3), (26, .aload_n 0, 1), (27, .aload_n 1, 1), (28, .putfield 21, 3), (31, .return_, 1)]),
  (12, [(0, .aload_n 0, 1), (1, .invokespecial 3, 3), (4, .aload_n 0, 1), (5, .bipush 60, 2), (7, .newarray .int, 2), (9, .putfield 9, 3), (12, .aload_n 0, 1), (13, .bipush (-4), 2), (15, .putfield 15, 3), (18, .return_, 1)]),
  (110, [(0, .aload_n 0, 1), (1, .invokespecial 1, 3), (4, .aload_n 0, 1), (5, .bipush 36, 2), (7, .newarray .int, 2), (9, .putfield 7, 3), (12, .aload_n 0, 1), (13, .bipush 36, 2), (15, .newarray .int, 2), (17, .putfield 13, 3), (20, .aload_n 0, 1), (21, .bipush 12, 2), (23, .newarray .int, 2), (25, .putfield 16, 3), (28, .aload_n 0, 1), (29, .bipush 12, 2), (31, .newarray .int, 2), (33, .putfield 19, 3), (36, .aload_n 0, 1), (37, .bipush 72, 2), (39, .newarray .int, 2), (41, .putfield 22, 3), (44, .aload_n 0, 1), (45, .bipush 72, 2), (47, .newarray .int, 2), (49, .putfield 25, 3), (52, .aload_n 0, 1), (53, .bipush 36, 2), (55, .newarray .boolean, 2), (57, .putfield 28, 3), (60, .aload_n 0, 1), (61, .bipush (-4), 2), (63, .putfield 32, 3), (66, .aload_n 0, 1), (67, .bipush 12, 2), (69, .newarray .int, 2), (71, .dup, 1), (72, .iconst 0, 1), (73, .iconst 0, 1), (74, .iastore, 1), (75, .dup, 1), (76, .iconst 1, 1), (77, .iconst 0, 1), (78, .iastore, 1), (79, .dup, 1), (80, .iconst 2, 1), (81, .iconst 0, 1), (82, .iastore, 1), (83, .dup, 1), (84, .iconst 3, 1), (85, .iconst 0, 1), (86, .iastore, 1), (87, .dup, 1), (88, .iconst 4, 1), (89, .iconst 0, 1), (90, .iastore, 1), (91, .dup, 1), (92, .iconst 5, 1), (93, .iconst 0, 1), (94, .iastore, 1), (95, .dup, 1), (96, .bipush 6, 2), (98, .bipush (-20), 2), (100, .iastore, 1), (101, .dup, 1), (102, .bipush 7, 2), (104, .bipush 20, 2), (106, .iastore, 1), (107, .dup, 1), (108, .bipush 8, 2), (110, .bipush (-20), 2), (112, .iastore, 1), (113, .dup, 1), (114, .bipush 9, 2), (116, .bipush 20, 2), (118, .iastore, 1), (119, .dup, 1), (120, .bipush 10, 2), (122, .bipush (-20), 2), (124, .iastore, 1), (125, .dup, 1), (126, .bipush 11, 2), (128, .bipush 20, 2), (130, .iastore, 1), (131, .putfield 36, 3), (134, .aload_n 0, 1), (135, .bipush 12, 2), (137, .putfield 39, 3), (140, .aload_n 0, 1), (141, .bipush 6, 2), (143, .newarray .boolean, 2), (145, .putfield 42, 3), (148, .aload_n 0, 1), (149, .bipush 36, 2), (151, .newarray .int, 2), (153, .putfield 45, 3), (156, .aload_n 0, 1), (157, .bipush 6, 2), (159, .newarray .int, 2), (161, .putfield 48, 3), (164, .aload_n 0, 1), (165, .bipush 64, 2), (167, .newarray .int, 2), (169, .putfield 51, 3), (172, .aload_n 0, 1), (173, .sipush 384, 3), (176, .newarray .int, 2), (178, .putfield 54, 3), (181, .aload_n 0, 1), (182, .bipush 64, 2), (184, .newarray .int, 2), (186, .putfield 57, 3), (189, .aload_n 0, 1), (190, .bipush 64, 2), (192, .newarray .int, 2), (194, .putfield 60, 3), (197, .aload_n 0, 1), (198, .bipush 64, 2), (200, .newarray .boolean, 2), (202, .putfield 63, 3), (205, .aload_n 0, 1), (206, .bipush 64, 2), (208, .newarray .boolean, 2), (210, .putfield 66, 3), (213, .aload_n 0, 1), (214, .bipush 6, 2), (216, .newarray .int, 2), (218, .putfield 69, 3), (221, .aload_n 0, 1), (222, .sipush 256, 3), (225, .newarray .int, 2), (227, .putfield 72, 3), (230, .aload_n 0, 1), (231, .bipush 64, 2), (233, .newarray .int, 2), (235, .putfield 75, 3), (238, .aload_n 0, 1), (239, .iconst 3, 1), (240, .newarray .int, 2), (242, .putfield 78, 3), (245, .aload_n 0, 1), (246, .iconst 4, 1), (247, .newarray .int, 2), (249, .dup, 1), (250, .iconst 0, 1), (251, .bipush (-4), 2), (253, .iastore, 1), (254, .dup, 1), (255, .iconst 1, 1), (256, .bipush (-4), 2), (258, .iastore, 1), (259, .dup, 1), (260, .iconst 2, 1), (261, .bipush (-4), 2), (263, .iastore, 1), (264, .dup, 1), (265, .iconst 3, 1), (266, .bipush (-4), 2), (268, .iastore, 1), (269, .putfield 81, 3), (272, .aload_n 0, 1), (273, .iconst 4, 1), (274, .newarray .int, 2), (276, .putfield 84, 3), (279, .aload_n 0, 1), (280, .sipush 240, 3), (283, .newarray .int, 2), (285, .putfield 87, 3), (288, .return_, 1)])]
def s_lk {α : Type} : List (Nat × α) → Nat → Option α
  | [], _ => none
  | q :: r, x => match Nat.beq q.1 x with
    | true => some q.2
    | false => s_lk r x
theorem s_lk_mem {α : Type} {l : List (Nat × α)} {x : Nat} {v : α} (h : s_lk l x = some v) : (x, v) ∈ l := by
  induction l with
  | nil => cases h
  | cons q r ih =>
    obtain ⟨a, u⟩ := q
    unfold s_lk at h
    split at h
    · rename_i hc
      have := Nat.eq_of_beq_eq_true hc
      cases h
      subst this
      exact List.mem_cons_self
    · exact List.mem_cons_of_mem _ (ih h)
def s_ins (y pc : Nat) : Option (Instr × Nat) := match s_lk s_tb y with
  | some l => s_lk l pc
  | none => none
def s_dec (y : Nat) (q : Nat × Instr × Nat) : Bool := match decode (j_co y) q.1 with
  | .ok r => decide (r = q.2)
  | .error _ => false
set_option maxRecDepth 1000000 in
theorem s_tb_ok : s_tb.all (fun r => r.2.all (s_dec r.1)) = true := by decide +kernel
theorem s_ins_ok {y pc : Nat} {q : Instr × Nat} (h : s_ins y pc = some q) : decode (j_co y) pc = .ok q := by
  unfold s_ins at h
  split at h
  · rename_i l hl
    have h1 := List.all_eq_true.mp s_tb_ok _ (s_lk_mem hl)
    have h2 := List.all_eq_true.mp h1 _ (s_lk_mem h)
    unfold s_dec at h2
    split at h2
    · rename_i r hr
      rw [hr, of_decide_eq_true h2]
    · cases h2
  · cases h
/-! forcing: the kernel keeps what it has worked out -/
def s_fn {β : Type} (n : Nat) (k : Nat → β) : β := match n with
  | 0 => k 0
  | m + 1 => k (m + 1)
theorem s_fn_eq {β : Type} (n : Nat) (k : Nat → β) : s_fn n k = k n := by cases n <;> rfl
def s_fv {β : Type} (v : Value) (k : Value → β) : β := match v with
  | .ref a => s_fn a (fun a => k (.ref a))
  | .int x => k (.int x)
  | .null => k .null
  | v => k v
theorem s_fv_eq {β : Type} (v : Value) (k : Value → β) : s_fv v k = k v := by cases v <;> simp [s_fv, s_fn_eq]
def s_fs {β : Type} : List Value → (List Value → β) → β
  | [], k => k []
  | v :: l, k => s_fv v (fun v => s_fs l (fun l => k (v :: l)))
theorem s_fs_eq {β : Type} (l : List Value) (k : List Value → β) : s_fs l k = k l := by
  induction l generalizing k with
  | nil => rfl
  | cons v l ih => unfold s_fs; rw [s_fv_eq, ih]
def s_fo {β : Type} : jL → (jL → β) → β
  | [], k => k []
  | none :: l, k => s_fo l (fun l => k (none :: l))
  | some v :: l, k => s_fv v (fun v => s_fo l (fun l => k (some v :: l)))
theorem s_fo_eq {β : Type} (l : jL) (k : jL → β) : s_fo l k = k l := by
  induction l generalizing k with
  | nil => rfl
  | cons o l ih =>
    cases o with
    | none => unfold s_fo; rw [ih]
    | some v => unfold s_fo; rw [s_fv_eq, ih]
def s_fp {α β : Type} : List α → (List α → β) → β
  | [], k => k []
  | v :: l, k => s_fp l (fun l => k (v :: l))
theorem s_fp_eq {α β : Type} (l : List α) (k : List α → β) : s_fp l k = k l := by
  induction l generalizing k with
  | nil => rfl
  | cons v l ih => unfold s_fp; rw [ih]
def s_fw {β : Type} : jW → (jW → β) → β
  | [], k => k []
  | (t, vs) :: l, k => s_fp vs (fun vs => s_fw l (fun l => k ((t, vs) :: l)))
theorem s_fw_eq {β : Type} (w : jW) (k : jW → β) : s_fw w k = k w := by
  induction w generalizing k with
  | nil => rfl
  | cons e l ih =>
    obtain ⟨t, vs⟩ := e
    unfold s_fw
    rw [s_fp_eq, ih]
def s_wr : Instr → Bool
  | .putfield _ => true
  | .iastore => true
  | .bastore => true
  | .aastore => true
  | .new _ => true
  | .newarray _ => true
  | .anewarray _ => true
  | _ => false
def s_fi {β : Type} (i : Instr) (w : jW) (k : jW → β) : β := match s_wr i with
  | true => s_fw w k
  | false => k w
theorem s_fi_eq {β : Type} (i : Instr) (w : jW) (k : jW → β) : s_fi i w k = k w := by
  unfold s_fi
  split
  · exact s_fw_eq w k
  · rfl
def s_run : Nat → Nat → Nat → Nat → jL → List Value → jW → Option (Option Value × jW)
  | 0, _, _, _, _, _, _ => none
  | n + 1, d, y, pc, ls, st, w => s_fn pc fun pc => s_fo ls fun ls => s_fs st fun st => match s_ins y pc with
    | none => none
    | some (i, k) => match j_ret y i k st with
      | some v => some (v, w)
      | none => match j_oin y i k st, d with
        | some rest, d + 1 => s_run n (d + 1) y (pc + 3) ls rest w
        | some _, 0 => none
        | none, 0 => match j_stp y pc ls st w i k with
          | some q => s_fi i q.2.2.2 fun w' => s_run n 0 y q.1 q.2.1 q.2.2.1 w'
          | none => none
        | none, d + 1 => match j_cal y w i k st with
          | some q => match s_run n d q.2.1 0 (j_ent q.2.1 q.2.2.1) [] w with
            | some r => s_run n (d + 1) y (pc + 3) ls (r.1.toList ++ q.2.2.2) r.2
            | none => none
          | none => match j_stp y pc ls st w i k with
            | some q => s_fi i q.2.2.2 fun w' => s_run n (d + 1) y q.1 q.2.1 q.2.2.1 w'
            | none => none
theorem s_run_ok : ∀ (n d y pc : Nat) (ls : jL) (st : List Value) (w : jW) (r : Option Value × jW), s_run n d y pc ls st w = some r → j_run n d y pc ls st w = some r := by
  intro n
  induction n with
  | zero => intro d y pc ls st w r h; cases h
  | succ n ih =>
    intro d y pc ls st w r h
    unfold s_run at h
    rw [s_fn_eq, s_fo_eq, s_fs_eq] at h
    unfold j_run
    split at h
    · cases h
    · rename_i i k hi
      rw [s_ins_ok hi]
      dsimp only
      cases hr : j_ret y i k st with
      | some v =>
        simp only [hr] at h ⊢
        exact h
      | none =>
        simp only [hr] at h ⊢
        cases ho : j_oin y i k st with
        | some rest =>
          simp only [ho] at h ⊢
          cases d with
          | zero => exact h
          | succ d => exact ih _ _ _ _ _ _ _ h
        | none =>
          simp only [ho] at h ⊢
          cases d with
          | zero =>
            cases hq : j_stp y pc ls st w i k with
            | none => simp only [hq] at h; cases h
            | some q =>
              simp only [hq, s_fi_eq] at h ⊢
              exact ih _ _ _ _ _ _ _ h
          | succ d =>
            cases hc : j_cal y w i k st with
            | some q =>
              simp only [hc] at h ⊢
              cases hr1 : s_run n d q.2.1 0 (j_ent q.2.1 q.2.2.1) [] w with
              | none => simp only [hr1] at h; cases h
              | some r1 =>
                simp only [hr1] at h
                simp only [ih _ _ _ _ _ _ _ hr1]
                exact ih _ _ _ _ _ _ _ h
            | none =>
              simp only [hc] at h ⊢
              cases hq : j_stp y pc ls st w i k with
              | none => simp only [hq] at h; cases h
              | some q =>
                simp only [hq, s_fi_eq] at h ⊢
                exact ih _ _ _ _ _ _ _ h
def f_I0 : fI := fun o k => (f_inL.getD o []).getD k 0
def f_L0 : fL := fun _ => 0
def f_part (n : Nat) : jW := (List.range n).map (fun i => f_ce f_I0 f_L0 (i + 1))
