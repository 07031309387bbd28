/-! THE LITTLE MACHINE RUNS -/
def j_isTs : Instr → Bool
  | .tableswitch .. => true
  | .lookupswitch .. => true
  | _ => false
def j_stp (y pc : Nat) (ls : jL) (st : List Value) (w : jW) (i : Instr) (n : Nat) : Option (Nat × jL × List Value × jW) :=
  if n = j_len i ∨ j_isTs i = true then
    match j_alu i st with
    | some st' => some (pc + n, ls, st', w)
    | none => match j_loc ls i st with
      | some q => some (pc + n, q.1, q.2, w)
      | none => match j_br pc i st with
        | some q => some (q.1, ls, q.2, w)
        | none => match j_hp y w i st with
          | some q => some (pc + n, ls, q.1, q.2)
          | none => none
  else none
def j_isR : Option FieldType → Bool
  | some (.object _) => true
  | some (.array _) => true
  | _ => false
def j_ret (y : Nat) : Instr → Nat → List Value → Option (Option Value)
  | .ireturn, n, [.int x] => if n = 1 ∧ (j_rt y = some .int ∨ (j_rt y = some .boolean ∧ (x = 0 ∨ x = 1))) then some (some (.int x)) else none
  | .areturn, n, [.ref a] => if n = 1 ∧ j_isR (j_rt y) = true then some (some (.ref a)) else none
  | .areturn, n, [.null] => if n = 1 ∧ j_isR (j_rt y) = true then some (some .null) else none
  | .return_, n, [] => if n = 1 ∧ j_rt y = none then some none else none
  | _, _, _ => none
def j_lay : List Value → jL
  | [] => []
  | v :: vs => if v.category = 2 then some v :: none :: j_lay vs else some v :: j_lay vs
def j_ent (y : Nat) (as : List Value) : jL := j_lay as ++ List.replicate (j_mx y - (j_lay as).length) none
def j_sumc (st : List Value) : Nat := (st.map fun v => v.category).sum
/-- a call: kind, method, its arguments (the receiver ahead), what stays on the stack -/
def j_cl0 (y : Nat) (w : jW) (knds : List Nat) (x n : Nat) (st : List Value) : Option (Nat × Nat × List Value × List Value) :=
  match j_lk j_ca (j_mc y) x with
  | some (kd, y') =>
    if n = 3 ∧ knds.contains kd = true ∧ y' < j_N ∧ j_na y' ≤ st.length ∧ j_sumc (st.drop (j_na y')) ≤ 8 ∧ (j_lay (st.take (j_na y')).reverse).length ≤ j_mx y' then
      some (kd, y', (st.take (j_na y')).reverse, st.drop (j_na y'))
    else none
  | none => none
def j_cal (y : Nat) (w : jW) : Instr → Nat → List Value → Option (Nat × Nat × List Value × List Value)
  | .invokevirtual x, n, st => match j_cl0 y w [0] x n st with
    | some (kd, y', .ref a :: as, rest) => match w[a]? with
      | some e => if e.1 = j_mc y' ∧ e.1 < 12 then some (kd, y', .ref a :: as, rest) else none
      | none => none
    | _ => none
  | .invokestatic x, n, st => j_cl0 y w [1, 4] x n st
  | .invokespecial x, n, st => match j_cl0 y w [2, 5] x n st with
    | some (kd, y', .ref a :: as, rest) => some (kd, y', .ref a :: as, rest)
    | _ => none
  | _, _, _ => none
/-- Object.<init>, Math.max, Math.min -/
def j_oin (y : Nat) : Instr → Nat → List Value → Option (List Value)
  | .invokespecial x, n, .ref _ :: rest => match j_lk j_ca (j_mc y) x with
    | some (3, _) => if n = 3 ∧ j_sumc rest ≤ 8 then some rest else none
    | _ => none
  | .invokestatic x, n, .int b :: .int a :: rest => match j_lk j_ca (j_mc y) x with
    | some (6, _) => if n = 3 ∧ j_sumc rest ≤ 8 then some (.int (if a < b then b else a) :: rest) else none
    | some (7, _) => if n = 3 ∧ j_sumc rest ≤ 8 then some (.int (if b < a then b else a) :: rest) else none
    | _ => none
  | _, _, _ => none
def j_run : Nat → Nat → Nat → Nat → jL → List Value → jW → Option (Option Value × jW)
  | 0, _, _, _, _, _, _ => none
  | n + 1, d, y, pc, ls, st, w => match decode (j_co y) pc with
    | .error _ => none
    | .ok (i, k) => match j_ret y i k st with
      | some v => some (v, w)
      | none => match j_oin y i k st, d with
        | some rest, d + 1 => j_run n (d + 1) y (pc + 3) ls rest w
        | some _, 0 => none
        | none, 0 => match j_stp y pc ls st w i k with
          | some q => j_run n 0 y q.1 q.2.1 q.2.2.1 q.2.2.2
          | none => none
        | none, d + 1 => match j_cal y w i k st with
          | some q => match j_run n d q.2.1 0 (j_ent q.2.1 q.2.2.1) [] w with
            | some r => j_run n (d + 1) y (pc + 3) ls (r.1.toList ++ q.2.2.2) r.2
            | none => none
          | none => match j_stp y pc ls st w i k with
            | some q => j_run n (d + 1) y q.1 q.2.1 q.2.2.1 q.2.2.2
            | none => none
/-! what grows -/
theorem j_slt_put {w : jW} {a t j : Nat} {vs : List Value} {v : Value} (h : w[a]? = some (t, vs)) : j_slt (w.set a (t, vs.set j v)) = j_slt w := j_slt_set h (List.length_set ..)
set_option maxHeartbeats 4000000 in
theorem j_hp_mono {y : Nat} {w w' : jW} {i : Instr} {st st' : List Value} (h : j_hp y w i st = some (st', w')) : j_cnt w ≤ j_cnt w' ∧ j_slt w ≤ j_slt w' := by
  unfold j_hp at h
  split at h
  all_goals (repeat (split at h))
  all_goals first
    | (cases h; done)
    | (cases h; exact ⟨Nat.le_refl _, Nat.le_refl _⟩)
    | (obtain ⟨v, hv, he⟩ := Option.map_eq_some_iff.mp h; cases he; exact ⟨Nat.le_refl _, Nat.le_refl _⟩)
    | (cases h; rename_i hw _; exact ⟨by simp [j_cnt], by rw [j_slt_put hw]; exact Nat.le_refl _⟩)
    | (cases h; rename_i hw _ _; exact ⟨by simp [j_cnt], by rw [j_slt_put hw]; exact Nat.le_refl _⟩)
    | (cases h; simp only [j_cnt, j_slt_push, List.length_append]; omega)
theorem j_stp_mono {y pc n : Nat} {ls : jL} {st : List Value} {w : jW} {i : Instr} {q : Nat × jL × List Value × jW} (h : j_stp y pc ls st w i n = some q) : j_cnt w ≤ j_cnt q.2.2.2 ∧ j_slt w ≤ j_slt q.2.2.2 := by
  unfold j_stp at h
  split at h
  · split at h
    · cases h; exact ⟨Nat.le_refl _, Nat.le_refl _⟩
    · split at h
      · cases h; exact ⟨Nat.le_refl _, Nat.le_refl _⟩
      · split at h
        · cases h; exact ⟨Nat.le_refl _, Nat.le_refl _⟩
        · split at h
          · rename_i hq
            cases h
            exact j_hp_mono hq
          · cases h
  · cases h
theorem j_run_mono : ∀ (n d y pc : Nat) (ls : jL) (st : List Value) (w : jW) (r : Option Value × jW), j_run n d y pc ls st w = some r → j_cnt w ≤ j_cnt r.2 ∧ j_slt w ≤ j_slt r.2 := by
  intro n
  induction n with
  | zero => intro d y pc ls st w r h; cases h
  | succ n ih =>
    intro d y pc ls st w r h
    unfold j_run at h
    split at h
    · cases h
    · split at h
      · cases h; exact ⟨Nat.le_refl _, Nat.le_refl _⟩
      · split at h
        · exact ih _ _ _ _ _ _ _ h
        · cases h
        · split at h
          · rename_i q hq
            have h1 := j_stp_mono hq
            have h2 := ih _ _ _ _ _ _ _ h
            exact ⟨Nat.le_trans h1.1 h2.1, Nat.le_trans h1.2 h2.2⟩
          · cases h
        · split at h
          · split at h
            · rename_i q hq r1 hr1
              have h1 := ih _ _ _ _ _ _ _ hr1
              have h2 := ih _ _ _ _ _ _ _ h
              exact ⟨Nat.le_trans h1.1 h2.1, Nat.le_trans h1.2 h2.2⟩
            · cases h
          · split at h
            · rename_i q hq
              have h1 := j_stp_mono hq
              have h2 := ih _ _ _ _ _ _ _ h
              exact ⟨Nat.le_trans h1.1 h2.1, Nat.le_trans h1.2 h2.2⟩
            · cases h
