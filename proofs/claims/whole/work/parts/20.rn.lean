/-! RUNS, without the fuel -/
theorem j_mono : ∀ (n d y pc : Nat) (ls : jL) (st : List Value) (w : jW) (r : Option Value × jW), j_run n d y pc ls st w = some r → ∀ m, n ≤ m → j_run m d y pc ls st w = some r := by
  intro n
  induction n with
  | zero => intro d y pc ls st w r h; cases h
  | succ n ih =>
    intro d y pc ls st w r h m hm
    obtain ⟨m, rfl⟩ : ∃ q, m = q + 1 := ⟨m - 1, by omega⟩
    have hm : n ≤ m := by omega
    unfold j_run at h ⊢
    cases hd : decode (j_co y) pc with
    | error _ => simp only [hd] at h; cases h
    | ok q0 =>
      obtain ⟨i, k⟩ := q0
      simp only [hd] at h ⊢
      cases hr : j_ret y i k st with
      | some v =>
        simp only [hr] at h ⊢
        exact h
      | none =>
        simp only [hr] at h ⊢
        cases ho : j_oin y i k st with
        | some rest =>
          simp only [ho] at h ⊢
          cases d with
          | zero => exact h
          | succ d => exact ih _ _ _ _ _ _ _ h m hm
        | none =>
          simp only [ho] at h ⊢
          cases d with
          | zero =>
            cases hq : j_stp y pc ls st w i k with
            | none => simp only [hq] at h; cases h
            | some q =>
              simp only [hq] at h ⊢
              exact ih _ _ _ _ _ _ _ h m hm
          | succ d =>
            cases hc : j_cal y w i k st with
            | some q =>
              simp only [hc] at h ⊢
              cases hr1 : j_run n d q.2.1 0 (j_ent q.2.1 q.2.2.1) [] w with
              | none => simp only [hr1] at h; cases h
              | some r1 =>
                simp only [hr1] at h
                simp only [ih _ _ _ _ _ _ _ hr1 m hm]
                exact ih _ _ _ _ _ _ _ h m hm
            | none =>
              simp only [hc] at h ⊢
              cases hq : j_stp y pc ls st w i k with
              | none => simp only [hq] at h; cases h
              | some q =>
                simp only [hq] at h ⊢
                exact ih _ _ _ _ _ _ _ h m hm
def Rn (d y pc : Nat) (ls : jL) (st : List Value) (w : jW) (r : Option Value × jW) : Prop := ∃ n, j_run n d y pc ls st w = some r
theorem Rn.ret {d y pc k : Nat} {ls : jL} {st : List Value} {w : jW} {i : Instr} {v : Option Value} (hd : decode (j_co y) pc = .ok (i, k)) (h : j_ret y i k st = some v) : Rn d y pc ls st w (v, w) := by
  refine ⟨1, ?_⟩
  unfold j_run
  simp only [hd, h]
theorem r_ret_of_stp {y pc k : Nat} {ls : jL} {st : List Value} {w : jW} {i : Instr} {q : Nat × jL × List Value × jW} (h : j_stp y pc ls st w i k = some q) : j_ret y i k st = none ∧ j_oin y i k st = none := by
  cases i with
  | invokestatic x => simp [j_stp, j_alu, j_loc, j_br, j_hp, j_isTs, j_len] at h
  | invokespecial x => simp [j_stp, j_alu, j_loc, j_br, j_hp, j_isTs, j_len] at h
  | ireturn => simp [j_stp, j_alu, j_loc, j_br, j_hp, j_isTs, j_len] at h
  | areturn => simp [j_stp, j_alu, j_loc, j_br, j_hp, j_isTs, j_len] at h
  | return_ => simp [j_stp, j_alu, j_loc, j_br, j_hp, j_isTs, j_len] at h
  | _ => exact ⟨rfl, rfl⟩
theorem Rn.stp {d y pc k : Nat} {ls : jL} {st : List Value} {w : jW} {i : Instr} {q : Nat × jL × List Value × jW} {r : Option Value × jW} (hd : decode (j_co y) pc = .ok (i, k)) (h : j_stp y pc ls st w i k = some q) (hk : Rn d y q.1 q.2.1 q.2.2.1 q.2.2.2 r) : Rn d y pc ls st w r := by
  obtain ⟨n, hn⟩ := hk
  obtain ⟨h1, h2⟩ := r_ret_of_stp h
  refine ⟨n + 1, ?_⟩
  unfold j_run
  simp only [hd, h1, h2]
  cases d with
  | zero => simp only [h]; exact hn
  | succ d => simp only [p_excl (w' := w) h, h]; exact hn
theorem Rn.oin {d y pc k : Nat} {ls : jL} {st st' : List Value} {w : jW} {i : Instr} {r : Option Value × jW} (hd : decode (j_co y) pc = .ok (i, k)) (h : j_oin y i k st = some st') (hk : Rn (d + 1) y (pc + 3) ls st' w r) : Rn (d + 1) y pc ls st w r := by
  obtain ⟨n, hn⟩ := hk
  have h1 : j_ret y i k st = none := by
    unfold j_oin at h
    split at h <;> first | rfl | cases h
  refine ⟨n + 1, ?_⟩
  unfold j_run
  simp only [hd, h1, h]
  exact hn
theorem r_cal_none {y k : Nat} {st : List Value} {w : jW} {i : Instr} {q : Nat × Nat × List Value × List Value} (h : j_cal y w i k st = some q) : j_ret y i k st = none ∧ j_oin y i k st = none := by
  cases i with
  | invokevirtual x => exact ⟨rfl, rfl⟩
  | invokestatic x =>
    obtain ⟨kd, y', as, rest⟩ := q
    obtain ⟨hlk, -, hkm, -⟩ := j_cl0_ok (w := w) h
    refine ⟨rfl, ?_⟩
    unfold j_oin
    split
    · rename_i heq; cases heq
    · rename_i heq
      cases heq
      rw [hlk]
      have : kd = 1 ∨ kd = 4 := by simpa using hkm
      rcases this with rfl | rfl <;> rfl
    · rfl
  | invokespecial x =>
    obtain ⟨kd, y', as, rest⟩ := q
    unfold j_cal at h
    dsimp only at h
    split at h
    · rename_i hcl
      cases h
      obtain ⟨hlk, -, hkm, -⟩ := j_cl0_ok hcl
      refine ⟨rfl, ?_⟩
      unfold j_oin
      split
      · rename_i heq
        cases heq
        rw [hlk]
        have : kd = 2 ∨ kd = 5 := by simpa using hkm
        rcases this with rfl | rfl <;> rfl
      · rename_i heq; cases heq
      · rfl
    · cases h
  | _ => cases h
theorem Rn.cal {d y pc k : Nat} {ls : jL} {st : List Value} {w w1 : jW} {i : Instr} {kd y' : Nat} {as rest : List Value} {v : Option Value} {r : Option Value × jW} (hd : decode (j_co y) pc = .ok (i, k)) (h : j_cal y w i k st = some (kd, y', as, rest)) (hc : Rn d y' 0 (j_ent y' as) [] w (v, w1)) (hk : Rn (d + 1) y (pc + 3) ls (v.toList ++ rest) w1 r) : Rn (d + 1) y pc ls st w r := by
  obtain ⟨n1, h1⟩ := hc
  obtain ⟨n2, h2⟩ := hk
  obtain ⟨g1, g2⟩ := r_cal_none h
  refine ⟨max n1 n2 + 1, ?_⟩
  unfold j_run
  simp only [hd, g1, g2, h, j_mono _ _ _ _ _ _ _ _ h1 (max n1 n2) (Nat.le_max_left ..)]
  exact j_mono _ _ _ _ _ _ _ _ h2 (max n1 n2) (Nat.le_max_right ..)
/-! a stretch of a frame, calls and all, worked out by the kernel -/
def s_seg : Nat → Nat → Nat → Nat → jL → List Value → jW → Option (Nat × jL × List Value × jW)
  | 0, _, _, pc, ls, st, w => some (pc, ls, st, w)
  | n + 1, d, y, pc, ls, st, w => s_fn pc fun pc => s_fo ls fun ls => s_fs st fun st => match s_ins y pc with
    | none => none
    | some (i, k) => match j_oin y i k st with
      | some rest => s_seg n d y (pc + 3) ls rest w
      | none => match j_cal y w i k st with
          | some q => match s_run 500 d q.2.1 0 (j_ent q.2.1 q.2.2.1) [] w with
            | some r => s_seg n d y (pc + 3) ls (r.1.toList ++ q.2.2.2) r.2
            | none => none
          | none => match j_stp y pc ls st w i k with
            | some q => s_fi i q.2.2.2 fun w' => s_seg n d y q.1 q.2.1 q.2.2.1 w'
            | none => none
theorem s_seg_ok : ∀ (n d y pc : Nat) (ls : jL) (st : List Value) (w : jW) (q : Nat × jL × List Value × jW) (r : Option Value × jW), s_seg n d y pc ls st w = some q → Rn (d + 1) y q.1 q.2.1 q.2.2.1 q.2.2.2 r → Rn (d + 1) y pc ls st w r := by
  intro n
  induction n with
  | zero => intro d y pc ls st w q r h hk; cases h; exact hk
  | succ n ih =>
    intro d y pc ls st w q r h hk
    unfold s_seg at h
    rw [s_fn_eq, s_fo_eq, s_fs_eq] at h
    cases hi : s_ins y pc with
    | none => simp only [hi] at h; cases h
    | some q0 =>
      obtain ⟨i, k⟩ := q0
      have hd := s_ins_ok hi
      simp only [hi] at h
      cases ho : j_oin y i k st with
      | some rest =>
        simp only [ho] at h
        exact Rn.oin hd ho (ih _ _ _ _ _ _ _ _ h hk)
      | none =>
        simp only [ho] at h
        cases hc : j_cal y w i k st with
        | some q1 =>
          obtain ⟨kd, y', as, rest⟩ := q1
          simp only [hc] at h
          cases hr1 : s_run 500 d y' 0 (j_ent y' as) [] w with
          | none => simp only [hr1] at h; cases h
          | some r1 =>
            obtain ⟨v, w1⟩ := r1
            simp only [hr1] at h
            exact Rn.cal hd hc ⟨500, s_run_ok _ _ _ _ _ _ _ _ hr1⟩ (ih _ _ _ _ _ _ _ _ h hk)
        | none =>
          simp only [hc] at h
          cases hq : j_stp y pc ls st w i k with
          | none => simp only [hq] at h; cases h
          | some q1 =>
            simp only [hq, s_fi_eq] at h
            exact Rn.stp hd hq (ih _ _ _ _ _ _ _ _ h hk)
