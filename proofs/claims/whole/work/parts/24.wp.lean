/-! WHAT A RUN COMES TO: Wp, and its rows (each an equivalence: a run is determined) -/
def Wp (d y pc : Nat) (ls : jL) (st : List Value) (w : jW) (Q : Option Value × jW → Prop) : Prop := ∃ r, Rn d y pc ls st w r ∧ Q r
def v_ord : Instr → Bool
  | .ireturn => false
  | .areturn => false
  | .return_ => false
  | .invokevirtual _ => false
  | .invokestatic _ => false
  | .invokespecial _ => false
  | _ => true
theorem v_ord_none {y k : Nat} {i : Instr} {st : List Value} {w : jW} (h : v_ord i = true) : j_ret y i k st = none ∧ j_oin y i k st = none ∧ j_cal y w i k st = none := by
  cases i <;> first | (cases h; done) | exact ⟨rfl, rfl, rfl⟩
theorem Rn.inv {d y pc k : Nat} {ls : jL} {st : List Value} {w : jW} {i : Instr} {r : Option Value × jW} (hd : decode (j_co y) pc = .ok (i, k)) (ho : v_ord i = true) (h : Rn d y pc ls st w r) : ∃ q, j_stp y pc ls st w i k = some q ∧ Rn d y q.1 q.2.1 q.2.2.1 q.2.2.2 r := by
  obtain ⟨n, hn⟩ := h
  obtain ⟨h1, h2, h3⟩ := v_ord_none (y := y) (k := k) (st := st) (w := w) ho
  cases n with
  | zero => cases hn
  | succ n =>
    unfold j_run at hn
    simp only [hd, h1, h2, h3] at hn
    cases d with
    | zero =>
      cases hq : j_stp y pc ls st w i k with
      | none => simp only [hq] at hn; cases hn
      | some q => simp only [hq] at hn; exact ⟨q, rfl, n, hn⟩
    | succ d =>
      cases hq : j_stp y pc ls st w i k with
      | none => simp only [hq] at hn; cases hn
      | some q => simp only [hq] at hn; exact ⟨q, rfl, n, hn⟩
theorem Wp.stp {d y pc k : Nat} {ls : jL} {st : List Value} {w : jW} {i : Instr} {Q : Option Value × jW → Prop} (hd : decode (j_co y) pc = .ok (i, k)) (ho : v_ord i = true) : Wp d y pc ls st w Q ↔ ∃ q, j_stp y pc ls st w i k = some q ∧ Wp d y q.1 q.2.1 q.2.2.1 q.2.2.2 Q := by
  constructor
  · rintro ⟨r, hr, hq⟩
    obtain ⟨q, h1, h2⟩ := hr.inv hd ho
    exact ⟨q, h1, r, h2, hq⟩
  · rintro ⟨q, h1, r, h2, hq⟩
    exact ⟨r, Rn.stp hd h1 h2, hq⟩
theorem Wp.one {d y pc k : Nat} {ls : jL} {st : List Value} {w : jW} {i : Instr} {Q : Option Value × jW → Prop} {q : Nat × jL × List Value × jW} (hd : decode (j_co y) pc = .ok (i, k)) (ho : v_ord i = true) (h : j_stp y pc ls st w i k = some q) : Wp d y pc ls st w Q = Wp d y q.1 q.2.1 q.2.2.1 q.2.2.2 Q := by
  apply propext
  rw [Wp.stp hd ho]
  constructor
  · rintro ⟨q', h1, h2⟩
    cases h.symm.trans h1
    exact h2
  · intro h2
    exact ⟨q, h, h2⟩
theorem Wp.alu {d y pc : Nat} {ls : jL} {st st' : List Value} {w : jW} {i : Instr} {Q : Option Value × jW → Prop} (hd : decode (j_co y) pc = .ok (i, j_len i)) (ho : v_ord i = true) (h : j_alu i st = some st') : Wp d y pc ls st w Q = Wp d y (pc + j_len i) ls st' w Q :=
  Wp.one hd ho (q := (pc + j_len i, ls, st', w)) (by unfold j_stp; rw [if_pos (Or.inl rfl)]; simp only [h])
theorem Wp.loc {d y pc : Nat} {ls ls' : jL} {st st' : List Value} {w : jW} {i : Instr} {Q : Option Value × jW → Prop} (hd : decode (j_co y) pc = .ok (i, j_len i)) (ho : v_ord i = true) (ha : j_alu i st = none) (h : j_loc ls i st = some (ls', st')) : Wp d y pc ls st w Q = Wp d y (pc + j_len i) ls' st' w Q :=
  Wp.one hd ho (q := (pc + j_len i, ls', st', w)) (by unfold j_stp; rw [if_pos (Or.inl rfl)]; simp only [h, ha])
theorem Wp.br {d y pc k t : Nat} {ls : jL} {st st' : List Value} {w : jW} {i : Instr} {Q : Option Value × jW → Prop} (hd : decode (j_co y) pc = .ok (i, k)) (hk : k = j_len i ∨ j_isTs i = true) (ho : v_ord i = true) (ha : j_alu i st = none) (hl : j_loc ls i st = none) (h : j_br pc i st = some (t, st')) : Wp d y pc ls st w Q = Wp d y t ls st' w Q :=
  Wp.one hd ho (q := (t, ls, st', w)) (by unfold j_stp; rw [if_pos hk]; simp only [h, ha, hl])
theorem Wp.hp {d y pc : Nat} {ls : jL} {st st' : List Value} {w w' : jW} {i : Instr} {Q : Option Value × jW → Prop} (hd : decode (j_co y) pc = .ok (i, j_len i)) (ho : v_ord i = true) (ha : j_alu i st = none) (hl : j_loc ls i st = none) (hb : j_br pc i st = none) (h : j_hp y w i st = some (st', w')) : Wp d y pc ls st w Q = Wp d y (pc + j_len i) ls st' w' Q :=
  Wp.one hd ho (q := (pc + j_len i, ls, st', w')) (by unfold j_stp; rw [if_pos (Or.inl rfl)]; simp only [h, ha, hl, hb])
/-! branches -/
theorem Wp.if2 {d y pc t : Nat} {ls : jL} {st st' : List Value} {w : jW} {i : Instr} {off : Int} {Q : Option Value × jW → Prop} {c : Prop} [Decidable c] (hd : decode (j_co y) pc = .ok (i, j_len i)) (ho : v_ord i = true) (ha : j_alu i st = none) (hl : j_loc ls i st = none) (hb : j_br pc i st = j_if (decide c) pc off st') (ht : j_tg pc off = some t) : Wp d y pc ls st w Q = ((c → Wp d y t ls st' w Q) ∧ (¬ c → Wp d y (pc + 3) ls st' w Q)) := by
  by_cases hc : c
  · rw [Wp.br (t := t) (st' := st') hd (Or.inl rfl) ho ha hl (by rw [hb]; unfold j_if; rw [ht]; simp [hc])]
    simp [hc]
  · rw [Wp.br (t := pc + 3) (st' := st') hd (Or.inl rfl) ho ha hl (by rw [hb]; unfold j_if; rw [ht]; simp [hc])]
    simp [hc]
/-! the end of a method -/
theorem Wp.ret {d y pc k : Nat} {ls : jL} {st : List Value} {w : jW} {i : Instr} {v : Option Value} {Q : Option Value × jW → Prop} (hd : decode (j_co y) pc = .ok (i, k)) (h : j_ret y i k st = some v) : Wp d y pc ls st w Q = Q (v, w) := by
  apply propext
  constructor
  · rintro ⟨r, ⟨n, hn⟩, hq⟩
    cases n with
    | zero => cases hn
    | succ n =>
      unfold j_run at hn
      simp only [hd, h] at hn
      cases hn
      exact hq
  · intro hq
    exact ⟨_, Rn.ret hd h, hq⟩
/-! Object.<init>, Math.max, Math.min -/
theorem Wp.oin {d y pc k : Nat} {ls : jL} {st st' : List Value} {w : jW} {i : Instr} {Q : Option Value × jW → Prop} (hd : decode (j_co y) pc = .ok (i, k)) (h : j_oin y i k st = some st') : Wp (d + 1) y pc ls st w Q = Wp (d + 1) y (pc + 3) ls st' w Q := by
  have h1 : j_ret y i k st = none := by
    unfold j_oin at h
    split at h <;> first | rfl | cases h
  apply propext
  constructor
  · rintro ⟨r, ⟨n, hn⟩, hq⟩
    cases n with
    | zero => cases hn
    | succ n =>
      unfold j_run at hn
      simp only [hd, h1, h] at hn
      exact ⟨r, ⟨n, hn⟩, hq⟩
  · rintro ⟨r, hr, hq⟩
    exact ⟨r, Rn.oin hd h hr, hq⟩
/-! calls -/
theorem Wp.cal {d y pc k : Nat} {ls : jL} {st : List Value} {w : jW} {i : Instr} {kd y' : Nat} {as rest : List Value} {Q : Option Value × jW → Prop} (hd : decode (j_co y) pc = .ok (i, k)) (h : j_cal y w i k st = some (kd, y', as, rest)) : Wp (d + 1) y pc ls st w Q = Wp d y' 0 (j_ent y' as) [] w (fun r => Wp (d + 1) y (pc + 3) ls (r.1.toList ++ rest) r.2 Q) := by
  obtain ⟨h1, h2⟩ := r_cal_none h
  apply propext
  constructor
  · rintro ⟨r, ⟨n, hn⟩, hq⟩
    cases n with
    | zero => cases hn
    | succ n =>
      unfold j_run at hn
      simp only [hd, h1, h2, h] at hn
      cases hr1 : j_run n d y' 0 (j_ent y' as) [] w with
      | none => simp only [hr1] at hn; cases hn
      | some r1 =>
        simp only [hr1] at hn
        exact ⟨r1, ⟨n, hr1⟩, r, ⟨n, hn⟩, hq⟩
  · rintro ⟨r1, hr1, r, hr, hq⟩
    exact ⟨r, Rn.cal hd h hr1 hr, hq⟩
theorem Wp.mono {d y pc : Nat} {ls : jL} {st : List Value} {w : jW} {Q Q' : Option Value × jW → Prop} (h : Wp d y pc ls st w Q) (hq : ∀ r, Q r → Q' r) : Wp d y pc ls st w Q' := by
  obtain ⟨r, hr, h1⟩ := h
  exact ⟨r, hr, hq r h1⟩
/-! the layout's facts, by the kernel -/
def f_ok (o : Nat) : Bool := match f_tg o with
  | 100 => (List.range (f_ln o)).all (fun k => f_rf o k == 0) && (f_rfL.getD o []).isEmpty && decide (0 < o)
  | 101 => (f_rfL.getD o []).isEmpty && decide (0 < o)
  | 102 => (f_rfL.getD o []).isEmpty && decide (o = 129)
  | t => (t == 107 && o == 0) || (decide (103 ≤ t ∧ t ≤ 106) && decide (0 < o) && (List.range (f_ln o)).all (fun k => f_rf o k != 0)) || (decide (t < 12) && decide (0 < o) && f_ln o == (j_fk.getD t []).length && (List.range (f_ln o)).all (fun k => (j_kind t k == 2) == (f_rf o k != 0)))
set_option maxRecDepth 1000000 in
theorem f_ok_all : (List.range f_N).all f_ok = true := by decide +kernel
set_option maxRecDepth 1000000 in
theorem f_tg_len : f_tgL.length = f_N := by decide +kernel
theorem f_tg_lt {o t : Nat} (h : f_tg o = t) (ht : t ≠ 999) : o < f_N := by
  unfold f_tg at h
  by_cases hl : o < f_tgL.length
  · rw [← f_tg_len]; exact hl
  · rw [List.getD_eq_getElem?_getD, List.getElem?_eq_none (by omega)] at h
    exact absurd h.symm ht
theorem f_at {o t : Nat} (h : f_tg o = t) (ht : t ≠ 999) : f_ok o = true := List.all_eq_true.mp f_ok_all o (List.mem_range.mpr (f_tg_lt h ht))
theorem f_empty {o : Nat} (h : (f_rfL.getD o []).isEmpty = true) (k : Nat) : f_rf o k = 0 := by
  unfold f_rf
  rw [List.isEmpty_iff.mp h]
  rfl
theorem f_num {o t : Nat} (h : f_tg o = t) (ht : t = 100 ∨ t = 101 ∨ t = 102) : 0 < o ∧ o < f_N ∧ ∀ k, f_rf o k = 0 := by
  have h1 := f_at h (by omega)
  have h2 := f_tg_lt h (by omega)
  unfold f_ok at h1
  rw [h] at h1
  rcases ht with rfl | rfl | rfl
  · simp only [Bool.and_eq_true, decide_eq_true_eq] at h1
    exact ⟨h1.2, h2, f_empty h1.1.2⟩
  · simp only [Bool.and_eq_true, decide_eq_true_eq] at h1
    exact ⟨h1.2, h2, f_empty h1.1⟩
  · simp only [Bool.and_eq_true, decide_eq_true_eq] at h1
    exact ⟨by omega, h2, f_empty h1.1⟩
theorem f_long {o : Nat} (h : f_tg o = 102) : o = 129 := by
  have h1 := f_at h (by omega)
  unfold f_ok at h1
  rw [h] at h1
  simp only [Bool.and_eq_true, decide_eq_true_eq] at h1
  exact h1.2
theorem f_obj {o t : Nat} (h : f_tg o = t) (ht : t < 12) : 0 < o ∧ o < f_N ∧ f_ln o = (j_fk.getD t []).length ∧ ∀ k, k < f_ln o → (j_kind t k = 2 ↔ f_rf o k ≠ 0) := by
  have h1 := f_at h (by omega)
  have h2 := f_tg_lt h (by omega)
  unfold f_ok at h1
  rw [h] at h1
  split at h1
  · omega
  · omega
  · omega
  · simp only [Bool.or_eq_true, Bool.and_eq_true, decide_eq_true_eq, beq_iff_eq, List.all_eq_true, List.mem_range] at h1
    rcases h1 with (h1 | h1) | h1
    · omega
    · omega
    · refine ⟨h1.1.1.2, h2, h1.1.2, fun k hk => ?_⟩
      have h3 := h1.2 k hk
      constructor
      · intro h4
        rw [h4] at h3
        simpa using h3
      · intro h4
        have : (f_rf o k != 0) = true := by simpa using h4
        rw [this] at h3
        simpa using h3
theorem f_refs {o t : Nat} (h : f_tg o = t) (ht : 103 ≤ t ∧ t ≤ 106) : 0 < o ∧ o < f_N ∧ ∀ k, k < f_ln o → f_rf o k ≠ 0 := by
  have h1 := f_at h (by omega)
  have h2 := f_tg_lt h (by omega)
  unfold f_ok at h1
  rw [h] at h1
  split at h1
  · omega
  · omega
  · omega
  · simp only [Bool.or_eq_true, Bool.and_eq_true, decide_eq_true_eq, beq_iff_eq, List.all_eq_true, List.mem_range, bne_iff_ne] at h1
    rcases h1 with (h1 | h1) | h1
    · omega
    · exact ⟨h1.1.2, h2, h1.2⟩
    · omega
theorem Wp.if2n {d y pc t : Nat} {ls : jL} {st st' : List Value} {w : jW} {i : Instr} {off : Int} {Q : Option Value × jW → Prop} {c : Prop} [Decidable c] (hd : decode (j_co y) pc = .ok (i, j_len i)) (ho : v_ord i = true) (ha : j_alu i st = none) (hl : j_loc ls i st = none) (hb : j_br pc i st = j_if (decide (¬ c)) pc off st') (ht : j_tg pc off = some t) : Wp d y pc ls st w Q = ((c → Wp d y (pc + 3) ls st' w Q) ∧ (¬ c → Wp d y t ls st' w Q)) := by
  rw [Wp.if2 hd ho ha hl hb ht]
  by_cases hc : c
  · simp [hc]
  · simp [hc]
