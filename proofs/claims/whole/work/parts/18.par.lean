/-! THE SCRIPT'S CELL IS NOT LOOKED AT: what runs with a sealed cell 0 (tag 108) runs with the script there -/
abbrev p_x (es : jW) : jW := (108, []) :: es
theorem p_get {es : jW} {xs : List Value} {a : Nat} {e : jE} (h : (p_x es)[a]? = some e) (hn : e.1 ≠ 108) : (((107, xs) :: es) : jW)[a]? = some e ∧ 0 < a := by
  cases a with
  | zero => cases h; exact absurd rfl hn
  | succ a => exact ⟨h, Nat.succ_pos a⟩
theorem p_set {es : jW} {xs : List Value} {a : Nat} {e : jE} (h : 0 < a) : ∃ es', (p_x es).set a e = p_x es' ∧ (((107, xs) :: es) : jW).set a e = (107, xs) :: es' := by
  cases a with
  | zero => cases h
  | succ a => exact ⟨es.set a e, rfl, rfl⟩
set_option maxHeartbeats 4000000 in
theorem p_hp {y : Nat} {es : jW} {xs : List Value} {i : Instr} {st st' : List Value} {w' : jW} (h : j_hp y (p_x es) i st = some (st', w')) : ∃ es', w' = p_x es' ∧ j_hp y ((107, xs) :: es) i st = some (st', (107, xs) :: es') := by
  unfold j_hp at h
  split at h
  · split at h
    · split at h
      · rename_i ci kf b t vs hf hw ht
        have hbd := List.all_eq_true.mp j_flBd _ (j_lk_mem hf)
        simp only [Bool.and_eq_true, decide_eq_true_eq] at hbd
        obtain ⟨v, hv, he⟩ := Option.map_eq_some_iff.mp h
        cases he
        obtain ⟨h1, h2⟩ := p_get (xs := xs) hw (by show t ≠ 108; omega)
        refine ⟨es, rfl, ?_⟩
        unfold j_hp
        simp only [hf, h1, ht, if_true, hv, Option.map_some]
      · cases h
    · cases h
  · split at h
    · split at h
      · rename_i ci kf b t vs hf hw ht
        have hbd := List.all_eq_true.mp j_flBd _ (j_lk_mem hf)
        simp only [Bool.and_eq_true, decide_eq_true_eq] at hbd
        cases h
        obtain ⟨h1, h2⟩ := p_get (xs := xs) hw (by show t ≠ 108; have := ht.1; omega)
        obtain ⟨es', g1, g2⟩ := p_set (es := es) (xs := xs) h2
        refine ⟨es', g1, ?_⟩
        unfold j_hp
        simp only [hf, h1]
        rw [if_pos ht, g2]
      · cases h
    · cases h
  · split at h
    · split at h
      · rename_i t vs hw ht
        cases h
        obtain ⟨h1, h2⟩ := p_get (xs := xs) hw (by show t ≠ 108; omega)
        refine ⟨es, rfl, ?_⟩
        unfold j_hp
        simp only [h1]
        rw [if_pos ht]
      · cases h
    · cases h
  · split at h
    · split at h
      · rename_i t vs hw ht
        split at h
        · rename_i x hv
          cases h
          obtain ⟨h1, h2⟩ := p_get (xs := xs) hw (by show t ≠ 108; have := ht.1; omega)
          refine ⟨es, rfl, ?_⟩
          unfold j_hp
          simp only [h1]
          rw [if_pos ht]
          simp only [hv]
        · cases h
      · cases h
    · cases h
  · split at h
    · split at h
      · rename_i t vs hw ht
        split at h
        · rename_i x hv
          cases h
          obtain ⟨h1, h2⟩ := p_get (xs := xs) hw (by show t ≠ 108; have := ht.1; omega)
          refine ⟨es, rfl, ?_⟩
          unfold j_hp
          simp only [h1]
          rw [if_pos ht]
          simp only [hv]
        · cases h
      · cases h
    · cases h
  · split at h
    · split at h
      · rename_i t vs hw ht
        split at h
        · rename_i x hv
          cases h
          obtain ⟨h1, h2⟩ := p_get (xs := xs) hw (by show t ≠ 108; have := ht.1; omega)
          refine ⟨es, rfl, ?_⟩
          unfold j_hp
          simp only [h1]
          rw [if_pos ht]
          simp only [hv]
        · cases h
      · cases h
    · cases h
  · split at h
    · split at h
      · rename_i t vs hw ht
        obtain ⟨h1, h2⟩ := p_get (xs := xs) hw (by show t ≠ 108; have := ht.2.1; omega)
        split at h
        · rename_i x hv
          cases h
          refine ⟨es, rfl, ?_⟩
          unfold j_hp
          simp only [h1]
          rw [if_pos ht]
          simp only [hv]
        · rename_i hv
          cases h
          refine ⟨es, rfl, ?_⟩
          unfold j_hp
          simp only [h1]
          rw [if_pos ht]
          simp only [hv]
        · cases h
      · cases h
    · cases h
  · split at h
    · split at h
      · rename_i t vs hw ht
        cases h
        obtain ⟨h1, h2⟩ := p_get (xs := xs) hw (by show t ≠ 108; have := ht.1; omega)
        obtain ⟨es', g1, g2⟩ := p_set (es := es) (xs := xs) h2
        refine ⟨es', g1, ?_⟩
        unfold j_hp
        simp only [h1]
        rw [if_pos ht, g2]
      · cases h
    · cases h
  · split at h
    · split at h
      · rename_i t vs hw ht
        cases h
        obtain ⟨h1, h2⟩ := p_get (xs := xs) hw (by show t ≠ 108; have := ht.1; omega)
        obtain ⟨es', g1, g2⟩ := p_set (es := es) (xs := xs) h2
        refine ⟨es', g1, ?_⟩
        unfold j_hp
        simp only [h1]
        rw [if_pos ht, g2]
      · cases h
    · cases h
  · split at h
    · split at h
      · rename_i t vs hw ht
        cases h
        obtain ⟨h1, h2⟩ := p_get (xs := xs) hw (by show t ≠ 108; have := ht.1; omega)
        obtain ⟨es', g1, g2⟩ := p_set (es := es) (xs := xs) h2
        refine ⟨es', g1, ?_⟩
        unfold j_hp
        simp only [h1]
        rw [if_pos ht, g2]
      · cases h
    · cases h
  · split at h
    · split at h
      · rename_i t vs u us hw hwx ht
        cases h
        have hu := (j_rc_ty ht.2.2.2).1
        obtain ⟨h1, h2⟩ := p_get (xs := xs) hw (by show t ≠ 108; have := ht.2.1; omega)
        obtain ⟨h3, -⟩ := p_get (xs := xs) hwx (by show u ≠ 108; omega)
        obtain ⟨es', g1, g2⟩ := p_set (es := es) (xs := xs) h2
        refine ⟨es', g1, ?_⟩
        unfold j_hp
        simp only [h1, h3]
        rw [if_pos ht, g2]
      · cases h
    · cases h
  · split at h
    · split at h
      · rename_i ci hf h12
        cases h
        refine ⟨_, rfl, ?_⟩
        unfold j_hp
        simp only [hf]
        rw [if_pos h12]
        rfl
      · cases h
    · cases h
  · split at h
    · rename_i hn
      cases h
      refine ⟨_, rfl, ?_⟩
      unfold j_hp
      dsimp only
      rw [if_pos hn]
      rfl
    · cases h
  · split at h
    · rename_i hn
      cases h
      refine ⟨_, rfl, ?_⟩
      unfold j_hp
      dsimp only
      rw [if_pos hn]
      rfl
    · cases h
  · split at h
    · rename_i hn
      cases h
      refine ⟨_, rfl, ?_⟩
      unfold j_hp
      dsimp only
      rw [if_pos hn]
      rfl
    · cases h
  · split at h
    · rename_i ci hf
      split at h
      · rename_i hn
        cases h
        refine ⟨_, rfl, ?_⟩
        unfold j_hp
        simp only [hf]
        rw [if_pos hn]
        rfl
      · cases h
    · cases h
  · split at h
    · rename_i v hf
      cases h
      refine ⟨_, rfl, ?_⟩
      unfold j_hp
      simp only [hf]
    · cases h
  · cases h
theorem p_cl0 {y : Nat} {w w' : jW} {kn : List Nat} {x n : Nat} {st : List Value} : j_cl0 y w kn x n st = j_cl0 y w' kn x n st := rfl
theorem p_cal {y : Nat} {es : jW} {xs : List Value} {i : Instr} {n : Nat} {st : List Value} {q : Nat × Nat × List Value × List Value} (h : j_cal y (p_x es) i n st = some q) : j_cal y ((107, xs) :: es) i n st = some q := by
  unfold j_cal at h
  split at h
  · split at h
    · rename_i kd y' a as rest hc
      split at h
      · rename_i e he
        split at h
        · rename_i ht
          obtain ⟨h1, -⟩ := p_get (xs := xs) he (by omega)
          unfold j_cal
          dsimp only
          rw [p_cl0 (w' := p_x es), hc]
          simp only [h1]
          rw [if_pos ht]
          exact h
        · cases h
      · cases h
    · cases h
  · exact h
  · split at h
    · rename_i hc
      unfold j_cal
      dsimp only
      rw [p_cl0 (w' := p_x es), hc]
      exact h
    · cases h
  · cases h
theorem p_none {y pc : Nat} {es : jW} {xs : List Value} {i : Instr} {n : Nat} {st : List Value} {ls : jL} {q : Nat × jL × List Value × jW} (h : j_stp y pc ls st (p_x es) i n = some q) : ∃ es', q.2.2.2 = p_x es' ∧ j_stp y pc ls st ((107, xs) :: es) i n = some (q.1, q.2.1, q.2.2.1, (107, xs) :: es') := by
  unfold j_stp at h ⊢
  split at h
  · rename_i hl
    rw [if_pos hl]
    split at h
    · cases h
      exact ⟨es, rfl, rfl⟩
    · split at h
      · cases h
        exact ⟨es, rfl, rfl⟩
      · split at h
        · cases h
          exact ⟨es, rfl, rfl⟩
        · split at h
          · rename_i q' hq
            cases h
            obtain ⟨es', g1, g2⟩ := p_hp (xs := xs) hq
            exact ⟨es', g1, by rw [g2]⟩
          · cases h
  · cases h
/-- an instruction that is a call isn't a step, and the other way round -/
theorem p_excl {y pc : Nat} {w w' : jW} {i : Instr} {n : Nat} {st : List Value} {ls : jL} {q : Nat × jL × List Value × jW} (h : j_stp y pc ls st w i n = some q) : j_cal y w' i n st = none := by
  cases i with
  | invokevirtual x => simp [j_stp, j_alu, j_loc, j_br, j_hp, j_isTs, j_len] at h
  | invokestatic x => simp [j_stp, j_alu, j_loc, j_br, j_hp, j_isTs, j_len] at h
  | invokespecial x => simp [j_stp, j_alu, j_loc, j_br, j_hp, j_isTs, j_len] at h
  | _ => rfl
theorem p_run : ∀ (n d y pc : Nat) (ls : jL) (st : List Value) (es : jW) (v : Option Value) (w' : jW) (xs : List Value), j_run n d y pc ls st (p_x es) = some (v, w') → ∃ es', w' = p_x es' ∧ j_run n d y pc ls st ((107, xs) :: es) = some (v, (107, xs) :: es') := by
  intro n
  induction n with
  | zero => intro d y pc ls st es v w' xs h; cases h
  | succ n ih =>
    intro d y pc ls st es v w' xs h
    unfold j_run at h ⊢
    split at h
    · cases h
    · split at h
      · cases h
        exact ⟨es, rfl, rfl⟩
      · split at h
        · exact ih _ _ _ _ _ _ _ _ xs h
        · cases h
        · split at h
          · rename_i q hq
            obtain ⟨es', g1, g2⟩ := p_none (xs := xs) hq
            rw [g1] at h
            simp only [g2]
            exact ih _ _ _ _ _ _ _ _ xs h
          · cases h
        · split at h
          · rename_i q hq
            simp only [p_cal (xs := xs) hq]
            split at h
            · rename_i r hr
              obtain ⟨v1, w1⟩ := r
              obtain ⟨es1, g1, g2⟩ := ih _ _ _ _ _ _ _ _ xs hr
              subst g1
              simp only [g2]
              exact ih _ _ _ _ _ _ _ _ xs h
            · cases h
          · split at h
            · rename_i q hq
              obtain ⟨es', g1, g2⟩ := p_none (xs := xs) hq
              rw [g1] at h
              simp only [p_excl hq, g2]
              exact ih _ _ _ _ _ _ _ _ xs h
            · cases h
