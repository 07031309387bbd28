set_option maxRecDepth 100000 in
theorem j_mmW : Cond.initialized "java/lang/Math" ∈ lw_tbl ∧ Cond.code Lib.Math.max.name Lib.Math.max.code 2 (some .int) ∈ lw_tbl ∧ Cond.code Lib.Math.min.name Lib.Math.min.code 2 (some .int) ∈ lw_tbl := ⟨List.mem_of_getElem? (i := 59) (by decide +kernel), List.mem_of_getElem? (i := 501) rfl, List.mem_of_getElem? (i := 508) rfl⟩
theorem j_mmOk : j_ca.all (fun q => (q.2.2.1 != 6 || j_nm q.2.2.2 == Lib.Math.max.name) && (q.2.2.1 != 7 || j_nm q.2.2.2 == Lib.Math.min.name)) = true := by decide +kernel
theorem j_mm6 {o x y : Nat} (h : j_lk j_ca o x = some (6, y)) : j_nm y = Lib.Math.max.name := by
  have h1 := List.all_eq_true.mp j_mmOk _ (j_lk_mem h)
  simpa using h1
theorem j_mm7 {o x y : Nat} (h : j_lk j_ca o x = some (7, y)) : j_nm y = Lib.Math.min.name := by
  have h1 := List.all_eq_true.mp j_mmOk _ (j_lk_mem h)
  simpa using h1
section JSO
variable {p : Program} {l : Launch} {e : Env} {R : Room} {s : State} {m : MethodId} {args : Array Value} {below : List Frame} {meth : Method} {c : Code} {H : Heap} {locs : List Loc} {cells slots : Nat} {Q : State → Prop}
variable {pc : Nat} {lsA : Array Slot} {y sc bs : Nat} {D : va_G} {dA : Nat → ClassId} {xs : List Value}
theorem j_isTs_len {i : Instr} {n : Nat} {st st' : List Value} (h : n = j_len i ∨ j_isTs i = true) (ha : j_alu i st = some st') : n = j_len i := by
  rcases h with h | h
  · exact h
  · cases i <;> first | (cases h; done) | (unfold j_alu at ha; cases ha)
theorem j_isTs_loc {i : Instr} {n : Nat} {ls : jL} {st : List Value} {q : jL × List Value} (h : n = j_len i ∨ j_isTs i = true) (ha : j_loc ls i st = some q) : n = j_len i := by
  rcases h with h | h
  · exact h
  · cases i <;> first | (cases h; done) | (unfold j_loc at ha; cases ha)
theorem j_isTs_hp {i : Instr} {n : Nat} {w : jW} {st : List Value} {q : List Value × jW} (h : n = j_len i ∨ j_isTs i = true) (ha : j_hp y w i st = some q) : n = j_len i := by
  rcases h with h | h
  · exact h
  · cases i <;> first | (cases h; done) | (unfold j_hp at ha; cases ha)
theorem j_isTs_br {i : Instr} {n : Nat} (h : n = j_len i ∨ j_isTs i = true) : n = j_len i ∨ (∃ d lo hi offs, i = .tableswitch d lo hi offs) ∨ (∃ d ps, i = .lookupswitch d ps) := by
  rcases h with h | h
  · exact Or.inl h
  · cases i <;> first | (cases h; done) | exact Or.inr (Or.inl ⟨_, _, _, _, rfl⟩) | exact Or.inr (Or.inr ⟨_, _, rfl⟩)
theorem j_stp_ok (C : j_Cx p s m args meth c y sc bs D dA xs) {i : Instr} {n : Nat} {st : List Value} {ls : jL} {w : jW} {q : Nat × jL × List Value × jW} (h : j_stp y pc ls st w i n = some q) (hd : decode (j_co y) pc = .ok (i, n)) (hz : j_Rz sc bs D dA xs w H) (hS : va_S (fun q => bs ≤ q) s.heap H locs) (hl : j_LR sc bs (j_mx y) lsA ls)
    (hc1 : cells + j_cnt q.2.2.2 ≤ R.cells + j_cnt w) (hs1 : slots + j_slt q.2.2.2 ≤ R.slots + j_slt w)
    (k : ∀ (H' : Heap) (locs' : List Loc) (lsA' : Array Slot) (cells' slots' : Nat), cells' + j_cnt w = cells + j_cnt q.2.2.2 → slots' + j_slt w = slots + j_slt q.2.2.2 → j_Rz sc bs D dA xs q.2.2.2 H' → va_S (fun q => bs ≤ q) s.heap H' locs' → j_LR sc bs (j_mx y) lsA' q.2.1 → W p l e R s m args below meth c H' locs' cells' slots' Q (F0 m q.1 lsA' (q.2.2.1.map (j_av sc bs)))) : W p l e R s m args below meth c H locs cells slots Q (F0 m pc lsA (st.map (j_av sc bs))) := by
  obtain ⟨hx, hb, -⟩ := id C
  unfold j_stp at h
  split at h
  · rename_i hlen
    split at h
    · rename_i st' ha
      cases h
      have hn := j_isTs_len hlen ha
      subst hn
      exact j_alu_ok hx hb ha hd (k H locs lsA cells slots rfl rfl hz hS hl)
    · split at h
      · rename_i q' ha
        cases h
        have hn := j_isTs_loc hlen ha
        subst hn
        exact j_loc_ok hx hb ha hd hl (fun ls' hl' => k H locs ls' cells slots rfl rfl hz hS hl')
      · split at h
        · rename_i q' ha
          cases h
          exact j_br_ok hx hb ha (j_isTs_br hlen) hd (k H locs lsA cells slots rfl rfl hz hS hl)
        · split at h
          · rename_i q' ha
            cases h
            have hn := j_isTs_hp hlen ha
            subst hn
            exact j_hp_ok C ha hd hz hS hc1 hs1 (fun H' locs' cells' slots' e1 e2 e3 e4 => k H' locs' lsA cells' slots' e1 e2 e3 e4 hl)
          · cases h
  · cases h
theorem j_oin_ok (C : j_Cx p s m args meth c y sc bs D dA xs) {i : Instr} {n : Nat} {st st' : List Value} {ls : jL} (h : j_oin y i n st = some st') (hd : decode (j_co y) pc = .ok (i, n)) (hl : j_LR sc bs (j_mx y) lsA ls) (hf : 1 ≤ R.frames) (hlo : 32 ≤ R.locals) (hcc : cells ≤ R.cells) (hss : slots ≤ R.slots)
    (k : W p l e R s m args below meth c H locs cells slots Q (F0 m (pc + 3) lsA (st'.map (j_av sc bs)))) : W p l e R s m args below meth c H locs cells slots Q (F0 m pc lsA (st.map (j_av sc bs))) := by
  obtain ⟨hx, hb, hml, hown, hts, hG, hX, hsc, hbs, hnm⟩ := C
  unfold j_oin at h
  split at h
  · split at h
    · rename_i hlk
      split at h
      · rename_i hc
        cases h
        obtain ⟨rfl, hsum⟩ := hc
        have hlink := j_ca_in hlk
        unfold j_caW at hlink
        refine W.objInit hx hb hown (j_good_before hts (by simpa using hlink) rfl) (j_good_before hts j_oinW.1 rfl) (j_good_before hts j_oinW.2 rfl) rfl (by rw [hml]; exact hl.1) rfl hd hf ?_ k
        show 2 * 0 + _ + 12 ≤ R.locals
        rw [j_sumc_av]
        omega
      · cases h
    · cases h
  · split at h
    · rename_i hlk
      split at h
      · rename_i hc
        cases h
        obtain ⟨rfl, hsum⟩ := hc
        have hlink := j_ca_in hlk
        unfold j_caW at hlink
        have hw3 := j_c3_in hlk (by decide)
        unfold j_c3W at hw3
        have hyn := j_mm6 hlk
        simp only [hyn] at hlink hw3
        exact va_mmax hx hb (hml.trans hl.1.symm) hown (j_good_before hts (by simpa using hlink) rfl) (j_good_before hts (by simpa using hw3) rfl) (j_good_before hts j_mmW.1 rfl) (j_good_before hts j_mmW.2.1 rfl) hf (by rw [j_sumc_av]; omega) hcc hss hd k
      · cases h
    · rename_i hlk
      split at h
      · rename_i hc
        cases h
        obtain ⟨rfl, hsum⟩ := hc
        have hlink := j_ca_in hlk
        unfold j_caW at hlink
        have hw3 := j_c3_in hlk (by decide)
        unfold j_c3W at hw3
        have hyn := j_mm7 hlk
        simp only [hyn] at hlink hw3
        exact va_mmin hx hb (hml.trans hl.1.symm) hown (j_good_before hts (by simpa using hlink) rfl) (j_good_before hts (by simpa using hw3) rfl) (j_good_before hts j_mmW.1 rfl) (j_good_before hts j_mmW.2.2 rfl) hf (by rw [j_sumc_av]; omega) hcc hss hd k
      · cases h
    · cases h
  · cases h
theorem j_snd_all : ∀ n, j_Snd n := by
  intro n
  induction n with
  | zero => intro d y pc ls st w v w' h; cases h
  | succ n ih =>
    intro d y pc ls st w v w' h p l e R s m args below meth c H locs cells slots Q lsA sc bs D dA xs C hz hS hl hf hlo hc1 hs1 hret
    have hmono := j_run_mono _ _ _ _ _ _ _ _ h
    simp only at hmono
    unfold j_run at h
    split at h
    · cases h
    · rename_i i k hdec
      split at h
      · rename_i v' hr
        cases h
        have hst := j_ret_st hr
        subst hst
        exact hret H locs lsA pc cells slots rfl rfl hz hS ⟨i, k, hdec, hr⟩
      · split at h
        · rename_i rest d' ho
          have hm2 := j_run_mono _ _ _ _ _ _ _ _ h
          exact j_oin_ok C ho hdec hl (by omega) (by omega) (by omega) (by omega) (ih _ _ _ _ _ _ _ _ h p l e R s m args below meth c H locs cells slots Q lsA sc bs D dA xs C hz hS hl hf hlo hc1 hs1 hret)
        · cases h
        · split at h
          · rename_i q hq
            have hm1 := j_stp_mono hq
            have hm2 := j_run_mono _ _ _ _ _ _ _ _ h
            simp only at hm2
            exact j_stp_ok C hq hdec hz hS hl (by omega) (by omega) (fun H' locs' lsA' cells' slots' e1 e2 e3 e4 e5 => ih _ _ _ _ _ _ _ _ h p l e R s m args below meth c H' locs' cells' slots' Q lsA' sc bs D dA xs C e3 e4 e5 hf hlo (by omega) (by omega) (fun H2 locs2 lsA2 pc2 cells2 slots2 f1 f2 => hret H2 locs2 lsA2 pc2 cells2 slots2 (by omega) (by omega)))
          · cases h
        · rename_i d' ho
          split at h
          · rename_i q hq
            obtain ⟨kd, y', as, rest⟩ := q
            split at h
            · rename_i r hr
              obtain ⟨v1, w1⟩ := r
              have hm1 := j_run_mono _ _ _ _ _ _ _ _ hr
              have hm2 := j_run_mono _ _ _ _ _ _ _ _ h
              simp only at hm1 hm2
              have h : j_run n (d' + 1) y (pc + 3) ls (v1.toList ++ rest) w1 = some (v, w') := h
              refine j_call_ok ih C hdec hq hr hz hS hl hf hlo (by omega) (by omega) (fun H1 locs1 g1 g2 => ?_)
              exact ih _ _ _ _ _ _ _ _ h p l e R s m args below meth c H1 locs1 _ _ Q lsA sc bs D dA xs C g1 g2 hl hf hlo (by omega) (by omega) (fun H2 locs2 lsA2 pc2 cells2 slots2 f1 f2 => hret H2 locs2 lsA2 pc2 cells2 slots2 (by omega) (by omega))
            · cases h
          · split at h
            · rename_i q hq
              have hm1 := j_stp_mono hq
              have hm2 := j_run_mono _ _ _ _ _ _ _ _ h
              simp only at hm2
              exact j_stp_ok C hq hdec hz hS hl (by omega) (by omega) (fun H' locs' lsA' cells' slots' e1 e2 e3 e4 e5 => ih _ _ _ _ _ _ _ _ h p l e R s m args below meth c H' locs' cells' slots' Q lsA' sc bs D dA xs C e3 e4 e5 hf hlo (by omega) (by omega) (fun H2 locs2 lsA2 pc2 cells2 slots2 f1 f2 => hret H2 locs2 lsA2 pc2 cells2 slots2 (by omega) (by omega)))
            · cases h
end JSO
