section JMA
variable {p : Program} {l : Launch} {e : Env} {R : Room} {s : State} {m : MethodId} {args : Array Value} {below : List Frame} {meth : Method} {c : Code} {H : Heap} {locs : List Loc} {cells slots : Nat} {Q : State → Prop}
variable {pc : Nat} {lsA : Array Slot} {y sc bs : Nat} {D : va_G} {dA : Nat → ClassId} {xs : List Value}
theorem j_cl0_ok {w : jW} {knds : List Nat} {x n : Nat} {st : List Value} {kd y' : Nat} {as rest : List Value} (h : j_cl0 y w knds x n st = some (kd, y', as, rest)) : j_lk j_ca (j_mc y) x = some (kd, y') ∧ n = 3 ∧ kd ∈ knds ∧ y' < j_N ∧ as.length = j_na y' ∧ j_sumc rest ≤ 8 ∧ (j_lay as).length ≤ j_mx y' ∧ st = as.reverse ++ rest := by
  unfold j_cl0 at h
  split at h
  · rename_i kd' y'' hlk
    split at h
    · rename_i hc
      cases h
      obtain ⟨h1, h2, h3, h4, h5, h6⟩ := hc
      refine ⟨hlk, h1, List.contains_iff_mem.mp h2, h3, ?_, h5, h6, ?_⟩
      · rw [List.length_reverse, List.length_take]
        omega
      · rw [List.reverse_reverse, List.take_append_drop]
    · cases h
  · cases h
theorem j_pay (hts : ∀ w ∈ jT, w.before args s = true) {y' : Nat} (hy : y' < j_N) : ∀ w ∈ j_cw y' :: jT, ∀ (a' : Array Value) (U : State), s.WarmedH U.vm → w.before a' U = true := by
  refine pay_in hts (fun w hw => ?_)
  rcases List.mem_cons.mp hw with rfl | hw
  · exact ⟨j_code_in hy, good_of_word (jT_good (j_code_in hy))⟩
  · exact ⟨hw, good_of_word (jT_good hw)⟩
theorem j_Pw_at (C : j_Cx p s m args meth c y sc bs D dA xs) {w : jW} (hz : j_Rz sc bs D dA xs w H) (hS : va_S (fun q => bs ≤ q) s.heap H locs) (U : State) (hU : U.heap = H) (hW : s.WarmedH U.vm) : j_Pw sc bs D dA xs w U := by
  obtain ⟨hx, hb, hml, hown, hts, hG, hX, hsc, hbs, hnm⟩ := C
  refine ⟨by rw [hU]; exact hz, ?_, hG.warm hW, hsc, by rw [hU]; exact Nat.le_trans hbs hS.1⟩
  rw [hU]
  exact (hX.kept (hS.2.1 sc (Nat.lt_of_lt_of_le hsc hbs) (Nat.not_le.mpr hsc))).moved hW.alike
theorem j_params {k y' : Nat} {o x : Nat} (h : j_lk j_ca o x = some (k, y')) (hk : k ≠ 3) (hk6 : k ≠ 6) (hk7 : k ≠ 7) : j_mOk y' = true ∧ (∀ sig, parseMethodDescriptor (j_nm y').desc = some sig → (if k = 1 ∨ k = 4 then j_na y' else j_na y' - 1) = sig.parameters.length) ∧ ((k = 2 ∨ k = 5) → (j_nm y').name = "<init>" ∧ j_rt y' = none) := by
  have h1 := j_a h
  unfold j_aOk at h1
  simp only [Bool.or_eq_true, Bool.and_eq_true, beq_iff_eq, decide_eq_true_eq, Bool.not_eq_true', Bool.or_eq_false_iff, beq_eq_false_iff_ne, ne_eq] at h1
  rcases h1 with ((h1 | h1) | h1) | h1
  · exact absurd h1 hk
  · exact absurd h1 hk6
  · exact absurd h1 hk7
  · obtain ⟨⟨⟨⟨g1, g2⟩, g3⟩, g4⟩, g5⟩ := h1
    refine ⟨g1, fun sig hs => ?_, fun hk => ?_⟩
    · rw [hs] at g2
      exact (Option.some.inj g2).symm
    · refine ⟨g3.resolve_left (fun q => ?_), g5.resolve_left (fun q => ?_)⟩
      · rcases hk with hk | hk
        · exact q.1 hk
        · exact q.2 hk
      · rcases hk with hk | hk
        · exact q.1 hk
        · exact q.2 hk
set_option maxHeartbeats 4000000 in
theorem j_call_ok {nf d : Nat} (ih : j_Snd nf) (C : j_Cx p s m args meth c y sc bs D dA xs) {i : Instr} {n kd y' : Nat} {st as rest : List Value} {w w1 : jW} {v1 : Option Value} {ls : jL} (hd : decode (j_co y) pc = .ok (i, n)) (h : j_cal y w i n st = some (kd, y', as, rest)) (hr : j_run nf d y' 0 (j_ent y' as) [] w = some (v1, w1)) (hz : j_Rz sc bs D dA xs w H) (hS : va_S (fun q => bs ≤ q) s.heap H locs) (hl : j_LR sc bs (j_mx y) lsA ls) (hf : d + 1 ≤ R.frames) (hlo : 32 * (d + 1) ≤ R.locals) (hc1 : cells + j_cnt w1 ≤ R.cells + j_cnt w) (hs1 : slots + j_slt w1 ≤ R.slots + j_slt w)
    (K : ∀ (H1 : Heap) (locs1 : List Loc), j_Rz sc bs D dA xs w1 H1 → va_S (fun q => bs ≤ q) s.heap H1 locs1 → W p l e R s m args below meth c H1 locs1 (cells + (j_cnt w1 - j_cnt w)) (slots + (j_slt w1 - j_slt w)) Q (F0 m (pc + 3) lsA ((v1.toList ++ rest).map (j_av sc bs)))) : W p l e R s m args below meth c H locs cells slots Q (F0 m pc lsA (st.map (j_av sc bs))) := by
  have hPw := j_Pw_at C hz hS
  obtain ⟨hx, hb, hml, hown, hts, hG, hX, hsc, hbs, hnm⟩ := C
  have hmono := j_run_mono _ _ _ _ _ _ _ _ hr
  simp only at hmono
  have K' : ∀ (H1 : Heap) (locs1 : List Loc), j_Rz sc bs D dA xs w1 H1 → va_S (fun q => bs ≤ q) s.heap H1 locs1 → W p l e R s m args below meth c H1 locs1 (cells + (j_cnt w1 - j_cnt w)) (slots + (j_slt w1 - j_slt w)) Q (F0 m (pc + 3) lsA ((v1.map (j_av sc bs)).toList ++ rest.map (j_av sc bs))) := by
    intro H1 locs1 g1 g2
    rw [j_av_toList, ← List.map_append]
    exact K H1 locs1 g1 g2
  unfold j_cal at h
  split at h
  · -- invokevirtual
    split at h
    · rename_i kd' y'' a as' rest' hcl
      split at h
      · rename_i ec hwa
        split at h
        · rename_i htag
          cases h
          obtain ⟨hlk, rfl, hkm, hyN, hasl, hsum, hlay, hst⟩ := j_cl0_ok hcl
          have hkd : kd = 0 := by simpa using hkm
          subst hkd
          obtain ⟨hmok, hpar, -⟩ := j_params hlk (by decide) (by decide) (by decide)
          obtain ⟨hmc, hmx, -, hmh, hvh⟩ := j_m hmok
          have hM := j_met_of ih l hr hyN hmok hlay sc bs D dA xs
          obtain ⟨r, hrr, -, hrn, -⟩ := j_cls htag.2
          obtain ⟨hcell, -⟩ := hz.at hwa (by omega)
          unfold j_cell at hcell
          rw [if_pos htag.2] at hcell
          obtain ⟨r', hr', cellV, g1, g2, g3, -⟩ := hcell
          cases hrr.symm.trans hr'
          have hcls := (hG.1.1 _ r hrr).2
          have hw3 := j_c3_in hlk (by decide)
          have hw0 := j_c0_in hlk
          have hlink := j_ca_in hlk
          unfold j_caW at hlink
          unfold j_c3W at hw3
          unfold j_c0W at hw0
          simp only [] at hlink hw3 hw0
          have hst2 : st.map (j_av sc bs) = (as'.map (j_av sc bs)).reverse ++ .ref (j_ad sc bs a) :: rest.map (j_av sc bs) := by
            rw [hst]
            simp [j_av_ref]
          rw [hst2]
          refine j_after (va_runV (As := as'.map (j_av sc bs)) (b := j_ad sc bs a) (C := (j_nm y').cls) (Ts := jT) ⟨hx, hb, hml, hown, hts⟩ hM ⟨⟨rfl, rfl, hf, by show 8 + (j_mx y' + 11) + 32 * d ≤ R.locals; omega, j_pay hts hyN, List.mem_cons_self, hts _ (j_code_in hyN), j_good_before hts (j_init_in hyN) rfl, ⟨hmh, hvh⟩, fun sig h => hpar sig h, j_good_before hts (by simpa using hlink) rfl⟩, j_good_before hts (by simpa using hw3) rfl, j_good_before hts (by simpa using hw0) rfl⟩ ⟨j_blind sc bs D dA xs w _, ⟨cellV, g1, by rw [g3]; rfl, by rw [g2, hmc, ← htag.1, ← hrn]; exact hcls.1⟩, fun U hU hW => ⟨rfl, hPw U hU hW⟩⟩ rfl ?_ hl.1 rfl ?_ hd ⟨by omega, by omega⟩) hS K'
          · simp only [List.length_cons] at hasl
            simp only [List.length_map]
            simp
            omega
          · show 2 * 0 + _ ≤ 8
            rw [j_sumc_av]
            omega
        · cases h
      · cases h
    · cases h
  · -- invokestatic
    obtain ⟨hlk, rfl, hkm, hyN, hasl, hsum, hlay, hst⟩ := j_cl0_ok h
    have hM := fun hmok => j_met_of ih l hr hyN hmok hlay sc bs D dA xs
    have hst2 : st.map (j_av sc bs) = (as.map (j_av sc bs)).reverse ++ rest.map (j_av sc bs) := by
      rw [hst]
      simp
    rw [hst2]
    have hlink := j_ca_in hlk
    unfold j_caW at hlink
    have hkd : kd = 1 ∨ kd = 4 := by simpa using hkm
    rcases hkd with rfl | rfl
    · obtain ⟨hmok, hpar, -⟩ := j_params hlk (by decide) (by decide) (by decide)
      obtain ⟨hmc, hmx, -, hmh, hvh⟩ := j_m hmok
      have hw3 := j_c3_in hlk (by decide)
      unfold j_c3W at hw3
      refine j_after (va_runS (As := as.map (j_av sc bs)) (Ts := jT) ⟨hx, hb, hml, hown, hts⟩ (hM hmok) ⟨⟨rfl, rfl, hf, by show 8 + (j_mx y' + 11) + 32 * d ≤ R.locals; omega, j_pay hts hyN, List.mem_cons_self, hts _ (j_code_in hyN), j_good_before hts (j_init_in hyN) rfl, ⟨hmh, hvh⟩, fun sig h => hpar sig h, j_good_before hts (by simpa using hlink) rfl⟩, j_good_before hts (by simpa using hw3) rfl⟩ ⟨j_blind sc bs D dA xs w _, fun U hU hW => ⟨rfl, hPw U hU hW⟩⟩ rfl ?_ hl.1 rfl ?_ hd ⟨by omega, by omega⟩) hS K'
      · simp only [List.length_map]
        simp
        omega
      · show 2 * 0 + _ ≤ 8
        rw [j_sumc_av]
        omega
    · obtain ⟨hmok, hpar, -⟩ := j_params hlk (by decide) (by decide) (by decide)
      obtain ⟨hmc, hmx, -, hmh, hvh⟩ := j_m hmok
      have hw3 := j_c3_in hlk (by decide)
      unfold j_c3W at hw3
      refine j_after (va_runSN (As := as.map (j_av sc bs)) (Ts := jT) (host := "JumpFlows") ⟨hx, hb, hml, hown, hts⟩ (hM hmok) ⟨⟨⟨rfl, rfl, hf, by show 8 + (j_mx y' + 11) + 32 * d ≤ R.locals; omega, j_pay hts hyN, List.mem_cons_self⟩, hts _ (j_code_in hyN), j_good_before hts (j_init_in hyN) rfl, ⟨hmh, hvh⟩, fun sig h => hpar sig h, va_Nw.use rfl (hG.2.1 _ (by simpa using hlink) rfl)⟩, j_good_before hts (by simpa using hw3) rfl, trivial⟩ ⟨j_blind sc bs D dA xs w _, fun U hU hW => ⟨rfl, hPw U hU hW⟩⟩ rfl ?_ hl.1 rfl ?_ hd ⟨by omega, by omega⟩) hS K'
      · simp only [List.length_map]
        simp
        omega
      · show 2 * 0 + _ ≤ 8
        rw [j_sumc_av]
        omega
  · -- invokespecial
    split at h
    · rename_i kd' y'' a as' rest' hcl
      cases h
      obtain ⟨hlk, rfl, hkm, hyN, hasl, hsum, hlay, hst⟩ := j_cl0_ok hcl
      have hM := fun hmok => j_met_of ih l hr hyN hmok hlay sc bs D dA xs
      have hst2 : st.map (j_av sc bs) = (as'.map (j_av sc bs)).reverse ++ .ref (j_ad sc bs a) :: rest.map (j_av sc bs) := by
        rw [hst]
        simp [j_av_ref]
      rw [hst2]
      have hlink := j_ca_in hlk
      unfold j_caW at hlink
      have hcw : j_rt y' = none → Cond.code (j_nm y') (j_co y') (j_mx y') none = j_cw y' := fun q => by unfold j_cw; rw [q]
      have hkd : kd = 2 ∨ kd = 5 := by simpa using hkm
      rcases hkd with rfl | rfl
      · obtain ⟨hmok, hpar, hini⟩ := j_params hlk (by decide) (by decide) (by decide)
        obtain ⟨hnm2, hrt⟩ := hini (Or.inl rfl)
        obtain ⟨hmc, hmx, -, hmh, hvh⟩ := j_m hmok
        have hw3 := j_c3_in hlk (by decide)
        unfold j_c3W at hw3
        refine j_after (va_runI (bytes := j_co y') (maxL := j_mx y') (As := as'.map (j_av sc bs)) (b := j_ad sc bs a) (Ts := jT) ⟨hx, hb, hml, hown, hts⟩ (hM hmok) ⟨⟨rfl, rfl, hf, by show 8 + (j_mx y' + 11) + 32 * d ≤ R.locals; omega, j_pay hts hyN, by rw [hcw hrt]; exact List.mem_cons_self, by rw [hcw hrt]; exact hts _ (j_code_in hyN), j_good_before hts (j_init_in hyN) rfl, ⟨hmh, hvh⟩, fun sig h => hpar sig h, j_good_before hts (by simpa using hlink) rfl⟩, hnm2, j_good_before hts (by simpa using hw3) rfl⟩ ⟨j_blind sc bs D dA xs w _, fun U hU hW => ⟨rfl, hPw U hU hW⟩⟩ rfl ?_ hl.1 rfl ?_ hd ⟨by omega, by omega⟩) hS K'
        · simp only [List.length_cons] at hasl
          simp only [List.length_map]
          simp
          omega
        · show 2 * 0 + _ ≤ 8
          rw [j_sumc_av]
          omega
      · obtain ⟨hmok, hpar, hini⟩ := j_params hlk (by decide) (by decide) (by decide)
        obtain ⟨hnm2, hrt⟩ := hini (Or.inr rfl)
        obtain ⟨hmc, hmx, -, hmh, hvh⟩ := j_m hmok
        have hw3 := j_c3_in hlk (by decide)
        unfold j_c3W at hw3
        refine j_after (va_runIN (bytes := j_co y') (maxL := j_mx y') (As := as'.map (j_av sc bs)) (b := j_ad sc bs a) (Ts := jT) (host := "JumpFlows") ⟨hx, hb, hml, hown, hts⟩ (hM hmok) ⟨⟨⟨rfl, rfl, hf, by show 8 + (j_mx y' + 11) + 32 * d ≤ R.locals; omega, j_pay hts hyN, by rw [hcw hrt]; exact List.mem_cons_self⟩, by rw [hcw hrt]; exact hts _ (j_code_in hyN), j_good_before hts (j_init_in hyN) rfl, ⟨hmh, hvh⟩, fun sig h => hpar sig h, va_Nw.use rfl (hG.2.1 _ (by simpa using hlink) rfl)⟩, hnm2, j_good_before hts (by simpa using hw3) rfl⟩ ⟨j_blind sc bs D dA xs w _, fun U hU hW => ⟨rfl, hPw U hU hW⟩⟩ rfl ?_ hl.1 rfl ?_ hd ⟨by omega, by omega⟩) hS K'
        · simp only [List.length_cons] at hasl
          simp only [List.length_map]
          simp
          omega
        · show 2 * 0 + _ ≤ 8
          rw [j_sumc_av]
          omega
    · cases h
  · cases h
end JMA
