section JHR
variable {p : Program} {l : Launch} {e : Env} {R : Room} {s : State} {m : MethodId} {args : Array Value} {below : List Frame} {meth : Method} {c : Code} {H : Heap} {locs : List Loc} {cells slots : Nat} {Q : State → Prop}
variable {pc : Nat} {ls : Array Slot} {y sc bs : Nat} {D : va_G} {dA : Nat → ClassId} {xs : List Value}
theorem j_Rz.zero {w : jW} (hz : j_Rz sc bs D dA xs w H) {e1 : jE} (h : w[0]? = some e1) : e1 = (107, xs) := by
  obtain ⟨es, rfl, -, -⟩ := hz
  cases h
  rfl
set_option maxRecDepth 100000 in
theorem j_initC : ∀ ci, ci < 12 → Cond.initialized (j_cname ci) ∈ lw_tbl := by
  have h : ((List.range 12).map (fun ci => Cond.initialized (j_cname ci))).all (fun w => j_initW.contains w) = true := by decide +kernel
  intro ci hci
  have h1 := List.all_eq_true.mp h _ (List.mem_map.mpr ⟨ci, List.mem_range.mpr hci, rfl⟩)
  exact j_at_all (by decide +kernel) j_initW_ok _ (List.contains_iff_mem.mp h1)
theorem j_arrC : Cond.arrayClass .int ∈ lw_tbl ∧ Cond.arrayClass .boolean ∈ lw_tbl ∧ Cond.arrayClass .long ∈ lw_tbl := ⟨List.mem_of_getElem? (i := 89) (by decide +kernel), List.mem_of_getElem? (i := 166) (by decide +kernel), List.mem_of_getElem? (i := 265) (by decide +kernel)⟩
theorem j_nwBd : j_nw.all (fun q => decide (q.2.2 < 12)) = true := by decide +kernel
set_option maxHeartbeats 8000000 in
theorem j_hp_ok (C : j_Cx p s m args meth c y sc bs D dA xs) {i : Instr} {st st' : List Value} {w w' : jW} (h : j_hp y w i st = some (st', w')) (hd : decode (j_co y) pc = .ok (i, j_len i)) (hz : j_Rz sc bs D dA xs w H) (hS : va_S (fun q => bs ≤ q) s.heap H locs)
    (hc1 : cells + j_cnt w' ≤ R.cells + j_cnt w) (hs1 : slots + j_slt w' ≤ R.slots + j_slt w)
    (k : ∀ (H' : Heap) (locs' : List Loc) (cells' slots' : Nat), cells' + j_cnt w = cells + j_cnt w' → slots' + j_slt w = slots + j_slt w' → j_Rz sc bs D dA xs w' H' → va_S (fun q => bs ≤ q) s.heap H' locs' → W p l e R s m args below meth c H' locs' cells' slots' Q (F0 m (pc + j_len i) ls (st'.map (j_av sc bs)))) : W p l e R s m args below meth c H locs cells slots Q (F0 m pc ls (st.map (j_av sc bs))) := by
  obtain ⟨hx, hb, hml, hown, hts, hG, hX, hsc, hbs, hnm⟩ := id C
  unfold j_hp at h
  split at h
  · -- getfield
    split at h
    · split at h
      · rename_i ci kf b t vs hf hw ht
        obtain ⟨v, hv, he⟩ := Option.map_eq_some_iff.mp h
        cases he
        exact j_get_ok C hf hw ht hv hd hz (k H locs cells slots rfl rfl hz hS)
      · cases h
    · cases h
  · -- putfield
    split at h
    · split at h
      · rename_i ci kf b t vs hf hw ht
        cases h
        obtain ⟨h1, h2, h3, h4⟩ := ht
        refine j_put_ok C hf hw h1 h2 h3 h4 hd hz hS (fun H' locs' hz' hS' => k H' locs' cells slots (by simp [j_cnt]) ?_ hz' hS')
        rw [j_slt_set hw (List.length_set ..)]
      · cases h
    · cases h
  · -- arraylength
    split at h
    · split at h
      · rename_i t vs hw ht
        cases h
        rcases ht.2 with h6 | h6
        · have hty : ∃ ty, j_tyN[t - 100]? = some ty := by
            have : t - 100 < j_tyN.length := by show t - 100 < 7; omega
            exact ⟨_, List.getElem?_eq_getElem this⟩
          obtain ⟨ty, hty⟩ := hty
          exact W.alen hx hb (j_arr_at hz hw ht.1 (by omega)) ((hG.1.2 _ _ (j_tys_at hty)).1 _ _) (by rw [arrV_size]) rfl rfl hd (k H locs cells slots rfl rfl hz hS)
        · obtain ⟨h6, -⟩ := h6
          subst h6
          cases hz.zero hw
          exact va_slen hx hb hX (Nat.lt_of_lt_of_le hsc hbs) (Nat.not_le.mpr hsc) hS hd (k H locs cells slots rfl rfl hz hS)
      · cases h
    · cases h
  · -- iaload
    split at h
    · split at h
      · rename_i t vs hw ht
        split at h
        · rename_i x hv
          cases h
          obtain ⟨h1, h2⟩ := ht
          by_cases h6 : t = 100
          · subst h6
            exact W.iald hx hb (j_arr_at hz hw (by omega) (by omega)) ((hG.1.2 _ _ (j_tys_at (t := 0) rfl)).1 _ _) (fun q => by cases q) (j_arr_hin h2) (j_arr_rd hv) rfl rfl hd (k H locs cells slots rfl rfl hz hS)
          · obtain ⟨h7, -⟩ := h1.resolve_left h6
            subst h7
            cases hz.zero hw
            have h9 := congrArg j_iv (j_arr_val hv)
            refine va_sld hx hb hX (Nat.lt_of_lt_of_le hsc hbs) (Nat.not_le.mpr hsc) hS h2 hd ?_
            rw [h9]
            exact k H locs cells slots rfl rfl hz hS
        · cases h
      · cases h
    · cases h
  · -- baload
    split at h
    · split at h
      · rename_i t vs hw ht
        split at h
        · rename_i x hv
          cases h
          obtain ⟨h1, h2⟩ := ht
          subst h1
          exact W.zald hx hb (j_arr_at hz hw (by omega) (by omega)) ((hG.1.2 _ _ (j_tys_at (t := 1) rfl)).1 _ _) (fun q => by cases q) (j_arr_hin h2) (j_arr_rd hv) rfl rfl hd (k H locs cells slots rfl rfl hz hS)
        · cases h
      · cases h
    · cases h
  · -- laload
    split at h
    · split at h
      · rename_i t vs hw ht
        split at h
        · rename_i x hv
          cases h
          obtain ⟨h1, h2⟩ := ht
          subst h1
          exact W.lald hx hb (j_arr_at hz hw (by omega) (by omega)) ((hG.1.2 _ _ (j_tys_at (t := 2) rfl)).1 _ _) (fun q => by cases q) (j_arr_hin h2) (j_arr_rd hv) rfl rfl hd (k H locs cells slots rfl rfl hz hS)
        · cases h
      · cases h
    · cases h
  · -- aaload
    split at h
    · split at h
      · rename_i t vs hw ht
        obtain ⟨h1, h1', h2⟩ := ht
        obtain ⟨C', hty⟩ := j_ref_ty h1 h1'
        split at h
        · rename_i x hv
          cases h
          exact W.aald hx hb (j_arr_at hz hw (by omega) (by omega)) ((hG.1.2 _ _ (j_tys_at hty)).1 _ _) rfl (fun q => by cases q) (j_arr_hin h2) (j_arr_rd hv) rfl rfl hd (k H locs cells slots rfl rfl hz hS)
        · rename_i hv
          cases h
          exact W.aald hx hb (j_arr_at hz hw (by omega) (by omega)) ((hG.1.2 _ _ (j_tys_at hty)).1 _ _) rfl (fun q => by cases q) (j_arr_hin h2) (j_arr_rd hv) rfl rfl hd (k H locs cells slots rfl rfl hz hS)
        · cases h
      · cases h
    · cases h
  · -- iastore
    split at h
    · split at h
      · rename_i t vs hw ht
        cases h
        obtain ⟨h1, h2⟩ := ht
        subst h1
        refine W.iast hx hb (j_arr_at hz hw (by omega) (by omega)) ((hG.1.2 _ _ (j_tys_at (t := 0) rfl)).1 _ _) (fun q => by cases q) (j_arr_hin h2) rfl rfl hd fun H1 e1 e2 e3 => ?_
        obtain ⟨g1, g2⟩ := j_arr_put (v := .int _) hz hS hw (by omega) (by omega) (j_arr_in h2) e1 e2 e3
        exact k H1 _ cells slots (by simp [j_cnt]) (by rw [j_slt_set hw (List.length_set ..)]) g1 g2
      · cases h
    · cases h
  · -- bastore
    split at h
    · split at h
      · rename_i t vs hw ht
        cases h
        obtain ⟨h1, h2, h5⟩ := ht
        subst h1
        refine W.zast hx hb (j_arr_at hz hw (by omega) (by omega)) ((hG.1.2 _ _ (j_tys_at (t := 1) rfl)).1 _ _) (fun q => by cases q) (j_arr_hin h2) rfl rfl hd fun H1 e1 e2 e3 => ?_
        have h8 : ∀ z : Int32, z = 0 ∨ z = 1 → narrow .boolean (.int z) = .int z := by
          intro z hz; rcases hz with rfl | rfl <;> rfl
        rw [h8 _ h5] at e1
        obtain ⟨g1, g2⟩ := j_arr_put (v := .int _) hz hS hw (by omega) (by omega) (j_arr_in h2) e1 e2 e3
        exact k H1 _ cells slots (by simp [j_cnt]) (by rw [j_slt_set hw (List.length_set ..)]) g1 g2
      · cases h
    · cases h
  · -- lastore
    split at h
    · split at h
      · rename_i t vs hw ht
        cases h
        obtain ⟨h1, h2⟩ := ht
        subst h1
        refine W.last hx hb (j_arr_at hz hw (by omega) (by omega)) ((hG.1.2 _ _ (j_tys_at (t := 2) rfl)).1 _ _) (fun q => by cases q) (j_arr_hin h2) rfl rfl hd fun H1 e1 e2 e3 => ?_
        obtain ⟨g1, g2⟩ := j_arr_put (v := .long _) hz hS hw (by omega) (by omega) (j_arr_in h2) e1 e2 e3
        exact k H1 _ cells slots (by simp [j_cnt]) (by rw [j_slt_set hw (List.length_set ..)]) g1 g2
      · cases h
    · cases h
  · -- aastore
    split at h
    · split at h
      · rename_i t vs u us hw hwx ht
        cases h
        obtain ⟨h1, h1', h2, h5⟩ := ht
        obtain ⟨hu, hty⟩ := j_rc_ty h5
        rw [show t - 103 + 3 = t - 100 by omega] at hty
        obtain ⟨r, hr, -, hrn, -⟩ := j_cls hu
        obtain ⟨hcx, -⟩ := hz.at hwx (by show u ≠ 107; omega)
        unfold j_cell at hcx
        rw [if_pos (by exact hu)] at hcx
        obtain ⟨r', hr', cellV, g1, g2, g3, -⟩ := hcx
        cases hr.symm.trans hr'
        have hcls := (hG.1.1 u r hr).2
        obtain ⟨kA, comp, k1, k2, k3, -⟩ := (hG.1.2 _ _ (j_tys_at hty)).2
        rw [← hrn] at k3
        have hcomp : comp = D.1 u := Option.some.inj (k3.symm.trans hcls.1)
        subst hcomp
        obtain ⟨kC, hkC, -⟩ := hcls.2
        refine W.aast hx hb (j_arr_at hz hw (by omega) (by omega)) (fun q h => by cases h) (fun h => by cases h) k1 k2 rfl hkC ⟨fun q => h2 (Or.inl q), by rw [arrV_size]; exact j_arr_in h2⟩ g1 (fun q h => by rw [g3] at h; cases h) (by rw [g2]; exact hkC) (by rw [g2]; exact va_assign hcls) rfl rfl hd fun H1 e1 e2 e3 => ?_
        obtain ⟨g1, g2⟩ := j_arr_put (v := .ref _) hz hS hw (by omega) (by omega) (j_arr_in h2) e1 e2 e3
        exact k H1 _ cells slots (by simp [j_cnt]) (by rw [j_slt_set hw (List.length_set ..)]) g1 g2
      · cases h
    · cases h
  · -- new
    split at h
    · split at h
      · rename_i ci hf h12
        cases h
        simp only [j_cnt, List.length_append, List.length_singleton, j_slt_push] at hc1 hs1 k
        exact j_new_ok C hf h12 (j_initC ci h12) hd hz hS (by omega) (by omega) (fun H' hz' hS' => k H' locs _ _ (by omega) (by omega) hz' hS')
      · cases h
    · cases h
  · split at h
    · rename_i hn
      cases h
      simp only [j_cnt, List.length_append, List.length_singleton, j_slt_push, List.length_replicate] at hc1 hs1 k
      exact j_newa_ok (at_ := .int) (t := 0) (dv := .int 0) C rfl (by decide) rfl rfl j_arrC.1 (by decide) hn.1 hn.2 hd hz hS (by omega) (by omega) (fun H' hz' hS' => k H' locs _ _ (by omega) (by omega) hz' hS')
    · cases h
  · split at h
    · rename_i hn
      cases h
      simp only [j_cnt, List.length_append, List.length_singleton, j_slt_push, List.length_replicate] at hc1 hs1 k
      exact j_newa_ok (at_ := .boolean) (t := 1) (dv := .int 0) C rfl (by decide) rfl rfl j_arrC.2.1 (by decide) hn.1 hn.2 hd hz hS (by omega) (by omega) (fun H' hz' hS' => k H' locs _ _ (by omega) (by omega) hz' hS')
    · cases h
  · split at h
    · rename_i hn
      cases h
      simp only [j_cnt, List.length_append, List.length_singleton, j_slt_push, List.length_replicate] at hc1 hs1 k
      exact j_newa_ok (at_ := .long) (t := 2) (dv := .long 0) C rfl (by decide) rfl rfl j_arrC.2.2 (by decide) hn.1 hn.2 hd hz hS (by omega) (by omega) (fun H' hz' hS' => k H' locs _ _ (by omega) (by omega) hz' hS')
    · cases h
  · split at h
    · rename_i ci hf
      split at h
      · rename_i hn
        cases h
        simp only [j_cnt, List.length_append, List.length_singleton, j_slt_push, List.length_replicate] at hc1 hs1 k
        have hmem : ci ∈ j_rc := List.contains_iff_mem.mp hn.2.2
        have hrc : j_rc[j_rc.idxOf ci]? = some ci := by
          rw [List.getElem?_eq_getElem (List.idxOf_lt_length_of_mem hmem), List.getElem_idxOf]
        exact j_anew_ok C hf hrc hn.1 hn.2.1 hd hz hS (by omega) (by omega) (fun H' hz' hS' => k H' locs _ _ (by omega) (by omega) hz' hS')
      · cases h
    · cases h
  · split at h
    · rename_i v hf
      cases h
      have hcl := j_kl_in hf
      unfold j_klW at hcl
      exact lv_ldc2 hx hb hown (j_good_before hts hcl rfl) hd (k H locs cells slots rfl rfl hz hS)
    · cases h
  · cases h
end JHR
