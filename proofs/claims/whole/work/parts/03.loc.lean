section JBR
variable {p : Program} {lc : Launch} {e : Env} {R : Room} {s : State} {m : MethodId} {args : Array Value} {below : List Frame} {meth : Method} {c : Code} {H : Heap} {locs : List Loc} {cells slots : Nat} {Q : State → Prop}
variable {cc : ByteArray} {pc : Nat} {ls : Array Slot} {sc bs : Nat}
set_option maxHeartbeats 4000000 in
theorem j_br_ok (hx : p.tables.exec = Jvm.exec) (hb : c.code = cc) {i : Instr} {st st' : List Value} {t n : Nat} (h : j_br pc i st = some (t, st')) (hn : n = j_len i ∨ (∃ d lo hi offs, i = .tableswitch d lo hi offs) ∨ (∃ d ps, i = .lookupswitch d ps)) (hd : decode cc pc = .ok (i, n))
    (k : W p lc e R s m args below meth c H locs cells slots Q (F0 m t ls (st'.map (j_av sc bs)))) : W p lc e R s m args below meth c H locs cells slots Q (F0 m pc ls (st.map (j_av sc bs))) := by
  unfold j_br at h
  split at h
  · obtain rfl : n = j_len _ := hn.elim id (fun q => by rcases q with ⟨_, _, _, _, q⟩ | ⟨_, _, q⟩ <;> cases q)
    obtain ⟨u, hu, he⟩ := Option.map_eq_some_iff.mp h
    cases he
    exact lv_goto hx hb hd (j_tg_ok hu) k
  · obtain rfl : n = j_len _ := hn.elim id (fun q => by rcases q with ⟨_, _, _, _, q⟩ | ⟨_, _, q⟩ <;> cases q)
    obtain ⟨g, e0, e1, e2, e3⟩ := j_if_ok h
    subst e1
    exact lv_if_eq hx hb hd e0 (fun z => by rw [← e2 (decide_eq_true z)]; exact k) (fun z => by rw [← e3 (decide_eq_false z)]; exact k)
  · obtain rfl : n = j_len _ := hn.elim id (fun q => by rcases q with ⟨_, _, _, _, q⟩ | ⟨_, _, q⟩ <;> cases q)
    obtain ⟨g, e0, e1, e2, e3⟩ := j_if_ok h
    subst e1
    exact lv_if_ne hx hb hd e0 (fun z => by rw [← e2 (decide_eq_true z)]; exact k) (fun z => by rw [← e3 (decide_eq_false (fun q => q z))]; exact k)
  · obtain rfl : n = j_len _ := hn.elim id (fun q => by rcases q with ⟨_, _, _, _, q⟩ | ⟨_, _, q⟩ <;> cases q)
    obtain ⟨g, e0, e1, e2, e3⟩ := j_if_ok h
    subst e1
    exact lv_if_lt hx hb hd e0 (fun z => by rw [← e2 (decide_eq_true z)]; exact k) (fun z => by rw [← e3 (decide_eq_false z)]; exact k)
  · obtain rfl : n = j_len _ := hn.elim id (fun q => by rcases q with ⟨_, _, _, _, q⟩ | ⟨_, _, q⟩ <;> cases q)
    obtain ⟨g, e0, e1, e2, e3⟩ := j_if_ok h
    subst e1
    exact lv_if_ge hx hb hd e0 (fun z => by rw [← e2 (decide_eq_true z)]; exact k) (fun z => by rw [← e3 (decide_eq_false z)]; exact k)
  · obtain rfl : n = j_len _ := hn.elim id (fun q => by rcases q with ⟨_, _, _, _, q⟩ | ⟨_, _, q⟩ <;> cases q)
    obtain ⟨g, e0, e1, e2, e3⟩ := j_if_ok h
    subst e1
    exact lv_if_gt hx hb hd e0 (fun z => by rw [← e2 (decide_eq_true z)]; exact k) (fun z => by rw [← e3 (decide_eq_false z)]; exact k)
  · obtain rfl : n = j_len _ := hn.elim id (fun q => by rcases q with ⟨_, _, _, _, q⟩ | ⟨_, _, q⟩ <;> cases q)
    obtain ⟨g, e0, e1, e2, e3⟩ := j_if_ok h
    subst e1
    exact lv_if_le hx hb hd e0 (fun z => by rw [← e2 (decide_eq_true z)]; exact k) (fun z => by rw [← e3 (decide_eq_false z)]; exact k)
  · obtain rfl : n = j_len _ := hn.elim id (fun q => by rcases q with ⟨_, _, _, _, q⟩ | ⟨_, _, q⟩ <;> cases q)
    obtain ⟨g, e0, e1, e2, e3⟩ := j_if_ok h
    subst e1
    exact lv_icmp_eq hx hb hd e0 (fun z => by rw [← e2 (decide_eq_true z)]; exact k) (fun z => by rw [← e3 (decide_eq_false z)]; exact k)
  · obtain rfl : n = j_len _ := hn.elim id (fun q => by rcases q with ⟨_, _, _, _, q⟩ | ⟨_, _, q⟩ <;> cases q)
    obtain ⟨g, e0, e1, e2, e3⟩ := j_if_ok h
    subst e1
    exact lv_icmp_ne hx hb hd e0 (fun z => by rw [← e2 (decide_eq_true z)]; exact k) (fun z => by rw [← e3 (decide_eq_false (fun q => q z))]; exact k)
  · obtain rfl : n = j_len _ := hn.elim id (fun q => by rcases q with ⟨_, _, _, _, q⟩ | ⟨_, _, q⟩ <;> cases q)
    obtain ⟨g, e0, e1, e2, e3⟩ := j_if_ok h
    subst e1
    exact lv_icmp_lt hx hb hd e0 (fun z => by rw [← e2 (decide_eq_true z)]; exact k) (fun z => by rw [← e3 (decide_eq_false z)]; exact k)
  · obtain rfl : n = j_len _ := hn.elim id (fun q => by rcases q with ⟨_, _, _, _, q⟩ | ⟨_, _, q⟩ <;> cases q)
    obtain ⟨g, e0, e1, e2, e3⟩ := j_if_ok h
    subst e1
    exact lv_icmp_ge hx hb hd e0 (fun z => by rw [← e2 (decide_eq_true z)]; exact k) (fun z => by rw [← e3 (decide_eq_false z)]; exact k)
  · obtain rfl : n = j_len _ := hn.elim id (fun q => by rcases q with ⟨_, _, _, _, q⟩ | ⟨_, _, q⟩ <;> cases q)
    obtain ⟨g, e0, e1, e2, e3⟩ := j_if_ok h
    subst e1
    exact lv_icmp_gt hx hb hd e0 (fun z => by rw [← e2 (decide_eq_true z)]; exact k) (fun z => by rw [← e3 (decide_eq_false z)]; exact k)
  · obtain rfl : n = j_len _ := hn.elim id (fun q => by rcases q with ⟨_, _, _, _, q⟩ | ⟨_, _, q⟩ <;> cases q)
    obtain ⟨g, e0, e1, e2, e3⟩ := j_if_ok h
    subst e1
    exact lv_icmp_le hx hb hd e0 (fun z => by rw [← e2 (decide_eq_true z)]; exact k) (fun z => by rw [← e3 (decide_eq_false z)]; exact k)
  · obtain rfl : n = j_len _ := hn.elim id (fun q => by rcases q with ⟨_, _, _, _, q⟩ | ⟨_, _, q⟩ <;> cases q)
    cases h
    exact lv_ifnull hx hb hd k
  · obtain rfl : n = j_len _ := hn.elim id (fun q => by rcases q with ⟨_, _, _, _, q⟩ | ⟨_, _, q⟩ <;> cases q)
    obtain ⟨u, hu, he⟩ := Option.map_eq_some_iff.mp h
    cases he
    exact lv_ifnullN hx hb hd (j_tg_ok hu) k
  · split at h
    · rename_i hc
      obtain ⟨u, hu, he⟩ := Option.map_eq_some_iff.mp h
      cases he
      exact lv_tableOut hx hb hd hc (j_tg_ok hu) k
    · rename_i hc
      split at h
      · rename_i off ho
        obtain ⟨u, hu, he⟩ := Option.map_eq_some_iff.mp h
        cases he
        exact lv_tableIn hx hb hd (fun z => hc (Or.inl z)) (fun z => hc (Or.inr z)) ho (j_tg_ok hu) k
      · cases h
  · split at h
    · rename_i hc
      obtain ⟨u, hu, he⟩ := Option.map_eq_some_iff.mp h
      cases he
      exact lv_lookup hx hb hd hc rfl (j_tg_ok hu) k
    · cases h
  · cases h
/-- the locals are as told -/
def j_LR (sc bs nL : Nat) (lsA : Array Slot) (ls : jL) : Prop := lsA.size = nL ∧ ls.length ≤ nL ∧ lv_wf lsA ∧ ∀ (j : Nat) (v : Value), j_get ls j = some v → lsA[j]? = some (.val (j_av sc bs v))
def j_lvl (sc bs : Nat) (ls : jL) : List (Nat × Value) := (List.range ls.length).filterMap (fun j => (j_get ls j).map (fun v => (j, j_av sc bs v)))
theorem j_get_lt {ls : jL} {j : Nat} {v : Value} (h : j_get ls j = some v) : j < ls.length := by
  unfold j_get at h
  split at h
  · rename_i o ho
    exact (List.getElem?_eq_some_iff.mp ho).1
  · cases h
theorem j_lvl_mem {ls : jL} {j : Nat} {v : Value} (h : j_get ls j = some v) : (j, j_av sc bs v) ∈ j_lvl sc bs ls :=
  List.mem_filterMap.mpr ⟨j, List.mem_range.mpr (j_get_lt h), by rw [h]; rfl⟩
theorem j_LR.has {nL : Nat} {lsA : Array Slot} {l : jL} (h : j_LR sc bs nL lsA l) : lv_has lsA nL (j_lvl sc bs l) := by
  refine ⟨h.1, h.2.2.1, fun q hq => ?_⟩
  obtain ⟨j, -, hj⟩ := List.mem_filterMap.mp hq
  obtain ⟨v, hv, he⟩ := Option.map_eq_some_iff.mp hj
  cases he
  exact h.2.2.2 j v hv
theorem j_get_set {l : jL} {i j : Nat} {o : Option Value} : j_get (l.set i o) j = if i = j then (if i < l.length then o else none) else j_get l j := by
  unfold j_get
  rw [List.getElem?_set]
  by_cases h1 : i = j
  · subst h1
    by_cases h2 : i < l.length
    · simp [h2]
    · simp [h2]
  · simp [h1]
theorem j_left_ok {l : jL} {i j : Nat} {v : Value} (h : j_left l i = true) (hj : j + 1 = i) (hv : j_get l j = some v) : v.category = 1 := by
  subst hj
  unfold j_left at h
  simp only [hv] at h
  simpa using h
theorem j_set1_ok {nL i : Nat} {lsA : Array Slot} {l l' : jL} {v : Value} {lv' : List (Nat × Value)} (h : j_LR sc bs nL lsA l) (hs : j_set1 l i v = some l') {ls' : Array Slot}
    (hl : (i, j_av sc bs v) :: (j_lvl sc bs l).filter (fun q => !(q.1 == i) && !(q.1 + 1 == i && q.2.category == 2)) = lv') (h' : lv_has ls' nL lv') : j_LR sc bs nL ls' l' := by
  unfold j_set1 at hs
  split at hs
  · rename_i hc
    cases hs
    refine ⟨h'.1, by rw [List.length_set]; exact h.2.1, h'.2.1, fun j u hu => ?_⟩
    rw [j_get_set] at hu
    split at hu
    · rename_i hij
      subst hij
      rw [if_pos hc.1] at hu
      cases hu
      exact h'.2.2 _ (by rw [← hl]; exact List.mem_cons_self)
    · rename_i hij
      refine h'.2.2 (j, j_av sc bs u) ?_
      rw [← hl]
      refine List.mem_cons_of_mem _ (List.mem_filter.mpr ⟨j_lvl_mem hu, ?_⟩)
      have h1 : (j == i) = false := by simpa using fun q => hij q.symm
      simp only [h1, Bool.not_false, Bool.true_and, Bool.not_eq_true', Bool.and_eq_false_imp]
      intro hq
      have h2 := j_left_ok hc.2 (by simpa using hq) hu
      rw [j_av_cat, h2]
      rfl
  · cases hs
theorem j_set2_ok {nL i : Nat} {lsA : Array Slot} {l l' : jL} {v : Value} {lv' : List (Nat × Value)} (h : j_LR sc bs nL lsA l) (hs : j_set2 l i v = some l') {ls' : Array Slot}
    (hl : (i, j_av sc bs v) :: (j_lvl sc bs l).filter (fun q => !(q.1 == i) && (!(q.1 == i + 1) && !(q.1 + 1 == i && q.2.category == 2))) = lv') (h' : lv_has ls' nL lv') : j_LR sc bs nL ls' l' := by
  unfold j_set2 at hs
  split at hs
  · rename_i hc
    cases hs
    refine ⟨h'.1, by rw [List.length_set, List.length_set]; exact h.2.1, h'.2.1, fun j u hu => ?_⟩
    rw [j_get_set] at hu
    split at hu
    · split at hu <;> cases hu
    · rename_i hij2
      rw [j_get_set] at hu
      split at hu
      · rename_i hij
        subst hij
        rw [if_pos (by omega)] at hu
        cases hu
        exact h'.2.2 _ (by rw [← hl]; exact List.mem_cons_self)
      · rename_i hij
        refine h'.2.2 (j, j_av sc bs u) ?_
        rw [← hl]
        refine List.mem_cons_of_mem _ (List.mem_filter.mpr ⟨j_lvl_mem hu, ?_⟩)
        have h1 : (j == i) = false := by simpa using fun q => hij q.symm
        have h3 : (j == i + 1) = false := by simpa using fun q => hij2 q.symm
        simp only [h1, h3, Bool.not_false, Bool.true_and, Bool.not_eq_true', Bool.and_eq_false_imp]
        intro hq
        have h2 := j_left_ok hc.2 (by simpa using hq) hu
        rw [j_av_cat, h2]
        rfl
  · cases hs
theorem j_set1_lt {l l' : jL} {i : Nat} {v : Value} (hs : j_set1 l i v = some l') : i < l.length := by
  unfold j_set1 at hs
  split at hs
  · rename_i hc; exact hc.1
  · cases hs
theorem j_set2_lt {l l' : jL} {i : Nat} {v : Value} (hs : j_set2 l i v = some l') : i + 1 < l.length := by
  unfold j_set2 at hs
  split at hs
  · rename_i hc; exact hc.1
  · cases hs
set_option maxHeartbeats 4000000 in
theorem j_loc_ok (hx : p.tables.exec = Jvm.exec) (hb : c.code = cc) {i : Instr} {st st' : List Value} {l l' : jL} {nL : Nat} (h : j_loc l i st = some (l', st')) (hd : decode cc pc = .ok (i, j_len i)) (hl : j_LR sc bs nL ls l)
    (k : ∀ ls' : Array Slot, j_LR sc bs nL ls' l' → W p lc e R s m args below meth c H locs cells slots Q (F0 m (pc + j_len i) ls' (st'.map (j_av sc bs)))) : W p lc e R s m args below meth c H locs cells slots Q (F0 m pc ls (st.map (j_av sc bs))) := by
  unfold j_loc at h
  split at h
  · unfold j_ldI at h
    split at h
    · rename_i x hg
      cases h
      exact lv_iload_n hx hb hd rfl (hl.2.2.2 _ _ hg) (k _ hl)
    · cases h
  · unfold j_ldI at h
    split at h
    · rename_i x hg
      cases h
      exact lv_iload hx hb hd (hl.2.2.2 _ _ hg) (k _ hl)
    · cases h
  · unfold j_ldL at h
    split at h
    · rename_i x hg
      cases h
      exact lv_lload_n hx hb hd rfl (hl.2.2.2 _ _ hg) (k _ hl)
    · cases h
  · unfold j_ldL at h
    split at h
    · rename_i x hg
      cases h
      exact lv_lload hx hb hd (hl.2.2.2 _ _ hg) (k _ hl)
    · cases h
  · unfold j_ldA at h
    split at h
    · rename_i x hg
      cases h
      exact lv_aload_n hx hb hd rfl (hl.2.2.2 _ _ hg) (k _ hl)
    · rename_i hg
      cases h
      exact lv_aload_nN hx hb hd rfl (hl.2.2.2 _ _ hg) (k _ hl)
    · cases h
  · unfold j_ldA at h
    split at h
    · rename_i x hg
      cases h
      exact lv_aload hx hb hd (hl.2.2.2 _ _ hg) (k _ hl)
    · rename_i hg
      cases h
      exact lv_aloadN hx hb hd (hl.2.2.2 _ _ hg) (k _ hl)
    · cases h
  · unfold j_stI at h
    split at h
    · obtain ⟨l1, h1, he⟩ := Option.map_eq_some_iff.mp h
      cases he
      exact lv_istore_n (lv := j_lvl sc bs l) hx hb hd rfl hl.has (by have := j_set1_lt h1; have := hl.2.1; omega) rfl (fun ls' h' => k ls' (j_set1_ok hl h1 rfl h'))
    · cases h
  · unfold j_stI at h
    split at h
    · obtain ⟨l1, h1, he⟩ := Option.map_eq_some_iff.mp h
      cases he
      exact lv_istore (lv := j_lvl sc bs l) hx hb hd hl.has (by have := j_set1_lt h1; have := hl.2.1; omega) rfl (fun ls' h' => k ls' (j_set1_ok hl h1 rfl h'))
    · cases h
  · unfold j_stL at h
    split at h
    · obtain ⟨l1, h1, he⟩ := Option.map_eq_some_iff.mp h
      cases he
      exact lv_lstore_n (lv := j_lvl sc bs l) hx hb hd rfl hl.has (by have := j_set2_lt h1; have := hl.2.1; omega) rfl (fun ls' h' => k ls' (j_set2_ok hl h1 rfl h'))
    · cases h
  · unfold j_stL at h
    split at h
    · obtain ⟨l1, h1, he⟩ := Option.map_eq_some_iff.mp h
      cases he
      exact lv_lstore (lv := j_lvl sc bs l) hx hb hd hl.has (by have := j_set2_lt h1; have := hl.2.1; omega) rfl (fun ls' h' => k ls' (j_set2_ok hl h1 rfl h'))
    · cases h
  · unfold j_stA at h
    split at h
    · obtain ⟨l1, h1, he⟩ := Option.map_eq_some_iff.mp h
      cases he
      exact lv_astore_n (lv := j_lvl sc bs l) hx hb hd rfl hl.has (by have := j_set1_lt h1; have := hl.2.1; omega) rfl (fun ls' h' => k ls' (j_set1_ok hl h1 rfl h'))
    · obtain ⟨l1, h1, he⟩ := Option.map_eq_some_iff.mp h
      cases he
      exact lv_astore_nN (lv := j_lvl sc bs l) hx hb hd rfl hl.has (by have := j_set1_lt h1; have := hl.2.1; omega) rfl (fun ls' h' => k ls' (j_set1_ok hl h1 rfl h'))
    · cases h
  · unfold j_stA at h
    split at h
    · obtain ⟨l1, h1, he⟩ := Option.map_eq_some_iff.mp h
      cases he
      exact lv_astore (lv := j_lvl sc bs l) hx hb hd hl.has (by have := j_set1_lt h1; have := hl.2.1; omega) rfl (fun ls' h' => k ls' (j_set1_ok hl h1 rfl h'))
    · obtain ⟨l1, h1, he⟩ := Option.map_eq_some_iff.mp h
      cases he
      exact lv_astoreN (lv := j_lvl sc bs l) hx hb hd hl.has (by have := j_set1_lt h1; have := hl.2.1; omega) rfl (fun ls' h' => k ls' (j_set1_ok hl h1 rfl h'))
    · cases h
  · unfold j_inc at h
    split at h
    · rename_i x hg
      obtain ⟨l1, h1, he⟩ := Option.map_eq_some_iff.mp h
      cases he
      obtain ⟨kk, hkk⟩ := List.getElem?_of_mem (j_lvl_mem (sc := sc) (bs := bs) hg)
      exact lv_iinc (lv := j_lvl sc bs l) hx hb hd hl.has hkk rfl (by have := j_set1_lt h1; have := hl.2.1; omega) rfl (fun ls' h' => k ls' (j_set1_ok hl h1 rfl h'))
    · cases h
  · cases h
end JBR
