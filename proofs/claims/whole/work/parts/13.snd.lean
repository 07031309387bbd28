/-! WHAT THE LITTLE MACHINE RUNS, THE REAL ONE RUNS -/
theorem j_lay_args {sc bs : Nat} : ∀ (as : List Value) (i j : Nat) (v : Value), (j_lay as)[j]? = some (some v) → (i + j, j_av sc bs v) ∈ lv_args i (as.map (j_av sc bs)) := by
  intro as
  induction as with
  | nil => intro i j v h; simp [j_lay] at h
  | cons u as ih =>
    intro i j v h
    unfold j_lay at h
    simp only [List.map_cons, lv_args, j_av_cat]
    split at h
    · rename_i hc
      rw [if_pos hc]
      match j, h with
      | 0, h => cases h; exact List.mem_cons_self
      | 1, h => cases h
      | j + 2, h =>
        have := ih (i + 2) j v h
        rw [show i + (j + 2) = i + 2 + j by omega]
        exact List.mem_cons_of_mem _ this
    · rename_i hc
      rw [if_neg hc]
      match j, h with
      | 0, h => cases h; exact List.mem_cons_self
      | j + 1, h =>
        have := ih (i + 1) j v h
        rw [show i + (j + 1) = i + 1 + j by omega]
        exact List.mem_cons_of_mem _ this
theorem j_lay_len {sc bs : Nat} : ∀ (as : List Value), (lg_sl (as.map (j_av sc bs))).length = (j_lay as).length := by
  intro as
  induction as with
  | nil => rfl
  | cons u as ih =>
    unfold j_lay
    have h1 : lg_sl ((u :: as).map (j_av sc bs)) = (if (j_av sc bs u).category = 2 then [Slot.val (j_av sc bs u), Slot.second] else [Slot.val (j_av sc bs u)]) ++ lg_sl (as.map (j_av sc bs)) := by simp [lg_sl]
    rw [h1, List.length_append, ih, j_av_cat]
    split <;> simp <;> omega
theorem j_ent_get {y : Nat} {as : List Value} {j : Nat} {v : Value} (h : j_get (j_ent y as) j = some v) : (j_lay as)[j]? = some (some v) := by
  unfold j_get j_ent at h
  split at h
  · rename_i o ho
    subst h
    by_cases hl : j < (j_lay as).length
    · rw [List.getElem?_append_left hl] at ho
      exact ho
    · rw [List.getElem?_append_right (by omega)] at ho
      have h2 := List.mem_of_getElem? ho
      have h3 := List.eq_of_mem_replicate h2
      cases h3
  · cases h
theorem j_ent_LR {sc bs y : Nat} {as : List Value} (h : (j_lay as).length ≤ j_mx y) : j_LR sc bs (j_mx y) ((lg_sl (as.map (j_av sc bs)) ++ List.replicate (j_mx y - (lg_sl (as.map (j_av sc bs))).length) Slot.unset).toArray) (j_ent y as) := by
  obtain ⟨h1, h2, h3⟩ := lv_entry (as.map (j_av sc bs)) (n := j_mx y) (by rw [j_lay_len]; exact h)
  refine ⟨h1, ?_, h2, fun j v hj => ?_⟩
  · unfold j_ent
    rw [List.length_append, List.length_replicate]
    omega
  · have h4 := j_lay_args (sc := sc) (bs := bs) as 0 j v (j_ent_get hj)
    rw [Nat.zero_add] at h4
    exact h3 _ h4
def j_Pw (sc bs : Nat) (D : va_G) (dA : Nat → ClassId) (xs : List Value) (w : jW) (U : State) : Prop := j_Rz sc bs D dA xs w U.heap ∧ va_X sc xs.length (fun j => j_iv (xs.getD j .null)) U U.heap ∧ j_G D dA U ∧ sc < bs ∧ bs ≤ U.heap.size
def j_Qw (sc bs : Nat) (D : va_G) (dA : Nat → ClassId) (xs : List Value) (v : Option Value) (w' : jW) : Array Value → State → Outcome → State → Prop := fun _ st o t => o = .returned (v.map (j_av sc bs)) ∧ j_Rz sc bs D dA xs w' t.heap ∧ va_F (fun q => bs ≤ q) st t
theorem j_blind (sc bs : Nat) (D : va_G) (dA : Nat → ClassId) (xs : List Value) (w : jW) (as : List Value) : FrameBlind (va_Pc as (j_Pw sc bs D dA xs w)) := by
  intro a U g mk h
  obtain ⟨h0, h1, h2, h3, h4⟩ := h
  exact ⟨h0, h1, h2.moved (u := U) (U := U.calling g mk a) (Vm.Alike.refl U.vm), h3.same (s := U) (U := U.calling g mk a) rfl, h4⟩
/-- how a method comes back -/
def j_rk (y pc : Nat) (v : Option Value) : Prop := ∃ i n, decode (j_co y) pc = .ok (i, n) ∧ j_ret y i n v.toList = some v
def j_Snd (n : Nat) : Prop := ∀ (d y pc : Nat) (ls : jL) (st : List Value) (w : jW) (v : Option Value) (w' : jW), j_run n d y pc ls st w = some (v, w') →
  ∀ (p : Program) (l : Launch) (e : Env) (R : Room) (s : State) (m : MethodId) (args : Array Value) (below : List Frame) (meth : Method) (c : Code) (H : Heap) (locs : List Loc) (cells slots : Nat) (Q : State → Prop) (lsA : Array Slot) (sc bs : Nat) (D : va_G) (dA : Nat → ClassId) (xs : List Value),
  j_Cx p s m args meth c y sc bs D dA xs → j_Rz sc bs D dA xs w H → va_S (fun q => bs ≤ q) s.heap H locs → j_LR sc bs (j_mx y) lsA ls → d ≤ R.frames → 32 * d ≤ R.locals → cells + j_cnt w' ≤ R.cells + j_cnt w → slots + j_slt w' ≤ R.slots + j_slt w →
  (∀ (H' : Heap) (locs' : List Loc) (lsA' : Array Slot) (pc' cells' slots' : Nat), cells' + j_cnt w = cells + j_cnt w' → slots' + j_slt w = slots + j_slt w' → j_Rz sc bs D dA xs w' H' → va_S (fun q => bs ≤ q) s.heap H' locs' → j_rk y pc' v → W p l e R s m args below meth c H' locs' cells' slots' Q (F0 m pc' lsA' (v.toList.map (j_av sc bs)))) →
  W p l e R s m args below meth c H locs cells slots Q (F0 m pc lsA (st.map (j_av sc bs)))
theorem j_ret_st {y n : Nat} {i : Instr} {st : List Value} {v : Option Value} (h : j_ret y i n st = some v) : st = v.toList := by
  unfold j_ret at h
  split at h
  all_goals first
    | (split at h <;> cases h; rfl)
    | cases h
theorem j_met_of {n : Nat} (ih : j_Snd n) (l : Launch) {d y : Nat} {as : List Value} {w w' : jW} {v : Option Value} (hr : j_run n d y 0 (j_ent y as) [] w = some (v, w')) (hy : y < j_N) (hm : j_mOk y = true) (hlay : (j_lay as).length ≤ j_mx y) (sc bs : Nat) (D : va_G) (dA : Nat → ClassId) (xs : List Value) :
    Met l (j_nm y) (j_cw y :: jT) ({ frames := d, cells := j_cnt w' - j_cnt w, slots := j_slt w' - j_slt w, locals := 32 * d }) (va_Pc (as.map (j_av sc bs)) (j_Pw sc bs D dA xs w)) (j_Qw sc bs D dA xs v w') (j_cnt w' - j_cnt w) (j_slt w' - j_slt w) (fun q => bs ≤ q) := by
  refine Met.ofW (cc := j_co y) (maxL := j_mx y) (ret := j_rt y) (j_m hm).2.2.1 rfl ?_
  intro p e s m args below meth c s₁ B hml hv
  obtain ⟨rfl, hz, hX, hG, hsc, hbs⟩ := hv
  have hts := atoms_spec (ws := j_cw y :: jT) B.pre
  have hmono := j_run_mono _ _ _ _ _ _ _ _ hr
  have hown : s.vm.findClass (j_cname (j_mc y)) = some m.cls := by rw [← (j_m hm).1]; exact findClass_of_methodNamed B.named
  have hC : j_Cx p s m ((as.map (j_av sc bs)).toArray) meth c y sc bs D dA xs := ⟨B.exec, B.bytes, hml, hown, fun w hw => hts w (List.mem_cons_of_mem _ hw), hG, hX, hsc, hbs, fun h => (name_of_methodNamed B.named B.method).1.trans h⟩
  rw [lg_entry_eq]
  have hlk := B.notSynchronized
  have hx := B.exec
  have hb := B.bytes
  have hrt := B.returns
  refine ih d y 0 (j_ent y as) [] w v w' hr p l e _ s m _ below meth c s.heap [] 0 0 _ _ sc bs D dA xs hC hz va_S.rf (j_ent_LR hlay) (Nat.le_refl d) (Nat.le_refl _) (by show 0 + j_cnt w' ≤ (j_cnt w' - j_cnt w) + j_cnt w; omega) (by show 0 + j_slt w' ≤ (j_slt w' - j_slt w) + j_slt w; omega) ?_
  intro H' locs' lsA' pc' cells' slots' hc' hs' hz' hS' hk
  refine W.cs (cells' := j_cnt w' - j_cnt w) (slots' := j_slt w' - j_slt w) (by omega) (by omega) ?_
  have fin : ∀ (o : Option Value), o = v.map (j_av sc bs) → ∀ t : State, t.heap = H' → s.WarmedH t.vm → j_Qw sc bs D dA xs v w' (as.map (j_av sc bs)).toArray s (.returned o) t := fun o ho t ht _ => ⟨by rw [ho], by rw [ht]; exact hz', hS'.F ht⟩
  obtain ⟨i, k, hdec, hret⟩ := hk
  unfold j_ret at hret
  split at hret
  · rename_i x hst
    split at hret
    · rename_i hc
      cases hret
      obtain ⟨rfl, hc⟩ := hc
      rcases hc with hc | ⟨hc, hx01⟩
      · exact W.iret hx hb (hrt.trans hc) (fin _ rfl) hS'.2.2 hdec hlk
      · exact W.zret (ty := .boolean) hx hb (hrt.trans hc) (by rcases hx01 with rfl | rfl <;> rfl) (fin _ rfl) hS'.2.2 hdec hlk
    · cases hret
  · rename_i a hst
    split at hret
    · rename_i hc
      cases hret
      obtain ⟨rfl, hc⟩ := hc
      cases hq : j_rt y with
      | none => rw [hq] at hc; cases hc
      | some rt =>
        exact W.aret hx hb (hrt.trans hq) (by rw [hq] at hc; cases rt <;> first | exact Or.inl ⟨_, rfl⟩ | exact Or.inr ⟨_, rfl⟩ | cases hc) (Or.inr ⟨_, rfl⟩) (fin _ rfl) hS'.2.2 hdec hlk
    · cases hret
  · rename_i hst
    split at hret
    · rename_i hc
      cases hret
      obtain ⟨rfl, hc⟩ := hc
      cases hq : j_rt y with
      | none => rw [hq] at hc; cases hc
      | some rt =>
        exact W.aret hx hb (hrt.trans hq) (by rw [hq] at hc; cases rt <;> first | exact Or.inl ⟨_, rfl⟩ | exact Or.inr ⟨_, rfl⟩ | cases hc) (Or.inl rfl) (fin _ rfl) hS'.2.2 hdec hlk
    · cases hret
  · rename_i hst
    split at hret
    · rename_i hc
      cases hret
      obtain ⟨rfl, hc⟩ := hc
      exact W.vret hx hb (hrt.trans hc) (fin _ rfl) hS'.2.2 hdec hlk
    · cases hret
  · cases hret
section JSN
variable {p : Program} {l : Launch} {e : Env} {R : Room} {s : State} {m : MethodId} {args : Array Value} {below : List Frame} {meth : Method} {c : Code} {H : Heap} {locs : List Loc} {cells slots : Nat} {Q : State → Prop}
variable {pc : Nat} {ls : Array Slot} {y sc bs : Nat} {D : va_G} {dA : Nat → ClassId} {xs : List Value}
theorem j_after {mc ms : Nat} {st0 rest : List Value} {v : Option Value} {w' : jW} {a : Array Value} (hr : va_Run p l e R s m args below meth c H locs cells slots mc ms (F0 m pc ls st0) rest (j_Qw sc bs D dA xs v w' a) (fun q => bs ≤ q)) (hS : va_S (fun q => bs ≤ q) s.heap H locs)
    (k : ∀ (H1 : Heap) (locs1 : List Loc), j_Rz sc bs D dA xs w' H1 → va_S (fun q => bs ≤ q) s.heap H1 locs1 → W p l e R s m args below meth c H1 locs1 (cells + mc) (slots + ms) Q (F0 m (pc + 3) ls ((v.map (j_av sc bs)).toList ++ rest))) : W p l e R s m args below meth c H locs cells slots Q (F0 m pc ls st0) := by
  intro T hT X
  obtain ⟨v', st₀, t, T', L, h0, X', hL, e1, e2, ⟨hv, hz, hz1, hz2⟩, st⟩ := hr T hT X
  cases hv
  rw [h0] at hz1 hz2
  obtain ⟨t2, a1, b1⟩ := k T'.heap (locs ++ L) (by rw [e1]; exact hz) ⟨Nat.le_trans hS.1 (by rw [e1]; exact hz1), fun q h1 h2 => by rw [e1, hz2 q (Nat.lt_of_lt_of_le h1 hS.1) h2]; exact hS.2.1 q h1 h2, fun q hq => by
      rcases List.mem_append.mp hq with h | h
      · exact hS.2.2 q h
      · exact hL q h⟩ T' rfl X'
  exact ⟨t2, st t2 a1, b1⟩
theorem j_av_toList (v : Option Value) : (v.map (j_av sc bs)).toList = v.toList.map (j_av sc bs) := by cases v <;> rfl
theorem j_sumc_av (st : List Value) : ((st.map (j_av sc bs)).map fun v => v.category).sum = j_sumc st := by
  unfold j_sumc
  rw [List.map_map]
  congr 1
  apply List.map_congr_left
  intro v _
  exact j_av_cat sc bs v
end JSN
