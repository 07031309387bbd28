/-! THE CLAIM OUT OF ONE WALK OF THE LAW'S BODY. Your part is whole_start (and what it stands on); all else here is the same for every law, but numbers. -/
def R_law : String := "JumpFlowsLaw"
def lw_P (b : Addr) (xs : List Int32) (args : Array Value) (s : State) : Prop := args = #[.ref b] ∧ s.IntsAt b xs ∧ xs.length ≤ 3072 ∧ (Jvm.Cond.and given_1 narrow_1).before args s = true
def lw_Q (_ : Array Value) (s : State) (o : Outcome) (t : State) : Prop := o = .returned (some (.int 1)) ∧ Framed s o t [] 600000 7302250
def lw_Z (below : List Frame) (a : Array Value) (s : State) : State → Prop := fun t => ∃ o, t.status = .running ∧ Ended t below o ∧ lw_Q a s o t
/-- the law's own end, with 1 on the stack, nothing written that was there before, its room as the claim has it -/
theorem lw_ret {p : Program} {l : Launch} {e : Env} {s : State} {m : MethodId} {below : List Frame} {meth : Method} {c : Code} {b : Nat} (hx : p.tables.exec = Jvm.exec) (hb : c.code = code) (hr : meth.sig.returnType = ret) (hlocks : meth.locks = false) {pc : Nat} {H : Heap} {ls : Array Slot} (hdg : decode code pc = .ok (.ireturn, 1)) : W p l e room_1 s m #[Value.ref b] below meth c H [] 600000 7302250 (lw_Z below #[Value.ref b] s) (F0 m pc ls [.int 1]) := by
  intro T hT X
  obtain ⟨fs, hret, hrun, hended, hW, hframe⟩ := X.leave (v := some (.int 1)) (hlocks := hlocks) (fun h => by rw [hr] at h; cases h)
  have hmeth' : T.vm.method? m = some meth := X.method'
  refine ⟨T.setFrames fs, ?_, .returned (some (.int 1)), hrun, hended, rfl, ⟨_, rfl⟩, hW, hframe⟩
  jvm_step X.here [X.here.top, hx, hb, hdg, hmeth', hr, ret, narrow_b1]
  (try refine ⟨rfl, ?_⟩); (try refine ⟨rfl, ?_⟩)
  first | (intro acts; rw [hret _ acts rfl rfl rfl]) | rw [hret _ _ rfl rfl rfl]
  exact Steps.refl _
/-- what holds at the law's entry: the machine, the code, the tables' words (any of lw_tbl by 'hts w (by decide +kernel)'), the script of L ints xs at the cell b, what the Statement gives of the start (any of its parts by flat_of_before) -/
def lw_At (p : Program) (s : State) (m : MethodId) (meth : Method) (c : Code) (b L : Nat) (xs : Nat → Int32) : Prop :=
  p.tables.exec = Jvm.exec ∧ c.code = code ∧ meth.sig.returnType = ret ∧ c.maxLocals = 4 ∧ s.vm.findClass R_law = some m.cls ∧ (∀ w ∈ lw_tbl, w.before #[Value.ref b] s = true) ∧ va_X b L xs s s.heap ∧ b < s.heap.size ∧ meth.locks = false ∧ (Jvm.Cond.and given_1 narrow_1).before #[Value.ref b] s = true
theorem j_law_facts : j_co 173 = code ∧ j_mx 173 = 4 ∧ j_mc 173 = 12 ∧ j_cname 12 = R_law ∧ (j_nm 173).name = "law" := ⟨rfl, rfl, rfl, rfl, rfl⟩
theorem j_aoW : Cond.arrayOver (.object "JumpFlows$Mode") ∈ lw_tbl ∧ Cond.arrayOver (.object "JumpFlows$Jump") ∈ lw_tbl ∧ Cond.arrayOver (.object "JumpFlows$Heap") ∈ lw_tbl ∧ Cond.arrayOver (.object "JumpFlows$Sheet") ∈ lw_tbl := ⟨List.mem_of_getElem? (i := 76) (by decide +kernel), List.mem_of_getElem? (i := 78) (by decide +kernel), List.mem_of_getElem? (i := 222) (by decide +kernel), List.mem_of_getElem? (i := 373) (by decide +kernel)⟩
theorem j_arr_prim {s : State} {args : Array Value} {ty : FieldType} (h : (Cond.arrayClass ty).before args s = true) (hty : ∀ C, ty ≠ .object C) : ∃ cA, ArrOfT s cA ty ∧ va_RA s cA ty := by
  obtain ⟨cA, kA, comp, h1, h2, h3⟩ := Cond.arrayClass_spec h
  refine ⟨cA, fun n z => ⟨fun k h => (by cases h), kA, h2, comp, h3⟩, ?_⟩
  cases ty with
  | object C => exact absurd rfl (hty C)
  | _ => exact h1
theorem j_arr_ref {s : State} {args : Array Value} {C : String} (h : (Cond.arrayOver (.object C)).before args s = true) : ∃ cA, ArrOfT s cA (.object C) ∧ va_RA s cA (.object C) := by
  obtain ⟨comp, cA, kA, h1, -, h3, h4, h5⟩ := Cond.arrayOver_spec h
  exact ⟨cA, fun n z => ⟨fun k h => (by cases h), kA, h3, comp, h4⟩, kA, comp, h3, h4, h1, h5⟩
/-- the tables' facts at the law's entry -/
theorem j_G_at {s : State} {args : Array Value} (hts : ∀ w ∈ lw_tbl, w.before args s = true) : ∃ D dA, j_G D dA s := by
  have hT : ∀ w ∈ jT, w.before args s = true := fun w hw => hts w (jT_in hw)
  have h1 : ∀ c : Nat, ∃ q : ClassId × (Nat → Nat), ∀ r, j_cl[c]? = some r → u_Kn s r.1 r.2.1 r.2.2 q.1 q.2 := by
    intro c
    cases hr : j_cl[c]? with
    | none => exact ⟨(0, fun _ => 0), fun r h => by cases h⟩
    | some r =>
      obtain ⟨cC, iS, h⟩ := u_known hT (j_ly_in hr) (hts _ (j_isp_in hr))
      exact ⟨(cC, iS), fun r' h' => by cases h'; exact h⟩
  have h2 : ∀ t : Nat, ∃ cA : ClassId, ∀ ty, j_tyN[t]? = some ty → ArrOfT s cA ty ∧ va_RA s cA ty := by
    intro t
    cases hty : j_tyN[t]? with
    | none => exact ⟨0, fun ty h => by cases h⟩
    | some ty =>
      have : ∃ cA, ArrOfT s cA ty ∧ va_RA s cA ty := by
        match t, hty with
        | 0, hty => cases hty; exact j_arr_prim (hts _ j_arrC.1) (fun C h => by cases h)
        | 1, hty => cases hty; exact j_arr_prim (hts _ j_arrC.2.1) (fun C h => by cases h)
        | 2, hty => cases hty; exact j_arr_prim (hts _ j_arrC.2.2) (fun C h => by cases h)
        | 3, hty => cases hty; exact j_arr_ref (hts _ j_aoW.1)
        | 4, hty => cases hty; exact j_arr_ref (hts _ j_aoW.2.1)
        | 5, hty => cases hty; exact j_arr_ref (hts _ j_aoW.2.2.1)
        | 6, hty => cases hty; exact j_arr_ref (hts _ j_aoW.2.2.2)
        | t + 7, hty => simp [j_tyN] at hty
      obtain ⟨cA, h⟩ := this
      exact ⟨cA, fun ty' h' => by cases h'; exact h⟩
  refine ⟨(fun c => (Classical.choose (h1 c)).1, fun c => (Classical.choose (h1 c)).2), fun t => Classical.choose (h2 t), ⟨fun c r hr => Classical.choose_spec (h1 c) r hr, fun t q hq => ?_⟩, fun w hw hn => ?_, fun c hc => ?_⟩
  · have h3 : ∃ ty, j_tyN[t]? = some ty ∧ q = (Classical.choose (h2 t), ty) := by
      match t, hq with
      | 0, hq => exact ⟨_, rfl, (Option.some.inj hq).symm⟩
      | 1, hq => exact ⟨_, rfl, (Option.some.inj hq).symm⟩
      | 2, hq => exact ⟨_, rfl, (Option.some.inj hq).symm⟩
      | 3, hq => exact ⟨_, rfl, (Option.some.inj hq).symm⟩
      | 4, hq => exact ⟨_, rfl, (Option.some.inj hq).symm⟩
      | 5, hq => exact ⟨_, rfl, (Option.some.inj hq).symm⟩
      | 6, hq => exact ⟨_, rfl, (Option.some.inj hq).symm⟩
      | t + 7, hq => simp [j_tys] at hq
    obtain ⟨ty, h4, rfl⟩ := h3
    exact Classical.choose_spec (h2 t) ty h4
  · have h3 := hts w hw
    cases w <;> first | exact Bool.noConfusion hn | exact va_Nw.of rfl h3
  · have h4 : c = 6 ∨ c = 4 ∨ c = 3 ∨ c = 8 := by simpa [j_rc] using hc
    rcases h4 with rfl | rfl | rfl | rfl
    · exact va_AO.of (hts _ j_aoW.1)
    · exact va_AO.of (hts _ j_aoW.2.1)
    · exact va_AO.of (hts _ j_aoW.2.2.1)
    · exact va_AO.of (hts _ j_aoW.2.2.2)
/-- what is left to show of the little machine -/
def j_Pure : Prop := ∀ xs : List Int32, xs.length ≤ 3072 → ∃ n w', j_run n 9 173 0 (j_ent 173 [.ref 0]) [] [(107, xs.map Value.int)] = some (some (.int 1), w') ∧ j_cnt w' ≤ 600000 ∧ j_slt w' ≤ 7302250
theorem j_start_of (hp : j_Pure) {p : Program} {e : Env} {s : State} {m : MethodId} {below : List Frame} {meth : Method} {c : Code} (l : Launch) {b L : Nat} {xs : Nat → Int32} (hL : L ≤ 3072) (C0 : lw_At p s m meth c b L xs) : W p l e room_1 s m #[Value.ref b] below meth c s.heap [] 0 0 (lw_Z below #[Value.ref b] s) (entryFrame m ([Value.ref b] : List Value).toArray 4) := by
  obtain ⟨hx, hb, hr, hml, hown, hts, hX, hbl, hlocks, hgv⟩ := id C0
  obtain ⟨D, dA, hG⟩ := j_G_at hts
  obtain ⟨n, w', hrun, hc1, hs1⟩ := hp ((List.range L).map xs) (by simpa using hL)
  have hlen : (((List.range L).map xs).map Value.int).length = L := by simp
  have hX' : va_X b (((List.range L).map xs).map Value.int).length (fun j => j_iv ((((List.range L).map xs).map Value.int).getD j .null)) s s.heap := by
    obtain ⟨scr, h1, h2, h3, h4, h5⟩ := hX
    refine ⟨scr, h1, h2, h3, by rw [hlen]; exact h4, fun j hj => ?_⟩
    rw [hlen] at hj
    rw [h5 j hj]
    simp [hj, j_iv]
  have hC : j_Cx p s m #[Value.ref b] meth c 173 b s.heap.size D dA (((List.range L).map xs).map Value.int) :=
    ⟨hx, hb.trans j_law_facts.1.symm, hml.trans j_law_facts.2.1.symm, by rw [j_law_facts.2.2.1, j_law_facts.2.2.2.1]; exact hown, fun w hw => hts w (jT_in hw), hG, hX', hbl, Nat.le_refl _, fun h => by rw [j_law_facts.2.2.2.2] at h; exact absurd h (by decide)⟩
  have hz : j_Rz b s.heap.size D dA (((List.range L).map xs).map Value.int) [(107, ((List.range L).map xs).map Value.int)] s.heap := ⟨[], rfl, fun i e h => by simp at h, rfl⟩
  have hLR : j_LR b s.heap.size (j_mx 173) _ (j_ent 173 [.ref 0]) := j_ent_LR (sc := b) (bs := s.heap.size) (y := 173) (as := [.ref 0]) (by decide +kernel)
  rw [lg_entry_eq]
  have hcnt : j_cnt [(107, ((List.range L).map xs).map Value.int)] = 1 := rfl
  refine j_snd_all n 9 173 0 (j_ent 173 [.ref 0]) [] _ _ _ hrun p l e room_1 s m #[Value.ref b] below meth c s.heap [] 0 0 _ _ b s.heap.size D dA _ hC hz va_S.rf hLR (Nat.le_refl 9) (by show 32 * 9 ≤ 330; omega) (by show 0 + j_cnt w' ≤ 600000 + _; omega) (by show 0 + j_slt w' ≤ 7302250 + _; omega) ?_
  intro H' locs' lsA' pc' cells' slots' e1 e2 hz' hS' hk
  refine va_forget hS'.2.2 (W.widen (k := 600000) (n := 7302250) (by omega) (by omega) ?_)
  obtain ⟨i, k, hdec, hret⟩ := hk
  rw [j_law_facts.1] at hdec
  have hik : i = .ireturn ∧ k = 1 := by
    unfold j_ret at hret
    split at hret
    · split at hret
      · rename_i hc
        exact ⟨rfl, hc.1⟩
      · cases hret
    all_goals first
      | (rename_i hq; cases hq; done)
      | (cases hret; done)
      | (split at hret <;> cases hret)
  obtain ⟨rfl, rfl⟩ := hik
  exact lw_ret hx hb hr hlocks hdec
