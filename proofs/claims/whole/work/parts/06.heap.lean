/-! THE WORLD of the little machine: cells by number; the script is number 0 (read only) -/
def j_rc : List Nat := [6, 4, 3, 8]
def j_iv : Value → Int32
  | .int x => x
  | _ => 0
def j_cnt (w : jW) : Nat := w.length
def j_slt (w : jW) : Nat := (w.map (fun e => e.2.length)).sum
theorem j_slt_set {w : jW} {a t t' : Nat} {vs vs' : List Value} (h : w[a]? = some (t, vs)) (hl : vs'.length = vs.length) : j_slt (w.set a (t', vs')) = j_slt w := by
  unfold j_slt
  induction w generalizing a with
  | nil => cases h
  | cons e w ih =>
    cases a with
    | zero =>
      cases h
      simp [hl]
    | succ a =>
      have h3 := ih (a := a) h
      simp only [List.set_cons_succ, List.map_cons, List.sum_cons, h3]
theorem j_slt_push (w : jW) (e : jE) : j_slt (w ++ [e]) = j_slt w + e.2.length := by simp [j_slt]
/-! heap instructions -/
def j_kind (c k : Nat) : Nat := match j_fk[c]? with
  | some l => l.getD k 9
  | none => 9
def j_fits (kd : Nat) : Value → Bool
  | .int x => kd == 0 || (kd == 1 && (x == 0 || x == 1))
  | .ref _ => kd == 2
  | .null => kd == 2
  | _ => false
def j_fin (c k : Nat) : Bool := match j_cl[c]? with
  | some r => (r.2.1 k).2.2.2
  | none => true
def j_dflt (c : Nat) : List Value := (j_fk.getD c []).map (fun kd => if kd = 2 then .null else .int 0)
def j_hp (y : Nat) (w : jW) : Instr → List Value → Option (List Value × jW)
  | .getfield i, .ref a :: st => match j_lk j_fl (j_mc y) i, w[a]? with
    | some (c, k, _), some (t, vs) => if t = c then (vs[k]?).map (fun v => (v :: st, w)) else none
    | _, _ => none
  | .putfield i, v :: .ref a :: st => match j_lk j_fl (j_mc y) i, w[a]? with
    | some (c, k, b), some (t, vs) => if t = c ∧ k < vs.length ∧ j_fits (j_kind c k) v = true ∧ (j_fin c k = false ∨ ((j_nm y).name = "<init>" ∧ c = j_mc y ∧ b = false)) then some (st, w.set a (t, vs.set k v)) else none
    | _, _ => none
  | .arraylength, .ref a :: st => match w[a]? with
    | some (t, vs) => if 100 ≤ t ∧ (t ≤ 106 ∨ (a = 0 ∧ t = 107)) then some (.int (Int32.ofNat vs.length) :: st, w) else none
    | none => none
  | .iaload, .int i :: .ref a :: st => match w[a]? with
    | some (t, vs) => if (t = 100 ∨ (a = 0 ∧ t = 107)) ∧ ¬ (i < 0 ∨ vs.length ≤ i.toNatClampNeg) then match vs[i.toNatClampNeg]? with
      | some (.int x) => some (.int x :: st, w)
      | _ => none
      else none
    | none => none
  | .baload, .int i :: .ref a :: st => match w[a]? with
    | some (t, vs) => if t = 101 ∧ ¬ (i < 0 ∨ vs.length ≤ i.toNatClampNeg) then match vs[i.toNatClampNeg]? with
      | some (.int x) => some (.int x :: st, w)
      | _ => none
      else none
    | none => none
  | .laload, .int i :: .ref a :: st => match w[a]? with
    | some (t, vs) => if t = 102 ∧ ¬ (i < 0 ∨ vs.length ≤ i.toNatClampNeg) then match vs[i.toNatClampNeg]? with
      | some (.long x) => some (.long x :: st, w)
      | _ => none
      else none
    | none => none
  | .aaload, .int i :: .ref a :: st => match w[a]? with
    | some (t, vs) => if 103 ≤ t ∧ t ≤ 106 ∧ ¬ (i < 0 ∨ vs.length ≤ i.toNatClampNeg) then match vs[i.toNatClampNeg]? with
      | some (.ref x) => some (.ref x :: st, w)
      | some .null => some (.null :: st, w)
      | _ => none
      else none
    | none => none
  | .iastore, .int x :: .int i :: .ref a :: st => match w[a]? with
    | some (t, vs) => if t = 100 ∧ ¬ (i < 0 ∨ vs.length ≤ i.toNatClampNeg) then some (st, w.set a (t, vs.set i.toNatClampNeg (.int x))) else none
    | none => none
  | .bastore, .int x :: .int i :: .ref a :: st => match w[a]? with
    | some (t, vs) => if t = 101 ∧ ¬ (i < 0 ∨ vs.length ≤ i.toNatClampNeg) ∧ (x = 0 ∨ x = 1) then some (st, w.set a (t, vs.set i.toNatClampNeg (.int x))) else none
    | none => none
  | .lastore, .long x :: .int i :: .ref a :: st => match w[a]? with
    | some (t, vs) => if t = 102 ∧ ¬ (i < 0 ∨ vs.length ≤ i.toNatClampNeg) then some (st, w.set a (t, vs.set i.toNatClampNeg (.long x))) else none
    | none => none
  | .aastore, .ref x :: .int i :: .ref a :: st => match w[a]?, w[x]? with
    | some (t, vs), some (u, _) => if 103 ≤ t ∧ t ≤ 106 ∧ ¬ (i < 0 ∨ vs.length ≤ i.toNatClampNeg) ∧ j_rc[t - 103]? = some u then some (st, w.set a (t, vs.set i.toNatClampNeg (.ref x))) else none
    | _, _ => none
  | .new i, st => match j_lk j_nw (j_mc y) i with
    | some c => if c < 12 then some (.ref w.length :: st, w ++ [(c, j_dflt c)]) else none
    | none => none
  | .newarray .int, .int n :: st => if ¬ n < 0 ∧ n.toNatClampNeg ≤ 1000 then some (.ref w.length :: st, w ++ [(100, List.replicate n.toNatClampNeg (.int 0))]) else none
  | .newarray .boolean, .int n :: st => if ¬ n < 0 ∧ n.toNatClampNeg ≤ 1000 then some (.ref w.length :: st, w ++ [(101, List.replicate n.toNatClampNeg (.int 0))]) else none
  | .newarray .long, .int n :: st => if ¬ n < 0 ∧ n.toNatClampNeg ≤ 1000 then some (.ref w.length :: st, w ++ [(102, List.replicate n.toNatClampNeg (.long 0))]) else none
  | .anewarray i, .int n :: st => match j_lk j_nw (j_mc y) i with
    | some c => if ¬ n < 0 ∧ n.toNatClampNeg ≤ 1000 ∧ j_rc.contains c = true then some (.ref w.length :: st, w ++ [(103 + j_rc.idxOf c, List.replicate n.toNatClampNeg .null)]) else none
    | none => none
  | .ldc2_w i, st => match j_lk j_kl (j_mc y) i with
    | some v => some (.long v :: st, w)
    | none => none
  | _, _ => none
def j_Nest : Cond → Bool
  | .fieldLinkNest .. => true
  | .methodLinkNest .. => true
  | _ => false
def j_tys (dA : Nat → ClassId) : List (ClassId × FieldType) := [(dA 0, .int), (dA 1, .boolean), (dA 2, .long), (dA 3, .object "JumpFlows$Mode"), (dA 4, .object "JumpFlows$Jump"), (dA 5, .object "JumpFlows$Heap"), (dA 6, .object "JumpFlows$Sheet")]
/-- what the tables say at a state, for good -/
def j_G (D : va_G) (dA : Nat → ClassId) (U : State) : Prop := va_K D j_cl (j_tys dA) U ∧ (∀ w ∈ lw_tbl, j_Nest w = true → va_Nw w U) ∧ ∀ c ∈ j_rc, va_AO (j_cname c) U
theorem j_G.warm {D : va_G} {dA : Nat → ClassId} {s U : State} (hW : s.WarmedH U.vm) (h : j_G D dA s) : j_G D dA U := by
  refine ⟨h.1.moved hW.alike, fun w hw hn => ?_, fun c hc => (h.2.2 c hc).moved hW.alike⟩
  have h1 := h.2.1 w hw hn
  cases w <;> first | exact va_Nw.warmF hW h1 | exact va_Nw.warmM hW h1 | exact Bool.noConfusion hn
theorem j_G.same {D : va_G} {dA : Nat → ClassId} {s U : State} (hvm : U.vm = s.vm) (h : j_G D dA s) : j_G D dA U := by
  have ha : s.vm.Alike U.vm := by rw [hvm]; exact Vm.Alike.refl s.vm
  refine ⟨h.1.moved ha, fun w hw hn => ?_, fun c hc => (h.2.2 c hc).moved ha⟩
  have h1 := h.2.1 w hw hn
  cases w <;> first | exact Bool.noConfusion hn | exact va_Nw.same rfl hvm.symm h1
/-- a cell at its address -/
def j_cell (sc bs : Nat) (D : va_G) (dA : Nat → ClassId) (a : Nat) (e : jE) (H : Heap) : Prop :=
  if e.1 < 12 then ∃ r, j_cl[e.1]? = some r ∧ t_OB a (D.1 e.1) r.2.2 (D.2 e.1) H (vp_V (e.2.map (j_av sc bs)))
  else H[a]? = some (arrV (dA (e.1 - 100)) e.2.length (fun j => j_av sc bs (e.2.getD j .null)))
theorem j_cell.kept {sc bs : Nat} {D : va_G} {dA : Nat → ClassId} {a : Nat} {e : jE} {H H1 : Heap} (h : j_cell sc bs D dA a e H) (hq : H1[a]? = H[a]?) : j_cell sc bs D dA a e H1 := by
  unfold j_cell at h ⊢
  split
  · rename_i hc
    rw [if_pos hc] at h
    obtain ⟨r, h1, h2⟩ := h
    exact ⟨r, h1, h2.kept hq⟩
  · rename_i hc
    rw [if_neg hc] at h
    exact hq.trans h
/-- the heap holds the world -/
def j_Rz (sc bs : Nat) (D : va_G) (dA : Nat → ClassId) (xs : List Value) (w : jW) (H : Heap) : Prop := ∃ es, w = (107, xs) :: es ∧ (∀ (i : Nat) (e : jE), es[i]? = some e → j_cell sc bs D dA (bs + i) e H) ∧ H.size = bs + es.length
theorem j_Rz.at {sc bs : Nat} {D : va_G} {dA : Nat → ClassId} {xs : List Value} {w : jW} {H : Heap} (h : j_Rz sc bs D dA xs w H) {a : Nat} {e : jE} (ha : w[a]? = some e) (hn : e.1 ≠ 107) : j_cell sc bs D dA (j_ad sc bs a) e H ∧ bs ≤ j_ad sc bs a := by
  obtain ⟨es, rfl, h1, h2⟩ := h
  cases a with
  | zero =>
    cases ha
    exact absurd rfl hn
  | succ a => exact ⟨h1 a e ha, Nat.le_add_right _ _⟩
theorem j_Rz.put {sc bs : Nat} {D : va_G} {dA : Nat → ClassId} {xs : List Value} {w : jW} {H H1 : Heap} (h : j_Rz sc bs D dA xs w H) {a : Nat} {e e1 : jE} (ha : w[a]? = some e) (hn : e.1 ≠ 107) (hs : H1.size = H.size) (oq : ∀ q : Nat, q ≠ j_ad sc bs a → H1[q]? = H[q]?) (hc : j_cell sc bs D dA (j_ad sc bs a) e1 H1) : j_Rz sc bs D dA xs (w.set a e1) H1 := by
  obtain ⟨es, rfl, h1, h2⟩ := h
  cases a with
  | zero =>
    cases ha
    exact absurd rfl hn
  | succ a =>
    refine ⟨es.set a e1, rfl, fun i e2 hi => ?_, by rw [List.length_set, hs, h2]⟩
    rw [List.getElem?_set] at hi
    split at hi
    · rename_i hia
      subst hia
      split at hi
      · cases hi
        exact hc
      · cases hi
    · rename_i hia
      refine (h1 i e2 hi).kept (oq _ ?_)
      show bs + i ≠ bs + a
      omega
theorem j_Rz.push {sc bs : Nat} {D : va_G} {dA : Nat → ClassId} {xs : List Value} {w : jW} {H H1 : Heap} (h : j_Rz sc bs D dA xs w H) {e1 : jE} (hs : H1.size = H.size + 1) (oq : ∀ q : Nat, q < H.size → H1[q]? = H[q]?) (hc : j_cell sc bs D dA H.size e1 H1) : j_Rz sc bs D dA xs (w ++ [e1]) H1 ∧ j_ad sc bs w.length = H.size := by
  obtain ⟨es, rfl, h1, h2⟩ := h
  refine ⟨⟨es ++ [e1], rfl, fun i e2 hi => ?_, by simp only [List.length_append, List.length_singleton]; omega⟩, ?_⟩
  · by_cases hl : i < es.length
    · rw [List.getElem?_append_left hl] at hi
      exact (h1 i e2 hi).kept (oq _ (by omega))
    · rw [List.getElem?_append_right (by omega)] at hi
      have hz : i - es.length < 1 := (List.getElem?_eq_some_iff.mp hi).1
      have hz : i = es.length := by omega
      subst hz
      simp at hi
      subst hi
      rw [← h2]
      exact hc
  · show bs + es.length = H.size
    omega
def j_Cx (p : Program) (s : State) (m : MethodId) (args : Array Value) (meth : Method) (c : Code) (y sc bs : Nat) (D : va_G) (dA : Nat → ClassId) (xs : List Value) : Prop :=
  p.tables.exec = Jvm.exec ∧ c.code = j_co y ∧ c.maxLocals = j_mx y ∧ s.vm.findClass (j_cname (j_mc y)) = some m.cls ∧ (∀ w ∈ jT, w.before args s = true) ∧ j_G D dA s ∧ va_X sc xs.length (fun j => j_iv (xs.getD j .null)) s s.heap ∧ sc < bs ∧ bs ≤ s.heap.size ∧ ((j_nm y).name = "<init>" → meth.name = "<init>")
