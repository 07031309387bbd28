section JAR
variable {p : Program} {l : Launch} {e : Env} {R : Room} {s : State} {m : MethodId} {args : Array Value} {below : List Frame} {meth : Method} {c : Code} {H : Heap} {locs : List Loc} {cells slots : Nat} {Q : State → Prop}
variable {pc : Nat} {ls : Array Slot} {y sc bs : Nat} {D : va_G} {dA : Nat → ClassId} {xs : List Value}
def j_tyN : List FieldType := [.int, .boolean, .long, .object "JumpFlows$Mode", .object "JumpFlows$Jump", .object "JumpFlows$Heap", .object "JumpFlows$Sheet"]
theorem j_tys_at {t : Nat} {ty : FieldType} (h : j_tyN[t]? = some ty) : (j_tys dA)[t]? = some (dA t, ty) := by
  match t, h with
  | 0, h => cases h; rfl
  | 1, h => cases h; rfl
  | 2, h => cases h; rfl
  | 3, h => cases h; rfl
  | 4, h => cases h; rfl
  | 5, h => cases h; rfl
  | 6, h => cases h; rfl
  | t + 7, h => simp [j_tyN] at h
theorem j_arr_at {w : jW} (hz : j_Rz sc bs D dA xs w H) {a t : Nat} {vs : List Value} (hw : w[a]? = some (t, vs)) (h1 : 100 ≤ t) (h2 : t ≠ 107) : H[j_ad sc bs a]? = some (arrV (dA (t - 100)) vs.length (fun j => j_av sc bs (vs.getD j .null))) := by
  obtain ⟨hc, -⟩ := hz.at hw h2
  unfold j_cell at hc
  rw [if_neg (by show ¬ t < 12; omega)] at hc
  exact hc
theorem j_arr_val {vs : List Value} {j : Nat} {v : Value} (h : vs[j]? = some v) : vs.getD j .null = v := by simp [h]
theorem j_arr_in {vs : List Value} {i : Int32} (h : ¬ (i < 0 ∨ vs.length ≤ i.toNatClampNeg)) : i.toNatClampNeg < vs.length := Nat.not_le.mp fun q => h (Or.inr q)
theorem j_arr_hin {cA : ClassId} {vs : List Value} {i : Int32} {f : Nat → Value} (h : ¬ (i < 0 ∨ vs.length ≤ i.toNatClampNeg)) : ¬ (i < 0 ∨ (arrV cA vs.length f).slots.size ≤ i.toNatClampNeg) := by rw [arrV_size]; exact h
theorem j_arr_rd {cA : ClassId} {vs : List Value} {j : Nat} {v : Value} (h : vs[j]? = some v) : (arrV cA vs.length (fun j => j_av sc bs (vs.getD j .null))).slots[j]? = some (j_av sc bs v) := by
  rw [arrV_read _ _ ((List.getElem?_eq_some_iff.mp h).1), j_arr_val h]
theorem j_arr_wr {cA : ClassId} {vs : List Value} {j : Nat} {v : Value} (h : j < vs.length) : (arrV cA vs.length (fun j => j_av sc bs (vs.getD j .null))).setSlot j (j_av sc bs v) = arrV cA (vs.set j v).length (fun q => j_av sc bs ((vs.set j v).getD q .null)) := by
  rw [arrV_store, List.length_set]
  congr 1
  funext k
  unfold updV
  by_cases hk : k = j
  · subst hk
    simp [h]
  · rw [if_neg hk]
    have : (vs.set j v).getD k .null = vs.getD k .null := by
      simp [List.getD, List.getElem?_set, Ne.symm hk]
    rw [this]
/-- what a store into an array leaves -/
theorem j_arr_put {w : jW} (hz : j_Rz sc bs D dA xs w H) (hS0 : va_S (fun q => bs ≤ q) s.heap H locs) {a t j : Nat} {vs : List Value} {v : Value} {H1 : Heap} (hw : w[a]? = some (t, vs)) (h1 : 100 ≤ t) (h2 : t ≠ 107) (hj : j < vs.length) (e1 : H1[j_ad sc bs a]? = some ((arrV (dA (t - 100)) vs.length (fun j => j_av sc bs (vs.getD j .null))).setSlot j (j_av sc bs v))) (e2 : H1.size = H.size) (e3 : ∀ q, q ≠ j_ad sc bs a → H1[q]? = H[q]?) : j_Rz sc bs D dA xs (w.set a (t, vs.set j v)) H1 ∧ va_S (fun q => bs ≤ q) s.heap H1 (locs ++ [⟨j_ad sc bs a, j⟩]) := by
  obtain ⟨-, hA⟩ := hz.at hw h2
  refine ⟨hz.put hw h2 e2 e3 ?_, va_Sput hS0 e2 e3 hA⟩
  unfold j_cell
  rw [if_neg (by show ¬ t < 12; omega), e1, j_arr_wr hj]
end JAR
