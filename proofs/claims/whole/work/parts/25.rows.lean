/-! ROWS over the frozen world -/
theorem v_lt9 : ∀ t, t < 12 ∨ t = 100 ∨ t = 101 ∨ t = 102 ∨ (103 ≤ t ∧ t ≤ 106) → t ≠ 999 := by omega
section FRW
variable {d y pc : Nat} {ls : jL} {st rest : List Value} {xs : List Value} {I : fI} {L : fL} {Q : Option Value × jW → Prop} {o ix ci k : Nat} {b : Bool}
theorem Wp.getI (hd : decode (j_co y) pc = .ok (.getfield ix, 3)) (hf : j_lk j_fl (j_mc y) ix = some (ci, k, b)) (hc : ci < 12) (hk : k < (j_fk.getD ci []).length) (hki : j_kind ci k ≠ 2) (ht : f_tg o = ci) : Wp d y pc ls (.ref o :: st) (f_W xs I L) Q = Wp d y (pc + 3) ls (.int (I o k) :: st) (f_W xs I L) Q := by
  obtain ⟨h0, h1, h2, h3⟩ := f_obj ht hc
  have h4 : f_rf o k = 0 := by
    by_cases h5 : f_rf o k = 0
    · exact h5
    · exact absurd ((h3 k (by omega)).mpr h5) hki
  refine Wp.hp (i := .getfield ix) hd rfl rfl rfl rfl ?_
  unfold j_hp
  simp only [hf, f_W_get h0 h1]
  have h6 := f_ce_get (I := I) (L := L) (o := o) (k := k) (by omega)
  unfold f_ce at h6 ⊢
  simp only [ht, if_true, h6, Option.map_some]
  have h7 : ¬ ci = 102 := by omega
  simp [f_vl, h4, ht, h7]
theorem Wp.getR (hd : decode (j_co y) pc = .ok (.getfield ix, 3)) (hf : j_lk j_fl (j_mc y) ix = some (ci, k, b)) (hc : ci < 12) (hk : k < (j_fk.getD ci []).length) (hki : j_kind ci k = 2) (ht : f_tg o = ci) : Wp d y pc ls (.ref o :: st) (f_W xs I L) Q = Wp d y (pc + 3) ls (.ref (f_rf o k) :: st) (f_W xs I L) Q := by
  obtain ⟨h0, h1, h2, h3⟩ := f_obj ht hc
  have h4 : f_rf o k ≠ 0 := (h3 k (by omega)).mp hki
  refine Wp.hp (i := .getfield ix) hd rfl rfl rfl rfl ?_
  unfold j_hp
  simp only [hf, f_W_get h0 h1]
  have h6 := f_ce_get (I := I) (L := L) (o := o) (k := k) (by omega)
  unfold f_ce at h6 ⊢
  simp only [ht, if_true, h6, Option.map_some]
  simp [f_vl, h4]
theorem Wp.putI {x : Int32} (hd : decode (j_co y) pc = .ok (.putfield ix, 3)) (hf : j_lk j_fl (j_mc y) ix = some (ci, k, b)) (hc : ci < 12) (hk : k < (j_fk.getD ci []).length) (hfit : j_fits (j_kind ci k) (.int x) = true) (hfin : j_fin ci k = false) (ht : f_tg o = ci) : Wp d y pc ls (.int x :: .ref o :: st) (f_W xs I L) Q = Wp d y (pc + 3) ls st (f_W xs (f_up I o k x) L) Q := by
  obtain ⟨h0, h1, h2, h3⟩ := f_obj ht hc
  have h4 : f_rf o k = 0 := by
    by_cases h5 : f_rf o k = 0
    · exact h5
    · have := (h3 k (by omega)).mpr h5
      rw [this] at hfit
      cases hfit
  refine Wp.hp (i := .putfield ix) hd rfl rfl rfl rfl ?_
  unfold j_hp
  simp only [hf, f_W_get h0 h1]
  have h8 : f_tg o = ci ∧ k < (f_ce I L o).2.length ∧ j_fits (j_kind ci k) (.int x) = true ∧ (j_fin ci k = false ∨ ((j_nm y).name = "<init>" ∧ ci = j_mc y ∧ b = false)) := ⟨ht, by rw [f_ce_len]; omega, hfit, Or.inl hfin⟩
  have h9 := f_set_int (xs := xs) (I := I) (L := L) (k := k) (x := x) h0 h1 h4 (by omega)
  unfold f_ce at h8 h9 ⊢
  rw [if_pos h8, h9]
theorem Wp.iald {i : Int32} (hd : decode (j_co y) pc = .ok (.iaload, 1)) (ht : f_tg o = 100) (hi : ¬ (i < 0 ∨ f_ln o ≤ i.toNatClampNeg)) : Wp d y pc ls (.int i :: .ref o :: st) (f_W xs I L) Q = Wp d y (pc + 1) ls (.int (I o i.toNatClampNeg) :: st) (f_W xs I L) Q := by
  obtain ⟨h0, h1, h3⟩ := f_num ht (Or.inl rfl)
  refine Wp.hp (i := .iaload) hd rfl rfl rfl rfl ?_
  unfold j_hp
  simp only [f_W_get h0 h1]
  have h6 := f_ce_get (I := I) (L := L) (o := o) (k := i.toNatClampNeg) (Nat.not_le.mp fun q => hi (Or.inr q))
  have h8 : (f_tg o = 100 ∨ (o = 0 ∧ f_tg o = 107)) ∧ ¬ (i < 0 ∨ (f_ce I L o).2.length ≤ i.toNatClampNeg) := ⟨Or.inl ht, by rw [f_ce_len]; exact hi⟩
  unfold f_ce at h6 h8 ⊢
  rw [if_pos h8]
  simp only [h6]
  simp [f_vl, h3, ht]
theorem Wp.zald {i : Int32} (hd : decode (j_co y) pc = .ok (.baload, 1)) (ht : f_tg o = 101) (hi : ¬ (i < 0 ∨ f_ln o ≤ i.toNatClampNeg)) : Wp d y pc ls (.int i :: .ref o :: st) (f_W xs I L) Q = Wp d y (pc + 1) ls (.int (I o i.toNatClampNeg) :: st) (f_W xs I L) Q := by
  obtain ⟨h0, h1, h3⟩ := f_num ht (Or.inr (Or.inl rfl))
  refine Wp.hp (i := .baload) hd rfl rfl rfl rfl ?_
  unfold j_hp
  simp only [f_W_get h0 h1]
  have h6 := f_ce_get (I := I) (L := L) (o := o) (k := i.toNatClampNeg) (Nat.not_le.mp fun q => hi (Or.inr q))
  have h8 : f_tg o = 101 ∧ ¬ (i < 0 ∨ (f_ce I L o).2.length ≤ i.toNatClampNeg) := ⟨ht, by rw [f_ce_len]; exact hi⟩
  unfold f_ce at h6 h8 ⊢
  rw [if_pos h8]
  simp only [h6]
  simp [f_vl, h3, ht]
theorem Wp.lald {i : Int32} (hd : decode (j_co y) pc = .ok (.laload, 1)) (ht : f_tg o = 102) (hi : ¬ (i < 0 ∨ f_ln o ≤ i.toNatClampNeg)) : Wp d y pc ls (.int i :: .ref o :: st) (f_W xs I L) Q = Wp d y (pc + 1) ls (.long (L i.toNatClampNeg) :: st) (f_W xs I L) Q := by
  obtain ⟨h0, h1, h3⟩ := f_num ht (Or.inr (Or.inr rfl))
  refine Wp.hp (i := .laload) hd rfl rfl rfl rfl ?_
  unfold j_hp
  simp only [f_W_get h0 h1]
  have h6 := f_ce_get (I := I) (L := L) (o := o) (k := i.toNatClampNeg) (Nat.not_le.mp fun q => hi (Or.inr q))
  have h8 : f_tg o = 102 ∧ ¬ (i < 0 ∨ (f_ce I L o).2.length ≤ i.toNatClampNeg) := ⟨ht, by rw [f_ce_len]; exact hi⟩
  unfold f_ce at h6 h8 ⊢
  rw [if_pos h8]
  simp only [h6]
  simp [f_vl, h3, ht]
theorem Wp.aald {i : Int32} {t : Nat} (hd : decode (j_co y) pc = .ok (.aaload, 1)) (ht : f_tg o = t) (ht2 : 103 ≤ t ∧ t ≤ 106) (hi : ¬ (i < 0 ∨ f_ln o ≤ i.toNatClampNeg)) : Wp d y pc ls (.int i :: .ref o :: st) (f_W xs I L) Q = Wp d y (pc + 1) ls (.ref (f_rf o i.toNatClampNeg) :: st) (f_W xs I L) Q := by
  obtain ⟨h0, h1, h3⟩ := f_refs ht ht2
  have hlt : i.toNatClampNeg < f_ln o := Nat.not_le.mp fun q => hi (Or.inr q)
  refine Wp.hp (i := .aaload) hd rfl rfl rfl rfl ?_
  unfold j_hp
  simp only [f_W_get h0 h1]
  have h6 := f_ce_get (I := I) (L := L) (o := o) (k := i.toNatClampNeg) hlt
  have h8 : 103 ≤ f_tg o ∧ f_tg o ≤ 106 ∧ ¬ (i < 0 ∨ (f_ce I L o).2.length ≤ i.toNatClampNeg) := ⟨by omega, by omega, by rw [f_ce_len]; exact hi⟩
  unfold f_ce at h6 h8 ⊢
  rw [if_pos h8]
  simp only [h6]
  simp [f_vl, h3 _ hlt]
theorem Wp.iast {i x : Int32} (hd : decode (j_co y) pc = .ok (.iastore, 1)) (ht : f_tg o = 100) (hi : ¬ (i < 0 ∨ f_ln o ≤ i.toNatClampNeg)) : Wp d y pc ls (.int x :: .int i :: .ref o :: st) (f_W xs I L) Q = Wp d y (pc + 1) ls st (f_W xs (f_up I o i.toNatClampNeg x) L) Q := by
  obtain ⟨h0, h1, h3⟩ := f_num ht (Or.inl rfl)
  refine Wp.hp (i := .iastore) hd rfl rfl rfl rfl ?_
  unfold j_hp
  simp only [f_W_get h0 h1]
  have h8 : f_tg o = 100 ∧ ¬ (i < 0 ∨ (f_ce I L o).2.length ≤ i.toNatClampNeg) := ⟨ht, by rw [f_ce_len]; exact hi⟩
  have h9 := f_set_int (xs := xs) (I := I) (L := L) (k := i.toNatClampNeg) (x := x) h0 h1 (h3 _) (by omega)
  unfold f_ce at h8 h9 ⊢
  rw [if_pos h8, h9]
theorem Wp.zast {i x : Int32} (hd : decode (j_co y) pc = .ok (.bastore, 1)) (ht : f_tg o = 101) (hi : ¬ (i < 0 ∨ f_ln o ≤ i.toNatClampNeg)) (hx : x = 0 ∨ x = 1) : Wp d y pc ls (.int x :: .int i :: .ref o :: st) (f_W xs I L) Q = Wp d y (pc + 1) ls st (f_W xs (f_up I o i.toNatClampNeg x) L) Q := by
  obtain ⟨h0, h1, h3⟩ := f_num ht (Or.inr (Or.inl rfl))
  refine Wp.hp (i := .bastore) hd rfl rfl rfl rfl ?_
  unfold j_hp
  simp only [f_W_get h0 h1]
  have h8 : f_tg o = 101 ∧ ¬ (i < 0 ∨ (f_ce I L o).2.length ≤ i.toNatClampNeg) ∧ (x = 0 ∨ x = 1) := ⟨ht, by rw [f_ce_len]; exact hi, hx⟩
  have h9 := f_set_int (xs := xs) (I := I) (L := L) (k := i.toNatClampNeg) (x := x) h0 h1 (h3 _) (by omega)
  unfold f_ce at h8 h9 ⊢
  rw [if_pos h8, h9]
theorem Wp.last {i : Int32} {x : Int64} (hd : decode (j_co y) pc = .ok (.lastore, 1)) (ht : f_tg o = 102) (hi : ¬ (i < 0 ∨ f_ln o ≤ i.toNatClampNeg)) : Wp d y pc ls (.long x :: .int i :: .ref o :: st) (f_W xs I L) Q = Wp d y (pc + 1) ls st (f_W xs I (f_uL L i.toNatClampNeg x)) Q := by
  obtain ⟨h0, h1, h3⟩ := f_num ht (Or.inr (Or.inr rfl))
  refine Wp.hp (i := .lastore) hd rfl rfl rfl rfl ?_
  unfold j_hp
  simp only [f_W_get h0 h1]
  have h8 : f_tg o = 102 ∧ ¬ (i < 0 ∨ (f_ce I L o).2.length ≤ i.toNatClampNeg) := ⟨ht, by rw [f_ce_len]; exact hi⟩
  have h9 := f_set_long (xs := xs) (I := I) (L := L) (k := i.toNatClampNeg) (x := x) h0 h1 (h3 _) ht (fun a _ ha => (f_long ha).trans (f_long ht).symm)
  unfold f_ce at h8 h9 ⊢
  rw [if_pos h8, h9]
theorem Wp.alen {t : Nat} (hd : decode (j_co y) pc = .ok (.arraylength, 1)) (ht : f_tg o = t) (ht2 : t = 100 ∨ t = 101 ∨ t = 102) : Wp d y pc ls (.ref o :: st) (f_W xs I L) Q = Wp d y (pc + 1) ls (.int (nI (f_ln o)) :: st) (f_W xs I L) Q := by
  obtain ⟨h0, h1, h3⟩ := f_num ht ht2
  refine Wp.hp (i := .arraylength) hd rfl rfl rfl rfl ?_
  unfold j_hp
  simp only [f_W_get h0 h1]
  have h8 : 100 ≤ f_tg o ∧ (f_tg o ≤ 106 ∨ (o = 0 ∧ f_tg o = 107)) := ⟨by omega, Or.inl (by omega)⟩
  unfold f_ce
  rw [if_pos h8]
  simp [nI]
theorem Wp.ldc2 {v : Int64} {w : jW} (hd : decode (j_co y) pc = .ok (.ldc2_w ix, 3)) (hf : j_lk j_kl (j_mc y) ix = some v) : Wp d y pc ls st w Q = Wp d y (pc + 3) ls (.long v :: st) w Q := by
  refine Wp.hp (i := .ldc2_w ix) hd rfl rfl rfl rfl ?_
  unfold j_hp
  simp only [hf]
theorem v_cl0 {y' kd n : Nat} {as : List Value} {kn : List Nat} {w : jW} (hl : j_lk j_ca (j_mc y) ix = some (kd, y')) (hk : kn.contains kd = true) (hy : y' < j_N) (hna : j_na y' = as.length) (hlay : (j_lay as).length ≤ j_mx y') (hs : j_sumc rest ≤ 8) : j_cl0 y w kn ix 3 (as.reverse ++ rest) = some (kd, y', as, rest) := by
  unfold j_cl0
  simp only [hl]
  have h1 : (as.reverse ++ rest).take (j_na y') = as.reverse := by rw [hna, ← List.length_reverse, List.take_left]
  have h2 : (as.reverse ++ rest).drop (j_na y') = rest := by rw [hna, ← List.length_reverse, List.drop_left]
  rw [h1, h2, List.reverse_reverse]
  rw [if_pos ⟨trivial, hk, hy, by rw [hna]; simp, hs, hlay⟩]
theorem Wp.cv {y' : Nat} {r : Nat} {as : List Value} (hd : decode (j_co y) pc = .ok (.invokevirtual ix, 3)) (hl : j_lk j_ca (j_mc y) ix = some (0, y')) (hy : y' < j_N) (hna : j_na y' = as.length + 1) (hlay : (j_lay (.ref r :: as)).length ≤ j_mx y') (h12 : j_mc y' < 12) (hs : j_sumc rest ≤ 8) (ht : f_tg r = j_mc y') : Wp (d + 1) y pc ls (as.reverse ++ .ref r :: rest) (f_W xs I L) Q = Wp d y' 0 (j_ent y' (.ref r :: as)) [] (f_W xs I L) (fun r1 => Wp (d + 1) y (pc + 3) ls (r1.1.toList ++ rest) r1.2 Q) := by
  refine Wp.cal (kd := 0) hd ?_
  obtain ⟨h0, h1, -⟩ := f_obj ht h12
  have h3 := v_cl0 (y := y) (ix := ix) (rest := rest) (as := .ref r :: as) (kn := [0]) (n := 3) (w := f_W xs I L) hl rfl hy (by simpa using hna) hlay hs
  have h4 : (Value.ref r :: as).reverse ++ rest = as.reverse ++ .ref r :: rest := by simp
  rw [h4] at h3
  unfold j_cal
  simp only [h3, f_W_get h0 h1]
  have h5 : (f_ce I L r).1 = j_mc y' ∧ (f_ce I L r).1 < 12 := by
    unfold f_ce
    exact ⟨ht, by show f_tg r < 12; omega⟩
  rw [if_pos h5]
theorem Wp.cs {y' kd : Nat} {as : List Value} {w : jW} (hd : decode (j_co y) pc = .ok (.invokestatic ix, 3)) (hl : j_lk j_ca (j_mc y) ix = some (kd, y')) (hk : kd = 1 ∨ kd = 4) (hy : y' < j_N) (hna : j_na y' = as.length) (hlay : (j_lay as).length ≤ j_mx y') (hs : j_sumc rest ≤ 8) : Wp (d + 1) y pc ls (as.reverse ++ rest) w Q = Wp d y' 0 (j_ent y' as) [] w (fun r1 => Wp (d + 1) y (pc + 3) ls (r1.1.toList ++ rest) r1.2 Q) := by
  refine Wp.cal (kd := kd) hd ?_
  unfold j_cal
  exact v_cl0 (n := 3) hl (by rcases hk with rfl | rfl <;> rfl) hy hna hlay hs
theorem Wp.mx {y' : Nat} {a b : Int32} {w : jW} (hd : decode (j_co y) pc = .ok (.invokestatic ix, 3)) (hl : j_lk j_ca (j_mc y) ix = some (6, y')) (hs : j_sumc rest ≤ 8) : Wp (d + 1) y pc ls (.int b :: .int a :: rest) w Q = Wp (d + 1) y (pc + 3) ls (.int (if a < b then b else a) :: rest) w Q := by
  refine Wp.oin hd ?_
  unfold j_oin
  simp only [hl]
  rw [if_pos ⟨trivial, hs⟩]
theorem Wp.mn {y' : Nat} {a b : Int32} {w : jW} (hd : decode (j_co y) pc = .ok (.invokestatic ix, 3)) (hl : j_lk j_ca (j_mc y) ix = some (7, y')) (hs : j_sumc rest ≤ 8) : Wp (d + 1) y pc ls (.int b :: .int a :: rest) w Q = Wp (d + 1) y (pc + 3) ls (.int (if b < a then b else a) :: rest) w Q := by
  refine Wp.oin hd ?_
  unfold j_oin
  simp only [hl]
  rw [if_pos ⟨trivial, hs⟩]
end FRW
def j_c1 (o : Option Value) : Bool := match o with
  | some v => v.category == 1
  | none => true
theorem v_stI {ls : jL} {k : Nat} {x : Int32} {st : List Value} (h1 : k < ls.length) (h2 : j_left ls k = true) : j_stI ls k (.int x :: st) = some (ls.set k (some (.int x)), st) := by
  unfold j_stI j_set1
  dsimp only
  rw [if_pos ⟨h1, h2⟩]
  rfl
theorem v_stA {ls : jL} {k : Nat} {x : Nat} {st : List Value} (h1 : k < ls.length) (h2 : j_left ls k = true) : j_stA ls k (.ref x :: st) = some (ls.set k (some (.ref x)), st) := by
  unfold j_stA j_set1
  dsimp only
  rw [if_pos ⟨h1, h2⟩]
  rfl
theorem v_stN {ls : jL} {k : Nat} {st : List Value} (h1 : k < ls.length) (h2 : j_left ls k = true) : j_stA ls k (.null :: st) = some (ls.set k (some .null), st) := by
  unfold j_stA j_set1
  dsimp only
  rw [if_pos ⟨h1, h2⟩]
  rfl
theorem v_stL {ls : jL} {k : Nat} {x : Int64} {st : List Value} (h1 : k + 1 < ls.length) (h2 : j_left ls k = true) : j_stL ls k (.long x :: st) = some ((ls.set k (some (.long x))).set (k + 1) none, st) := by
  unfold j_stL j_set2
  dsimp only
  rw [if_pos ⟨h1, h2⟩]
  rfl
theorem v_inc {ls : jL} {k : Nat} {x : Int32} {n : Int} {st : List Value} (hg : j_get ls k = some (.int x)) (h1 : k < ls.length) (h2 : j_left ls k = true) : j_inc ls k n st = some (ls.set k (some (.int (x + Int32.ofInt n))), st) := by
  unfold j_inc j_set1
  simp only [hg]
  rw [if_pos ⟨h1, h2⟩]
  rfl
def j_cp (o : Option Value) : Prop := j_c1 o = true
