section JHQ
variable {p : Program} {l : Launch} {e : Env} {R : Room} {s : State} {m : MethodId} {args : Array Value} {below : List Frame} {meth : Method} {c : Code} {H : Heap} {locs : List Loc} {cells slots : Nat} {Q : State → Prop}
variable {pc : Nat} {ls : Array Slot} {y sc bs : Nat} {D : va_G} {dA : Nat → ClassId} {xs : List Value}
theorem j_ref_ty {t : Nat} (h1 : 103 ≤ t) (h2 : t ≤ 106) : ∃ C, j_tyN[t - 100]? = some (.object C) := by
  have : t = 103 ∨ t = 104 ∨ t = 105 ∨ t = 106 := by omega
  rcases this with rfl | rfl | rfl | rfl <;> exact ⟨_, rfl⟩
theorem j_rc_ty {t u : Nat} (h : j_rc[t]? = some u) : u < 12 ∧ j_tyN[t + 3]? = some (.object (j_cname u)) := by
  match t, h with
  | 0, h => cases h; exact ⟨by decide, rfl⟩
  | 1, h => cases h; exact ⟨by decide, rfl⟩
  | 2, h => cases h; exact ⟨by decide, rfl⟩
  | 3, h => cases h; exact ⟨by decide, rfl⟩
  | t + 4, h => simp [j_rc] at h
theorem j_tyN_prim {t : Nat} {ty : FieldType} (h : j_tyN[t]? = some ty) (h2 : t < 3) : ty = .int ∧ t = 0 ∨ ty = .boolean ∧ t = 1 ∨ ty = .long ∧ t = 2 := by
  match t, h2, h with
  | 0, _, h => cases h; exact Or.inl ⟨rfl, rfl⟩
  | 1, _, h => cases h; exact Or.inr (Or.inl ⟨rfl, rfl⟩)
  | 2, _, h => cases h; exact Or.inr (Or.inr ⟨rfl, rfl⟩)
/-- a new array of numbers -/
theorem j_newa_ok (C : j_Cx p s m args meth c y sc bs D dA xs) {at_ : ArrayType} {t : Nat} {dv : Value} (hty : j_tyN[t]? = some (newarray.typeOf at_)) (ht3 : t < 3) (hdv : defaultValue (newarray.typeOf at_) = dv) (hav : j_av sc bs dv = dv) (harr : Cond.arrayClass (newarray.typeOf at_) ∈ lw_tbl) (hcb : componentBytes (newarray.typeOf at_) ≤ 8) {n : Int32} {st : List Value} {w : jW} (hn : ¬ n < 0) (hle : n.toNatClampNeg ≤ 1000) (hd : decode (j_co y) pc = .ok (.newarray at_, 2)) (hz : j_Rz sc bs D dA xs w H) (hS0 : va_S (fun q => bs ≤ q) s.heap H locs) (hc1 : cells + 1 ≤ R.cells) (hs1 : slots + n.toNatClampNeg ≤ R.slots)
    (kk : ∀ H' : Heap, j_Rz sc bs D dA xs (w ++ [(100 + t, List.replicate n.toNatClampNeg dv)]) H' → va_S (fun q => bs ≤ q) s.heap H' locs → W p l e R s m args below meth c H' locs (cells + 1) (slots + n.toNatClampNeg) Q (F0 m (pc + 2) ls (.ref (j_ad sc bs w.length) :: st.map (j_av sc bs)))) : W p l e R s m args below meth c H locs cells slots Q (F0 m pc ls (.int n :: st.map (j_av sc bs))) := by
  obtain ⟨hx, hb, -, hown, hts, hG, -, -, hbs, -⟩ := C
  refine va_newaK hx hb (j_good_before hts harr rfl) rfl hd rfl hn rfl (Nat.le_trans (Nat.mul_le_mul hle hcb) (by decide)) hc1 hs1 rfl fun H1 cA e1 z1 o1 hAr hNm => ?_
  have hdA : dA t = cA := by
    have h1 := (hG.1.2 t _ (j_tys_at hty)).2
    have h2 : s.vm.findClass ("[" ++ (newarray.typeOf at_).toString) = some (dA t) := by
      rcases j_tyN_prim hty ht3 with ⟨q, -⟩ | ⟨q, -⟩ | ⟨q, -⟩ <;> rw [q] at h1 ⊢ <;> exact h1
    exact Option.some.inj (h2.symm.trans hNm)
  have h3 := hz.push (e1 := (100 + t, List.replicate n.toNatClampNeg dv)) z1 o1 (by
    unfold j_cell
    rw [if_neg (by show ¬ 100 + t < 12; omega), e1]
    simp only [Nat.add_sub_cancel_left, List.length_replicate, hdA, hdv]
    congr 1
    unfold arrV
    congr 1
    congr 1
    funext j
    simp [hav])
  rw [h3.2] at kk
  exact kk H1 h3.1 ⟨Nat.le_trans hS0.1 (by omega), fun x h1 h2 => (o1 x (Nat.lt_of_lt_of_le h1 hS0.1)).trans (hS0.2.1 x h1 h2), hS0.2.2⟩
theorem j_isp_in {ci : Nat} {r : vw_C} (h : j_cl[ci]? = some r) : Cond.instantiable r.1 r.2.2 ∈ lw_tbl := j_at_all (by decide +kernel) j_isW_ok _ (List.mem_map.mpr ⟨r, List.mem_of_getElem? h, rfl⟩)
theorem j_new_ok (C : j_Cx p s m args meth c y sc bs D dA xs) {i ci : Nat} {st : List Value} {w : jW} (hf : j_lk j_nw (j_mc y) i = some ci) (h12 : ci < 12) (hini : Cond.initialized (j_cname ci) ∈ lw_tbl) (hd : decode (j_co y) pc = .ok (.new i, 3)) (hz : j_Rz sc bs D dA xs w H) (hS0 : va_S (fun q => bs ≤ q) s.heap H locs) (hc1 : cells + 1 ≤ R.cells) (hs1 : slots + (j_dflt ci).length ≤ R.slots)
    (kk : ∀ H' : Heap, j_Rz sc bs D dA xs (w ++ [(ci, j_dflt ci)]) H' → va_S (fun q => bs ≤ q) s.heap H' locs → W p l e R s m args below meth c H' locs (cells + 1) (slots + (j_dflt ci).length) Q (F0 m (pc + 3) ls (.ref (j_ad sc bs w.length) :: st.map (j_av sc bs)))) : W p l e R s m args below meth c H locs cells slots Q (F0 m pc ls (st.map (j_av sc bs))) := by
  obtain ⟨hx, hb, -, hown, hts, hG, -, -, hbs, -⟩ := C
  obtain ⟨r, hr, hN, hrn, h1, h2, h3⟩ := j_cls h12
  have hlen : (j_dflt ci).length = r.2.2 := by unfold j_dflt; rw [List.length_map, hN]
  rw [hlen] at hs1 kk
  have hKn := hG.1.1 ci r hr
  have hcl := j_nw_in hf
  unfold j_nwW at hcl
  rw [← hrn] at hini
  refine W.newcK hx hb (C := r.1) hown (j_good_before hts (by rw [hrn]; exact hcl) rfl) (j_good_before hts (j_isp_in hr) rfl) (j_good_before hts hini rfl) rfl hd hc1 hs1 hKn.2.1 rfl fun H1 kC hkC e1 z1 o1 => ?_
  have h4 := hz.push (e1 := (ci, j_dflt ci)) z1 o1 (by
    unfold j_cell
    rw [if_pos (by exact h12)]
    refine ⟨r, hr, (u_born (j_ty r) hts (j_ly_in hr) hKn hkC e1 (fun k hk => j_kOk_ty (h2 k hk))).to (fun k hk => ?_)⟩
    rw [j_kOk_dflt (h2 k hk)]
    have hk2 : k < (j_fk.getD ci []).length := by rw [hN]; exact hk
    show _ = ((j_dflt ci).map (j_av sc bs)).getD k .null
    unfold j_dflt j_kind
    have h12' : ci < j_fk.length := h12
    simp only [List.getD_eq_getElem?_getD, List.getElem?_map, List.getElem?_eq_getElem h12', Option.getD_some] at hk2 ⊢
    simp only [List.getElem?_eq_getElem hk2, Option.map_some, Option.getD_some]
    split <;> rfl)
  rw [h4.2] at kk
  exact kk H1 h4.1 ⟨Nat.le_trans hS0.1 (by omega), fun x h1 h2 => (o1 x (Nat.lt_of_lt_of_le h1 hS0.1)).trans (hS0.2.1 x h1 h2), hS0.2.2⟩
theorem j_anew_ok (C : j_Cx p s m args meth c y sc bs D dA xs) {i ci t : Nat} {n : Int32} {st : List Value} {w : jW} (hf : j_lk j_nw (j_mc y) i = some ci) (hrc : j_rc[t]? = some ci) (hn : ¬ n < 0) (hle : n.toNatClampNeg ≤ 1000) (hd : decode (j_co y) pc = .ok (.anewarray i, 3)) (hz : j_Rz sc bs D dA xs w H) (hS0 : va_S (fun q => bs ≤ q) s.heap H locs) (hc1 : cells + 1 ≤ R.cells) (hs1 : slots + n.toNatClampNeg ≤ R.slots)
    (kk : ∀ H' : Heap, j_Rz sc bs D dA xs (w ++ [(103 + t, List.replicate n.toNatClampNeg .null)]) H' → va_S (fun q => bs ≤ q) s.heap H' locs → W p l e R s m args below meth c H' locs (cells + 1) (slots + n.toNatClampNeg) Q (F0 m (pc + 3) ls (.ref (j_ad sc bs w.length) :: st.map (j_av sc bs)))) : W p l e R s m args below meth c H locs cells slots Q (F0 m pc ls (.int n :: st.map (j_av sc bs))) := by
  obtain ⟨hx, hb, -, hown, hts, hG, -, -, hbs, -⟩ := C
  obtain ⟨-, hty⟩ := j_rc_ty hrc
  have hcl := j_nw_in hf
  unfold j_nwW at hcl
  refine W.anew hx hb hown (j_good_before hts hcl rfl) (va_AO.use (hG.2.2 ci (List.mem_of_getElem? hrc))) rfl hd rfl hn (Nat.le_trans (Nat.mul_le_mul hle (Nat.le_refl 4)) (by decide)) hc1 hs1 fun cA kA comp f1 f2 f3 f4 => ?_
  have hdA : dA (t + 3) = cA := by
    obtain ⟨_, _, _, _, _, g⟩ := (hG.1.2 (t + 3) _ (j_tys_at hty)).2
    exact Option.some.inj (g.symm.trans f1)
  generalize hH1 : H.push ({ cls := cA, slots := Array.replicate n.toNatClampNeg .null, vm := .none } : Cell) = H1
  have z1 : H1.size = H.size + 1 := by rw [← hH1, Array.size_push]
  have e1 : H1[H.size]? = some (arrV cA n.toNatClampNeg (fun _ => .null)) := by rw [← hH1, Array.getElem?_push_size, ← arrV_new]
  have o1 : ∀ q : Nat, q < H.size → H1[q]? = H[q]? := fun q hq => by rw [← hH1, Array.getElem?_push, if_neg (Nat.ne_of_lt hq)]
  have h3 := hz.push (e1 := (103 + t, List.replicate n.toNatClampNeg .null)) z1 o1 (by
    unfold j_cell
    rw [if_neg (by show ¬ 103 + t < 12; omega), e1]
    rw [show (103 + t, List.replicate n.toNatClampNeg Value.null).1 - 100 = t + 3 by show 103 + t - 100 = t + 3; omega, hdA]
    simp only [List.length_replicate]
    congr 1
    unfold arrV
    congr 1
    congr 1
    funext j
    simp [j_av])
  rw [h3.2] at kk
  exact kk H1 h3.1 ⟨Nat.le_trans hS0.1 (by omega), fun x h1 h2 => (o1 x (Nat.lt_of_lt_of_le h1 hS0.1)).trans (hS0.2.1 x h1 h2), hS0.2.2⟩
end JHQ
