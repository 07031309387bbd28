/-! the classes' tables, by the kernel -/
def j_kOk (kd : Nat) (d : String) : Bool := match parseFieldDescriptor d with
  | some .int => kd == 0
  | some .boolean => kd == 1
  | some (.object _) => kd == 2
  | some (.array _) => kd == 2
  | _ => false
def j_clsOk (c : Nat) : Bool := match j_cl[c]? with
  | some r => ((j_fk.getD c []).length == r.2.2) && (r.1 == j_cname c) && (List.range r.2.2).all (fun k => (r.2.1 k).1 == r.1 && j_kOk (j_kind c k) (r.2.1 k).2.2.1 && (List.range r.2.2).all (fun b => k == b || (r.2.1 k).2.1 != (r.2.1 b).2.1))
  | none => false
set_option maxRecDepth 100000 in
theorem j_clsOk_all : (List.range 12).all j_clsOk = true := by decide +kernel
theorem j_flBd : j_fl.all (fun q => decide (q.2.2.1 < 12) && decide (q.2.2.2.1 < (j_fk.getD q.2.2.1 []).length)) = true := by decide +kernel
theorem j_cls {c : Nat} (h : c < 12) : ∃ r, j_cl[c]? = some r ∧ (j_fk.getD c []).length = r.2.2 ∧ r.1 = j_cname c ∧ (∀ k, k < r.2.2 → (r.2.1 k).1 = r.1) ∧ (∀ k, k < r.2.2 → j_kOk (j_kind c k) (r.2.1 k).2.2.1 = true) ∧ (∀ k, k < r.2.2 → ∀ b, b < r.2.2 → k ≠ b → (r.2.1 k).2.1 ≠ (r.2.1 b).2.1) := by
  have h1 := List.all_eq_true.mp j_clsOk_all c (List.mem_range.mpr h)
  unfold j_clsOk at h1
  split at h1
  · rename_i r hr
    simp only [Bool.and_eq_true, beq_iff_eq, List.all_eq_true, List.mem_range, Bool.or_eq_true, bne_iff_ne, ne_eq] at h1
    exact ⟨r, hr, h1.1.1, h1.1.2, fun k hk => (h1.2 k hk).1.1, fun k hk => (h1.2 k hk).1.2, fun k hk b hb hn => ((h1.2 k hk).2 b hb).resolve_left hn⟩
  · cases h1
def j_ty (r : vw_C) (k : Nat) : FieldType := (parseFieldDescriptor (r.2.1 k).2.2.1).getD .int
theorem j_kOk_ty {kd : Nat} {r : vw_C} {k : Nat} (h : j_kOk kd (r.2.1 k).2.2.1 = true) : parseFieldDescriptor (r.2.1 k).2.2.1 = some (j_ty r k) := by
  unfold j_kOk at h
  unfold j_ty
  cases hp : parseFieldDescriptor (r.2.1 k).2.2.1 with
  | none => rw [hp] at h; cases h
  | some t => rfl
theorem j_kOk_fit {kd : Nat} {r : vw_C} {k : Nat} {v : Value} {sc bs : Nat} (h : j_kOk kd (r.2.1 k).2.2.1 = true) (hv : j_fits kd v = true) : narrow (j_ty r k) (j_av sc bs v) = j_av sc bs v ∧ fits (j_ty r k) (j_av sc bs v) = true := by
  have h1 := j_kOk_ty h
  unfold j_kOk at h
  rw [h1] at h
  generalize j_ty r k = t at h ⊢
  cases t <;> simp at h <;> subst h <;> cases v <;> simp [j_fits] at hv
  · exact ⟨rfl, rfl⟩
  · rcases hv with rfl | rfl <;> exact ⟨rfl, rfl⟩
  all_goals exact ⟨rfl, rfl⟩
theorem j_kOk_dflt {kd : Nat} {r : vw_C} {k : Nat} (h : j_kOk kd (r.2.1 k).2.2.1 = true) : defaultValue (j_ty r k) = (if kd = 2 then Value.null else .int 0) := by
  have h1 := j_kOk_ty h
  unfold j_kOk at h
  rw [h1] at h
  generalize j_ty r k = t at h ⊢
  cases t <;> simp at h <;> subst h <;> rfl
section JHP
variable {p : Program} {l : Launch} {e : Env} {R : Room} {s : State} {m : MethodId} {args : Array Value} {below : List Frame} {meth : Method} {c : Code} {H : Heap} {locs : List Loc} {cells slots : Nat} {Q : State → Prop}
variable {pc : Nat} {ls : Array Slot} {y sc bs : Nat} {D : va_G} {dA : Nat → ClassId} {xs : List Value}
theorem j_good_before (hts : ∀ w ∈ jT, w.before args s = true) {w : Cond} (h : w ∈ lw_tbl) (hg : goodWord w = true) : w.before args s = true := hts w (jT_of h hg)
theorem j_get_ok (C : j_Cx p s m args meth c y sc bs D dA xs) {i a ci k t : Nat} {b : Bool} {st vs : List Value} {v : Value} {w : jW} (hf : j_lk j_fl (j_mc y) i = some (ci, k, b)) (hw : w[a]? = some (t, vs)) (ht : t = ci) (hv : vs[k]? = some v) (hd : decode (j_co y) pc = .ok (.getfield i, 3)) (hz : j_Rz sc bs D dA xs w H)
    (kk : W p l e R s m args below meth c H locs cells slots Q (F0 m (pc + 3) ls (j_av sc bs v :: st.map (j_av sc bs)))) : W p l e R s m args below meth c H locs cells slots Q (F0 m pc ls (.ref (j_ad sc bs a) :: st.map (j_av sc bs))) := by
  obtain ⟨hx, hb, -, hown, hts, hG, -, -, -, -⟩ := C
  have hbd := List.all_eq_true.mp j_flBd _ (j_lk_mem hf)
  simp only [Bool.and_eq_true, decide_eq_true_eq] at hbd
  obtain ⟨r, hr, hN, -, h1, h2, h3⟩ := j_cls hbd.1
  have hk : k < r.2.2 := by rw [← hN]; exact hbd.2
  subst ht
  obtain ⟨hc, -⟩ := hz.at hw (by show t ≠ 107; omega)
  unfold j_cell at hc
  rw [if_pos (by exact hbd.1)] at hc
  obtain ⟨r', hr', cell, q1, q2, q3, q4⟩ := hc
  cases hr.symm.trans hr'
  have hlink := j_fl_in hf
  unfold j_flW at hlink
  simp only [hr] at hlink
  obtain ⟨hS, hfc, kC, hkC, hkind⟩ := hG.1.1 t r hr
  obtain ⟨cf, kf, fi, f, hi, hsl⟩ := hS k hk
  have hst := (u_facts hfc hkC (u_lays hts (j_ly_in hr) hk) hi).1
  have hi' := hi
  rw [h1 k hk] at hi'
  have hsv : cell.slots[f.slot]? = some (j_av sc bs v) := by
    rw [hsl, q4 k hk]
    simp [vp_V, hv]
  cases b with
  | true =>
    refine va_Wgetf hx hb hown (va_Nw.use rfl (hG.2.1 _ (by simpa using hlink) rfl)) hi' hst q1 (by rw [q3]; exact fun h => by cases h) hsv rfl rfl hd kk
  | false =>
    refine W.getf hx hb hown (j_good_before hts (by simpa using hlink) rfl) hi' hst q1 (by rw [q3]; exact fun h => by cases h) hsv rfl rfl hd kk
theorem va_Sput {A : Nat → Prop} {H0 H1 : Heap} {a k : Nat} (h : va_S A H0 H locs) (z : H1.size = H.size) (oq : ∀ q : Nat, q ≠ a → H1[q]? = H[q]?) (ha : A a) : va_S A H0 H1 (locs ++ [⟨a, k⟩]) := h.put z oq ha
theorem j_put_ok (C : j_Cx p s m args meth c y sc bs D dA xs) {i a ci k t : Nat} {b : Bool} {st vs : List Value} {v : Value} {w : jW} (hf : j_lk j_fl (j_mc y) i = some (ci, k, b)) (hw : w[a]? = some (t, vs)) (ht : t = ci) (hv : k < vs.length) (hfit : j_fits (j_kind ci k) v = true) (hfin : j_fin ci k = false ∨ ((j_nm y).name = "<init>" ∧ ci = j_mc y ∧ b = false)) (hd : decode (j_co y) pc = .ok (.putfield i, 3)) (hz : j_Rz sc bs D dA xs w H) (hS0 : va_S (fun q => bs ≤ q) s.heap H locs)
    (kk : ∀ (H' : Heap) (locs' : List Loc), j_Rz sc bs D dA xs (w.set a (t, vs.set k v)) H' → va_S (fun q => bs ≤ q) s.heap H' locs' → W p l e R s m args below meth c H' locs' cells slots Q (F0 m (pc + 3) ls (st.map (j_av sc bs)))) : W p l e R s m args below meth c H locs cells slots Q (F0 m pc ls (j_av sc bs v :: .ref (j_ad sc bs a) :: st.map (j_av sc bs))) := by
  obtain ⟨hx, hb, -, hown, hts, hG, -, -, -, hnm⟩ := C
  have hbd := List.all_eq_true.mp j_flBd _ (j_lk_mem hf)
  simp only [Bool.and_eq_true, decide_eq_true_eq] at hbd
  obtain ⟨r, hr, hN, hrn, h1, h2, h3⟩ := j_cls hbd.1
  have hk : k < r.2.2 := by rw [← hN]; exact hbd.2
  subst ht
  obtain ⟨hc, hA⟩ := hz.at hw (by show t ≠ 107; omega)
  unfold j_cell at hc
  rw [if_pos (by exact hbd.1)] at hc
  obtain ⟨r', hr', cell, q1, q2, q3, q4⟩ := hc
  cases hr.symm.trans hr'
  have hlink := j_fl_in hf
  unfold j_flW at hlink
  simp only [hr] at hlink
  have hap : ∀ x z, x < r.2.2 → z < r.2.2 → x ≠ z → (D.2 t) x ≠ (D.2 t) z := va_apart (own := "") hts (j_ly_in hr) (j_ty r) (fun k hk => j_kOk_ty (h2 k hk)) h3 hG.1 hr
  obtain ⟨hS, hfc, kC, hkC, hkind⟩ := hG.1.1 t r hr
  obtain ⟨cf, kf, fi, f, hi, hsl⟩ := hS k hk
  have hlays := u_lays hts (j_ly_in hr) hk
  have hst := (u_facts hfc hkC hlays hi).1
  have hi' := hi
  rw [h1 k hk] at hi'
  obtain ⟨hn1, hn2⟩ := j_kOk_fit (sc := sc) (bs := bs) (h2 k hk) hfit
  have fin : ∀ H' : Heap, H'[j_ad sc bs a]? = some (cell.setSlot f.slot (j_av sc bs v)) → H'.size = H.size → (∀ q, q ≠ j_ad sc bs a → H'[q]? = H[q]?) → W p l e R s m args below meth c H' (locs ++ [⟨j_ad sc bs a, f.slot⟩]) cells slots Q (F0 m (pc + 3) ls (st.map (j_av sc bs))) := by
    intro H' e1 e2 e3
    refine kk H' _ (hz.put hw (by show t ≠ 107; omega) e2 e3 ?_) (va_Sput hS0 e2 e3 hA)
    unfold j_cell
    rw [if_pos (by exact hbd.1)]
    refine ⟨r, hr, ?_⟩
    rw [hsl] at e1
    have h5 : t_OB (j_ad sc bs a) (D.1 t) r.2.2 (D.2 t) H' (updV (vp_V (vs.map (j_av sc bs))) k (j_av sc bs v)) := ⟨_, e1, q2, q3, t_set q4 hap hk (j_av sc bs v)⟩
    refine h5.to (fun j _ => ?_)
    rw [List.map_set]
    exact vp_updV_set (by rw [List.length_map]; exact hv) _ j
  have hlt : f.slot < cell.slots.size := by rw [hsl]; exact k2_hasslot (q4 k hk)
  have hlay := hts _ (j_ly_in hr _ (u_in_lay hk))
  unfold u_lay at hlay
  cases hfn : j_fin t k with
  | false =>
    have hf2 : (r.2.1 k).2.2.2 = false := by
      unfold j_fin at hfn
      simpa only [hr] using hfn
    rw [if_neg (by rw [hf2]; decide)] at hlay
    have h6 := u_store hfc hkC hkind hlay hi (j_kOk_ty (h2 k hk)) hn1 hn2
    cases b with
    | true => exact va_WputK hx hb (f := f) hown (va_Nw.use rfl (hG.2.1 _ (by simpa using hlink) rfl)) hi' hst (by rw [q2]; exact h6) q1 q3 hlt rfl rfl hd fin
    | false => exact W.putK hx hb (f := f) ⟨hown, j_good_before hts (by simpa using hlink) rfl, ⟨_, _, _, hi'⟩, hst⟩ (by rw [q2]; exact h6) q1 q3 hlt rfl rfl hd fin
  | true =>
    have hf2 : (r.2.1 k).2.2.2 = true := by
      unfold j_fin at hfn
      simpa only [hr] using hfn
    obtain ⟨g1, g2, g3⟩ := hfin.resolve_left (by rw [hfn]; decide)
    rw [if_pos hf2] at hlay
    subst g3
    have hcf : m.cls = cf := by
      obtain ⟨_, _, c', _, _, _, -, -, hf', -, -, -, hown2, -⟩ := Cond.laysFinal_spec hlay
      have e1 : c' = cf := by have := hi.symm.trans hf'; simp at this; exact this.1.symm
      rw [h1 k hk, hrn, g2] at hown2
      rw [← e1]; exact Option.some.inj (hown.symm.trans hown2)
    have h6 := u_fits hfc hkC hkind (Or.inr hlay) hi (j_kOk_ty (h2 k hk)) hn1 hn2
    exact W.putFinK hx hb hown (j_good_before hts (by simpa using hlink) rfl) hi' hst hcf (hnm g1) (by rw [q2]; exact h6) q1 q3 hlt rfl rfl hd fin
end JHP
