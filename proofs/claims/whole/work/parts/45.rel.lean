/-! THE TWO HALVES -/
def GB (f : Nat → Int32) : Prop := RG f ∧ bEmp f = false
def d20 : Nat → Int32 := fun k => if k % 2 = 0 then -20 else 20
/-- a mode in both halves -/
def DM (I : fI) (mc m : Nat) : Prop := GB (I (11 + 7 * m)) ∧ isB (I (9 + 7 * m) 3) ∧ I 355 m = I (9 + 7 * m) 3 ∧ (I (9 + 7 * m) 3 = 1 → m < mc ∧ GB (I (15 + 7 * m)) ∧ E6 (sl I 356 (6 * m)) (I (15 + 7 * m))) ∧ (m < mc → E6 (sl I 347 (6 * m)) (I (11 + 7 * m)) ∧ E6 (sl I 348 (6 * m)) (I (13 + 7 * m))) ∧ (mc ≤ m → E6 (I (11 + 7 * m)) d20 ∧ E6 (I (13 + 7 * m)) (fun _ => 0))
/-- a jump in both halves -/
def DJ (I : fI) (jc j : Nat) : Prop := (∀ k, k < 3 → isB (I (56 + 6 * j) k) ∧ I 353 (3 * j + k) = I (56 + 6 * j) k) ∧ E6 (sl I 352 (6 * j)) (I (55 + 6 * j)) ∧ (j < jc → E6 (sl I 351 (6 * j)) (I (53 + 6 * j))) ∧ (jc ≤ j → E6 (I (53 + 6 * j)) d20 ∧ ∀ k, k < 3 → I (56 + 6 * j) k = 0)
/-- start, wrong -/
def DS (I : fI) (sm : Nat) : Prop := sm < 6 ∧ I 2 6 = nI sm ∧ I 346 9 = nI sm ∧ I 346 10 = I 2 7 ∧ (I 2 7 = -4 ∨ ∃ w, w < 6 ∧ I 2 7 = nI w) ∧ E6 (I 354) (I 6) ∧ E6 (sl I 354 6) (I 8) ∧ GB (I 8)
/-- the run by hand -/
def DH (I : fI) (mc : Nat) : Prop := isB (I 330 5) ∧ I 346 30 = I 330 5 ∧ I 346 31 = I 330 3 ∧ (∃ p, p < 6 ∧ I 330 3 = nI p ∧ (I 330 5 = 1 → p < mc)) ∧ I 346 33 = I 330 4 ∧ ∀ k, k < 3 → I 367 k = I 332 (2 * k) ∧ I 332 (2 * k + 1) = I 332 (2 * k)
/-- a sheet -/
def DT (I : fI) (k : Nat) : Prop := I 368 k = I (338 + 2 * k) 1 ∧ I 369 k = I (338 + 2 * k) 2 ∧ (∃ z, z ≤ 60 ∧ I (338 + 2 * k) 2 = nI z) ∧ (I (338 + 2 * k) 1 = -4 ∨ ∃ l, l < 3 ∧ I (338 + 2 * k) 1 = nI l) ∧ ∀ i, i < 60 → I 370 (60 * k + i) = I (339 + 2 * k) i
/-- what both halves are told -/
def RD (I : fI) (mc jc lim sm : Nat) (fj tj : Nat → Nat) : Prop := MI I mc jc fj tj lim ∧ MD I mc jc fj tj lim ∧ DS I sm ∧ (∀ j, j < jc → fj j < mc ∧ tj j < mc) ∧ (∀ m, m < 6 → DM I mc m) ∧ (∀ j, j < 12 → DJ I jc j) ∧ DH I mc ∧ ∀ k, k < 4 → DT I k
/-- what is fresh -/
def RF (I : fI) (mc jc lim sm : Nat) (fj tj : Nat → Nat) : Prop := I 123 9 = nI 0 ∨ (I 123 9 = nI 1 ∧ RX I (XG I mc jc lim sm fj tj) ∧ SU I (XG I mc jc lim sm fj tj) (XG I mc jc lim sm fj tj).1)
def Rel (I : fI) : Prop := ∃ mc jc lim sm fj tj, RD I mc jc lim sm fj tj ∧ RF I mc jc lim sm fj tj
section RELS
variable {I : fI} {mc jc lim sm : Nat} {fj tj : Nat → Nat}
theorem RD_fl (h : RD I mc jc lim sm fj tj) : BE mc (fun m f => rFl I m f) (fun m f => mFl I m f) := by
  intro m hm f f' hf
  obtain ⟨h1, h2, h3, h4, h5, h6⟩ := h
  obtain ⟨-, -, -, -, a, -⟩ := h5 m (by have := h1.2.1; omega)
  obtain ⟨a1, a2⟩ := a hm
  exact E6.meet (E6.shift hf a2.sy) a1.sy
theorem RD_s1 (h : RD I mc jc lim sm fj tj) : BE jc (fun j f => rS1 I j f) (fun j f => mS1 I j f) := by
  intro j hj f f' hf
  obtain ⟨h1, h2, h3, h4, h5, h6, -⟩ := h
  obtain ⟨-, -, a, -⟩ := h6 j (by have := h1.2.2.2.1; omega)
  exact E6.meet hf (a hj).sy
theorem RD_s3 (h : RD I mc jc lim sm fj tj) : BE jc (fun j f => rS3 I j (tj j) f) (fun j f => mS3 I j (tj j) f) := by
  intro j hj f f' hf
  have e1 := RD_s1 h j hj f f' hf
  obtain ⟨h1, h2, h3, h4, h5, h6, -⟩ := h
  have ht := (h4 j hj).2
  obtain ⟨-, -, -, -, a, -⟩ := h5 (tj j) (by have := h1.2.1; omega)
  obtain ⟨a1, a2⟩ := a ht
  obtain ⟨b1, b2, -, -⟩ := h6 j (by have := h1.2.2.2.1; omega)
  refine E6.meet ?_ a1.sy
  intro k hk
  have c := (b1 (k / 2) (by omega)).2
  unfold bSet mSet
  rw [c]
  split
  · exact ((b2 k hk).symm)
  · exact e1 k hk
theorem RD_st (h : RD I mc jc lim sm fj tj) (hs : sm < mc) : E6 (rSt I sm) (mSt I sm) := by
  obtain ⟨h1, h2, h3, h4, h5, -⟩ := h
  obtain ⟨-, -, -, -, a, -⟩ := h5 sm (by have := h1.2.1; omega)
  obtain ⟨a1, a2⟩ := a hs
  obtain ⟨-, -, -, -, -, c, -⟩ := h3
  exact E6.meet c.sy a1.sy
theorem RD_gE (h : RD I mc jc lim sm fj tj) : gE mc (XG I mc jc lim sm fj tj) (MG I mc jc lim sm fj tj) := lG_congr (RD_fl h) (RD_s1 h) (RD_s3 h) (fun j hj => (h.2.2.2.1 j hj).2) (RD_st h)
theorem RD_INV (h : RD I mc jc lim sm fj tj) : INV mc jc fj tj (fun j f => rS3 I j (tj j) f) (XG I mc jc lim sm fj tj) := by
  obtain ⟨h1, h2, h3, h4, h5, -⟩ := h
  have mc6 := h1.2.1
  refine lG_INV (fun j hj => (h4 j hj).2) (fun m hm f hf => ?_) (fun j hj f hf => ?_) BE_r3 (fun hs => ?_)
  · exact mt_RG (h5 m (by omega)).1.1 hf
  · exact mt_RG (h5 (tj j) (by have := (h4 j hj).2; omega)).1.1 hf
  · exact mt_RG (h5 sm h3.1).1.1 hs
end RELS
