/-! THE TWO HALVES -/
def GB (f : Nat → Int32) : Prop := RG f ∧ bEmp f = false
def d20 : Nat → Int32 := fun k => if k % 2 = 0 then -20 else 20
/-- a mode in both halves -/
def DM (I : fI) (mc m : Nat) : Prop := GB (I (11 + 7 * m)) ∧ isB (I (9 + 7 * m) 3) ∧ I 355 m = I (9 + 7 * m) 3 ∧ (I (9 + 7 * m) 3 = 1 → m < mc ∧ GB (I (15 + 7 * m)) ∧ E6 (sl I 356 (6 * m)) (I (15 + 7 * m))) ∧ (m < mc → E6 (sl I 347 (6 * m)) (I (11 + 7 * m)) ∧ E6 (sl I 348 (6 * m)) (I (13 + 7 * m))) ∧ (mc ≤ m → E6 (I (11 + 7 * m)) d20 ∧ E6 (I (13 + 7 * m)) (fun _ => 0))
/-- a jump in both halves -/
def DJ (I : fI) (jc j : Nat) : Prop := (∀ k, k < 3 → isB (I (56 + 6 * j) k) ∧ I 353 (3 * j + k) = I (56 + 6 * j) k) ∧ E6 (sl I 352 (6 * j)) (I (55 + 6 * j)) ∧ (j < jc → E6 (sl I 351 (6 * j)) (I (53 + 6 * j))) ∧ (jc ≤ j → E6 (I (53 + 6 * j)) d20 ∧ ∀ k, k < 3 → I (56 + 6 * j) k = 0)
/-- start, wrong -/
def DS (I : fI) (sm : Nat) : Prop := sm < 6 ∧ I 2 6 = nI sm ∧ I 346 9 = nI sm ∧ I 346 10 = I 2 7 ∧ (I 2 7 = -4 ∨ ∃ w, w < 6 ∧ I 2 7 = nI w) ∧ E6 (I 354) (I 6) ∧ E6 (sl I 354 6) (I 8) ∧ GB (I 8)
/-- the run by hand -/
def DH (I : fI) (mc : Nat) : Prop := isB (I 330 5) ∧ I 346 30 = I 330 5 ∧ I 346 31 = I 330 3 ∧ (∃ p, p < 6 ∧ I 330 3 = nI p ∧ (I 330 5 = 1 → p < mc)) ∧ I 346 33 = I 330 4 ∧ ∀ k, k < 3 → I 367 k = I 332 (2 * k) ∧ I 332 (2 * k + 1) = I 332 (2 * k)
/-- a sheet -/
def DT (I : fI) (k : Nat) : Prop := I 368 k = I (338 + 2 * k) 1 ∧ I 369 k = I (338 + 2 * k) 2 ∧ (∃ z, z ≤ 60 ∧ I (338 + 2 * k) 2 = nI z) ∧ (I (338 + 2 * k) 1 = -4 ∨ ∃ l, l < 3 ∧ I (338 + 2 * k) 1 = nI l) ∧ ∀ i, i < 60 → I 370 (60 * k + i) = I (339 + 2 * k) i
/-- what both halves are told -/
def RD (I : fI) (mc jc lim sm : Nat) (fj tj : Nat → Nat) : Prop := MI I mc jc fj tj lim ∧ MD I mc jc fj tj lim ∧ DS I sm ∧ (∀ j, j < jc → fj j < mc ∧ tj j < mc) ∧ (∀ m, m < 6 → DM I mc m) ∧ (∀ j, j < 12 → DJ I jc j) ∧ DH I mc ∧ ∀ k, k < 4 → DT I k
/-- what is fresh -/
def RF (I : fI) (mc jc lim sm : Nat) (fj tj : Nat → Nat) : Prop := I 123 9 = nI 0 ∨ (I 123 9 = nI 1 ∧ ∃ G, gE mc G (XG I mc jc lim sm fj tj) ∧ RX I G ∧ SU I G G.1)
def Rel (I : fI) : Prop := ∃ mc jc lim sm fj tj, RD I mc jc lim sm fj tj ∧ RF I mc jc lim sm fj tj
theorem gE_tr {mc : Nat} {s s' s'' : gS} (h : gE mc s s') (h2 : gE mc s' s'') : gE mc s s'' := by
  obtain ⟨a1, a2, a3⟩ := h
  obtain ⟨b1, b2, b3⟩ := h2
  refine ⟨a1.trans b1, fun i hi => ?_, a3.trans b3⟩
  obtain ⟨c1, c2, c3, c4⟩ := a2 i hi
  obtain ⟨e1, e2, e3, e4⟩ := b2 i (by omega)
  exact ⟨c1, c2.trans e2, c3.tr e3, c4.trans e4⟩
theorem INV_gE {mc jc : Nat} {fj tj : Nat → Nat} {R3 R3' : Nat → (Nat → Int32) → Nat → Int32} {s s' : gS} (h : INV mc jc fj tj R3 s) (g : gE mc s s') (hR : BE jc R3 R3') : INV mc jc fj tj R3' s' := by
  obtain ⟨g1, g2, g3⟩ := g
  refine ⟨by rw [← g1]; exact h.1, fun i hi => ?_⟩
  have hi : i < s.1 := by omega
  obtain ⟨a1, a2, a3, a4⟩ := g2 i hi
  obtain ⟨h1, h2, h3, h4⟩ := h.2 i hi
  refine ⟨by rw [← a2]; exact h1, by rw [← bEmp_congr a3]; exact h2, RG_E h3 a3, ?_⟩
  rw [← a4]
  rcases h4 with h4 | ⟨o, h5, h6, h7⟩
  · exact Or.inl h4
  · refine Or.inr ⟨o, h5, h6, ?_⟩
    obtain ⟨b1, b2, b3, b4⟩ := g2 o (by omega)
    rcases h7 with ⟨c1, c2⟩ | ⟨j, c1, c2, c3, c4, c5⟩
    · exact Or.inl ⟨c1, by rw [← a2, ← b2]; exact c2⟩
    · refine Or.inr ⟨j, c1, c2, by rw [← b2]; exact c3, by rw [← a2]; exact c4, fun q1 q2 => ?_⟩
      rw [← b4] at q2
      exact (a3.sy.tr (c5 q1 q2)).tr (hR j c1 _ _ b3)
/-- what may change with nothing told -/
def FR (I I' : fI) : Prop := (∀ o, (o < 123 ∨ (330 ≤ o ∧ o < 346 ∧ o ≠ 334 ∧ o ≠ 337) ∨ (346 < o ∧ o < 357) ∨ 366 < o) → I' o = I o) ∧ I' 123 5 = I 123 5 ∧ ∀ k, k ≠ 16 → k ≠ 23 → k ≠ 24 → k ≠ 25 → k ≠ 27 → I' 346 k = I 346 k
theorem FR.rf {I : fI} : FR I I := ⟨fun _ _ => rfl, rfl, fun _ _ _ _ _ _ => rfl⟩
theorem FR.tr {I I' I'' : fI} (h1 : FR I I') (h2 : FR I' I'') : FR I I'' := ⟨fun o ho => (h2.1 o ho).trans (h1.1 o ho), h2.2.1.trans h1.2.1, fun k a b c d e => (h2.2.2 k a b c d e).trans (h1.2.2 k a b c d e)⟩
theorem SV.FR {I I' : fI} (h : SV I I') : FR I I' := ⟨fun o ho => h.1 o (by omega), h.2 5 (by omega), fun k _ _ _ _ _ => by rw [h.1 346 (by omega)]⟩
theorem MW.FR {I I' : fI} (h : MW I I') : FR I I' := ⟨fun o ho => h.1 o (by omega) (by omega), by rw [h.1 123 (by omega) (by omega)], fun k a b c d _ => h.2 k a b c d⟩
theorem MI.fr {I I' : fI} {mc jc lim : Nat} {fj tj : Nat → Nat} (h : MI I mc jc fj tj lim) (hs : FR I I') : MI I' mc jc fj tj lim := by
  obtain ⟨h1, h2, h3, h4, h5, h6, h7⟩ := h
  refine ⟨by rw [hs.1 2 (by omega)]; exact h1, h2, by rw [hs.1 2 (by omega)]; exact h3, h4, fun j hj => ?_, by rw [hs.2.1]; exact h6, h7⟩
  rw [hs.1 (51 + 6 * j) (by omega), hs.1 (56 + 6 * j) (by omega)]
  exact h5 j hj
theorem MD.fr {I I' : fI} {mc jc lim : Nat} {fj tj : Nat → Nat} (h : MD I mc jc fj tj lim) (w : FR I I') : MD I' mc jc fj tj lim := by
  obtain ⟨h1, h2, h3, h4, h5, h6, h7⟩ := h
  refine ⟨by rw [w.2.2 0 (by omega) (by omega) (by omega) (by omega) (by omega)]; exact h1, h2, by rw [w.2.2 3 (by omega) (by omega) (by omega) (by omega) (by omega)]; exact h3, h4, fun j hj => ?_, by rw [w.2.2 12 (by omega) (by omega) (by omega) (by omega) (by omega)]; exact h6, h7⟩
  rw [w.1 349 (by omega), w.1 350 (by omega)]
  exact h5 j hj
theorem sl_fr {I I' : fI} {a n : Nat} (h : I' a = I a) : sl I' a n = sl I a n := by
  unfold sl
  rw [h]
theorem RD_fr {I I' : fI} {mc jc lim sm : Nat} {fj tj : Nat → Nat} (h : RD I mc jc lim sm fj tj) (w : FR I I') : RD I' mc jc lim sm fj tj := by
  obtain ⟨h1, h2, h3, h4, h5, h6, h7, h8⟩ := h
  have w4 : ∀ k, k ≠ 16 → k ≠ 23 → k ≠ 24 → k ≠ 25 → k ≠ 27 → I' 346 k = I 346 k := w.2.2
  refine ⟨h1.fr w, h2.fr w, ?_, h4, fun m hm => ?_, fun j hj => ?_, ?_, fun k hk => ?_⟩
  · have h := h3
    unfold DS at h ⊢
    rw [w.1 2 (by omega), w.1 6 (by omega), w.1 8 (by omega), w.1 354 (by omega), sl_fr (w.1 354 (by omega)), w4 9 (by omega) (by omega) (by omega) (by omega) (by omega), w4 10 (by omega) (by omega) (by omega) (by omega) (by omega)]
    exact h
  · have h := h5 m hm
    unfold DM at h ⊢
    rw [w.1 (9 + 7 * m) (by omega), w.1 (11 + 7 * m) (by omega), w.1 (13 + 7 * m) (by omega), w.1 (15 + 7 * m) (by omega), w.1 355 (by omega), sl_fr (w.1 356 (by omega)), sl_fr (w.1 347 (by omega)), sl_fr (w.1 348 (by omega))]
    exact h
  · have h := h6 j hj
    unfold DJ at h ⊢
    rw [w.1 (56 + 6 * j) (by omega), w.1 (55 + 6 * j) (by omega), w.1 (53 + 6 * j) (by omega), w.1 353 (by omega), sl_fr (w.1 352 (by omega)), sl_fr (w.1 351 (by omega))]
    exact h
  · have h := h7
    unfold DH at h ⊢
    rw [w.1 330 (by omega), w.1 332 (by omega), w.1 367 (by omega), w4 30 (by omega) (by omega) (by omega) (by omega) (by omega), w4 31 (by omega) (by omega) (by omega) (by omega) (by omega), w4 33 (by omega) (by omega) (by omega) (by omega) (by omega)]
    exact h
  · have h := h8 k hk
    unfold DT at h ⊢
    rw [w.1 (338 + 2 * k) (by omega), w.1 (339 + 2 * k) (by omega), w.1 368 (by omega), w.1 369 (by omega), w.1 370 (by omega)]
    exact h
section RELS
variable {I : fI} {mc jc lim sm : Nat} {fj tj : Nat → Nat}
theorem RD_fl (h : RD I mc jc lim sm fj tj) : BE mc (fun m f => rFl I m f) (fun m f => mFl I m f) := by
  intro m hm f f' hf
  obtain ⟨h1, h2, h3, h4, h5, h6⟩ := h
  obtain ⟨-, -, -, -, a, -⟩ := h5 m (by have := h1.2.1; omega)
  obtain ⟨a1, a2⟩ := a hm
  exact E6.meet (E6.shift hf a2.sy) a1.sy
theorem RD_s1 (h : RD I mc jc lim sm fj tj) : BE jc (fun j f => rS1 I j f) (fun j f => mS1 I j f) := by
  intro j hj f f' hf
  obtain ⟨h1, h2, h3, h4, h5, h6, -⟩ := h
  obtain ⟨-, -, a, -⟩ := h6 j (by have := h1.2.2.2.1; omega)
  exact E6.meet hf (a hj).sy
theorem RD_s3 (h : RD I mc jc lim sm fj tj) : BE jc (fun j f => rS3 I j (tj j) f) (fun j f => mS3 I j (tj j) f) := by
  intro j hj f f' hf
  have e1 := RD_s1 h j hj f f' hf
  obtain ⟨h1, h2, h3, h4, h5, h6, -⟩ := h
  have ht := (h4 j hj).2
  obtain ⟨-, -, -, -, a, -⟩ := h5 (tj j) (by have := h1.2.1; omega)
  obtain ⟨a1, a2⟩ := a ht
  obtain ⟨b1, b2, -, -⟩ := h6 j (by have := h1.2.2.2.1; omega)
  refine E6.meet ?_ a1.sy
  intro k hk
  have c := (b1 (k / 2) (by omega)).2
  unfold bSet mSet
  rw [c]
  split
  · exact ((b2 k hk).symm)
  · exact e1 k hk
theorem RD_st (h : RD I mc jc lim sm fj tj) (hs : sm < mc) : E6 (rSt I sm) (mSt I sm) := by
  obtain ⟨h1, h2, h3, h4, h5, -⟩ := h
  obtain ⟨-, -, -, -, a, -⟩ := h5 sm (by have := h1.2.1; omega)
  obtain ⟨a1, a2⟩ := a hs
  obtain ⟨-, -, -, -, -, c, -⟩ := h3
  exact E6.meet c.sy a1.sy
theorem RD_gE (h : RD I mc jc lim sm fj tj) : gE mc (XG I mc jc lim sm fj tj) (MG I mc jc lim sm fj tj) := lG_congr (RD_fl h) (RD_s1 h) (RD_s3 h) (fun j hj => (h.2.2.2.1 j hj).2) (RD_st h)
theorem RD_INV (h : RD I mc jc lim sm fj tj) : INV mc jc fj tj (fun j f => rS3 I j (tj j) f) (XG I mc jc lim sm fj tj) := by
  obtain ⟨h1, h2, h3, h4, h5, -⟩ := h
  have mc6 := h1.2.1
  refine lG_INV (fun j hj => (h4 j hj).2) (fun m hm f hf => ?_) (fun j hj f hf => ?_) BE_r3 (fun hs => ?_)
  · exact mt_RG (h5 m (by omega)).1.1 hf
  · exact mt_RG (h5 (tj j) (by have := (h4 j hj).2; omega)).1.1 hf
  · exact mt_RG (h5 sm h3.1).1.1 hs
/-- the search of equal numbers -/
theorem XG_lo {I' : fI} (h : RD I mc jc lim sm fj tj) (lo : ∀ o, o < 123 → I' o = I o) : gE mc (XG I mc jc lim sm fj tj) (XG I' mc jc lim sm fj tj) := by
  obtain ⟨h1, h2, h3, h4, h5, -⟩ := h
  have mc6 := h1.2.1
  have jc12 := h1.2.2.2.1
  refine lG_congr (fun m hm f f' hf => ?_) (fun j hj f f' hf => ?_) (fun j hj f f' hf => ?_) (fun j hj => (h4 j hj).2) (fun hs => ?_)
  · rw [rFl_lo lo (by omega)]
    exact BE_fl m hm f f' hf
  · rw [rS1_lo lo (by omega)]
    exact BE_r1 (jc := jc) j hj f f' hf
  · rw [rS3_lo lo (by omega) (by have := (h4 j hj).2; omega)]
    exact BE_r3 (jc := jc) (tj := tj) j hj f f' hf
  · rw [rSt_lo lo h3.1]
    exact E6.rf
/-- a call that asks: the class's heaps -/
theorem q_X {xs : List Value} {L : fL} (h : RD I mc jc lim sm fj tj) (f : RF I mc jc lim sm fj tj) : ∃ (G : gS) (I' : fI), RD I' mc jc lim sm fj tj ∧ RF I' mc jc lim sm fj tj ∧ RX I' G ∧ SU I' G G.1 ∧ INV mc jc fj tj (fun j f => rS3 I' j (tj j) f) G ∧ gE mc G (MG I' mc jc lim sm fj tj) ∧ SV I I' ∧ I' 123 9 = nI 1 ∧ ∀ (d : Nat) (Q : Option Value × jW → Prop), Wp (d + 5) 29 0 [some (.ref 123)] [] (f_W xs I L) Q = Q (none, f_W xs I' L) := by
  rcases f with f | ⟨f, G, g1, g2, g3⟩
  · obtain ⟨I', R', U', F', S', E'⟩ := x_refresh (xs := xs) (L := L) h.1 (fun j hj => (h.2.2.2.1 j hj).2) h.2.2.1.2.1 h.2.2.1.1 (INV_OG (RD_INV h)) f
    have h' := RD_fr h S'.FR
    have e := XG_lo h (fun o ho => S'.1 o (Or.inl ho))
    refine ⟨XG I mc jc lim sm fj tj, I', h', Or.inr ⟨F', _, e, R', U'⟩, R', U', ?_, gE_tr e (RD_gE h'), S', F', E'⟩
    exact INV_gE (RD_INV h') (gE_sy e) BE_r3
  · refine ⟨G, I, h, Or.inr ⟨f, G, g1, g2, g3⟩, g2, g3, INV_gE (RD_INV h) (gE_sy g1) BE_r3, gE_tr g1 (RD_gE h), SV.rf, f, fun d Q => x_refresh1 f⟩
/-- a call that asks: the reference's heaps -/
theorem q_M {xs : List Value} {L : fL} (h : RD I mc jc lim sm fj tj) : ∃ I' : fI, RD I' mc jc lim sm fj tj ∧ RM I' (MG I mc jc lim sm fj tj) 64 ∧ MW I I' ∧ ∀ (d : Nat) (Q : Option Value × jW → Prop), Wp (d + 4) 128 0 [some (.ref 346), none] [] (f_W xs I L) Q = Q (none, f_W xs I' L) := by
  obtain ⟨I', R', W', E'⟩ := x_layHeaps (xs := xs) (L := L) h.2.1 h.2.2.1.2.2.1 h.2.2.1.1
  exact ⟨I', RD_fr h W'.FR, R', W', E'⟩
end RELS
