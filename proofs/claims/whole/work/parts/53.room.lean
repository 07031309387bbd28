/-! room, slope: one mode's numbers -/
/-- nothing told but of mode m0 -/
def FM (I I' : fI) (m0 : Nat) : Prop := (∀ o, (o < 123 ∨ (330 ≤ o ∧ o < 346 ∧ o ≠ 334 ∧ o ≠ 337) ∨ (346 < o ∧ o < 357) ∨ 366 < o) → o ≠ 9 + 7 * m0 → o ≠ 11 + 7 * m0 → o ≠ 13 + 7 * m0 → o ≠ 15 + 7 * m0 → o ≠ 347 → o ≠ 348 → o ≠ 355 → o ≠ 356 → I' o = I o) ∧ I' 123 5 = I 123 5 ∧ (∀ k, k ≠ 16 → k ≠ 23 → k ≠ 24 → k ≠ 25 → k ≠ 27 → I' 346 k = I 346 k) ∧ (∀ a, (a = 347 ∨ a = 348 ∨ a = 356) → ∀ k, (k < 6 * m0 ∨ 6 * m0 + 6 ≤ k) → I' a k = I a k) ∧ ∀ m, m ≠ m0 → I' 355 m = I 355 m
section ROOM
variable {xs : List Value} {I : fI} {L : fL} {mc jc lim sm : Nat} {fj tj : Nat → Nat}
theorem RD_mode {I' : fI} {m0 : Nat} (h : RD I mc jc lim sm fj tj) (h0 : m0 < 6) (w : FM I I' m0) (hd : DM I' mc m0) : RD I' mc jc lim sm fj tj := by
  obtain ⟨h1, h2, h3, h4, h5, h6, h7, h8⟩ := h
  obtain ⟨w1, w2, w4, w5, w6⟩ := w
  have mc6 := h1.2.1
  have jc12 := h1.2.2.2.1
  have o : ∀ o, (o < 9 ∨ (51 ≤ o ∧ o < 123) ∨ o = 330 ∨ o = 332 ∨ (338 ≤ o ∧ o < 346) ∨ (349 ≤ o ∧ o < 355) ∨ 366 < o) → I' o = I o := fun o ho => w1 o (by omega) (by omega) (by omega) (by omega) (by omega) (by omega) (by omega) (by omega) (by omega)
  have o4 : ∀ k, k ≠ 16 → k ≠ 23 → k ≠ 24 → k ≠ 25 → k ≠ 27 → I' 346 k = I 346 k := w4
  refine ⟨⟨by rw [o 2 (by omega)]; exact h1.1, mc6, by rw [o 2 (by omega)]; exact h1.2.2.1, jc12, fun j hj => ?_, by rw [w2]; exact h1.2.2.2.2.2.1, h1.2.2.2.2.2.2⟩, ⟨by rw [o4 0 (by omega) (by omega) (by omega) (by omega) (by omega)]; exact h2.1, mc6, by rw [o4 3 (by omega) (by omega) (by omega) (by omega) (by omega)]; exact h2.2.2.1, jc12, fun j hj => ?_, by rw [o4 12 (by omega) (by omega) (by omega) (by omega) (by omega)]; exact h2.2.2.2.2.2.1, h2.2.2.2.2.2.2⟩, ?_, h4, fun m hm => ?_, fun j hj => ?_, ?_, fun k hk => ?_⟩
  · rw [o (51 + 6 * j) (by omega), o (56 + 6 * j) (by omega)]
    exact h1.2.2.2.2.1 j hj
  · rw [o 349 (by omega), o 350 (by omega)]
    exact h2.2.2.2.2.1 j hj
  · have h := h3
    unfold DS at h ⊢
    rw [o 2 (by omega), o 6 (by omega), o 8 (by omega), o 354 (by omega), sl_fr (o 354 (by omega)), o4 9 (by omega) (by omega) (by omega) (by omega) (by omega), o4 10 (by omega) (by omega) (by omega) (by omega) (by omega)]
    exact h
  · by_cases q : m = m0
    · rw [q]; exact hd
    · have z : ∀ c, (c = 9 ∨ c = 11 ∨ c = 13 ∨ c = 15) → I' (c + 7 * m) = I (c + 7 * m) := fun c hc => w1 _ (by omega) (by omega) (by omega) (by omega) (by omega) (by omega) (by omega) (by omega) (by omega)
      have y : ∀ a, (a = 347 ∨ a = 348 ∨ a = 356) → E6 (sl I' a (6 * m)) (sl I a (6 * m)) := fun a ha k hk => w5 a ha _ (by omega)
      obtain ⟨a1, a2, a3, a4, a5, a6⟩ := h5 m hm
      unfold DM
      rw [z 9 (by omega), z 11 (by omega), z 13 (by omega), z 15 (by omega), w6 m q]
      exact ⟨a1, a2, a3, fun r => ⟨(a4 r).1, (a4 r).2.1, (y 356 (by omega)).tr (a4 r).2.2⟩, fun r => ⟨(y 347 (by omega)).tr (a5 r).1, (y 348 (by omega)).tr (a5 r).2⟩, a6⟩
  · have h := h6 j hj
    unfold DJ at h ⊢
    rw [o (56 + 6 * j) (by omega), o (55 + 6 * j) (by omega), o (53 + 6 * j) (by omega), o 353 (by omega), sl_fr (o 352 (by omega)), sl_fr (o 351 (by omega))]
    exact h
  · have h := h7
    unfold DH at h ⊢
    rw [o 330 (by omega), o 332 (by omega), o 367 (by omega), o4 30 (by omega) (by omega) (by omega) (by omega) (by omega), o4 31 (by omega) (by omega) (by omega) (by omega) (by omega), o4 33 (by omega) (by omega) (by omega) (by omega) (by omega)]
    exact h
  · have h := h8 k hk
    unfold DT at h ⊢
    rw [o (338 + 2 * k) (by omega), o (339 + 2 * k) (by omega), o 368 (by omega), o 369 (by omega), o 370 (by omega)]
    exact h
/-- one side told in a row of six -/
theorem up_RG {f : Nat → Int32} {i : Nat} {a b : Int32} (hi : i < 3) (hf : GB f) (h1 : -20 ≤ a.toInt) (h2 : a.toInt ≤ b.toInt) (h3 : b.toInt ≤ 20) : GB (gUp f i a b) := by
  have hi' : i = 0 ∨ i = 1 ∨ i = 2 := by omega
  obtain ⟨g1, g2⟩ := hf
  refine ⟨fun k hk => ?_, ?_⟩
  · unfold gUp
    split
    · omega
    · split
      · omega
      · exact g1 k hk
  · unfold bEmp at g2 ⊢
    have hab : ¬ b < a := by rw [i_lt]; omega
    simp only [Bool.or_eq_false_iff, decide_eq_false_iff_not] at g2 ⊢
    rcases hi' with rfl | rfl | rfl <;> simp [gUp, hab, g2]
theorem E6_up {f g : Nat → Int32} {i : Nat} {a b : Int32} (h : E6 f g) : E6 (gUp f i a b) (gUp g i a b) := by
  intro k hk
  unfold gUp
  split
  · rfl
  · split
    · rfl
    · exact h k hk
end ROOM
