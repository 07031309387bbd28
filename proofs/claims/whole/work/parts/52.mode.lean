/-! mode -/
section MODE
variable {xs : List Value} {I : fI} {L : fL}
def moI (I : fI) (c : Nat) : fI := f_up (f_w6 (f_w6 (f_up (f_up I 123 9 (nI 0)) 2 4 (nI (c + 1))) 347 (6 * c) d20) 348 (6 * c) (fun _ => nI 0)) 346 0 (nI (c + 1))
theorem n_sub1 {c : Nat} (h : c ≤ 1000) : nI (c + 1) - nI 1 = nI c := by
  have : ∀ c, c ≤ 1000 → nI (c + 1) - nI 1 = nI c := by decide +kernel
  exact this c h
theorem moI_RD {mc jc lim sm : Nat} {fj tj : Nat → Nat} (h : RD I mc jc lim sm fj tj) (hc : mc < 6) : RD (moI I mc) (mc + 1) jc lim sm fj tj := by
  obtain ⟨h1, h2, h3, h4, h5, h6, h7, h8⟩ := h
  have o : ∀ o, o ≠ 2 → o ≠ 123 → o ≠ 346 → o ≠ 347 → o ≠ 348 → moI I mc o = I o := by
    intro o a b c d e
    unfold moI
    rw [f_up_ne c, f_w6_ne e, f_w6_ne d, f_up_ne a, f_up_ne b]
  have o2 : ∀ k, k ≠ 4 → moI I mc 2 k = I 2 k := by
    intro k hk
    simp [moI, f_up_at, f_w6_at, hk]
  have oM : ∀ k, k ≠ 0 → moI I mc 346 k = I 346 k := by
    intro k hk
    simp [moI, f_up_at, f_w6_at, hk]
  have e24 : moI I mc 2 4 = nI (mc + 1) := by simp [moI, f_up_at, f_w6_at]
  have e0 : moI I mc 346 0 = nI (mc + 1) := by simp [moI, f_up_at]
  have e5 : moI I mc 123 5 = I 123 5 := by simp [moI, f_up_at, f_w6_at]
  refine ⟨⟨e24, by omega, by rw [o2 5 (by omega)]; exact h1.2.2.1, h1.2.2.2.1, fun j hj => ?_, by rw [e5]; exact h1.2.2.2.2.2.1, h1.2.2.2.2.2.2⟩, ⟨e0, by omega, by rw [oM 3 (by omega)]; exact h2.2.2.1, h2.2.2.2.1, fun j hj => ?_, by rw [oM 12 (by omega)]; exact h2.2.2.2.2.2.1, h2.2.2.2.2.2.2⟩, ?_, fun j hj => ⟨by have := h4 j hj; omega, by have := h4 j hj; omega⟩, fun m hm => ?_, fun j hj => ?_, ?_, fun k hk => ?_⟩
  · have jc12 := h1.2.2.2.1
    rw [o (51 + 6 * j) (by omega) (by omega) (by omega) (by omega) (by omega), o (56 + 6 * j) (by omega) (by omega) (by omega) (by omega) (by omega)]
    exact h1.2.2.2.2.1 j hj
  · rw [o 349 (by omega) (by omega) (by omega) (by omega) (by omega), o 350 (by omega) (by omega) (by omega) (by omega) (by omega)]
    exact h2.2.2.2.2.1 j hj
  · have h := h3
    unfold DS at h ⊢
    rw [o2 6 (by omega), o2 7 (by omega), oM 9 (by omega), oM 10 (by omega), o 6 (by omega) (by omega) (by omega) (by omega) (by omega), o 8 (by omega) (by omega) (by omega) (by omega) (by omega), o 354 (by omega) (by omega) (by omega) (by omega) (by omega), sl_fr (o 354 (by omega) (by omega) (by omega) (by omega) (by omega))]
    exact h
  · have h := h5 m hm
    obtain ⟨a1, a2, a3, a4, a5, a6⟩ := h
    have z1 := o (11 + 7 * m) (by omega) (by omega) (by omega) (by omega) (by omega)
    have z2 := o (9 + 7 * m) (by omega) (by omega) (by omega) (by omega) (by omega)
    have z3 := o (13 + 7 * m) (by omega) (by omega) (by omega) (by omega) (by omega)
    have z4 := o (15 + 7 * m) (by omega) (by omega) (by omega) (by omega) (by omega)
    refine ⟨by rw [z1]; exact a1, by rw [z2]; exact a2, by rw [z2, o 355 (by omega) (by omega) (by omega) (by omega) (by omega)]; exact a3, ?_, ?_, ?_⟩
    · rw [z2, z4, sl_fr (o 356 (by omega) (by omega) (by omega) (by omega) (by omega))]
      intro q
      exact ⟨by have := (a4 q).1; omega, (a4 q).2⟩
    · rw [z1, z3]
      intro q
      by_cases hm : m = mc
      · subst hm
        obtain ⟨b1, b2⟩ := a6 (Nat.le_refl _)
        refine ⟨fun k hk => ?_, fun k hk => ?_⟩
        · rw [b1 k hk]
          simp [sl, moI, f_up_at, f_w6_at, hk]
        · rw [b2 k hk]
          simp [sl, moI, f_up_at, f_w6_at, hk, nI]
      · obtain ⟨b1, b2⟩ := a5 (by omega)
        refine ⟨fun k hk => ?_, fun k hk => ?_⟩
        · rw [← b1 k hk]
          have : ¬ (6 * mc ≤ 6 * m + k ∧ 6 * m + k < 6 * mc + 6) := by omega
          simp [sl, moI, f_up_at, f_w6_at, this]
        · rw [← b2 k hk]
          have : ¬ (6 * mc ≤ 6 * m + k ∧ 6 * m + k < 6 * mc + 6) := by omega
          simp [sl, moI, f_up_at, f_w6_at, this]
    · rw [z1, z3]
      intro q
      exact a6 (by omega)
  · have h := h6 j hj
    unfold DJ at h ⊢
    rw [o (56 + 6 * j) (by omega) (by omega) (by omega) (by omega) (by omega), o (55 + 6 * j) (by omega) (by omega) (by omega) (by omega) (by omega), o (53 + 6 * j) (by omega) (by omega) (by omega) (by omega) (by omega), o 353 (by omega) (by omega) (by omega) (by omega) (by omega), sl_fr (o 352 (by omega) (by omega) (by omega) (by omega) (by omega)), sl_fr (o 351 (by omega) (by omega) (by omega) (by omega) (by omega))]
    exact h
  · obtain ⟨a1, a2, a3, ⟨p, p1, p2, p3⟩, a5, a6⟩ := h7
    unfold DH
    rw [o 330 (by omega) (by omega) (by omega) (by omega) (by omega), o 332 (by omega) (by omega) (by omega) (by omega) (by omega), o 367 (by omega) (by omega) (by omega) (by omega) (by omega), oM 30 (by omega), oM 31 (by omega), oM 33 (by omega)]
    exact ⟨a1, a2, a3, ⟨p, p1, p2, fun q => by have := p3 q; omega⟩, a5, a6⟩
  · have h := h8 k hk
    unfold DT at h ⊢
    rw [o (338 + 2 * k) (by omega) (by omega) (by omega) (by omega) (by omega), o (339 + 2 * k) (by omega) (by omega) (by omega) (by omega) (by omega), o 368 (by omega) (by omega) (by omega) (by omega) (by omega), o 369 (by omega) (by omega) (by omega) (by omega) (by omega), o 370 (by omega) (by omega) (by omega) (by omega) (by omega)]
    exact h
end MODE
