/-! SHOWN: the heaps from the goal back to the start, the least numbers there -/
def an (f : Nat → gH) (h : Nat) : Nat → Nat
  | 0 => h
  | k + 1 => iN (f (an f h k)).2.2.1
theorem an_s (f : Nat → gH) (h : Nat) : ∀ k, an f h (k + 1) = an f (iN (f h).2.2.1) k := by
  intro k
  induction k with
  | zero => rfl
  | succ k ih =>
    show iN (f (an f h (k + 1))).2.2.1 = iN (f (an f (iN (f h).2.2.1) k)).2.2.1
    rw [ih]
def CH (s : gS) (h len : Nat) : Prop := 1 ≤ len ∧ len ≤ h + 1 ∧ (∀ k, k < len → an s.2.1 h k < s.1) ∧ (∀ k, k + 1 < len → (s.2.1 (an s.2.1 h k)).2.2.1 = nI (an s.2.1 h (k + 1))) ∧ (s.2.1 (an s.2.1 h (len - 1))).2.2.1 = -4
theorem ch_ex {s : gS} (hO : OG s) : ∀ n h, h < n → h < s.1 → ∃ len, CH s h len := by
  intro n
  induction n with
  | zero => intro h hh; omega
  | succ n ih =>
    intro h hn hh
    rcases hO.2 h hh with e | ⟨o, ho, e⟩
    · exact ⟨1, Nat.le_refl _, by omega, fun k hk => by rw [show k = 0 by omega]; exact hh, fun k hk => by omega, e⟩
    · obtain ⟨len, c1, c2, c3, c4, c5⟩ := ih o (by omega) (by omega)
      have h64 : o < 64 := by have := hO.1; omega
      have eo : ∀ k, an s.2.1 h (k + 1) = an s.2.1 o k := fun k => by rw [an_s, e, iN_n h64]
      refine ⟨len + 1, by omega, by omega, fun k hk => ?_, fun k hk => ?_, ?_⟩
      · cases k with
        | zero => exact hh
        | succ k => rw [eo]; exact c3 k (by omega)
      · cases k with
        | zero => rw [eo]; exact e
        | succ k => rw [eo, eo]; exact c4 k (by omega)
      · rw [show len + 1 - 1 = (len - 1) + 1 by omega, eo]
        exact c5
def mxI (a b : Int32) : Int32 := if a < b then b else a
theorem mxI_l {a b : Int32} : a ≤ mxI a b := by
  unfold mxI
  split
  · rename_i h
    rw [i_lt] at h
    rw [i_le]
    omega
  · exact Int32.le_refl a
theorem mxI_of_le {a b : Int32} (h : b ≤ a) : mxI a b = a := by
  unfold mxI
  rw [if_neg (by rw [i_nlt]; exact h)]
theorem mxI_of_ge {a b : Int32} (h : a ≤ b) : mxI a b = b := by
  unfold mxI
  split
  · rfl
  · rename_i q
    rw [i_nlt] at q
    exact Int32.le_antisymm h q
theorem i_trans {a b c : Int32} (h1 : a ≤ b) (h2 : b ≤ c) : a ≤ c := by
  rw [i_le] at h1 h2 ⊢
  omega
/-- the least number ahead -/
def bk (I : fI) (e : gH) (how : Int32) (x : Nat) (v : Int32) : Int32 := if how = nI 0 then mxI (e.2.1 (2 * x)) (v - I (13 + 7 * e.1) (2 * x + 1)) else if I (56 + 6 * (iN how - 1)) x = nI 0 then v else mxI (e.2.1 (2 * x)) (I (53 + 6 * (iN how - 1)) (2 * x))
def val (I : fI) (s : gS) (h x : Nat) : Nat → Int32
  | 0 => mxI ((s.2.1 h).2.1 (2 * x)) (I 8 (2 * x))
  | k + 1 => bk I (s.2.1 (an s.2.1 h (k + 1))) (s.2.1 (an s.2.1 h k)).2.2.2.1 x (val I s h x k)
theorem even_mx {f g : Nat → Int32} {x : Nat} : bMeet f g (2 * x) = mxI (f (2 * x)) (g (2 * x)) := by
  unfold bMeet mxI
  rw [if_pos (by omega)]
section CHN
variable {I : fI} {s : gS} {mc jc h len : Nat} {fj tj : Nat → Nat}
/-- how a heap of the chain came -/
theorem ch_how (V : INV mc jc fj tj (fun j f => rS3 I j (tj j) f) s) (C : CH s h len) (N : ∀ k, k < len → (s.2.1 (an s.2.1 h k)).2.2.2.2.2 = false) {k : Nat} (hk : k + 1 < len) : (s.2.1 (an s.2.1 h k)).2.2.2.1 = nI 0 ∨ ∃ j, j < jc ∧ (s.2.1 (an s.2.1 h k)).2.2.2.1 = nI (1 + j) ∧ fj j = (s.2.1 (an s.2.1 h (k + 1))).1 ∧ E6 (s.2.1 (an s.2.1 h k)).2.1 (rS3 I j (tj j) (s.2.1 (an s.2.1 h (k + 1))).2.1) := by
  obtain ⟨c1, c2, c3, c4, c5⟩ := C
  obtain ⟨-, -, -, q⟩ := V.2 _ (c3 k (by omega))
  have e := c4 k hk
  have n1 := c3 (k + 1) hk
  have n64 := V.1
  rcases q with ⟨q, -⟩ | ⟨o, q1, q2, q3⟩
  · rw [e] at q
    exact absurd q (nI_ne4 (by omega))
  · have k1 := c3 k (by omega)
    have eo : o = an s.2.1 h (k + 1) := by
      rw [e, n_eq (by omega) (by omega)] at q2
      exact q2.symm
    subst eo
    rcases q3 with ⟨q4, -⟩ | ⟨j, q4, q5, q6, q7, q8⟩
    · exact Or.inl q4
    · exact Or.inr ⟨j, q4, q5, q6, q8 (N k (by omega)) (N (k + 1) hk)⟩
theorem iN_1 {j : Nat} (h : j < 12) : iN (nI (1 + j)) - 1 = j := by
  rw [iN_n (by omega)]
  omega
theorem n_1j0 {j : Nat} (h : j < 12) : ¬ nI (1 + j) = nI 0 := by
  rw [n_eq (by omega) (by omega)]
  omega
/-- a number that is kept was in the guard, and in the heap ahead -/
theorem ch_keep {j x : Nat} {f g : Nat → Int32} {t : Nat} (hx : x < 3) (hE : E6 g (rS3 I j t f)) (hs : I (56 + 6 * j) x = nI 0) : mxI (f (2 * x)) (I (53 + 6 * j) (2 * x)) ≤ g (2 * x) := by
  rw [hE (2 * x) (by omega)]
  unfold rS3
  rw [even_mx]
  have : bSet I j (rS1 I j f) (2 * x) = mxI (f (2 * x)) (I (53 + 6 * j) (2 * x)) := by
    unfold bSet
    rw [show 2 * x / 2 = x by omega, hs, if_neg (fun r => r.2 rfl)]
    unfold rS1
    rw [even_mx]
  rw [this]
  exact mxI_l
theorem val_ge (V : INV mc jc fj tj (fun j f => rS3 I j (tj j) f) s) (jc12 : jc ≤ 12) (C : CH s h len) (N : ∀ k, k < len → (s.2.1 (an s.2.1 h k)).2.2.2.2.2 = false) {x : Nat} (hx : x < 3) : ∀ k, k < len → (s.2.1 (an s.2.1 h k)).2.1 (2 * x) ≤ val I s h x k := by
  intro k
  induction k with
  | zero => intro _; exact mxI_l
  | succ k ih =>
    intro hk
    have i1 := ih (by omega)
    show _ ≤ bk I (s.2.1 (an s.2.1 h (k + 1))) (s.2.1 (an s.2.1 h k)).2.2.2.1 x (val I s h x k)
    rcases ch_how V C N hk with q | ⟨j, q1, q2, q3, q4⟩
    · unfold bk
      rw [if_pos q]
      exact mxI_l
    · unfold bk
      rw [q2, if_neg (n_1j0 (by omega)), iN_1 (by omega)]
      by_cases hs : I (56 + 6 * j) x = nI 0
      · rw [if_pos hs]
        exact i_trans mxI_l (i_trans (ch_keep hx q4 hs) i1)
      · rw [if_neg hs]
        exact mxI_l
/-- of a sure heap nothing on the way was joined -/
theorem ch_sure (hO : OG s) : ∀ n h len, h < n → h < s.1 → CH s h len → sure s.2.1 h = true → ∀ k, k < len → (s.2.1 (an s.2.1 h k)).2.2.2.2.2 = false := by
  intro n
  induction n with
  | zero => intro h len hh; omega
  | succ n ih =>
    intro h len hn hh C hs k hk
    obtain ⟨c1, c2, c3, c4, c5⟩ := C
    have st := sure_st hO hh true
    rw [Bool.true_and, Bool.true_and, hs] at st
    have st := st.symm
    simp only [Bool.and_eq_true, Bool.not_eq_true'] at st
    cases k with
    | zero => exact st.1
    | succ k =>
      have e0 := c4 0 (by omega)
      have e0 : (s.2.1 h).2.2.1 = nI (an s.2.1 h 1) := e0
      rcases hO.2 h hh with e | ⟨o, ho, e⟩
      · rw [e0] at e
        exact absurd e (nI_ne4 (by have := c3 1 (by omega); have := hO.1; omega))
      · have h64 : o < 64 := by have := hO.1; omega
        have eo : ∀ k, an s.2.1 h (k + 1) = an s.2.1 o k := fun k => by rw [an_s, e, iN_n h64]
        rw [eo]
        refine ih o (len - 1) (by omega) (by omega) ⟨by omega, ?_, fun q hq => ?_, fun q hq => ?_, ?_⟩ ?_ k (by omega)
        · -- the chain of o
          have : ∀ k, k + 1 ≤ len - 1 → k ≤ o := by
            intro k
            induction k with
            | zero => intro _; omega
            | succ k ihk =>
              intro hk2
              -- each origin is earlier
              have : ∀ q, q + 1 ≤ len - 1 → an s.2.1 o q + q ≤ o := by
                intro q
                induction q with
                | zero => intro _; exact Nat.le_refl _
                | succ q ihq =>
                  intro hq
                  have i1 := ihq (by omega)
                  have e2 := c4 (q + 1) (by omega)
                  rw [eo, eo] at e2
                  have c9 := c3 (q + 1) (by omega)
                  rw [eo] at c9
                  have c8 := c3 (q + 2) (by omega)
                  rw [eo] at c8
                  have n64 := hO.1
                  rcases hO.2 _ c9 with r | ⟨o2, r1, r2⟩
                  · rw [e2] at r
                    exact absurd r (nI_ne4 (by omega))
                  · rw [e2, n_eq (by omega) (by omega)] at r2
                    omega
              have := this (k + 1) hk2
              omega
          have := this (len - 2) (by omega)
          omega
        · rw [← eo]; exact c3 (q + 1) (by omega)
        · have := c4 (q + 1) (by omega)
          rw [eo, eo] at this
          exact this
        · rw [show len - 1 = (len - 2) + 1 by omega, eo] at c5
          exact c5
        · have := st.2
          rw [e, if_neg (nI_ne4 h64), iN_n h64] at this
          exact this
end CHN
