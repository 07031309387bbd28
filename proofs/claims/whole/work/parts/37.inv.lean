/-! what holds of every heap -/
def RG (f : Nat → Int32) : Prop := ∀ k, k < 6 → -20 ≤ (f k).toInt ∧ (f k).toInt ≤ 20
theorem six {k : Nat} (h : k < 6) : k = 0 ∨ k = 1 ∨ k = 2 ∨ k = 3 ∨ k = 4 ∨ k = 5 := by omega
theorem RG_E {f g : Nat → Int32} (h : RG f) (e : E6 f g) : RG g := fun k hk => by rw [← e k hk]; exact h k hk
theorem i_lt {a b : Int32} : a < b ↔ a.toInt < b.toInt := Int32.lt_iff_toInt_lt
theorem i_le {a b : Int32} : a ≤ b ↔ a.toInt ≤ b.toInt := Int32.le_iff_toInt_le
theorem mt_pair {a b c d : Int32} (h : ¬ (if d < b then d else b) < (if a < c then c else a)) (hc : -20 ≤ c.toInt) (hd : d.toInt ≤ 20) : (-20 ≤ (if a < c then c else a).toInt ∧ (if a < c then c else a).toInt ≤ 20) ∧ (-20 ≤ (if d < b then d else b).toInt ∧ (if d < b then d else b).toInt ≤ 20) := by
  rw [i_lt] at h
  by_cases q1 : a < c <;> by_cases q2 : d < b <;> simp only [q1, q2, if_true, if_false] at h ⊢ <;> rw [i_lt] at q1 q2 <;> omega
theorem mt_RG {f g : Nat → Int32} (hg : RG g) (he : bEmp (bMeet f g) = false) : RG (bMeet f g) := by
  unfold bEmp at he
  simp only [Bool.or_eq_false_iff, decide_eq_false_iff_not] at he
  obtain ⟨⟨h0, h1⟩, h2⟩ := he
  have e0 := mt_pair (a := f 0) (b := f 1) (c := g 0) (d := g 1) h0 (hg 0 (by omega)).1 (hg 1 (by omega)).2
  have e1 := mt_pair (a := f 2) (b := f 3) (c := g 2) (d := g 3) h1 (hg 2 (by omega)).1 (hg 3 (by omega)).2
  have e2 := mt_pair (a := f 4) (b := f 5) (c := g 4) (d := g 5) h2 (hg 4 (by omega)).1 (hg 5 (by omega)).2
  intro k hk
  rcases six hk with rfl | rfl | rfl | rfl | rfl | rfl
  · exact e0.1
  · exact e0.2
  · exact e1.1
  · exact e1.2
  · exact e2.1
  · exact e2.2
theorem jn_RG {f g : Nat → Int32} (hf : RG f) (hg : RG g) : RG (bJoin f g) := by
  intro k hk
  have h1 := hf k hk
  have h2 := hg k hk
  unfold bJoin
  split <;> split <;> omega
theorem jn_pair {a b c d : Int32} (h1 : ¬ b < a) (h2 : ¬ d < c) : ¬ (if b < d then d else b) < (if c < a then c else a) := by
  rw [i_lt] at h1 h2 ⊢
  by_cases q1 : c < a <;> by_cases q2 : b < d <;> simp only [q1, q2, if_true, if_false] <;> rw [i_lt] at q1 q2 <;> omega
theorem jn_ne {f g : Nat → Int32} (hf : bEmp f = false) (hg : bEmp g = false) : bEmp (bJoin f g) = false := by
  unfold bEmp at hf hg ⊢
  simp only [Bool.or_eq_false_iff, decide_eq_false_iff_not] at hf hg ⊢
  exact ⟨⟨jn_pair hf.1.1 hg.1.1, jn_pair hf.1.2 hg.1.2⟩, jn_pair hf.2 hg.2⟩
section INVS
variable {mc jc lim : Nat} {fj tj : Nat → Nat} {T R1 R3 : Nat → (Nat → Int32) → Nat → Int32}
/-- what a new heap must bring -/
def HP (mc jc : Nat) (fj tj : Nat → Nat) (R3 : Nat → (Nat → Int32) → Nat → Int32) (s : gS) (m : Nat) (b : Nat → Int32) (o : Nat) (how : Int32) (jn : Bool) : Prop := (how = nI 0 ∧ m = (s.2.1 o).1) ∨ ∃ j, j < jc ∧ how = nI (1 + j) ∧ fj j = (s.2.1 o).1 ∧ tj j = m ∧ (jn = false → (s.2.1 o).2.2.2.2.2 = false → E6 b (R3 j (s.2.1 o).2.1))
def HI (mc jc : Nat) (fj tj : Nat → Nat) (R3 : Nat → (Nat → Int32) → Nat → Int32) (s : gS) (i : Nat) (e : gH) : Prop := e.1 < mc ∧ bEmp e.2.1 = false ∧ RG e.2.1 ∧ ((e.2.2.1 = -4 ∧ e.2.2.2.1 = -4) ∨ ∃ o, o < i ∧ e.2.2.1 = nI o ∧ HP mc jc fj tj R3 s e.1 e.2.1 o e.2.2.2.1 e.2.2.2.2.2)
def INV (mc jc : Nat) (fj tj : Nat → Nat) (R3 : Nat → (Nat → Int32) → Nat → Int32) (s : gS) : Prop := s.1 ≤ 64 ∧ ∀ i, i < s.1 → HI mc jc fj tj R3 s i (s.2.1 i)
/-- heaps stay, or are joined -/
def KP (s s' : gS) : Prop := s.1 ≤ s'.1 ∧ ∀ o, o < s.1 → (s'.2.1 o).1 = (s.2.1 o).1 ∧ ((s'.2.1 o).2.2.2.2.2 = false → (s.2.1 o).2.2.2.2.2 = false ∧ (s'.2.1 o).2.1 = (s.2.1 o).2.1)
theorem KP.rf {s : gS} : KP s s := ⟨Nat.le_refl _, fun _ _ => ⟨rfl, fun h => ⟨h, rfl⟩⟩⟩
theorem KP.tr {s s' s'' : gS} (h : KP s s') (h2 : KP s' s'') : KP s s'' := by
  refine ⟨Nat.le_trans h.1 h2.1, fun o ho => ?_⟩
  obtain ⟨a1, a2⟩ := h.2 o ho
  obtain ⟨b1, b2⟩ := h2.2 o (Nat.lt_of_lt_of_le ho h.1)
  refine ⟨b1.trans a1, fun hj => ?_⟩
  obtain ⟨c1, c2⟩ := b2 hj
  obtain ⟨d1, d2⟩ := a2 c1
  exact ⟨d1, c2.trans d2⟩
theorem HP_k {s s' : gS} (k : KP s s') {m o : Nat} {b : Nat → Int32} {how : Int32} {jn : Bool} (ho : o < s.1) (h : HP mc jc fj tj R3 s m b o how jn) : HP mc jc fj tj R3 s' m b o how jn := by
  obtain ⟨k1, k2⟩ := k.2 o ho
  rcases h with ⟨h1, h2⟩ | ⟨j, h1, h2, h3, h4, h5⟩
  · exact Or.inl ⟨h1, h2.trans k1.symm⟩
  · refine Or.inr ⟨j, h1, h2, h3.trans k1.symm, h4, fun hjn hjo => ?_⟩
    obtain ⟨k3, k4⟩ := k2 hjo
    rw [k4]
    exact h5 hjn k3
theorem HI_k {s s' : gS} (k : KP s s') {i : Nat} {e : gH} (hi : i ≤ s.1) (h : HI mc jc fj tj R3 s i e) : HI mc jc fj tj R3 s' i e := by
  obtain ⟨h1, h2, h3, h4⟩ := h
  refine ⟨h1, h2, h3, ?_⟩
  rcases h4 with h4 | ⟨o, h5, h6, h7⟩
  · exact Or.inl h4
  · exact Or.inr ⟨o, h5, h6, HP_k k (by omega) h7⟩
theorem KP_add {s : gS} {e : gH} {w : Nat × Bool} : KP s (s.1 + 1, gupd s.2.1 s.1 e, w) := by
  refine ⟨Nat.le_succ _, fun o ho => ?_⟩
  show (gupd s.2.1 s.1 e o).1 = _ ∧ _
  have : gupd s.2.1 s.1 e o = s.2.1 o := by unfold gupd; rw [if_neg (by omega)]
  simp only [this]
  exact ⟨trivial, fun h => ⟨h, trivial⟩⟩
theorem INV_add {s : gS} {e : gH} {w : Nat × Bool} (h : INV mc jc fj tj R3 s) (h64 : s.1 < 64) (he : HI mc jc fj tj R3 s s.1 e) : INV mc jc fj tj R3 (s.1 + 1, gupd s.2.1 s.1 e, w) := by
  refine ⟨h64, fun i hi => ?_⟩
  have hi : i < s.1 + 1 := hi
  show HI mc jc fj tj R3 _ i (gupd s.2.1 s.1 e i)
  unfold gupd
  by_cases q : i = s.1
  · rw [if_pos q, q]
    exact HI_k KP_add (Nat.le_refl _) he
  · rw [if_neg q]
    exact HI_k KP_add (by omega) (h.2 i (by omega))
theorem KP_upd {s : gS} {l : Nat} {e : gH} {w : Nat × Bool} (h1 : e.1 = (s.2.1 l).1) (h2 : e.2.2.2.2.2 = false → (s.2.1 l).2.2.2.2.2 = false ∧ e.2.1 = (s.2.1 l).2.1) : KP s (s.1, gupd s.2.1 l e, w) := by
  refine ⟨Nat.le_refl _, fun o ho => ?_⟩
  show (gupd s.2.1 l e o).1 = _ ∧ ((gupd s.2.1 l e o).2.2.2.2.2 = false → _ ∧ (gupd s.2.1 l e o).2.1 = _)
  unfold gupd
  by_cases q : o = l
  · subst q
    rw [if_pos rfl]
    exact ⟨h1, h2⟩
  · rw [if_neg q]
    exact ⟨rfl, fun h => ⟨h, rfl⟩⟩
theorem INV_upd {s : gS} {l : Nat} {e : gH} {w : Nat × Bool} (h : INV mc jc fj tj R3 s) (h1 : e.1 = (s.2.1 l).1) (h2 : e.2.2.2.2.2 = false → (s.2.1 l).2.2.2.2.2 = false ∧ e.2.1 = (s.2.1 l).2.1) (he : l < s.1 → HI mc jc fj tj R3 s l e) : INV mc jc fj tj R3 (s.1, gupd s.2.1 l e, w) := by
  refine ⟨h.1, fun i hi => ?_⟩
  have hi : i < s.1 := hi
  have k := KP_upd (w := w) h1 h2
  refine HI_k k (by omega) ?_
  show HI mc jc fj tj R3 s i (gupd s.2.1 l e i)
  unfold gupd
  by_cases q : i = l
  · rw [if_pos q, q]; exact he (by omega)
  · rw [if_neg q]; exact h.2 i hi
theorem tk_INV {s : gS} {m o : Nat} {b : Nat → Int32} {how : Int32} (h : INV mc jc fj tj R3 s) (ho : o < s.1) (hm : m < mc) (hb : bEmp b = false) (hr : RG b) (hp : HP mc jc fj tj R3 s m b o how false) : INV mc jc fj tj R3 (tk lim s m b (nI o) how) ∧ KP s (tk lim s m b (nI o) how) := by
  have hA : 64 ≤ s.1 ∨ (INV mc jc fj tj R3 (s.1 + 1, gupd s.2.1 s.1 (m, b, nI o, how, false, false), s.2.2) ∧ KP s (s.1 + 1, gupd s.2.1 s.1 (m, b, nI o, how, false, false), s.2.2)) := by
    by_cases q : 64 ≤ s.1
    · exact Or.inl q
    · exact Or.inr ⟨INV_add h (by omega) ⟨hm, hb, hr, Or.inr ⟨o, ho, rfl, hp⟩⟩, KP_add⟩
  have hB : INV mc jc fj tj R3 (s.1, s.2.1, s.2.2.1, true) ∧ KP s (s.1, s.2.1, s.2.2.1, true) := by
    have k : KP s (s.1, s.2.1, s.2.2.1, true) := ⟨Nat.le_refl _, fun _ _ => ⟨rfl, fun h => ⟨h, rfl⟩⟩⟩
    exact ⟨⟨h.1, fun i hi => HI_k k (by have hi : i < s.1 := hi; omega) (h.2 i hi)⟩, k⟩
  unfold tk
  split
  · exact ⟨h, KP.rf⟩
  · split
    · rename_i l hl
      have hl := lat_lt hl
      split
      · have hj : (((s.2.1 l).1, bJoin (s.2.1 l).2.1 b, (s.2.1 l).2.2.1, (s.2.1 l).2.2.2.1, false, true) : gH).2.2.2.2.2 = false → (s.2.1 l).2.2.2.2.2 = false ∧ (((s.2.1 l).1, bJoin (s.2.1 l).2.1 b, (s.2.1 l).2.2.1, (s.2.1 l).2.2.2.1, false, true) : gH).2.1 = (s.2.1 l).2.1 := fun hx => absurd hx (by simp)
        refine ⟨INV_upd h rfl hj (fun hll => ?_), KP_upd rfl hj⟩
        obtain ⟨g1, g2, g3, g4⟩ := h.2 l hll
        refine ⟨g1, jn_ne g2 hb, jn_RG g3 hr, ?_⟩
        rcases g4 with g4 | ⟨o', g5, g6, g7⟩
        · exact Or.inl g4
        · refine Or.inr ⟨o', g5, g6, ?_⟩
          rcases g7 with g7 | ⟨j, a1, a2, a3, a4, a5⟩
          · exact Or.inl g7
          · exact Or.inr ⟨j, a1, a2, a3, a4, fun hx => absurd hx (by simp)⟩
      · split
        · exact hB
        · rcases hA with hA | hA
          · contradiction
          · exact hA
    · split
      · exact hB
      · rcases hA with hA | hA
        · contradiction
        · exact hA
theorem wj_INV {h m : Nat} {fb : Nat → Int32} (hT : ∀ j, j < jc → tj j < mc) (hR : ∀ j, j < jc → ∀ f, bEmp (R3 j f) = false → RG (R3 j f)) (hE : BE jc R3 R3) : ∀ (k j : Nat) (s : gS), j + k = jc → INV mc jc fj tj R3 s → h < s.1 → (s.2.1 h).1 = m → ((s.2.1 h).2.2.2.2.2 = false → E6 fb (s.2.1 h).2.1) → INV mc jc fj tj R3 (wj lim m h fj tj (fun j => R1 j fb) (fun j => R3 j fb) k j s) ∧ KP s (wj lim m h fj tj (fun j => R1 j fb) (fun j => R3 j fb) k j s) := by
  intro k
  induction k with
  | zero => intro j s _ hs _ _ _; exact ⟨hs, KP.rf⟩
  | succ k ih =>
    intro j s hj hs hh hm hf
    have hjc : j < jc := by omega
    unfold wj jst
    split
    · exact ih (j + 1) s (by omega) hs hh hm hf
    · split
      · rename_i q
        obtain ⟨q1, q2, q3⟩ := q
        obtain ⟨t1, t2⟩ := tk_INV (lim := lim) (o := h) (how := nI (1 + j)) hs hh (hT j hjc) q3 (hR j hjc _ q3) (Or.inr ⟨j, hjc, rfl, by rw [hm]; exact q1, rfl, fun _ hjo => hE j hjc _ _ (hf hjo)⟩)
        obtain ⟨k1, k2⟩ := t2.2 h hh
        obtain ⟨u1, u2⟩ := ih (j + 1) _ (by omega) t1 (Nat.lt_of_lt_of_le hh t2.1) (k1.trans hm) (fun hjo => by
          obtain ⟨k3, k4⟩ := k2 hjo
          rw [k4]
          exact hf k3)
        exact ⟨u1, t2.tr u2⟩
      · exact ih (j + 1) s (by omega) hs hh hm hf
theorem wk_INV {h : Nat} {s : gS} (hT : ∀ j, j < jc → tj j < mc) (hQ : ∀ m, m < mc → ∀ f, bEmp (T m f) = false → RG (T m f)) (hR : ∀ j, j < jc → ∀ f, bEmp (R3 j f) = false → RG (R3 j f)) (hE : BE jc R3 R3) (hs : INV mc jc fj tj R3 s) (hh : h < s.1) : INV mc jc fj tj R3 (wk lim jc fj tj T R1 R3 s h) ∧ KP s (wk lim jc fj tj T R1 R3 s h) := by
  have hm := (hs.2 h hh).1
  have h1 : INV mc jc fj tj R3 (wkS s h) := INV_upd hs rfl (fun q => ⟨q, rfl⟩) (fun _ => hs.2 h hh)
  have k1 : KP s (wkS s h) := KP_upd rfl (fun q => ⟨q, rfl⟩)
  have e1 : (wkS s h).2.1 h = ((s.2.1 h).1, (s.2.1 h).2.1, (s.2.1 h).2.2.1, (s.2.1 h).2.2.2.1, true, (s.2.1 h).2.2.2.2.2) := by
    show gupd s.2.1 h _ h = _
    unfold gupd
    rw [if_pos rfl]
  have hh1 : h < (wkS s h).1 := hh
  have key : ∀ s2 : gS, INV mc jc fj tj R3 s2 → KP (wkS s h) s2 → INV mc jc fj tj R3 (wj lim (s.2.1 h).1 h fj tj (fun j => R1 j (s.2.1 h).2.1) (fun j => R3 j (s.2.1 h).2.1) jc 0 s2) ∧ KP s (wj lim (s.2.1 h).1 h fj tj (fun j => R1 j (s.2.1 h).2.1) (fun j => R3 j (s.2.1 h).2.1) jc 0 s2) := by
    intro s2 h2 k2
    obtain ⟨k3, k4⟩ := k2.2 h hh1
    rw [e1] at k3 k4
    obtain ⟨u1, u2⟩ := wj_INV (lim := lim) (R1 := R1) (h := h) (m := (s.2.1 h).1) (fb := (s.2.1 h).2.1) hT hR hE jc 0 s2 (by omega) h2 (Nat.lt_of_lt_of_le hh1 k2.1) k3 (fun q => by rw [(k4 q).2]; exact E6.rf)
    exact ⟨u1, k1.tr (k2.tr u2)⟩
  unfold wk
  dsimp only
  by_cases q : bEmp (T (s.2.1 h).1 (s.2.1 h).2.1) = true
  · rw [if_pos q]
    exact key _ h1 KP.rf
  · rw [if_neg q]
    have q : bEmp (T (s.2.1 h).1 (s.2.1 h).2.1) = false := by simpa using q
    obtain ⟨t1, t2⟩ := tk_INV (lim := lim) (o := h) (m := (s.2.1 h).1) (how := nI 0) h1 hh1 hm q (hQ _ hm _ q) (Or.inl ⟨rfl, by rw [e1]⟩)
    exact key _ t1 t2
theorem wa_INV (hT : ∀ j, j < jc → tj j < mc) (hQ : ∀ m, m < mc → ∀ f, bEmp (T m f) = false → RG (T m f)) (hR : ∀ j, j < jc → ∀ f, bEmp (R3 j f) = false → RG (R3 j f)) (hE : BE jc R3 R3) : ∀ (k : Nat) (s : gS), INV mc jc fj tj R3 s → INV mc jc fj tj R3 (wa lim jc fj tj T R1 R3 k s) := by
  intro k
  induction k with
  | zero => intro s hs; exact hs
  | succ k ih =>
    intro s hs
    unfold wa
    split
    · exact hs
    · rename_i h hf
      have hh : h < s.1 := by have := fu_lt hf; omega
      split
      · exact hs
      · split
        · exact ⟨hs.1, fun i hi => HI_k ⟨Nat.le_refl _, fun _ _ => ⟨rfl, fun h => ⟨h, rfl⟩⟩⟩ (by have hi : i < s.1 := hi; omega) (hs.2 i hi)⟩
        · exact ih _ (wk_INV hT hQ hR hE hs hh).1
theorem INV_OG {s : gS} (h : INV mc jc fj tj R3 s) : OG s := by
  refine ⟨h.1, fun i hi => ?_⟩
  obtain ⟨-, -, -, h4⟩ := h.2 i hi
  rcases h4 with h4 | ⟨o, h5, h6, h7⟩
  · exact Or.inl h4.1
  · exact Or.inr ⟨o, h5, h6⟩
/-- the whole search, from what is told -/
def g0 : gS := (0, fun _ => (0, fun _ => 0, 0, 0, false, false), 0, false)
def gA (sm : Nat) (st : Nat → Int32) : gS := (1, gupd g0.2.1 0 (sm, st, -4, -4, false, false), 0, false)
def lG (mc jc lim sm : Nat) (fj tj : Nat → Nat) (st : Nat → Int32) (T R1 R3 : Nat → (Nat → Int32) → Nat → Int32) : gS := wa lim jc fj tj T R1 R3 501 (if sm < mc ∧ bEmp st = false then gA sm st else g0)
theorem lG_INV {sm : Nat} {st : Nat → Int32} (hT : ∀ j, j < jc → tj j < mc) (hQ : ∀ m, m < mc → ∀ f, bEmp (T m f) = false → RG (T m f)) (hR : ∀ j, j < jc → ∀ f, bEmp (R3 j f) = false → RG (R3 j f)) (hE : BE jc R3 R3) (hS : bEmp st = false → RG st) : INV mc jc fj tj R3 (lG mc jc lim sm fj tj st T R1 R3) := by
  refine wa_INV hT hQ hR hE 501 _ ?_
  split
  · rename_i q
    refine ⟨by show 1 ≤ 64; omega, fun i hi => ?_⟩
    have hi : i < 1 := hi
    have hi : i = 0 := by omega
    subst hi
    exact ⟨q.1, q.2, hS q.2, Or.inl ⟨rfl, rfl⟩⟩
  · exact ⟨by show 0 ≤ 64; omega, fun i hi => absurd hi (Nat.not_lt_zero i)⟩
theorem wa_congr {T' R1' R3' : Nat → (Nat → Int32) → Nat → Int32} (hT : BE mc T T') (h1 : BE jc R1 R1') (h3 : BE jc R3 R3') (ht : ∀ j, j < jc → tj j < mc) : ∀ (k : Nat) (s s' : gS), gE mc s s' → gE mc (wa lim jc fj tj T R1 R3 k s) (wa lim jc fj tj T' R1' R3' k s') := by
  intro k
  induction k with
  | zero => intro s s' hs; exact hs
  | succ k ih =>
    intro s s' hs
    have hfu : ∀ k i, i + k = s.1 → fu s.2.1 k i = fu s'.2.1 k i := by
      intro k
      induction k with
      | zero => intro i _; rfl
      | succ k ihk =>
        intro i hi
        unfold fu
        rw [ihk (i + 1) (by omega), (hs.2.1 i (by omega)).2.2.2]
    have hf0 := hfu s.1 0 (by omega)
    rw [hs.1] at hf0
    unfold wa
    rw [hs.1, hf0, hs.2.2]
    split
    · exact hs
    · rename_i h hf
      have hh : h < s.1 := by have := fu_lt hf; have := hs.1; omega
      split
      · exact hs
      · split
        · rw [← hs.1]
          exact ⟨rfl, fun i hi => hs.2.1 i hi, rfl⟩
        · exact ih _ _ (wk_congr hT h1 h3 ht hs hh)
theorem lG_congr {sm : Nat} {st st' : Nat → Int32} {T' R1' R3' : Nat → (Nat → Int32) → Nat → Int32} (hT : BE mc T T') (h1 : BE jc R1 R1') (h3 : BE jc R3 R3') (ht : ∀ j, j < jc → tj j < mc) (hst : sm < mc → E6 st st') : gE mc (lG mc jc lim sm fj tj st T R1 R3) (lG mc jc lim sm fj tj st' T' R1' R3') := by
  unfold lG
  refine wa_congr hT h1 h3 ht 501 _ _ ?_
  by_cases q : sm < mc
  · rw [bEmp_congr (hst q)]
    split
    · refine ⟨rfl, fun i hi => ?_, rfl⟩
      have hi : i < 1 := hi
      have hi : i = 0 := by omega
      subst hi
      exact ⟨q, rfl, hst q, rfl⟩
    · exact ⟨rfl, fun i hi => absurd hi (Nat.not_lt_zero i), rfl⟩
  · rw [if_neg (fun h => q h.1), if_neg (fun h => q h.1)]
    exact ⟨rfl, fun i hi => absurd hi (Nat.not_lt_zero i), rfl⟩
end INVS
