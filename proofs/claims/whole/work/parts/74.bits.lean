/-! BITS: rows out of kit/laws/BITS.to-paste (wb_, pf_), and how many bits a number has -/
theorem wb_tb (n : Nat) : (lN n).toBitVec = BitVec.ofNat 64 n := rfl
theorem wb_inj {a b : Int64} (h : a.toBitVec = b.toBitVec) : a = b := Int64.toBitVec_inj.mp h
theorem wb_tn {n : Nat} (h : n < 2 ^ 64) : (lN n).toBitVec.toNat = n := by rw [wb_tb, BitVec.toNat_ofNat, Nat.mod_eq_of_lt h]
theorem wb_c : ∀ k, k < 64 → ((nI k).toInt64 &&& 63) = lN k := by decide +kernel
theorem wb_cu : ∀ k, k < 64 → ((nI k).toInt64.toUInt64 &&& Int64.toUInt64 63) = UInt64.ofNat k := by decide +kernel
theorem wb_sm : ∀ k, k < 64 → (BitVec.ofNat 64 k).smod 64 = BitVec.ofNat 64 k := by decide +kernel
theorem wb_shr {n k : Nat} (hn : n < 2 ^ 64) (hk : k < 64) : ((lN n).toUInt64 >>> ((nI k).toInt64.toUInt64 &&& Int64.toUInt64 63)).toInt64 = lN (n / 2 ^ k) := by
  rw [wb_cu k hk]
  apply wb_inj
  apply BitVec.eq_of_toNat_eq
  show ((lN n).toUInt64 >>> UInt64.ofNat k).toNat = (BitVec.ofNat 64 _).toNat
  have h1 : (UInt64.ofNat k).toNat = k := by
    show (BitVec.ofNat 64 k).toNat = k
    rw [BitVec.toNat_ofNat, Nat.mod_eq_of_lt (by omega)]
  have h2 : (lN n).toUInt64.toNat = n := wb_tn hn
  rw [UInt64.toNat_shiftRight, h1, h2, Nat.mod_eq_of_lt hk, Nat.shiftRight_eq_div_pow, BitVec.toNat_ofNat, Nat.mod_eq_of_lt (Nat.lt_of_le_of_lt (Nat.div_le_self _ _) hn)]
theorem wb_shl (n : Nat) {k : Nat} (hk : k < 64) : lN n <<< ((nI k).toInt64 &&& 63) = lN (n * 2 ^ k) := by
  rw [wb_c k hk]
  apply wb_inj
  rw [Int64.toBitVec_shiftLeft, wb_tb, wb_tb, wb_tb, wb_sm k hk]
  apply BitVec.eq_of_toNat_eq
  rw [BitVec.shiftLeft_eq', BitVec.toNat_shiftLeft, BitVec.toNat_ofNat, BitVec.toNat_ofNat, BitVec.toNat_ofNat, Nat.mod_eq_of_lt (show k < 2 ^ 64 by omega), Nat.shiftLeft_eq, Nat.mul_mod, Nat.mod_mod, ← Nat.mul_mod]
theorem wb_and {a b : Nat} (ha : a < 2 ^ 64) (hb : b < 2 ^ 64) : lN a &&& lN b = lN (a &&& b) := by
  apply wb_inj
  rw [Int64.toBitVec_and, wb_tb, wb_tb, wb_tb]
  apply BitVec.eq_of_toNat_eq
  rw [BitVec.toNat_and, BitVec.toNat_ofNat, BitVec.toNat_ofNat, BitVec.toNat_ofNat, Nat.mod_eq_of_lt ha, Nat.mod_eq_of_lt hb, Nat.mod_eq_of_lt (Nat.and_lt_two_pow _ hb)]
theorem wb_or {a b : Nat} (ha : a < 2 ^ 64) (hb : b < 2 ^ 64) : lN a ||| lN b = lN (a ||| b) := by
  apply wb_inj
  rw [Int64.toBitVec_or, wb_tb, wb_tb, wb_tb]
  apply BitVec.eq_of_toNat_eq
  rw [BitVec.toNat_or, BitVec.toNat_ofNat, BitVec.toNat_ofNat, BitVec.toNat_ofNat, Nat.mod_eq_of_lt ha, Nat.mod_eq_of_lt hb, Nat.mod_eq_of_lt (Nat.or_lt_two_pow ha hb)]
theorem pf_lI {a : Nat} (h : a < 2 ^ 63) : (lN a).toInt = (a : Int) := lg_ofNat_toInt h
theorem pf_shr {a d : Nat} {D : Int64} (hD : (D.toBitVec.smod 64).toNat = d) (h : a < 2 ^ 62) : lN a >>> D = lN (a / 2 ^ d) := by
  have hd : a / 2 ^ d ≤ a := Nat.div_le_self _ _
  apply Int64.toInt_inj.mp
  have e : (lN a >>> D).toInt = (lN a).toInt >>> d := by
    rw [← hD]
    exact BitVec.toInt_sshiftRight ..
  rw [e, Int.shiftRight_eq_div_pow, pf_lI (by omega), pf_lI (by omega)]
  rfl
/-- bits -/
def sumN (f : Nat → Nat) : Nat → Nat
  | 0 => 0
  | n + 1 => sumN f n + f n
def sumB (n k : Nat) : Nat := sumN (fun z => n / 2 ^ z % 2) k
theorem sumN_congr {f g : Nat → Nat} : ∀ n, (∀ i, i < n → f i = g i) → sumN f n = sumN g n := by
  intro n
  induction n with
  | zero => intro _; rfl
  | succ n ih =>
    intro h
    unfold sumN
    rw [ih (fun i hi => h i (by omega)), h n (by omega)]
theorem sumB_8 (n : Nat) : sumB n 8 = sumB (n % 256) 8 := by
  simp only [sumB, sumN]
  omega
theorem sumB_8k (n : Nat) : ∀ k, sumB n (8 + k) = sumB (n % 256) 8 + sumB (n / 256) k := by
  intro k
  induction k with
  | zero => rw [Nat.add_zero, sumB_8]; rfl
  | succ k ih =>
    show sumB n (8 + k) + n / 2 ^ (8 + k) % 2 = sumB (n % 256) 8 + (sumB (n / 256) k + n / 256 / 2 ^ k % 2)
    rw [ih, Nat.div_div_eq_div_mul, show 256 * 2 ^ k = 2 ^ (8 + k) by rw [Nat.pow_add]]
    omega
theorem sumB_0 {n : Nat} (k : Nat) (h : n < 2 ^ 41) : sumB n (41 + k) = sumB n 41 := by
  induction k with
  | zero => rfl
  | succ k ih =>
    show sumB n (41 + k) + n / 2 ^ (41 + k) % 2 = sumB n 41
    have h2 : 2 ^ 41 ≤ 2 ^ (41 + k) := Nat.pow_le_pow_right (by decide) (by omega)
    rw [ih, Nat.div_eq_of_lt (by omega)]
    rfl
theorem and_256 {a b c d : Nat} (hb : b < 256) (hd : d < 256) : (256 * a + b) &&& (256 * c + d) = 256 * (a &&& c) + (b &&& d) := by
  have hbd : b &&& d < 2 ^ 8 := Nat.and_lt_two_pow _ hd
  apply Nat.eq_of_testBit_eq
  intro i
  have e1 := Nat.testBit_two_pow_mul_add a (i := 8) (b := b) (by omega) i
  have e2 := Nat.testBit_two_pow_mul_add c (i := 8) (b := d) (by omega) i
  have e3 := Nat.testBit_two_pow_mul_add (a &&& c) (i := 8) (b := b &&& d) hbd i
  rw [show (2 : Nat) ^ 8 = 256 by decide] at e1 e2 e3
  rw [Nat.testBit_and, e1, e2, e3]
  split <;> rw [Nat.testBit_and]
def bw1 (M n : Nat) : Nat := n - ((n / 2) &&& M)
def bw2 (M x : Nat) : Nat := (x &&& M) + ((x / 4) &&& M)
def bw3 (M x : Nat) : Nat := (x + x / 16) &&& M
set_option maxRecDepth 100000 in
theorem bw1_b : ∀ r, r < 256 → ∀ c, c < 2 → ((r / 2 + 128 * c) &&& 85 = (r / 2) &&& 85 ∧ (r / 2) &&& 85 ≤ r ∧ bw1 85 r < 256) := by decide +kernel
set_option maxRecDepth 100000 in
theorem bw2_b : ∀ r, r < 256 → ∀ c, c < 4 → (r / 4 + 64 * c) &&& 51 = (r / 4) &&& 51 := by decide +kernel
set_option maxRecDepth 100000 in
theorem bw3_b : ∀ r, r < 69 → ∀ c, c < 5 → (r + r / 16 + 16 * c) &&& 15 = (r + r / 16) &&& 15 := by decide +kernel
set_option maxRecDepth 100000 in
theorem bw_b : ∀ r, r < 256 → bw2 51 (bw1 85 r) ≤ 68 ∧ bw2 51 (bw1 85 r) % 16 ≤ 4 ∧ bw3 15 (bw2 51 (bw1 85 r)) = sumB r 8 ∧ sumB r 8 ≤ 8 := by decide +kernel
theorem bw1_s {q r M : Nat} (h : r < 256) : bw1 (256 * M + 85) (256 * q + r) = 256 * bw1 M q + bw1 85 r := by
  have e : (256 * q + r) / 2 = 256 * (q / 2) + (r / 2 + 128 * (q % 2)) := by omega
  obtain ⟨h1, h2, h3⟩ := bw1_b r h (q % 2) (by omega)
  have h4 : (q / 2) &&& M ≤ q := Nat.le_trans Nat.and_le_left (Nat.div_le_self _ _)
  unfold bw1
  rw [e, and_256 (by omega) (by omega), h1]
  omega
theorem bw2_s {q r M : Nat} (h : r < 256) : bw2 (256 * M + 51) (256 * q + r) = 256 * bw2 M q + bw2 51 r := by
  have e : (256 * q + r) / 4 = 256 * (q / 4) + (r / 4 + 64 * (q % 4)) := by omega
  have h1 := bw2_b r h (q % 4) (by omega)
  unfold bw2
  rw [e, and_256 h (by omega), and_256 (by omega) (by omega), h1]
  omega
theorem bw3_s {q r M : Nat} (h : r ≤ 68) (hq : q % 16 ≤ 4) : bw3 (256 * M + 15) (256 * q + r) = 256 * bw3 M q + bw3 15 r := by
  have e : (256 * q + r) + (256 * q + r) / 16 = 256 * (q + q / 16) + (r + r / 16 + 16 * (q % 16)) := by omega
  have h1 := bw3_b r (by omega) (q % 16) (by omega)
  unfold bw3
  rw [e, and_256 (by omega) (by omega), h1]
def mk5 : Nat → Nat
  | 0 => 0
  | k + 1 => 256 * mk5 k + 85
def mk3 : Nat → Nat
  | 0 => 0
  | k + 1 => 256 * mk3 k + 51
def mkf : Nat → Nat
  | 0 => 0
  | k + 1 => 256 * mkf k + 15
/-- the bytes' counts -/
def pcs : Nat → Nat → Nat
  | 0, _ => 0
  | k + 1, n => 256 * pcs k (n / 256) + sumB (n % 256) 8
theorem bw_all : ∀ k n, bw2 (mk3 k) (bw1 (mk5 k) n) % 16 ≤ 4 ∧ bw3 (mkf k) (bw2 (mk3 k) (bw1 (mk5 k) n)) = pcs k n := by
  intro k
  induction k with
  | zero =>
    intro n
    simp [mk3, mk5, mkf, bw1, bw2, bw3, pcs]
  | succ k ih =>
    intro n
    obtain ⟨i1, i2⟩ := ih (n / 256)
    have hr : n % 256 < 256 := Nat.mod_lt _ (by decide)
    have hn : n = 256 * (n / 256) + n % 256 := by omega
    obtain ⟨b1, b2, b3, b4⟩ := bw_b (n % 256) hr
    obtain ⟨-, -, c3⟩ := bw1_b (n % 256) hr 0 (by omega)
    have e1 : bw1 (mk5 (k + 1)) n = 256 * bw1 (mk5 k) (n / 256) + bw1 85 (n % 256) := by
      conv => lhs; rw [hn]
      exact bw1_s hr
    have e2 : bw2 (mk3 (k + 1)) (bw1 (mk5 (k + 1)) n) = 256 * bw2 (mk3 k) (bw1 (mk5 k) (n / 256)) + bw2 51 (bw1 85 (n % 256)) := by
      rw [e1]
      exact bw2_s c3
    rw [e2]
    refine ⟨by omega, ?_⟩
    show bw3 (256 * mkf k + 15) _ = 256 * pcs k (n / 256) + sumB (n % 256) 8
    rw [bw3_s b1 i1, i2, b3]
theorem d256 {a b c : Nat} (h : a = 256 * b + c) (hc : c < 256) : a / 256 = b := by omega
theorem swar {c0 c1 c2 c3 c4 c5 c6 t0 t1 t2 t3 t4 t5 t6 t7 : Nat} (b0 : c0 ≤ 8) (b1 : c1 ≤ 8) (b2 : c2 ≤ 8) (b3 : c3 ≤ 8) (b4 : c4 ≤ 8) (b5 : c5 ≤ 8) (b6 : c6 ≤ 8) (b7 : t7 ≤ 8) (h6 : t6 = 256 * t7 + c6) (h5 : t5 = 256 * t6 + c5) (h4 : t4 = 256 * t5 + c4) (h3 : t3 = 256 * t4 + c3) (h2 : t2 = 256 * t3 + c2) (h1 : t1 = 256 * t2 + c1) (h0 : t0 = 256 * t1 + c0) : t0 < 1152921504606846976 ∧ (t0 + t0 / 256 + (t0 + t0 / 256) / 65536 + (t0 + t0 / 256 + (t0 + t0 / 256) / 65536) / 4294967296) % 128 = c0 + (c1 + (c2 + (c3 + (c4 + (c5 + (c6 + t7)))))) := by
  have e1 : t0 / 256 = t1 := d256 h0 (by clear h0 h1 h2 h3 h4 h5 h6; omega)
  have e2 : (t0 + t1) / 65536 = t2 + t3 := by
    have f1 : (t0 + t1) / 256 = t1 + t2 := d256 (c := c0 + c1) (by clear h6 h5 h4 h3 h2; omega) (by clear h0 h1 h2 h3 h4 h5 h6; omega)
    have f2 : (t1 + t2) / 256 = t2 + t3 := d256 (c := c1 + c2) (by clear h6 h5 h4 h3 h0; omega) (by clear h0 h1 h2 h3 h4 h5 h6; omega)
    rw [show 65536 = 256 * 256 by decide, ← Nat.div_div_eq_div_mul, f1, f2]
  have e3 : (t0 + t1 + (t2 + t3)) / 4294967296 = t4 + t5 + (t6 + t7) := by
    have f1 : (t0 + t1 + (t2 + t3)) / 256 = t1 + t2 + (t3 + t4) := d256 (c := c0 + c1 + (c2 + c3)) (by clear h6 h5 h4; omega) (by clear h0 h1 h2 h3 h4 h5 h6; omega)
    have f2 : (t1 + t2 + (t3 + t4)) / 256 = t2 + t3 + (t4 + t5) := d256 (c := c1 + c2 + (c3 + c4)) (by clear h6 h5 h0; omega) (by clear h0 h1 h2 h3 h4 h5 h6; omega)
    have f3 : (t2 + t3 + (t4 + t5)) / 256 = t3 + t4 + (t5 + t6) := d256 (c := c2 + c3 + (c4 + c5)) (by clear h6 h1 h0; omega) (by clear h0 h1 h2 h3 h4 h5 h6; omega)
    have f4 : (t3 + t4 + (t5 + t6)) / 256 = t4 + t5 + (t6 + t7) := d256 (c := c3 + c4 + (c5 + c6)) (by clear h2 h1 h0; omega) (by clear h0 h1 h2 h3 h4 h5 h6; omega)
    rw [show 4294967296 = 256 * 256 * 256 * 256 by decide, ← Nat.div_div_eq_div_mul, ← Nat.div_div_eq_div_mul, ← Nat.div_div_eq_div_mul, f1, f2, f3, f4]
  rw [e1, e2, e3]
  constructor
  · have k6 : t6 ≤ 2056 := by clear h0 h1 h2 h3 h4 h5; omega
    have k5 : t5 ≤ 526344 := by clear h0 h1 h2 h3 h4 h6; omega
    have k4 : t4 ≤ 134744072 := by clear h0 h1 h2 h3 h5 h6; omega
    have k3 : t3 ≤ 34494482440 := by clear h0 h1 h2 h4 h5 h6; omega
    have k2 : t2 ≤ 8830587504648 := by clear h0 h1 h3 h4 h5 h6; omega
    have k1 : t1 ≤ 2260630401189896 := by clear h0 h2 h3 h4 h5 h6; omega
    clear h1 h2 h3 h4 h5 h6
    omega
  · have f0 : t0 + t1 + (t2 + t3) + (t4 + t5 + (t6 + t7)) = 128 * (2 * (t1 + t2 + (t3 + t4) + (t5 + t6 + t7))) + (c0 + (c1 + (c2 + (c3 + (c4 + (c5 + (c6 + t7))))))) := by omega
    rw [f0, Nat.mul_add_mod]
    exact Nat.mod_eq_of_lt (by clear f0 e1 e2 e3 h0 h1 h2 h3 h4 h5 h6; omega)
theorem pcs_s (k n : Nat) : pcs (k + 1) n = 256 * pcs k (n / 256) + sumB (n % 256) 8 := rfl
theorem pcs_sum {n : Nat} (h : n < 2 ^ 41) : pcs 8 n < 1152921504606846976 ∧ (pcs 8 n + pcs 8 n / 256 + (pcs 8 n + pcs 8 n / 256) / 65536 + (pcs 8 n + pcs 8 n / 256 + (pcs 8 n + pcs 8 n / 256) / 65536) / 4294967296) % 128 = sumB n 41 := by
  have e0 : sumB n 64 = sumB (n % 256) 8 + sumB (n / 256) 56 := sumB_8k n 56
  generalize hn1 : n / 256 = n1 at e0
  have e1 : sumB n1 56 = sumB (n1 % 256) 8 + sumB (n1 / 256) 48 := sumB_8k n1 48
  generalize hn2 : n1 / 256 = n2 at e1
  have e2 : sumB n2 48 = sumB (n2 % 256) 8 + sumB (n2 / 256) 40 := sumB_8k n2 40
  generalize hn3 : n2 / 256 = n3 at e2
  have e3 : sumB n3 40 = sumB (n3 % 256) 8 + sumB (n3 / 256) 32 := sumB_8k n3 32
  generalize hn4 : n3 / 256 = n4 at e3
  have e4 : sumB n4 32 = sumB (n4 % 256) 8 + sumB (n4 / 256) 24 := sumB_8k n4 24
  generalize hn5 : n4 / 256 = n5 at e4
  have e5 : sumB n5 24 = sumB (n5 % 256) 8 + sumB (n5 / 256) 16 := sumB_8k n5 16
  generalize hn6 : n5 / 256 = n6 at e5
  have e6 : sumB n6 16 = sumB (n6 % 256) 8 + sumB (n6 / 256) 8 := sumB_8k n6 8
  generalize hn7 : n6 / 256 = n7 at e6
  have e7 : sumB n7 8 = sumB (n7 % 256) 8 := sumB_8 n7
  have e9 : sumB n 64 = sumB n 41 := sumB_0 23 h
  have p0 : pcs 8 n = 256 * pcs 7 n1 + sumB (n % 256) 8 := by rw [pcs_s, hn1]
  have p1 : pcs 7 n1 = 256 * pcs 6 n2 + sumB (n1 % 256) 8 := by rw [pcs_s, hn2]
  have p2 : pcs 6 n2 = 256 * pcs 5 n3 + sumB (n2 % 256) 8 := by rw [pcs_s, hn3]
  have p3 : pcs 5 n3 = 256 * pcs 4 n4 + sumB (n3 % 256) 8 := by rw [pcs_s, hn4]
  have p4 : pcs 4 n4 = 256 * pcs 3 n5 + sumB (n4 % 256) 8 := by rw [pcs_s, hn5]
  have p5 : pcs 3 n5 = 256 * pcs 2 n6 + sumB (n5 % 256) 8 := by rw [pcs_s, hn6]
  have p6 : pcs 2 n6 = 256 * pcs 1 n7 + sumB (n6 % 256) 8 := by rw [pcs_s, hn7]
  have p7 : pcs 1 n7 = sumB (n7 % 256) 8 := by rw [pcs_s]; show 256 * 0 + _ = _; rw [Nat.mul_zero, Nat.zero_add]
  have b : ∀ m, sumB (m % 256) 8 ≤ 8 := fun m => (bw_b (m % 256) (Nat.mod_lt _ (by decide))).2.2.2
  rw [p7] at p6
  have hs := swar (b n) (b n1) (b n2) (b n3) (b n4) (b n5) (b n6) (b n7) p6 p5 p4 p3 p2 p1 p0
  refine ⟨hs.1, ?_⟩
  rw [hs.2, ← e9, e0, e1, e2, e3, e4, e5, e6, e7]
theorem pcs_lt {n : Nat} (h : n < 2 ^ 41) : pcs 8 n < 1152921504606846976 := (pcs_sum h).1
