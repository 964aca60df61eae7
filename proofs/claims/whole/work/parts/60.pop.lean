/-! ===== how many bits a long has: the JDK's sum side by side ===== -/
theorem and_byte {a c e g : Nat} (ha : a < 256) (he : e < 256) : (a + 256 * c) &&& (e + 256 * g) = (a &&& e) + 256 * (c &&& g) := by
  have hA : a &&& e < 2 ^ 8 := Nat.lt_of_le_of_lt Nat.and_le_left ha
  apply Nat.eq_of_testBit_eq
  intro j
  rw [Nat.add_comm a, Nat.add_comm e, Nat.add_comm (a &&& e), Nat.testBit_and]
  have h1 := Nat.testBit_two_pow_mul_add c (i := 8) (b := a) ha j
  have h2 := Nat.testBit_two_pow_mul_add g (i := 8) (b := e) he j
  have h3 := Nat.testBit_two_pow_mul_add (c &&& g) (i := 8) (b := a &&& e) hA j
  rw [show (256 : Nat) = 2 ^ 8 from rfl, h1, h2, h3]
  split
  · rw [Nat.testBit_and]
  · rw [Nat.testBit_and]
/-- a mask of k bytes c -/
def mkB (c : Nat) : Nat → Nat
  | 0 => 0
  | k + 1 => c + 256 * mkB c k
/-- bits of a byte -/
def pcB (b : Nat) : Nat := fb_ct (fun j => b.testBit j) 8
/-- the sums of the bits of k bytes, each in its byte -/
def pcS : Nat → Nat → Nat
  | 0, _ => 0
  | k + 1, n => pcB (n % 256) + 256 * pcS k (n / 256)
def st1 (m n : Nat) : Nat := n - ((n / 2) &&& m)
def st2 (m n : Nat) : Nat := (n &&& m) + ((n / 4) &&& m)
def st3 (m n : Nat) : Nat := (n + n / 16) &&& m
theorem by1 : ∀ b, b < 256 → ∀ r, r < 2 → ((b / 2 + 128 * r) &&& 85) = ((b / 2) &&& 85) ∧ ((b / 2) &&& 85) ≤ b := by decide +kernel
theorem by2 : ∀ b, b < 256 → ∀ r, r < 4 → ((b / 4 + 64 * r) &&& 51) = ((b / 4) &&& 51) := by decide +kernel
theorem by3 : ∀ b, b < 256 → ∀ r, r < 5 → ((st2 51 (st1 85 b) + st2 51 (st1 85 b) / 16 + 16 * r) &&& 15) = pcB b ∧ st2 51 (st1 85 b) + st2 51 (st1 85 b) / 16 + 16 * r < 256 ∧ st2 51 (st1 85 b) % 16 < 5 ∧ st1 85 b < 256 ∧ (st1 85 b &&& 51) + ((st1 85 b / 4) &&& 51) < 256 := by decide +kernel
theorem st1_c {b m M : Nat} (hb : b < 256) : st1 (85 + 256 * M) (b + 256 * m) = st1 85 b + 256 * st1 M m := by
  unfold st1
  have h1 := by1 b hb (m % 2) (Nat.mod_lt _ (by decide))
  have e : (b + 256 * m) / 2 = (b / 2 + 128 * (m % 2)) + 256 * (m / 2) := by omega
  have hle : (m / 2) &&& M ≤ m := Nat.le_trans Nat.and_le_left (Nat.div_le_self _ _)
  rw [e, and_byte (by omega) (by omega), h1.1]
  have := h1.2
  omega
theorem st2_c {b m M : Nat} (hb : b < 256) : st2 (51 + 256 * M) (b + 256 * m) = st2 51 b + 256 * st2 M m := by
  unfold st2
  have h1 := by2 b hb (m % 4) (Nat.mod_lt _ (by decide))
  have e : (b + 256 * m) / 4 = (b / 4 + 64 * (m % 4)) + 256 * (m / 4) := by omega
  rw [e, and_byte hb (by omega), and_byte (by omega) (by omega), h1]
  omega
theorem st12 : ∀ (k n : Nat), n < 256 ^ k → st2 (mkB 51 k) (st1 (mkB 85 k) n) % 16 < 5
  | 0, n, h => by
    have : n = 0 := by
      rw [Nat.pow_zero] at h
      omega
    subst this
    decide
  | k + 1, n, h => by
    have hb : n % 256 < 256 := Nat.mod_lt _ (by decide)
    obtain ⟨b1, b2, b3, b4, b5⟩ := by3 _ hb 0 (by omega)
    have e := st1_c (m := n / 256) (M := mkB 85 k) hb
    rw [Nat.mod_add_div] at e
    have e2 : st1 (mkB 85 (k + 1)) n = st1 85 (n % 256) + 256 * st1 (mkB 85 k) (n / 256) := e
    rw [e2]
    have e3 : st2 (mkB 51 (k + 1)) (st1 85 (n % 256) + 256 * st1 (mkB 85 k) (n / 256)) = _ := st2_c (M := mkB 51 k) b4
    rw [e3]
    omega
theorem st123 : ∀ (k n : Nat), n < 256 ^ k → st3 (mkB 15 k) (st2 (mkB 51 k) (st1 (mkB 85 k) n)) = pcS k n
  | 0, n, h => by
    have : n = 0 := by
      rw [Nat.pow_zero] at h
      omega
    subst this
    decide
  | k + 1, n, h => by
    have hb : n % 256 < 256 := Nat.mod_lt _ (by decide)
    have hn : n / 256 < 256 ^ k := by
      rw [Nat.pow_succ, Nat.mul_comm] at h
      exact Nat.div_lt_of_lt_mul h
    have hlow := st12 k (n / 256) hn
    have ih := st123 k (n / 256) hn
    obtain ⟨b1, b2, b3, b4, b5⟩ := by3 _ hb (st2 (mkB 51 k) (st1 (mkB 85 k) (n / 256)) % 16) hlow
    have e := st1_c (m := n / 256) (M := mkB 85 k) hb
    rw [Nat.mod_add_div] at e
    have e2 : st1 (mkB 85 (k + 1)) n = st1 85 (n % 256) + 256 * st1 (mkB 85 k) (n / 256) := e
    have e3 : st2 (mkB 51 (k + 1)) (st1 85 (n % 256) + 256 * st1 (mkB 85 k) (n / 256)) = st2 51 (st1 85 (n % 256)) + 256 * st2 (mkB 51 k) (st1 (mkB 85 k) (n / 256)) := st2_c (M := mkB 51 k) b4
    rw [e2, e3, pcS, ← ih, ← b1]
    generalize st2 51 (st1 85 (n % 256)) = u at *
    generalize st2 (mkB 51 k) (st1 (mkB 85 k) (n / 256)) = v at *
    unfold st3
    have e4 : u + 256 * v + (u + 256 * v) / 16 = (u + u / 16 + 16 * (v % 16)) + 256 * (v + v / 16) := by omega
    have e5 : mkB 15 (k + 1) = 15 + 256 * mkB 15 k := rfl
    rw [e4, e5, and_byte b2 (by omega)]
theorem pcB_le (b : Nat) : pcB b ≤ 8 := fb_ct_le _ _
theorem pcS_bit : ∀ (k n : Nat), fb_ct (fun j => n.testBit j) (8 * k + 8) = pcB (n % 256) + fb_ct (fun j => (n / 256).testBit j) (8 * k)
  | k, n => by
    rw [Nat.add_comm, fb_ct_split]
    have e1 : fb_ct (fun j => n.testBit j) 8 = pcB (n % 256) := by
      apply fb_ct_cong
      intro j hj
      have := Nat.testBit_mod_two_pow n 8 j
      show n.testBit j = (n % 2 ^ 8).testBit j
      rw [this]
      simp [hj]
    have e2 : (fun j => n.testBit (8 + j)) = fun j => (n / 256).testBit j := by
      funext j
      have := Nat.testBit_div_two_pow (n := 8) n j
      show n.testBit (8 + j) = (n / 2 ^ 8).testBit j
      rw [this, Nat.add_comm]
    rw [e1, e2]
theorem dv2 {a b u : Nat} (ha : a < 256) (hb : b < 256) : (a + 256 * (b + 256 * u)) / 65536 = u := by
  have e1 : (a + 256 * (b + 256 * u)) / 256 = b + 256 * u := by omega
  have e2 : (b + 256 * u) / 256 = u := by omega
  rw [show 65536 = 256 * 256 from rfl, ← Nat.div_div_eq_div_mul, e1, e2]
theorem dv1 {a u : Nat} (ha : a < 256) : (a + 256 * u) / 256 = u := by omega
theorem dv4 {a b c d u : Nat} (ha : a < 256) (hb : b < 256) (hc : c < 256) (hd : d < 256) : (a + 256 * (b + 256 * (c + 256 * (d + 256 * u)))) / 4294967296 = u := by
  rw [show 4294967296 = 65536 * 65536 from rfl, ← Nat.div_div_eq_div_mul, dv2 ha hb, dv2 hc hd]
theorem pf_y {a b x x1 x2 : Nat} (e0 : x = a + 256 * x1) (e1 : x1 = b + 256 * x2) : x + x1 = (a + b) + 256 * (x1 + x2) := by omega
theorem pf_z {a b x x1 y y1 : Nat} (e0 : x = a + 256 * x1) (e1 : y = b + 256 * y1) : x + y = (a + b) + 256 * (x1 + y1) := by omega
theorem pf_b {a x x1 b c : Nat} (ha : a ≤ 8) (e : x = a + 256 * x1) (h : x1 ≤ b) (hc : 8 + 256 * b = c) : x ≤ c := by omega
theorem pf_m {a u : Nat} (h : a ≤ 64) : (a + 256 * u) % 128 = a := by omega
theorem pf_8 {a b : Nat} (ha : a ≤ 8) (hb : b ≤ 8) : a + b ≤ 16 := by omega
theorem pf_16 {a b : Nat} (ha : a ≤ 16) (hb : b ≤ 16) : a + b ≤ 32 := by omega
theorem pf_32 {a b : Nat} (ha : a ≤ 32) (hb : b ≤ 32) : a + b ≤ 64 := by omega
/-- the last three steps -/
theorem pc_fold {s0 s1 s2 s3 s4 s5 s6 s7 x1 x2 x3 x4 x5 x6 x : Nat} (h0 : s0 ≤ 8) (h1 : s1 ≤ 8) (h2 : s2 ≤ 8) (h3 : s3 ≤ 8) (h4 : s4 ≤ 8) (h5 : s5 ≤ 8) (h6 : s6 ≤ 8) (h7 : s7 ≤ 8) (e6 : x6 = s6 + 256 * s7) (e5 : x5 = s5 + 256 * x6) (e4 : x4 = s4 + 256 * x5) (e3 : x3 = s3 + 256 * x4) (e2 : x2 = s2 + 256 * x3) (e1 : x1 = s1 + 256 * x2) (hx : x = s0 + 256 * x1) : (x + x / 256 + (x + x / 256) / 65536 + (x + x / 256 + (x + x / 256) / 65536) / 4294967296) % 128 = s0 + s1 + (s2 + s3) + (s4 + s5 + (s6 + s7)) ∧ x < 2 ^ 60 := by
  have e7 : s7 = s7 + 256 * 0 := rfl
  have b6 := pf_b h6 e6 h7 rfl
  have b5 := pf_b h5 e5 b6 rfl
  have b4 := pf_b h4 e4 b5 rfl
  have b3 := pf_b h3 e3 b4 rfl
  have b2 := pf_b h2 e2 b3 rfl
  have b1 := pf_b h1 e1 b2 rfl
  have b0 := pf_b h0 hx b1 rfl
  refine ⟨?_, Nat.lt_of_le_of_lt b0 (by decide)⟩
  have lt1 : ∀ a, a ≤ 8 → a < 256 := fun a h => Nat.lt_of_le_of_lt h (by decide)
  have lt2 : ∀ a, a ≤ 16 → a < 256 := fun a h => Nat.lt_of_le_of_lt h (by decide)
  have lt3 : ∀ a, a ≤ 32 → a < 256 := fun a h => Nat.lt_of_le_of_lt h (by decide)
  have d1 : x / 256 = x1 := by rw [hx]; exact dv1 (lt1 _ h0)
  have f0 := pf_y hx e1
  have f1 := pf_y e1 e2
  have f2 := pf_y e2 e3
  have f3 := pf_y e3 e4
  have f4 := pf_y e4 e5
  have f5 := pf_y e5 e6
  have f6 := pf_y e6 e7
  have d2 : (x + x1) / 65536 = x2 + x3 := by rw [f0, f1]; exact dv2 (lt2 _ (pf_8 h0 h1)) (lt2 _ (pf_8 h1 h2))
  have g0 := pf_z f0 f2
  have g1 := pf_z f1 f3
  have g2 := pf_z f2 f4
  have g3 := pf_z f3 f5
  have g4 := pf_z f4 f6
  have d3 : (x + x1 + (x2 + x3)) / 4294967296 = x4 + x5 + (x6 + s7) := by
    rw [g0, g1, g2, g3]
    exact dv4 (lt3 _ (pf_16 (pf_8 h0 h1) (pf_8 h2 h3))) (lt3 _ (pf_16 (pf_8 h1 h2) (pf_8 h3 h4))) (lt3 _ (pf_16 (pf_8 h2 h3) (pf_8 h4 h5))) (lt3 _ (pf_16 (pf_8 h3 h4) (pf_8 h5 h6)))
  rw [d1, d2, d3, pf_z g0 g4]
  exact pf_m (pf_32 (pf_16 (pf_8 h0 h1) (pf_8 h2 h3)) (pf_16 (pf_8 h4 h5) (pf_8 h6 h7)))
