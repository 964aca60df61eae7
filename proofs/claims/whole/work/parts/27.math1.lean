/-! ===== a state as a mathematical value; how the reference's array holds it ===== -/
/-- fields; their numbers (low, high, round, turn), weights; order; rules; their numbers (kind, x, y, c, rank + 1); the row drawn last + 1; unlike rows -/
abbrev mS : Type := Nat × (Nat → Nat → Nat) × (Nat → Nat → Nat) × (Nat → Nat) × Nat × (Nat → Nat → Nat) × Nat × Nat × (Nat → Nat)
abbrev mn (σ : mS) : Nat := σ.1
abbrev mF (σ : mS) : Nat → Nat → Nat := σ.2.1
abbrev mW (σ : mS) : Nat → Nat → Nat := σ.2.2.1
abbrev mO (σ : mS) : Nat → Nat := σ.2.2.2.1
abbrev mK (σ : mS) : Nat := σ.2.2.2.2.1
abbrev mR (σ : mS) : Nat → Nat → Nat := σ.2.2.2.2.2.1
abbrev mN (σ : mS) : Nat := σ.2.2.2.2.2.2.1
abbrev mu (σ : mS) : Nat := σ.2.2.2.2.2.2.2.1
abbrev mU (σ : mS) : Nat → Nat := σ.2.2.2.2.2.2.2.2
/-- the value of field f in a row -/
def vl (c f : Nat) : Nat := c / 2 ^ (9 - 3 * f) % 8
theorem vl_lt (c f : Nat) : vl c f < 8 := Nat.mod_lt _ (by decide)
/-- a number that may be one below 0 -/
def rI (r : Nat) : Int32 := Int32.ofInt ((r : Int) - 1)
theorem rI_0 : rI 0 = Int32.ofInt (-1) := rfl
theorem rI_succ (r : Nat) : rI (r + 1) = nI r := by
  unfold rI
  rw [show ((r + 1 : Nat) : Int) - 1 = (r : Int) by omega]
  first | rfl | exact Int32.ofInt_eq_ofNat | (unfold nI; simp)
def wf (σ : mS) : Prop := mn σ ≤ 4 ∧ (∀ f, f < 4 → mF σ f 0 ≤ mF σ f 1 ∧ mF σ f 1 ≤ 7 ∧ mF σ f 2 ≤ 1 ∧ mF σ f 3 < 256 ∧ (mF σ f 2 = 0 → mF σ f 3 = 0)) ∧ (∀ f v, f < 4 → v < 8 → mW σ f v ≤ 9) ∧ (∀ f, f < 4 → mn σ ≤ f → (∀ j, j < 4 → mF σ f j = 0) ∧ ∀ v, v < 8 → mW σ f v = 1) ∧
  (∀ p, p < mn σ → mO σ p < mn σ) ∧ (∀ p q, p < q → q < mn σ → mO σ p ≠ mO σ q) ∧ mK σ ≤ 8 ∧ (∀ k, k < mK σ → mR σ k 0 ≤ 5 ∧ mR σ k 1 < mn σ ∧ mR σ k 2 < mn σ ∧ mR σ k 3 ≤ 255 ∧ mR σ k 4 ≤ 10) ∧ mN σ ≤ 4096 ∧ mu σ ≤ 16 ∧ ∀ i, i < mu σ → mU σ i < 4096
/-- the reference's array holds the state -/
def rpA (σ : mS) (a : Nat → Int32) : Prop := a 0 = nI (mn σ) ∧ (∀ f j, f < mn σ → j < 4 → a (1 + 13 * f + j) = nI (mF σ f j)) ∧ (∀ f, f < mn σ → a (1 + 13 * f + 4) = if mN σ = 0 then Int32.ofInt (-1) else nI (vl (mN σ - 1) f)) ∧ (∀ f v, f < mn σ → v < 8 → a (1 + 13 * f + (5 + v)) = nI (mW σ f v)) ∧
  (∀ p, p < mn σ → a (53 + p) = nI (mO σ p)) ∧ a 57 = nI (mK σ) ∧ (∀ k i, k < mK σ → i < 4 → a (58 + 5 * k + i) = nI (mR σ k i)) ∧ (∀ k, k < mK σ → a (58 + 5 * k + 4) = rI (mR σ k 4)) ∧ a 98 = nI (mu σ) ∧ ∀ i, i < mu σ → a (99 + i) = nI (mU σ i)
/-- whether a rule of a kind and a number is kept by two values -/
def kp (kd c a b : Nat) : Bool := match kd with
  | 0 => decide (a + b = c)
  | 1 => decide (a < b)
  | 2 => decide (¬ a = b)
  | 3 => c.testBit a
  | 4 => decide (¬ a = c / 8) || decide (b = c % 8)
  | _ => decide (c + b ≤ a) || decide (c + a ≤ b)
def mkp (σ : mS) (k x : Nat) : Bool := kp (mR σ k 0) (mR σ k 3) (vl x (mR σ k 1)) (vl x (mR σ k 2))
/-- numbers -/
theorem n_shr {c d : Nat} (hc : c < 2 ^ 31) (hd : d < 32) : nI c >>> (nI d &&& 31) = nI (c / 2 ^ d) := pk_shrN hc _ d (s_l d hd)
theorem n_shl {c d : Nat} (hd : d < 32) (h : c * 2 ^ d < 2 ^ 32) : nI c <<< (nI d &&& 31) = nI (c * 2 ^ d) := pk_shlN _ d (s_l d hd) h
theorem n_and7 (c : Nat) : nI c &&& nI 7 = nI (c % 8) := fa_mask c 3
theorem n_and1 (c : Nat) : nI c &&& nI 1 = nI (c % 2) := fa_mask c 1
theorem n_subge {a b c : Nat} (ha : a < 2 ^ 29) (hb : b < 2 ^ 29) (hc : c < 2 ^ 29) : (nI c ≤ nI a - nI b) = (c + b ≤ a) := by
  rw [Int32.le_iff_toInt_le, pk_sub_toInt (by omega) (by omega), nI_toInt (by omega)]
  exact propext ⟨fun h => by omega, fun h => by omega⟩
theorem n_sublt {a b c : Nat} (ha : a < 2 ^ 29) (hb : b < 2 ^ 29) (hc : c < 2 ^ 29) : (nI a - nI b < nI c) = (a < c + b) := by
  rw [Int32.lt_iff_toInt_lt, pk_sub_toInt (by omega) (by omega), nI_toInt (by omega)]
  exact propext ⟨fun h => by omega, fun h => by omega⟩
theorem tb_div (s k : Nat) : s.testBit k = decide (s / 2 ^ k % 2 = 1) := Nat.testBit_eq_decide_div_mod_eq
section
variable {q : Nat × (Nat → Int32)} {S : Nat → xSt} {P : Int32 × (Nat → Nat)} {A : (Nat → Int64) × Int32 × Int32 × (Nat → Int64) × (Nat → Nat → Int64)} {D : (Nat → Int64) × Int64} {K : Nat → Int64} {X : Int32 × Int32 × Int32 × (Nat → Int32) × (Nat → Int32)} {E Z : Nat → Int32} {I : Nat → Int32} {J : Nat → Int64} {V : Nat → Nat → Int32}
theorem t_valueOf {c f : Nat} (hc : c < 2 ^ 31) (hf : f < 4) : xcall 139 [.ref 163, .int (nI c), .int (nI f)] (hp q S P A D K X E Z I J V) = some (some (.int (nI (vl c f))), (hp q S P A D K X E Z I J V)) := by
  rw [N139 _ _ _ _ (o_m ..)]
  simp (maxSteps := 2000000) (disch := omega) only [e_inl, e_goto, e_fall, e_if, e_icmp, e_iret, e_zret, e_lret, e_vret, e_call0_0, e_call0_1, e_call0_2, e_call0_3, e_call0_4, e_call1_0, e_call1_1, e_call1_2, e_call1_3, e_call1_4, e_call2_0, e_call2_1, e_call2_2, e_call2_3, e_call2_4, e_call3_0, e_call3_1, e_call3_2, e_call3_3, e_call3_4, e_call4_0, e_call4_1, e_call4_2, e_call4_3, e_call4_4, e_call5_0, e_call5_1, e_call5_2, e_call5_3, e_call5_4, e_call6_0, e_call6_1, e_call6_2, e_call6_3, e_call6_4, xP, xld, xst1, xst2, xis2, xii, xid, xll, xlv, xls, xlc, xil, xli, xrd, xdup, xdup2, xc1, xpu, c_eq, c_ne, c_lt, c_ge, c_gt, c_le, Option.bind_some, Option.map_some, List.length_nil, List.length_cons, Nat.reduceAdd, Nat.reduceLeDiff, Int.reduceToNat, Bool.and_self, Bool.false_eq_true, if_true, if_false, D139_0, o_m, g_m_0, g_m_1, g_m_2, g_m_3, g_m_4, g_m_5, g_m_6, g_m_7, g_m_8, g_m_9, g_m_10, g_m_11, g_m_12, g_m_13, g_m_14, g_m_15, g_m_16, g_m_17, g_m_18, g_m_19, g_m_20, g_m_21, p_m_3, p_m_7, p_m_8, p_m_11, p_m_13, p_m_15, p_m_16, p_m_17, p_m_18, p_m_21, p_m_5_0, p_m_5_1, r_m0, s_m0, r_m1, s_m1, r_m2, s_m2, r_m4, s_m4, r_m6, s_m6, r_m9, s_m9, r_m10, s_m10, r_m12, s_m12, r_m14, s_m14, r_m19, s_m19, r_m20, s_m20, Nat.reduceEqDiff, decide_true, decide_false, Bool.true_and, Bool.false_and, Bool.and_true, Bool.and_false, zB_tt, zB_ff, not_false_eq_true, not_true_eq_false, n_lit, n_mul, nI_add, n_sub, x_in, nI_clamp, nI_ltI, nI_leI, nI_eq, and_self, true_and, and_true, n_shr, n_and7, vl]
theorem t_has {s k : Nat} (hs : s < 2 ^ 31) (hk : k < 31) (h : xH) : xcall 111 [.int (nI s), .int (nI k)] h = some (some (.int (zB (s.testBit k))), h) := by
  rw [N111, tb_div]
  have h2 := Nat.mod_lt (s / 2 ^ k) (show 2 > 0 by decide)
  by_cases e : s / 2 ^ k % 2 = 1
  · simp (maxSteps := 2000000) (disch := omega) only [e_inl, e_goto, e_fall, e_if, e_icmp, e_iret, e_zret, e_lret, e_vret, e_call0_0, e_call0_1, e_call0_2, e_call0_3, e_call0_4, e_call1_0, e_call1_1, e_call1_2, e_call1_3, e_call1_4, e_call2_0, e_call2_1, e_call2_2, e_call2_3, e_call2_4, e_call3_0, e_call3_1, e_call3_2, e_call3_3, e_call3_4, e_call4_0, e_call4_1, e_call4_2, e_call4_3, e_call4_4, e_call5_0, e_call5_1, e_call5_2, e_call5_3, e_call5_4, e_call6_0, e_call6_1, e_call6_2, e_call6_3, e_call6_4, xP, xld, xst1, xst2, xis2, xii, xid, xll, xlv, xls, xlc, xil, xli, xrd, xdup, xdup2, xc1, xpu, c_eq, c_ne, c_lt, c_ge, c_gt, c_le, Option.bind_some, Option.map_some, List.length_nil, List.length_cons, Nat.reduceAdd, Nat.reduceLeDiff, Int.reduceToNat, Bool.and_self, Bool.false_eq_true, if_true, if_false, D111_0, D111_13, D111_14, Nat.reduceEqDiff, decide_true, decide_false, Bool.true_and, Bool.false_and, Bool.and_true, Bool.and_false, zB_tt, zB_ff, not_false_eq_true, not_true_eq_false, n_lit, n_mul, nI_add, n_sub, x_in, nI_clamp, nI_ltI, nI_leI, nI_eq, and_self, true_and, and_true, n_shr, n_and1, e, n_0, n_1, Nat.one_ne_zero, or_true]
  · simp (maxSteps := 2000000) (disch := omega) only [e_inl, e_goto, e_fall, e_if, e_icmp, e_iret, e_zret, e_lret, e_vret, e_call0_0, e_call0_1, e_call0_2, e_call0_3, e_call0_4, e_call1_0, e_call1_1, e_call1_2, e_call1_3, e_call1_4, e_call2_0, e_call2_1, e_call2_2, e_call2_3, e_call2_4, e_call3_0, e_call3_1, e_call3_2, e_call3_3, e_call3_4, e_call4_0, e_call4_1, e_call4_2, e_call4_3, e_call4_4, e_call5_0, e_call5_1, e_call5_2, e_call5_3, e_call5_4, e_call6_0, e_call6_1, e_call6_2, e_call6_3, e_call6_4, xP, xld, xst1, xst2, xis2, xii, xid, xll, xlv, xls, xlc, xil, xli, xrd, xdup, xdup2, xc1, xpu, c_eq, c_ne, c_lt, c_ge, c_gt, c_le, Option.bind_some, Option.map_some, List.length_nil, List.length_cons, Nat.reduceAdd, Nat.reduceLeDiff, Int.reduceToNat, Bool.and_self, Bool.false_eq_true, if_true, if_false, D111_0, D111_13, D111_14, Nat.reduceEqDiff, decide_true, decide_false, Bool.true_and, Bool.false_and, Bool.and_true, Bool.and_false, zB_tt, zB_ff, not_false_eq_true, not_true_eq_false, n_lit, n_mul, nI_add, n_sub, x_in, nI_clamp, nI_ltI, nI_leI, nI_eq, and_self, true_and, and_true, n_shr, n_and1, e, n_0, n_1, true_or]
end
