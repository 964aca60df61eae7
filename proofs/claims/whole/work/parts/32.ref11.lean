/-! ===== the reference: the first row, the next (2) ===== -/
/-- in the ranges -/
def inR (σ : mS) (x : Nat) : Prop := ∀ f, f < 4 → mF σ f 0 ≤ vl x f ∧ vl x f ≤ mF σ f 1
theorem vl_0 (x : Nat) : vl x 0 = x / 512 % 8 := rfl
theorem vl_1 (x : Nat) : vl x 1 = x / 64 % 8 := rfl
theorem vl_2 (x : Nat) : vl x 2 = x / 8 % 8 := rfl
theorem vl_3 (x : Nat) : vl x 3 = x % 8 := by show x / 1 % 8 = _; rw [Nat.div_one]
theorem rst_eq {x f lo : Nat} (hx : x < 4096) (hf : f < 4) (hl : lo < 8) : rst x f lo = x - vl x f * 2 ^ (9 - 3 * f) + lo * 2 ^ (9 - 3 * f) := by
  have e : x = 64 * (x / 64) + x % 64 := by omega
  have h1 : x / 64 < 64 := by omega
  have h2 : x % 64 < 64 := by omega
  match f, hf with
  | 0, _ => have := rst_0 _ h1 _ h2 lo hl; rw [← e] at this; exact this
  | 1, _ => have := rst_1 _ h1 _ h2 lo hl; rw [← e] at this; exact this
  | 2, _ => have := rst_2 _ h1 _ h2 lo hl; rw [← e] at this; exact this
  | 3, _ => have := rst_3 _ h1 _ h2 lo hl; rw [← e] at this; simpa using this
theorem rst_lt {x f lo : Nat} (hx : x < 4096) (hf : f < 4) (hl : lo < 8) : rst x f lo < 4096 := by
  rw [rst_eq hx hf hl]
  match f, hf with
  | 0, _ => rw [vl_0]; simp only [Nat.mul_zero, Nat.sub_zero, Nat.reducePow]; omega
  | 1, _ => rw [vl_1]; simp only [Nat.mul_one, Nat.reduceSub, Nat.reducePow]; omega
  | 2, _ => rw [vl_2]; simp only [Nat.reduceMul, Nat.reduceSub, Nat.reducePow]; omega
  | 3, _ => rw [vl_3]; simp only [Nat.reduceMul, Nat.reduceSub, Nat.reducePow]; omega
/-- the next row, of the first k fields -/
def nxr (σ : mS) : Nat → Nat → Option Nat
  | _, 0 => none
  | x, k + 1 => if vl x k < mF σ k 1 then some (x + 2 ^ (9 - 3 * k)) else nxr σ (rst x k (mF σ k 0)) k
def oI : Option Nat → Int32
  | none => Int32.ofInt (-1)
  | some c => nI c
section
variable {q : Nat × (Nat → Int32)} {S : Nat → xSt} {P : Int32 × (Nat → Nat)} {A : (Nat → Int64) × Int32 × Int32 × (Nat → Int64) × (Nat → Nat → Int64)} {D : (Nat → Int64) × Int64} {K : Nat → Int64} {X : Int32 × Int32 × Int32 × (Nat → Int32) × (Nat → Int32)} {E Z : Nat → Int32} {I : Nat → Int32} {J : Nat → Int64} {V : Nat → Nat → Int32}
theorem t_next_loop {σ : mS} (hw : wf σ) (hr : rpA σ (V 0)) (y : Int32) : ∀ (k x : Nat) (z : Option Value), k ≤ mn σ → x < 4096 → den 144 9 [some (.ref 163), some (.int y), some (.int (nI x)), some (.int (rI k)), z] [] (hp q S P A D K X E Z I J V) = some (some (.int (oI (nxr σ x k))), (hp q S P A D K X E Z I J V)) := by
  intro k
  induction k with
  | zero =>
    intro x z hk hx
    rw [D144_9, rI_0]
    have h1 : (Int32.ofInt (-1) < 0) = True := by decide
    simp (maxSteps := 2000000) (disch := omega) only [e_inl, e_goto, e_fall, e_if, e_icmp, e_iret, e_zret, e_lret, e_vret, e_call0_0, e_call0_1, e_call0_2, e_call0_3, e_call0_4, e_call1_0, e_call1_1, e_call1_2, e_call1_3, e_call1_4, e_call2_0, e_call2_1, e_call2_2, e_call2_3, e_call2_4, e_call3_0, e_call3_1, e_call3_2, e_call3_3, e_call3_4, e_call4_0, e_call4_1, e_call4_2, e_call4_3, e_call4_4, e_call5_0, e_call5_1, e_call5_2, e_call5_3, e_call5_4, e_call6_0, e_call6_1, e_call6_2, e_call6_3, e_call6_4, xP, xld, xst1, xst2, xis2, xii, xid, xll, xlv, xls, xlc, xil, xli, xrd, xdup, xdup2, xc1, xpu, c_eq, c_ne, c_lt, c_ge, c_gt, c_le, Option.bind_some, Option.map_some, List.length_nil, List.length_cons, Nat.reduceAdd, Nat.reduceLeDiff, Int.reduceToNat, Bool.and_self, Bool.false_eq_true, if_true, if_false, D144_69, h1, nxr, oI]
  | succ k ih =>
    intro x z hk hx
    obtain ⟨w1, w2, -⟩ := hw
    have hk4 : k < 4 := by omega
    obtain ⟨v1, v2, -⟩ := w2 k hk4
    have r := hr.2.1
    have r0 := r k 0 (by omega) (by omega)
    have r1 := r k 1 (by omega) (by omega)
    have hv := vl_lt x k
    have h1 : ¬ k < 0 := by omega
    have hp2 : (2 : Nat) ^ (9 - 3 * k) ≤ 2 ^ 9 := Nat.pow_le_pow_right (by decide) (by omega)
    have h7 : 7 * 2 ^ (9 - 3 * k) < 2 ^ 32 := by omega
    have hl0 : mF σ k 0 * 2 ^ (9 - 3 * k) < 2 ^ 32 := Nat.lt_of_le_of_lt (Nat.mul_le_mul (Nat.le_trans v1 v2) hp2) (by decide)
    rw [D144_9, rI_succ, nxr]
    have hrst : nI ((x ^^^ x &&& 7 * 2 ^ (9 - 3 * k)) ||| mF σ k 0 * 2 ^ (9 - 3 * k)) = nI (rst x k (mF σ k 0)) := rfl
    have hdec : nI k + Int32.ofInt (-1) = rI k := by
      cases k with
      | zero => rfl
      | succ k => rw [n_m1, rI_succ]
    by_cases h : vl x k < mF σ k 1
    · have h2 : ¬ mF σ k 1 ≤ vl x k := by omega
      simp (maxSteps := 2000000) (disch := omega) only [e_inl, e_goto, e_fall, e_if, e_icmp, e_iret, e_zret, e_lret, e_vret, e_call0_0, e_call0_1, e_call0_2, e_call0_3, e_call0_4, e_call1_0, e_call1_1, e_call1_2, e_call1_3, e_call1_4, e_call2_0, e_call2_1, e_call2_2, e_call2_3, e_call2_4, e_call3_0, e_call3_1, e_call3_2, e_call3_3, e_call3_4, e_call4_0, e_call4_1, e_call4_2, e_call4_3, e_call4_4, e_call5_0, e_call5_1, e_call5_2, e_call5_3, e_call5_4, e_call6_0, e_call6_1, e_call6_2, e_call6_3, e_call6_4, xP, xld, xst1, xst2, xis2, xii, xid, xll, xlv, xls, xlc, xil, xli, xrd, xdup, xdup2, xc1, xpu, c_eq, c_ne, c_lt, c_ge, c_gt, c_le, Option.bind_some, Option.map_some, List.length_nil, List.length_cons, Nat.reduceAdd, Nat.reduceLeDiff, Int.reduceToNat, Bool.and_self, Bool.false_eq_true, if_true, if_false, o_m, g_m_0, g_m_1, g_m_2, g_m_3, g_m_4, g_m_5, g_m_6, g_m_7, g_m_8, g_m_9, g_m_10, g_m_11, g_m_12, g_m_13, g_m_14, g_m_15, g_m_16, g_m_17, g_m_18, g_m_19, g_m_20, g_m_21, p_m_3, p_m_7, p_m_8, p_m_11, p_m_13, p_m_15, p_m_16, p_m_17, p_m_18, p_m_21, p_m_5_0, p_m_5_1, r_m0, s_m0, r_m1, s_m1, r_m2, s_m2, r_m4, s_m4, r_m6, s_m6, r_m9, s_m9, r_m10, s_m10, r_m12, s_m12, r_m14, s_m14, r_m19, s_m19, r_m20, s_m20, Nat.reduceEqDiff, decide_true, decide_false, Bool.true_and, Bool.false_and, Bool.and_true, Bool.and_false, zB_tt, zB_ff, not_false_eq_true, not_true_eq_false, n_lit, n_mul, nI_add, n_sub, x_in, nI_clamp, nI_ltI, nI_leI, nI_eq, and_self, true_and, and_true, n_0, h1, h, h2, t_valueOf, t_ofField, r1, n_shl, Nat.one_mul, oI]
    · have h2 : mF σ k 1 ≤ vl x k := by omega
      have e := ih (rst x k (mF σ k 0)) (some (.int (nI (9 - 3 * k)))) (by omega) (rst_lt hx hk4 (by omega))
      simp (maxSteps := 2000000) (disch := omega) only [e_inl, e_goto, e_fall, e_if, e_icmp, e_iret, e_zret, e_lret, e_vret, e_call0_0, e_call0_1, e_call0_2, e_call0_3, e_call0_4, e_call1_0, e_call1_1, e_call1_2, e_call1_3, e_call1_4, e_call2_0, e_call2_1, e_call2_2, e_call2_3, e_call2_4, e_call3_0, e_call3_1, e_call3_2, e_call3_3, e_call3_4, e_call4_0, e_call4_1, e_call4_2, e_call4_3, e_call4_4, e_call5_0, e_call5_1, e_call5_2, e_call5_3, e_call5_4, e_call6_0, e_call6_1, e_call6_2, e_call6_3, e_call6_4, xP, xld, xst1, xst2, xis2, xii, xid, xll, xlv, xls, xlc, xil, xli, xrd, xdup, xdup2, xc1, xpu, c_eq, c_ne, c_lt, c_ge, c_gt, c_le, Option.bind_some, Option.map_some, List.length_nil, List.length_cons, Nat.reduceAdd, Nat.reduceLeDiff, Int.reduceToNat, Bool.and_self, Bool.false_eq_true, if_true, if_false, D144_43, o_m, g_m_0, g_m_1, g_m_2, g_m_3, g_m_4, g_m_5, g_m_6, g_m_7, g_m_8, g_m_9, g_m_10, g_m_11, g_m_12, g_m_13, g_m_14, g_m_15, g_m_16, g_m_17, g_m_18, g_m_19, g_m_20, g_m_21, p_m_3, p_m_7, p_m_8, p_m_11, p_m_13, p_m_15, p_m_16, p_m_17, p_m_18, p_m_21, p_m_5_0, p_m_5_1, r_m0, s_m0, r_m1, s_m1, r_m2, s_m2, r_m4, s_m4, r_m6, s_m6, r_m9, s_m9, r_m10, s_m10, r_m12, s_m12, r_m14, s_m14, r_m19, s_m19, r_m20, s_m20, Nat.reduceEqDiff, decide_true, decide_false, Bool.true_and, Bool.false_and, Bool.and_true, Bool.and_false, zB_tt, zB_ff, not_false_eq_true, not_true_eq_false, n_lit, n_mul, nI_add, n_sub, x_in, nI_clamp, nI_ltI, nI_leI, nI_eq, and_self, true_and, and_true, n_0, h1, h, h2, t_valueOf, t_ofField, r0, r1, n_shl, n_andn, fa_or, hrst, hdec, e]
theorem t_next {σ : mS} (hw : wf σ) (hr : rpA σ (V 0)) {x : Nat} (hx : x < 4096) : xcall 144 [.ref 163, .int (nI x)] (hp q S P A D K X E Z I J V) = some (some (.int (oI (nxr σ x (mn σ)))), (hp q S P A D K X E Z I J V)) := by
  rw [N144 _ _ _ (o_m ..)]
  have hd : nI (mn σ) - nI 1 = rI (mn σ) := by
    have h4 := hw.1
    cases h : mn σ with
    | zero => decide
    | succ k => rw [n_sub (by omega), rI_succ, Nat.add_sub_cancel]
  have e := t_next_loop (q := q) (S := S) (P := P) (A := A) (D := D) (K := K) (X := X) (E := E) (Z := Z) (I := I) (J := J) hw hr (nI x) (mn σ) x none (Nat.le_refl _) hx
  have e0 := hr.1
  simp only [e_inl, e_goto, e_fall, e_if, e_icmp, e_iret, e_zret, e_lret, e_vret, e_call0_0, e_call0_1, e_call0_2, e_call0_3, e_call0_4, e_call1_0, e_call1_1, e_call1_2, e_call1_3, e_call1_4, e_call2_0, e_call2_1, e_call2_2, e_call2_3, e_call2_4, e_call3_0, e_call3_1, e_call3_2, e_call3_3, e_call3_4, e_call4_0, e_call4_1, e_call4_2, e_call4_3, e_call4_4, e_call5_0, e_call5_1, e_call5_2, e_call5_3, e_call5_4, e_call6_0, e_call6_1, e_call6_2, e_call6_3, e_call6_4, xP, xld, xst1, xst2, xis2, xii, xid, xll, xlv, xls, xlc, xil, xli, xrd, xdup, xdup2, xc1, xpu, c_eq, c_ne, c_lt, c_ge, c_gt, c_le, Option.bind_some, Option.map_some, List.length_nil, List.length_cons, Nat.reduceAdd, Nat.reduceLeDiff, Int.reduceToNat, Bool.and_self, Bool.false_eq_true, if_true, if_false, D144_0, t_fields, n_lit, e0, hd, e]
/-- the first row, of the first k fields -/
def fsr (σ : mS) : Nat → Nat
  | 0 => 0
  | k + 1 => fsr σ k ||| mF σ k 0 * 2 ^ (9 - 3 * k)
theorem t_first {σ : mS} (hw : wf σ) (hr : rpA σ (V 0)) : xcall 143 [.ref 163] (hp q S P A D K X E Z I J V) = some (some (.int (nI (fsr σ (mn σ)))), (hp q S P A D K X E Z I J V)) := by
  rw [N143 _ _ (o_m ..)]
  obtain ⟨w1, w2, -⟩ := hw
  have e0 := hr.1
  simp (maxSteps := 2000000) (disch := omega) only [e_inl, e_goto, e_fall, e_if, e_icmp, e_iret, e_zret, e_lret, e_vret, e_call0_0, e_call0_1, e_call0_2, e_call0_3, e_call0_4, e_call1_0, e_call1_1, e_call1_2, e_call1_3, e_call1_4, e_call2_0, e_call2_1, e_call2_2, e_call2_3, e_call2_4, e_call3_0, e_call3_1, e_call3_2, e_call3_3, e_call3_4, e_call4_0, e_call4_1, e_call4_2, e_call4_3, e_call4_4, e_call5_0, e_call5_1, e_call5_2, e_call5_3, e_call5_4, e_call6_0, e_call6_1, e_call6_2, e_call6_3, e_call6_4, xP, xld, xst1, xst2, xis2, xii, xid, xll, xlv, xls, xlc, xil, xli, xrd, xdup, xdup2, xc1, xpu, c_eq, c_ne, c_lt, c_ge, c_gt, c_le, Option.bind_some, Option.map_some, List.length_nil, List.length_cons, Nat.reduceAdd, Nat.reduceLeDiff, Int.reduceToNat, Bool.and_self, Bool.false_eq_true, if_true, if_false, D143_0, Nat.reduceEqDiff, decide_true, decide_false, Bool.true_and, Bool.false_and, Bool.and_true, Bool.and_false, zB_tt, zB_ff, not_false_eq_true, not_true_eq_false, n_lit, n_mul, nI_add, n_sub, x_in, nI_clamp, nI_ltI, nI_leI, nI_eq, and_self, true_and, and_true]
  have hl := x_loop (i := 143) (pc := 4) (fun k => [some (.ref 163), some (.int (nI (fsr σ k))), some (.int (nI k))]) (fun k => (hp q S P A D K X E Z I J V)) (mn σ) (fun k hk => by
    rw [D143_4]
    have hk4 : k < 4 := by omega
    obtain ⟨v1, v2, -⟩ := w2 k hk4
    have h1 : ¬ mn σ ≤ k := by omega
    have hp2 : (2 : Nat) ^ (9 - 3 * k) ≤ 2 ^ 9 := Nat.pow_le_pow_right (by decide) (by omega)
    have hl0 : mF σ k 0 * 2 ^ (9 - 3 * k) < 2 ^ 32 := Nat.lt_of_le_of_lt (Nat.mul_le_mul (Nat.le_trans v1 v2) hp2) (by decide)
    have r0 := hr.2.1 k 0 (by omega) (by omega)
    simp (maxSteps := 2000000) (disch := omega) only [e_inl, e_goto, e_fall, e_if, e_icmp, e_iret, e_zret, e_lret, e_vret, e_call0_0, e_call0_1, e_call0_2, e_call0_3, e_call0_4, e_call1_0, e_call1_1, e_call1_2, e_call1_3, e_call1_4, e_call2_0, e_call2_1, e_call2_2, e_call2_3, e_call2_4, e_call3_0, e_call3_1, e_call3_2, e_call3_3, e_call3_4, e_call4_0, e_call4_1, e_call4_2, e_call4_3, e_call4_4, e_call5_0, e_call5_1, e_call5_2, e_call5_3, e_call5_4, e_call6_0, e_call6_1, e_call6_2, e_call6_3, e_call6_4, xP, xld, xst1, xst2, xis2, xii, xid, xll, xlv, xls, xlc, xil, xli, xrd, xdup, xdup2, xc1, xpu, c_eq, c_ne, c_lt, c_ge, c_gt, c_le, Option.bind_some, Option.map_some, List.length_nil, List.length_cons, Nat.reduceAdd, Nat.reduceLeDiff, Int.reduceToNat, Bool.and_self, Bool.false_eq_true, if_true, if_false, o_m, g_m_0, g_m_1, g_m_2, g_m_3, g_m_4, g_m_5, g_m_6, g_m_7, g_m_8, g_m_9, g_m_10, g_m_11, g_m_12, g_m_13, g_m_14, g_m_15, g_m_16, g_m_17, g_m_18, g_m_19, g_m_20, g_m_21, p_m_3, p_m_7, p_m_8, p_m_11, p_m_13, p_m_15, p_m_16, p_m_17, p_m_18, p_m_21, p_m_5_0, p_m_5_1, r_m0, s_m0, r_m1, s_m1, r_m2, s_m2, r_m4, s_m4, r_m6, s_m6, r_m9, s_m9, r_m10, s_m10, r_m12, s_m12, r_m14, s_m14, r_m19, s_m19, r_m20, s_m20, Nat.reduceEqDiff, decide_true, decide_false, Bool.true_and, Bool.false_and, Bool.and_true, Bool.and_false, zB_tt, zB_ff, not_false_eq_true, not_true_eq_false, n_lit, n_mul, nI_add, n_sub, x_in, nI_clamp, nI_ltI, nI_leI, nI_eq, and_self, true_and, and_true, t_fields, e0, h1, t_ofField, r0, n_shl, fa_or, fsr])
  have ez : fsr σ 0 = 0 := rfl
  rw [ez] at hl
  rw [hl, D143_4]
  simp (maxSteps := 2000000) (disch := omega) only [e_inl, e_goto, e_fall, e_if, e_icmp, e_iret, e_zret, e_lret, e_vret, e_call0_0, e_call0_1, e_call0_2, e_call0_3, e_call0_4, e_call1_0, e_call1_1, e_call1_2, e_call1_3, e_call1_4, e_call2_0, e_call2_1, e_call2_2, e_call2_3, e_call2_4, e_call3_0, e_call3_1, e_call3_2, e_call3_3, e_call3_4, e_call4_0, e_call4_1, e_call4_2, e_call4_3, e_call4_4, e_call5_0, e_call5_1, e_call5_2, e_call5_3, e_call5_4, e_call6_0, e_call6_1, e_call6_2, e_call6_3, e_call6_4, xP, xld, xst1, xst2, xis2, xii, xid, xll, xlv, xls, xlc, xil, xli, xrd, xdup, xdup2, xc1, xpu, c_eq, c_ne, c_lt, c_ge, c_gt, c_le, Option.bind_some, Option.map_some, List.length_nil, List.length_cons, Nat.reduceAdd, Nat.reduceLeDiff, Int.reduceToNat, Bool.and_self, Bool.false_eq_true, if_true, if_false, D143_34, o_m, g_m_0, g_m_1, g_m_2, g_m_3, g_m_4, g_m_5, g_m_6, g_m_7, g_m_8, g_m_9, g_m_10, g_m_11, g_m_12, g_m_13, g_m_14, g_m_15, g_m_16, g_m_17, g_m_18, g_m_19, g_m_20, g_m_21, p_m_3, p_m_7, p_m_8, p_m_11, p_m_13, p_m_15, p_m_16, p_m_17, p_m_18, p_m_21, p_m_5_0, p_m_5_1, r_m0, s_m0, r_m1, s_m1, r_m2, s_m2, r_m4, s_m4, r_m6, s_m6, r_m9, s_m9, r_m10, s_m10, r_m12, s_m12, r_m14, s_m14, r_m19, s_m19, r_m20, s_m20, Nat.reduceEqDiff, decide_true, decide_false, Bool.true_and, Bool.false_and, Bool.and_true, Bool.and_false, zB_tt, zB_ff, not_false_eq_true, not_true_eq_false, n_lit, n_mul, nI_add, n_sub, x_in, nI_clamp, nI_ltI, nI_leI, nI_eq, and_self, true_and, and_true, t_fields, e0, Nat.le_refl]
end
