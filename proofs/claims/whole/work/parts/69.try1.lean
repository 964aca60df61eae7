/-! ===== the class: small methods, nothing drawn ===== -/
section
variable {q : Nat × (Nat → Int32)} {S : Nat → xSt} {P : Int32 × (Nat → Nat)} {A : (Nat → Int64) × Int32 × Int32 × (Nat → Int64) × (Nat → Nat → Int64)} {D : (Nat → Int64) × Int64} {K : Nat → Int64} {X : Int32 × Int32 × Int32 × (Nat → Int32) × (Nat → Int32)} {E Z : Nat → Int32} {I : Nat → Int32} {J : Nat → Int64} {V : Nat → Nat → Int32}
set_option maxRecDepth 100000 in
theorem c_valueIn {c f : Nat} (hc : c < 2 ^ 31) (hf : f < 4) (h : xH) : xcall 98 [.int (nI c), .int (nI f)] h = some (some (.int (nI (vl c f))), h) := by
  have e : 3 * (3 - f) = 9 - 3 * f := by omega
  rw [N98]
  simp (maxSteps := 2000000) (disch := omega) only [e_inl, e_goto, e_fall, e_if, e_icmp, e_iret, e_zret, e_lret, e_vret, e_call0_0, e_call0_1, e_call0_2, e_call0_3, e_call0_4, e_call1_0, e_call1_1, e_call1_2, e_call1_3, e_call1_4, e_call2_0, e_call2_1, e_call2_2, e_call2_3, e_call2_4, e_call3_0, e_call3_1, e_call3_2, e_call3_3, e_call3_4, e_call4_0, e_call4_1, e_call4_2, e_call4_3, e_call4_4, e_call5_0, e_call5_1, e_call5_2, e_call5_3, e_call5_4, e_call6_0, e_call6_1, e_call6_2, e_call6_3, e_call6_4, xP, xld, xst1, xst2, xis2, xii, xid, xll, xlv, xls, xlc, xil, xli, xrd, xdup, xdup2, xc1, xpu, c_eq, c_ne, c_lt, c_ge, c_gt, c_le, Option.bind_some, Option.map_some, List.length_nil, List.length_cons, Nat.reduceAdd, Nat.reduceLeDiff, Int.reduceToNat, Bool.and_self, Bool.false_eq_true, if_true, if_false, D98_0, n_lit, n_mul, n_sub, n_shr, n_and7, e, vl]
theorem ltF {n : Nat} (hn : n ≤ 1000) (x : Int32) : isF n x = (decide (¬ x < nI 0) && decide (¬ nI n ≤ x)) := by
  rw [Bool.eq_iff_iff]
  constructor
  · intro h
    obtain ⟨f, hf, rfl⟩ := isF_of hn h
    simp (maxSteps := 2000000) (disch := omega) only [nI_ltI, nI_leI]
    simp
    omega
  · intro h
    rw [Bool.and_eq_true, decide_eq_true_eq, decide_eq_true_eq] at h
    obtain ⟨k, hk, rfl⟩ := nn_of (Int32.not_lt.mp h.1)
    rw [nI_leI (by omega) (by omega)] at h
    exact isF_nat (by omega) hn
set_option maxRecDepth 100000 in
theorem c_hasField {n : Nat} (hn : n ≤ 4) (h0 : (S 0).1 0 = nI n) (x : Int32) : xcall 45 [.ref 3, .int x] (hp q S P A D K X E Z I J V) = some (some (.int (zB (isF n x))), (hp q S P A D K X E Z I J V)) := by
  rw [N45 _ _ _ (o_S ..), D45_0, ltF (by omega)]
  by_cases h1 : x < nI 0
  · rw [decide_eq_false (fun q => q h1), Bool.false_and, zB_ff]
    simp (maxSteps := 2000000) (disch := omega) only [e_inl, e_goto, e_fall, e_if, e_icmp, e_iret, e_zret, e_lret, e_vret, e_call0_0, e_call0_1, e_call0_2, e_call0_3, e_call0_4, e_call1_0, e_call1_1, e_call1_2, e_call1_3, e_call1_4, e_call2_0, e_call2_1, e_call2_2, e_call2_3, e_call2_4, e_call3_0, e_call3_1, e_call3_2, e_call3_3, e_call3_4, e_call4_0, e_call4_1, e_call4_2, e_call4_3, e_call4_4, e_call5_0, e_call5_1, e_call5_2, e_call5_3, e_call5_4, e_call6_0, e_call6_1, e_call6_2, e_call6_3, e_call6_4, xP, xld, xst1, xst2, xis2, xii, xid, xll, xlv, xls, xlc, xil, xli, xrd, xdup, xdup2, xc1, xpu, c_eq, c_ne, c_lt, c_ge, c_gt, c_le, Option.bind_some, Option.map_some, List.length_nil, List.length_cons, Nat.reduceAdd, Nat.reduceLeDiff, Int.reduceToNat, Bool.and_self, Bool.false_eq_true, if_true, if_false, D45_16, D45_17, n_lit, n_0, h1, n_1, true_or]
  · by_cases h2 : nI n ≤ x
    · rw [decide_eq_true h1, decide_eq_false (show ¬ ¬ nI n ≤ x from fun z => z h2), Bool.and_false, zB_ff]
      simp (maxSteps := 2000000) (disch := omega) only [e_inl, e_goto, e_fall, e_if, e_icmp, e_iret, e_zret, e_lret, e_vret, e_call0_0, e_call0_1, e_call0_2, e_call0_3, e_call0_4, e_call1_0, e_call1_1, e_call1_2, e_call1_3, e_call1_4, e_call2_0, e_call2_1, e_call2_2, e_call2_3, e_call2_4, e_call3_0, e_call3_1, e_call3_2, e_call3_3, e_call3_4, e_call4_0, e_call4_1, e_call4_2, e_call4_3, e_call4_4, e_call5_0, e_call5_1, e_call5_2, e_call5_3, e_call5_4, e_call6_0, e_call6_1, e_call6_2, e_call6_3, e_call6_4, xP, xld, xst1, xst2, xis2, xii, xid, xll, xlv, xls, xlc, xil, xli, xrd, xdup, xdup2, xc1, xpu, c_eq, c_ne, c_lt, c_ge, c_gt, c_le, Option.bind_some, Option.map_some, List.length_nil, List.length_cons, Nat.reduceAdd, Nat.reduceLeDiff, Int.reduceToNat, Bool.and_self, Bool.false_eq_true, if_true, if_false, D45_16, D45_17, g_x_0, g_x_1, g_x_2, g_x_3, g_x_4, g_x_5, g_x_6, g_x_7, g_S_0, g_S_1, g_S_2, g_S_3, g_S_4, g_S_5, g_S_6, g_S_7, g_S_8, p_S_0, p_S_3, p_S_5, p_S_6, p_S_8_0, p_S_8_1, r_order, s_order, r_unlike, s_unlike, g_F_0, g_F_1, g_F_2, g_F_3, g_F_4, p_F_0, p_F_1, p_F_2, p_F_3, r_W, s_W, g_R_0, g_R_1, g_R_2, g_R_3, g_R_4, p_R_0, p_R_1, p_R_2, p_R_3, p_R_4, rd0F, rd0R, r_refusals, s_refusals, n_lit, n_0, h1, h0, h2, n_1, true_or]
    · rw [decide_eq_true h1, decide_eq_true h2, Bool.true_and, zB_tt]
      simp (maxSteps := 2000000) (disch := omega) only [e_inl, e_goto, e_fall, e_if, e_icmp, e_iret, e_zret, e_lret, e_vret, e_call0_0, e_call0_1, e_call0_2, e_call0_3, e_call0_4, e_call1_0, e_call1_1, e_call1_2, e_call1_3, e_call1_4, e_call2_0, e_call2_1, e_call2_2, e_call2_3, e_call2_4, e_call3_0, e_call3_1, e_call3_2, e_call3_3, e_call3_4, e_call4_0, e_call4_1, e_call4_2, e_call4_3, e_call4_4, e_call5_0, e_call5_1, e_call5_2, e_call5_3, e_call5_4, e_call6_0, e_call6_1, e_call6_2, e_call6_3, e_call6_4, xP, xld, xst1, xst2, xis2, xii, xid, xll, xlv, xls, xlc, xil, xli, xrd, xdup, xdup2, xc1, xpu, c_eq, c_ne, c_lt, c_ge, c_gt, c_le, Option.bind_some, Option.map_some, List.length_nil, List.length_cons, Nat.reduceAdd, Nat.reduceLeDiff, Int.reduceToNat, Bool.and_self, Bool.false_eq_true, if_true, if_false, D45_17, g_x_0, g_x_1, g_x_2, g_x_3, g_x_4, g_x_5, g_x_6, g_x_7, g_S_0, g_S_1, g_S_2, g_S_3, g_S_4, g_S_5, g_S_6, g_S_7, g_S_8, p_S_0, p_S_3, p_S_5, p_S_6, p_S_8_0, p_S_8_1, r_order, s_order, r_unlike, s_unlike, g_F_0, g_F_1, g_F_2, g_F_3, g_F_4, p_F_0, p_F_1, p_F_2, p_F_3, r_W, s_W, g_R_0, g_R_1, g_R_2, g_R_3, g_R_4, p_R_0, p_R_1, p_R_2, p_R_3, p_R_4, rd0F, rd0R, r_refusals, s_refusals, n_lit, n_0, h1, h0, h2, n_1, or_true]
set_option maxRecDepth 100000 in
theorem c_hasRule {n : Nat} (hn : n ≤ 8) (h0 : (S 0).1 3 = nI n) (x : Int32) : xcall 46 [.ref 3, .int x] (hp q S P A D K X E Z I J V) = some (some (.int (zB (isF n x))), (hp q S P A D K X E Z I J V)) := by
  rw [N46 _ _ _ (o_S ..), D46_0, ltF (by omega)]
  by_cases h1 : x < nI 0
  · rw [decide_eq_false (fun q => q h1), Bool.false_and, zB_ff]
    simp (maxSteps := 2000000) (disch := omega) only [e_inl, e_goto, e_fall, e_if, e_icmp, e_iret, e_zret, e_lret, e_vret, e_call0_0, e_call0_1, e_call0_2, e_call0_3, e_call0_4, e_call1_0, e_call1_1, e_call1_2, e_call1_3, e_call1_4, e_call2_0, e_call2_1, e_call2_2, e_call2_3, e_call2_4, e_call3_0, e_call3_1, e_call3_2, e_call3_3, e_call3_4, e_call4_0, e_call4_1, e_call4_2, e_call4_3, e_call4_4, e_call5_0, e_call5_1, e_call5_2, e_call5_3, e_call5_4, e_call6_0, e_call6_1, e_call6_2, e_call6_3, e_call6_4, xP, xld, xst1, xst2, xis2, xii, xid, xll, xlv, xls, xlc, xil, xli, xrd, xdup, xdup2, xc1, xpu, c_eq, c_ne, c_lt, c_ge, c_gt, c_le, Option.bind_some, Option.map_some, List.length_nil, List.length_cons, Nat.reduceAdd, Nat.reduceLeDiff, Int.reduceToNat, Bool.and_self, Bool.false_eq_true, if_true, if_false, D46_16, D46_17, n_lit, n_0, h1, n_1, true_or]
  · by_cases h2 : nI n ≤ x
    · rw [decide_eq_true h1, decide_eq_false (show ¬ ¬ nI n ≤ x from fun z => z h2), Bool.and_false, zB_ff]
      simp (maxSteps := 2000000) (disch := omega) only [e_inl, e_goto, e_fall, e_if, e_icmp, e_iret, e_zret, e_lret, e_vret, e_call0_0, e_call0_1, e_call0_2, e_call0_3, e_call0_4, e_call1_0, e_call1_1, e_call1_2, e_call1_3, e_call1_4, e_call2_0, e_call2_1, e_call2_2, e_call2_3, e_call2_4, e_call3_0, e_call3_1, e_call3_2, e_call3_3, e_call3_4, e_call4_0, e_call4_1, e_call4_2, e_call4_3, e_call4_4, e_call5_0, e_call5_1, e_call5_2, e_call5_3, e_call5_4, e_call6_0, e_call6_1, e_call6_2, e_call6_3, e_call6_4, xP, xld, xst1, xst2, xis2, xii, xid, xll, xlv, xls, xlc, xil, xli, xrd, xdup, xdup2, xc1, xpu, c_eq, c_ne, c_lt, c_ge, c_gt, c_le, Option.bind_some, Option.map_some, List.length_nil, List.length_cons, Nat.reduceAdd, Nat.reduceLeDiff, Int.reduceToNat, Bool.and_self, Bool.false_eq_true, if_true, if_false, D46_16, D46_17, g_x_0, g_x_1, g_x_2, g_x_3, g_x_4, g_x_5, g_x_6, g_x_7, g_S_0, g_S_1, g_S_2, g_S_3, g_S_4, g_S_5, g_S_6, g_S_7, g_S_8, p_S_0, p_S_3, p_S_5, p_S_6, p_S_8_0, p_S_8_1, r_order, s_order, r_unlike, s_unlike, g_F_0, g_F_1, g_F_2, g_F_3, g_F_4, p_F_0, p_F_1, p_F_2, p_F_3, r_W, s_W, g_R_0, g_R_1, g_R_2, g_R_3, g_R_4, p_R_0, p_R_1, p_R_2, p_R_3, p_R_4, rd0F, rd0R, r_refusals, s_refusals, n_lit, n_0, h1, h0, h2, n_1, true_or]
    · rw [decide_eq_true h1, decide_eq_true h2, Bool.true_and, zB_tt]
      simp (maxSteps := 2000000) (disch := omega) only [e_inl, e_goto, e_fall, e_if, e_icmp, e_iret, e_zret, e_lret, e_vret, e_call0_0, e_call0_1, e_call0_2, e_call0_3, e_call0_4, e_call1_0, e_call1_1, e_call1_2, e_call1_3, e_call1_4, e_call2_0, e_call2_1, e_call2_2, e_call2_3, e_call2_4, e_call3_0, e_call3_1, e_call3_2, e_call3_3, e_call3_4, e_call4_0, e_call4_1, e_call4_2, e_call4_3, e_call4_4, e_call5_0, e_call5_1, e_call5_2, e_call5_3, e_call5_4, e_call6_0, e_call6_1, e_call6_2, e_call6_3, e_call6_4, xP, xld, xst1, xst2, xis2, xii, xid, xll, xlv, xls, xlc, xil, xli, xrd, xdup, xdup2, xc1, xpu, c_eq, c_ne, c_lt, c_ge, c_gt, c_le, Option.bind_some, Option.map_some, List.length_nil, List.length_cons, Nat.reduceAdd, Nat.reduceLeDiff, Int.reduceToNat, Bool.and_self, Bool.false_eq_true, if_true, if_false, D46_17, g_x_0, g_x_1, g_x_2, g_x_3, g_x_4, g_x_5, g_x_6, g_x_7, g_S_0, g_S_1, g_S_2, g_S_3, g_S_4, g_S_5, g_S_6, g_S_7, g_S_8, p_S_0, p_S_3, p_S_5, p_S_6, p_S_8_0, p_S_8_1, r_order, s_order, r_unlike, s_unlike, g_F_0, g_F_1, g_F_2, g_F_3, g_F_4, p_F_0, p_F_1, p_F_2, p_F_3, r_W, s_W, g_R_0, g_R_1, g_R_2, g_R_3, g_R_4, p_R_0, p_R_1, p_R_2, p_R_3, p_R_4, rd0F, rd0R, r_refusals, s_refusals, n_lit, n_0, h1, h0, h2, n_1, or_true]
set_option maxRecDepth 100000 in
theorem c_isRange (lo hi : Int32) (h : xH) : xcall 99 [.int lo, .int hi] h = some (some (.int (zB (inB lo (nI 0) (nI 7) && inB hi lo (nI 7)))), h) := by
  rw [N99, D99_0]
  have hb : (inB lo (nI 0) (nI 7) && inB hi lo (nI 7)) = (decide (nI 0 ≤ lo) && (decide (lo ≤ hi) && decide (¬ nI 8 ≤ hi))) := by
    have e8 : (¬ nI 8 ≤ hi) = (hi ≤ nI 7) := by
      apply propext
      rw [Int32.le_iff_toInt_le, Int32.le_iff_toInt_le, nI_toInt (by omega), nI_toInt (by omega)]
      omega
    unfold inB
    rw [Bool.eq_iff_iff]
    simp only [Bool.and_eq_true, decide_eq_true_eq, e8]
    constructor
    · rintro ⟨⟨a, b⟩, c, d⟩
      exact ⟨a, c, d⟩
    · rintro ⟨a, c, d⟩
      exact ⟨⟨a, Int32.le_trans c d⟩, c, d⟩
  rw [hb]
  by_cases h1 : lo < nI 0
  · have h2 : ¬ nI 0 ≤ lo := Int32.not_le.mpr h1
    rw [decide_eq_false h2, Bool.false_and, zB_ff]
    simp (maxSteps := 2000000) (disch := omega) only [e_inl, e_goto, e_fall, e_if, e_icmp, e_iret, e_zret, e_lret, e_vret, e_call0_0, e_call0_1, e_call0_2, e_call0_3, e_call0_4, e_call1_0, e_call1_1, e_call1_2, e_call1_3, e_call1_4, e_call2_0, e_call2_1, e_call2_2, e_call2_3, e_call2_4, e_call3_0, e_call3_1, e_call3_2, e_call3_3, e_call3_4, e_call4_0, e_call4_1, e_call4_2, e_call4_3, e_call4_4, e_call5_0, e_call5_1, e_call5_2, e_call5_3, e_call5_4, e_call6_0, e_call6_1, e_call6_2, e_call6_3, e_call6_4, xP, xld, xst1, xst2, xis2, xii, xid, xll, xlv, xls, xlc, xil, xli, xrd, xdup, xdup2, xc1, xpu, c_eq, c_ne, c_lt, c_ge, c_gt, c_le, Option.bind_some, Option.map_some, List.length_nil, List.length_cons, Nat.reduceAdd, Nat.reduceLeDiff, Int.reduceToNat, Bool.and_self, Bool.false_eq_true, if_true, if_false, D99_19, D99_20, n_lit, n_0, n_1, h1, true_or]
  · have h2 : nI 0 ≤ lo := Int32.not_lt.mp h1
    rw [decide_eq_true h2, Bool.true_and]
    by_cases h3 : hi < lo
    · have h4 : ¬ lo ≤ hi := Int32.not_le.mpr h3
      rw [decide_eq_false h4, Bool.false_and, zB_ff]
      simp (maxSteps := 2000000) (disch := omega) only [e_inl, e_goto, e_fall, e_if, e_icmp, e_iret, e_zret, e_lret, e_vret, e_call0_0, e_call0_1, e_call0_2, e_call0_3, e_call0_4, e_call1_0, e_call1_1, e_call1_2, e_call1_3, e_call1_4, e_call2_0, e_call2_1, e_call2_2, e_call2_3, e_call2_4, e_call3_0, e_call3_1, e_call3_2, e_call3_3, e_call3_4, e_call4_0, e_call4_1, e_call4_2, e_call4_3, e_call4_4, e_call5_0, e_call5_1, e_call5_2, e_call5_3, e_call5_4, e_call6_0, e_call6_1, e_call6_2, e_call6_3, e_call6_4, xP, xld, xst1, xst2, xis2, xii, xid, xll, xlv, xls, xlc, xil, xli, xrd, xdup, xdup2, xc1, xpu, c_eq, c_ne, c_lt, c_ge, c_gt, c_le, Option.bind_some, Option.map_some, List.length_nil, List.length_cons, Nat.reduceAdd, Nat.reduceLeDiff, Int.reduceToNat, Bool.and_self, Bool.false_eq_true, if_true, if_false, D99_19, D99_20, n_lit, n_0, n_1, h1, h3, true_or]
    · have h4 : lo ≤ hi := Int32.not_lt.mp h3
      rw [decide_eq_true h4, Bool.true_and]
      by_cases h5 : nI 8 ≤ hi
      · rw [decide_eq_false (fun q => q h5), zB_ff]
        simp (maxSteps := 2000000) (disch := omega) only [e_inl, e_goto, e_fall, e_if, e_icmp, e_iret, e_zret, e_lret, e_vret, e_call0_0, e_call0_1, e_call0_2, e_call0_3, e_call0_4, e_call1_0, e_call1_1, e_call1_2, e_call1_3, e_call1_4, e_call2_0, e_call2_1, e_call2_2, e_call2_3, e_call2_4, e_call3_0, e_call3_1, e_call3_2, e_call3_3, e_call3_4, e_call4_0, e_call4_1, e_call4_2, e_call4_3, e_call4_4, e_call5_0, e_call5_1, e_call5_2, e_call5_3, e_call5_4, e_call6_0, e_call6_1, e_call6_2, e_call6_3, e_call6_4, xP, xld, xst1, xst2, xis2, xii, xid, xll, xlv, xls, xlc, xil, xli, xrd, xdup, xdup2, xc1, xpu, c_eq, c_ne, c_lt, c_ge, c_gt, c_le, Option.bind_some, Option.map_some, List.length_nil, List.length_cons, Nat.reduceAdd, Nat.reduceLeDiff, Int.reduceToNat, Bool.and_self, Bool.false_eq_true, if_true, if_false, D99_19, D99_20, n_lit, n_0, n_1, h1, h3, h5, true_or]
      · rw [decide_eq_true h5, zB_tt]
        simp (maxSteps := 2000000) (disch := omega) only [e_inl, e_goto, e_fall, e_if, e_icmp, e_iret, e_zret, e_lret, e_vret, e_call0_0, e_call0_1, e_call0_2, e_call0_3, e_call0_4, e_call1_0, e_call1_1, e_call1_2, e_call1_3, e_call1_4, e_call2_0, e_call2_1, e_call2_2, e_call2_3, e_call2_4, e_call3_0, e_call3_1, e_call3_2, e_call3_3, e_call3_4, e_call4_0, e_call4_1, e_call4_2, e_call4_3, e_call4_4, e_call5_0, e_call5_1, e_call5_2, e_call5_3, e_call5_4, e_call6_0, e_call6_1, e_call6_2, e_call6_3, e_call6_4, xP, xld, xst1, xst2, xis2, xii, xid, xll, xlv, xls, xlc, xil, xli, xrd, xdup, xdup2, xc1, xpu, c_eq, c_ne, c_lt, c_ge, c_gt, c_le, Option.bind_some, Option.map_some, List.length_nil, List.length_cons, Nat.reduceAdd, Nat.reduceLeDiff, Int.reduceToNat, Bool.and_self, Bool.false_eq_true, if_true, if_false, D99_20, n_lit, n_0, n_1, h1, h3, h5, or_true]
/-! nothing drawn -/
def eF (s : xSt) : Nat → xSt
  | 0 => s
  | k + 1 => sF (eF s k) k 3 (nI 0)
def eD (s : xSt) : xSt := sI (eF (sI (sI s 5 (Int32.ofInt (-1))) 6 (nI 0)) 4) 8 (nI 0)
set_option maxRecDepth 100000 in
theorem c_emptyDrawn : xcall 51 [.ref 3] (hp q S P A D K X E Z I J V) = some (none, (hp q (vf_upd S 0 (eD (S 0))) P A D K X E Z I J V)) := by
  rw [N51 _ _ (o_S ..), D51_0]
  simp (maxSteps := 2000000) (disch := omega) only [e_inl, e_goto, e_fall, e_if, e_icmp, e_iret, e_zret, e_lret, e_vret, e_call0_0, e_call0_1, e_call0_2, e_call0_3, e_call0_4, e_call1_0, e_call1_1, e_call1_2, e_call1_3, e_call1_4, e_call2_0, e_call2_1, e_call2_2, e_call2_3, e_call2_4, e_call3_0, e_call3_1, e_call3_2, e_call3_3, e_call3_4, e_call4_0, e_call4_1, e_call4_2, e_call4_3, e_call4_4, e_call5_0, e_call5_1, e_call5_2, e_call5_3, e_call5_4, e_call6_0, e_call6_1, e_call6_2, e_call6_3, e_call6_4, xP, xld, xst1, xst2, xis2, xii, xid, xll, xlv, xls, xlc, xil, xli, xrd, xdup, xdup2, xc1, xpu, c_eq, c_ne, c_lt, c_ge, c_gt, c_le, Option.bind_some, Option.map_some, List.length_nil, List.length_cons, Nat.reduceAdd, Nat.reduceLeDiff, Int.reduceToNat, Bool.and_self, Bool.false_eq_true, if_true, if_false, g_x_0, g_x_1, g_x_2, g_x_3, g_x_4, g_x_5, g_x_6, g_x_7, g_S_0, g_S_1, g_S_2, g_S_3, g_S_4, g_S_5, g_S_6, g_S_7, g_S_8, p_S_0, p_S_3, p_S_5, p_S_6, p_S_8_0, p_S_8_1, r_order, s_order, r_unlike, s_unlike, g_F_0, g_F_1, g_F_2, g_F_3, g_F_4, p_F_0, p_F_1, p_F_2, p_F_3, r_W, s_W, g_R_0, g_R_1, g_R_2, g_R_3, g_R_4, p_R_0, p_R_1, p_R_2, p_R_3, p_R_4, rd0F, rd0R, r_refusals, s_refusals, n_lit, vu_s, vu_vu]
  have hl := x_loop (i := 51) (pc := 12) (fun k => [some (.ref 3), some (.int (nI k))]) (fun k => (hp q (vf_upd S 0 (eF (sI (sI (S 0) 5 (Int32.ofInt (-1))) 6 (nI 0)) k)) P A D K X E Z I J V)) 4 (fun k hk => by
    rw [D51_12]
    have h1 : ¬ 4 ≤ k := by omega
    simp (maxSteps := 2000000) (disch := omega) only [e_inl, e_goto, e_fall, e_if, e_icmp, e_iret, e_zret, e_lret, e_vret, e_call0_0, e_call0_1, e_call0_2, e_call0_3, e_call0_4, e_call1_0, e_call1_1, e_call1_2, e_call1_3, e_call1_4, e_call2_0, e_call2_1, e_call2_2, e_call2_3, e_call2_4, e_call3_0, e_call3_1, e_call3_2, e_call3_3, e_call3_4, e_call4_0, e_call4_1, e_call4_2, e_call4_3, e_call4_4, e_call5_0, e_call5_1, e_call5_2, e_call5_3, e_call5_4, e_call6_0, e_call6_1, e_call6_2, e_call6_3, e_call6_4, xP, xld, xst1, xst2, xis2, xii, xid, xll, xlv, xls, xlc, xil, xli, xrd, xdup, xdup2, xc1, xpu, c_eq, c_ne, c_lt, c_ge, c_gt, c_le, Option.bind_some, Option.map_some, List.length_nil, List.length_cons, Nat.reduceAdd, Nat.reduceLeDiff, Int.reduceToNat, Bool.and_self, Bool.false_eq_true, if_true, if_false, g_x_0, g_x_1, g_x_2, g_x_3, g_x_4, g_x_5, g_x_6, g_x_7, g_S_0, g_S_1, g_S_2, g_S_3, g_S_4, g_S_5, g_S_6, g_S_7, g_S_8, p_S_0, p_S_3, p_S_5, p_S_6, p_S_8_0, p_S_8_1, r_order, s_order, r_unlike, s_unlike, g_F_0, g_F_1, g_F_2, g_F_3, g_F_4, p_F_0, p_F_1, p_F_2, p_F_3, r_W, s_W, g_R_0, g_R_1, g_R_2, g_R_3, g_R_4, p_R_0, p_R_1, p_R_2, p_R_3, p_R_4, rd0F, rd0R, r_refusals, s_refusals, n_lit, nI_leI, nI_add, h1, vu_s, vu_vu, eF])
  have e0 : eF (sI (sI (S 0) 5 (Int32.ofInt (-1))) 6 (nI 0)) 0 = sI (sI (S 0) 5 (Int32.ofInt (-1))) 6 (nI 0) := rfl
  rw [e0] at hl
  rw [hl, D51_12]
  simp (maxSteps := 2000000) (disch := omega) only [e_inl, e_goto, e_fall, e_if, e_icmp, e_iret, e_zret, e_lret, e_vret, e_call0_0, e_call0_1, e_call0_2, e_call0_3, e_call0_4, e_call1_0, e_call1_1, e_call1_2, e_call1_3, e_call1_4, e_call2_0, e_call2_1, e_call2_2, e_call2_3, e_call2_4, e_call3_0, e_call3_1, e_call3_2, e_call3_3, e_call3_4, e_call4_0, e_call4_1, e_call4_2, e_call4_3, e_call4_4, e_call5_0, e_call5_1, e_call5_2, e_call5_3, e_call5_4, e_call6_0, e_call6_1, e_call6_2, e_call6_3, e_call6_4, xP, xld, xst1, xst2, xis2, xii, xid, xll, xlv, xls, xlc, xil, xli, xrd, xdup, xdup2, xc1, xpu, c_eq, c_ne, c_lt, c_ge, c_gt, c_le, Option.bind_some, Option.map_some, List.length_nil, List.length_cons, Nat.reduceAdd, Nat.reduceLeDiff, Int.reduceToNat, Bool.and_self, Bool.false_eq_true, if_true, if_false, D51_33, g_x_0, g_x_1, g_x_2, g_x_3, g_x_4, g_x_5, g_x_6, g_x_7, g_S_0, g_S_1, g_S_2, g_S_3, g_S_4, g_S_5, g_S_6, g_S_7, g_S_8, p_S_0, p_S_3, p_S_5, p_S_6, p_S_8_0, p_S_8_1, r_order, s_order, r_unlike, s_unlike, g_F_0, g_F_1, g_F_2, g_F_3, g_F_4, p_F_0, p_F_1, p_F_2, p_F_3, r_W, s_W, g_R_0, g_R_1, g_R_2, g_R_3, g_R_4, p_R_0, p_R_1, p_R_2, p_R_3, p_R_4, rd0F, rd0R, r_refusals, s_refusals, n_lit, nI_leI, Nat.le_refl, vu_s, vu_vu, eD]
end
theorem eF_k (s : xSt) : ∀ k, (eF s k).1 = s.1 ∧ (eF s k).2.2 = s.2.2 ∧ ∀ f j, (j ≠ 3 → (eF s k).2.1 f j = s.2.1 f j) ∧ (f < k → (eF s k).2.1 f 3 = nI 0)
  | 0 => ⟨rfl, rfl, fun f j => ⟨fun _ => rfl, fun h => absurd h (Nat.not_lt_zero f)⟩⟩
  | k + 1 => by
    obtain ⟨a, b, c⟩ := eF_k s k
    refine ⟨a, b, fun f j => ⟨fun hj => ?_, fun hf => ?_⟩⟩
    · show vf_upd (eF s k).2.1 k (upd ((eF s k).2.1 k) 3 (nI 0)) f j = _
      by_cases e : f = k
      · subst e
        rw [vu_s, u_n _ _ hj]
        exact (c f j).1 hj
      · rw [vu_n _ _ e]
        exact (c f j).1 hj
    · show vf_upd (eF s k).2.1 k (upd ((eF s k).2.1 k) 3 (nI 0)) f 3 = _
      by_cases e : f = k
      · subst e
        rw [vu_s, u_s]
      · rw [vu_n _ _ e]
        exact (c f 3).2 (by omega)
/-- the class's record holds a state, but for what is drawn -/
def rpSB (σ : mS) (s : xSt) : Prop := s.1 0 = nI (mn σ) ∧ (∀ f j, f < 4 → j < 3 → s.2.1 f j = nI (mF σ f j)) ∧ (∀ f v, f < 4 → v < 8 → s.2.2.1 f v = nI (mW σ f v)) ∧ (∀ p, p < mn σ → s.2.2.2.1 p = nI (mO σ p)) ∧ s.1 3 = nI (mK σ) ∧ (∀ k i, k < mK σ → i < 4 → s.2.2.2.2.1 k i = nI (mR σ k i)) ∧ ∀ k, k < mK σ → s.2.2.2.2.1 k 4 = rI (mR σ k 4)
theorem rpS.B {σ : mS} {s : xSt} (h : rpS σ s) : rpSB σ s := ⟨h.1, fun f j hf hj => h.2.1 f j hf (by omega), h.2.2.1, h.2.2.2.1, h.2.2.2.2.1, h.2.2.2.2.2.1, h.2.2.2.2.2.2.1⟩
theorem eD_rp {σ : mS} {s : xSt} (h : rpSB σ s) : rpS (emS σ) (eD s) ∧ (eD s).1 8 = nI 0 := by
  obtain ⟨r0, r1, r2, r3, r4, r5, r6⟩ := h
  unfold eD
  obtain ⟨a, b, c⟩ := eF_k (sI (sI s 5 (Int32.ofInt (-1))) 6 (nI 0)) 4
  generalize eF (sI (sI s 5 (Int32.ofInt (-1))) 6 (nI 0)) 4 = t at *
  have e1 : t.1 = upd (upd s.1 5 (Int32.ofInt (-1))) 6 (nI 0) := a
  have e2 : t.2.2 = s.2.2 := b
  have e3 : ∀ f j, (j ≠ 3 → t.2.1 f j = s.2.1 f j) ∧ (f < 4 → t.2.1 f 3 = nI 0) := c
  refine ⟨⟨?_, fun f j hf hj => ?_, fun f v hf hv => ?_, fun p hp1 => ?_, ?_, fun k i hk hi => ?_, fun k hk => ?_, ?_, ?_, fun i hi => absurd hi (Nat.not_lt_zero i)⟩, sI_s _ _ _⟩
  · show upd t.1 8 (nI 0) 0 = _
    rw [u_n _ _ (by omega), e1, u_n _ _ (by omega), u_n _ _ (by omega)]
    exact r0
  · show t.2.1 f j = _
    by_cases h3 : j = 3
    · subst h3
      rw [(e3 f 3).2 hf, emS_F3]
    · rw [(e3 f j).1 h3, emS_Fn σ f h3]
      exact r1 f j hf (by omega)
  · show t.2.2.1 f v = _
    rw [e2]
    exact r2 f v hf hv
  · show t.2.2.2.1 p = _
    rw [e2]
    exact r3 p hp1
  · show upd t.1 8 (nI 0) 3 = _
    rw [u_n _ _ (by omega), e1, u_n _ _ (by omega), u_n _ _ (by omega)]
    exact r4
  · show t.2.2.2.2.1 k i = _
    rw [e2]
    exact r5 k i hk hi
  · show t.2.2.2.2.1 k 4 = _
    rw [e2]
    exact r6 k hk
  · show upd t.1 8 (nI 0) 5 = rI 0
    rw [u_n _ _ (by omega), e1, u_n _ _ (by omega), u_s]
    rfl
  · show upd t.1 8 (nI 0) 6 = nI 0
    rw [u_n _ _ (by omega), e1, u_s]
