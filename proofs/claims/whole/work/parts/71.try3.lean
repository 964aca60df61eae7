/-! ===== the class: weights, rounds, fields, rules dropped ===== -/
theorem inB_lt {n : Nat} (hn : n < 1000) (x : Int32) : inB x (nI 0) (nI n) = (decide (¬ x < nI 0) && decide (¬ nI (n + 1) ≤ x)) := by
  have e8 : (¬ nI (n + 1) ≤ x) = (x ≤ nI n) := by
    apply propext
    rw [Int32.le_iff_toInt_le, Int32.le_iff_toInt_le, nI_toInt (by omega), nI_toInt (by omega)]
    omega
  have e0 : (¬ x < nI 0) = (nI 0 ≤ x) := propext Int32.not_lt
  unfold inB
  rw [Bool.eq_iff_iff]
  simp only [Bool.and_eq_true, decide_eq_true_eq, e8, e0]
theorem inB_le (n : Nat) (x : Int32) : inB x (nI 0) (nI n) = (decide (¬ x < nI 0) && decide (x ≤ nI n)) := by
  have e0 : (¬ x < nI 0) = (nI 0 ≤ x) := propext Int32.not_lt
  unfold inB
  rw [Bool.eq_iff_iff]
  simp only [Bool.and_eq_true, decide_eq_true_eq, e0]
theorem sW_W (s : xSt) (f : Nat) (w : Nat → Int32) (g u : Nat) : (sW s f w).2.2.1 g u = if g = f then w u else s.2.2.1 g u := by
  show vf_upd s.2.2.1 f w g u = _
  by_cases e : g = f
  · rw [e, vu_s, if_pos rfl]
  · rw [vu_n _ _ e, if_neg e]
theorem wg_rs {σ : mS} {s : xSt} (h : rpS σ s) {f v w : Nat} : rpS (wgS σ f v w) (sW s f (upd (s.2.2.1 f) v (nI w))) := by
  obtain ⟨r0, r1, r2, r3⟩ := h
  refine ⟨r0, r1, fun g u hg hu => ?_, r3⟩
  rw [sW_W]
  show _ = nI (if g = f ∧ u = v then w else mW σ g u)
  by_cases e : g = f
  · subst e
    rw [if_pos rfl]
    by_cases e2 : u = v
    · subst e2
      rw [u_s, if_pos ⟨rfl, rfl⟩]
    · rw [u_n _ _ e2, if_neg (fun z => e2 z.2)]
      exact r2 g u hg hu
  · rw [if_neg e, if_neg (fun z => e z.1)]
    exact r2 g u hg hu
theorem ro_rs {σ : mS} {s : xSt} (h : rpS σ s) {f z : Nat} : rpS (roS σ f z) (sF (sF s f 2 (nI z)) f 3 (nI 0)) := by
  obtain ⟨r0, r1, r2⟩ := h
  refine ⟨r0, fun g j hg hj => ?_, r2⟩
  rw [sF_F, sF_F]
  show _ = nI (if g = f ∧ j = 2 then z else if g = f ∧ j = 3 then 0 else mF σ g j)
  by_cases e : g = f
  · subst e
    by_cases e2 : j = 2
    · subst e2
      rw [if_neg (by omega), if_pos ⟨rfl, rfl⟩, if_pos ⟨rfl, rfl⟩]
    · by_cases e3 : j = 3
      · subst e3
        rw [if_pos ⟨rfl, rfl⟩, if_neg (by omega), if_pos ⟨rfl, rfl⟩]
      · rw [if_neg (by omega), if_neg (by omega), if_neg (by omega), if_neg (by omega)]
        exact r1 g j hg hj
  · rw [if_neg (by omega), if_neg (by omega), if_neg (by omega), if_neg (by omega)]
    exact r1 g j hg hj
section
variable {q : Nat × (Nat → Int32)} {S : Nat → xSt} {P : Int32 × (Nat → Nat)} {A : (Nat → Int64) × Int32 × Int32 × (Nat → Int64) × (Nat → Nat → Int64)} {D : (Nat → Int64) × Int64} {K : Nat → Int64} {X : Int32 × Int32 × Int32 × (Nat → Int32) × (Nat → Int32)} {E Z : Nat → Int32} {I : Nat → Int32} {J : Nat → Int64} {V : Nat → Nat → Int32}
set_option maxRecDepth 100000 in
theorem c_tw_0 {σ : mS} (hw : wf σ) (hs : rpS σ (S 0)) (f v w : Int32) : xcall 102 [.ref 2, .int f, .int v, .int w] (hp q S P A D K X E Z I J V) = if (isF (mn σ) f && (inB v (nI 0) (nI 7) && inB w (nI 0) (nI 9))) = true then den 102 34 [some (.ref 2), some (.int f), some (.int v), some (.int w), none] [] (hp q S P A D K X E Z I J V) else some (some (.int (Int32.ofInt (-2))), (hp q S P A D K X E Z I J V)) := by
  have w1 := hw.1
  rw [N102 _ _ _ _ _ (o_x ..), D102_0, inB_lt (n := 7) (by omega) v, inB_le 9 w]
  by_cases h1 : isF (mn σ) f = true
  · rw [h1, Bool.true_and]
    by_cases h2 : v < nI 0
    · rw [decide_eq_false (show ¬ ¬ v < nI 0 from fun z => z h2), Bool.false_and, Bool.false_and, if_neg (by decide)]
      simp (maxSteps := 2000000) (disch := omega) only [e_inl, e_goto, e_fall, e_if, e_icmp, e_iret, e_zret, e_lret, e_vret, e_call0_0, e_call0_1, e_call0_2, e_call0_3, e_call0_4, e_call1_0, e_call1_1, e_call1_2, e_call1_3, e_call1_4, e_call2_0, e_call2_1, e_call2_2, e_call2_3, e_call2_4, e_call3_0, e_call3_1, e_call3_2, e_call3_3, e_call3_4, e_call4_0, e_call4_1, e_call4_2, e_call4_3, e_call4_4, e_call5_0, e_call5_1, e_call5_2, e_call5_3, e_call5_4, e_call6_0, e_call6_1, e_call6_2, e_call6_3, e_call6_4, xP, xld, xst1, xst2, xis2, xii, xid, xll, xlv, xls, xlc, xil, xli, xrd, xdup, xdup2, xc1, xpu, c_eq, c_ne, c_lt, c_ge, c_gt, c_le, Option.bind_some, Option.map_some, List.length_nil, List.length_cons, Nat.reduceAdd, Nat.reduceLeDiff, Int.reduceToNat, Bool.and_self, Bool.false_eq_true, if_true, if_false, D102_31, g_x_0, g_x_1, g_x_2, g_x_3, g_x_4, g_x_5, g_x_6, g_x_7, g_S_0, g_S_1, g_S_2, g_S_3, g_S_4, g_S_5, g_S_6, g_S_7, g_S_8, p_S_0, p_S_3, p_S_5, p_S_6, p_S_8_0, p_S_8_1, r_order, s_order, r_unlike, s_unlike, g_F_0, g_F_1, g_F_2, g_F_3, g_F_4, p_F_0, p_F_1, p_F_2, p_F_3, r_W, s_W, g_R_0, g_R_1, g_R_2, g_R_3, g_R_4, p_R_0, p_R_1, p_R_2, p_R_3, p_R_4, rd0F, rd0R, r_refusals, s_refusals, c_hasField w1 hs.1, h1, zB_tt, n_0, nI_eq, Nat.one_ne_zero, h2]
    · rw [decide_eq_true h2, Bool.true_and]
      by_cases h3 : nI (7 + 1) ≤ v
      · rw [decide_eq_false (show ¬ ¬ nI (7 + 1) ≤ v from fun z => z h3), Bool.false_and, if_neg (by decide)]
        have h3' : nI 8 ≤ v := h3
        simp (maxSteps := 2000000) (disch := omega) only [e_inl, e_goto, e_fall, e_if, e_icmp, e_iret, e_zret, e_lret, e_vret, e_call0_0, e_call0_1, e_call0_2, e_call0_3, e_call0_4, e_call1_0, e_call1_1, e_call1_2, e_call1_3, e_call1_4, e_call2_0, e_call2_1, e_call2_2, e_call2_3, e_call2_4, e_call3_0, e_call3_1, e_call3_2, e_call3_3, e_call3_4, e_call4_0, e_call4_1, e_call4_2, e_call4_3, e_call4_4, e_call5_0, e_call5_1, e_call5_2, e_call5_3, e_call5_4, e_call6_0, e_call6_1, e_call6_2, e_call6_3, e_call6_4, xP, xld, xst1, xst2, xis2, xii, xid, xll, xlv, xls, xlc, xil, xli, xrd, xdup, xdup2, xc1, xpu, c_eq, c_ne, c_lt, c_ge, c_gt, c_le, Option.bind_some, Option.map_some, List.length_nil, List.length_cons, Nat.reduceAdd, Nat.reduceLeDiff, Int.reduceToNat, Bool.and_self, Bool.false_eq_true, if_true, if_false, D102_31, g_x_0, g_x_1, g_x_2, g_x_3, g_x_4, g_x_5, g_x_6, g_x_7, g_S_0, g_S_1, g_S_2, g_S_3, g_S_4, g_S_5, g_S_6, g_S_7, g_S_8, p_S_0, p_S_3, p_S_5, p_S_6, p_S_8_0, p_S_8_1, r_order, s_order, r_unlike, s_unlike, g_F_0, g_F_1, g_F_2, g_F_3, g_F_4, p_F_0, p_F_1, p_F_2, p_F_3, r_W, s_W, g_R_0, g_R_1, g_R_2, g_R_3, g_R_4, p_R_0, p_R_1, p_R_2, p_R_3, p_R_4, rd0F, rd0R, r_refusals, s_refusals, c_hasField w1 hs.1, h1, zB_tt, n_lit, n_0, nI_eq, Nat.one_ne_zero, h2, h3']
      · rw [decide_eq_true h3, Bool.true_and]
        have h3' : ¬ nI 8 ≤ v := h3
        by_cases h4 : w < nI 0
        · rw [decide_eq_false (show ¬ ¬ w < nI 0 from fun z => z h4), Bool.false_and, if_neg (by decide)]
          simp (maxSteps := 2000000) (disch := omega) only [e_inl, e_goto, e_fall, e_if, e_icmp, e_iret, e_zret, e_lret, e_vret, e_call0_0, e_call0_1, e_call0_2, e_call0_3, e_call0_4, e_call1_0, e_call1_1, e_call1_2, e_call1_3, e_call1_4, e_call2_0, e_call2_1, e_call2_2, e_call2_3, e_call2_4, e_call3_0, e_call3_1, e_call3_2, e_call3_3, e_call3_4, e_call4_0, e_call4_1, e_call4_2, e_call4_3, e_call4_4, e_call5_0, e_call5_1, e_call5_2, e_call5_3, e_call5_4, e_call6_0, e_call6_1, e_call6_2, e_call6_3, e_call6_4, xP, xld, xst1, xst2, xis2, xii, xid, xll, xlv, xls, xlc, xil, xli, xrd, xdup, xdup2, xc1, xpu, c_eq, c_ne, c_lt, c_ge, c_gt, c_le, Option.bind_some, Option.map_some, List.length_nil, List.length_cons, Nat.reduceAdd, Nat.reduceLeDiff, Int.reduceToNat, Bool.and_self, Bool.false_eq_true, if_true, if_false, D102_31, g_x_0, g_x_1, g_x_2, g_x_3, g_x_4, g_x_5, g_x_6, g_x_7, g_S_0, g_S_1, g_S_2, g_S_3, g_S_4, g_S_5, g_S_6, g_S_7, g_S_8, p_S_0, p_S_3, p_S_5, p_S_6, p_S_8_0, p_S_8_1, r_order, s_order, r_unlike, s_unlike, g_F_0, g_F_1, g_F_2, g_F_3, g_F_4, p_F_0, p_F_1, p_F_2, p_F_3, r_W, s_W, g_R_0, g_R_1, g_R_2, g_R_3, g_R_4, p_R_0, p_R_1, p_R_2, p_R_3, p_R_4, rd0F, rd0R, r_refusals, s_refusals, c_hasField w1 hs.1, h1, zB_tt, n_lit, n_0, nI_eq, Nat.one_ne_zero, h2, h3', h4]
        · rw [decide_eq_true h4, Bool.true_and]
          by_cases h5 : w ≤ nI 9
          · rw [decide_eq_true h5, if_pos rfl]
            simp (maxSteps := 2000000) (disch := omega) only [e_inl, e_goto, e_fall, e_if, e_icmp, e_iret, e_zret, e_lret, e_vret, e_call0_0, e_call0_1, e_call0_2, e_call0_3, e_call0_4, e_call1_0, e_call1_1, e_call1_2, e_call1_3, e_call1_4, e_call2_0, e_call2_1, e_call2_2, e_call2_3, e_call2_4, e_call3_0, e_call3_1, e_call3_2, e_call3_3, e_call3_4, e_call4_0, e_call4_1, e_call4_2, e_call4_3, e_call4_4, e_call5_0, e_call5_1, e_call5_2, e_call5_3, e_call5_4, e_call6_0, e_call6_1, e_call6_2, e_call6_3, e_call6_4, xP, xld, xst1, xst2, xis2, xii, xid, xll, xlv, xls, xlc, xil, xli, xrd, xdup, xdup2, xc1, xpu, c_eq, c_ne, c_lt, c_ge, c_gt, c_le, Option.bind_some, Option.map_some, List.length_nil, List.length_cons, Nat.reduceAdd, Nat.reduceLeDiff, Int.reduceToNat, Bool.and_self, Bool.false_eq_true, if_true, if_false, g_x_0, g_x_1, g_x_2, g_x_3, g_x_4, g_x_5, g_x_6, g_x_7, g_S_0, g_S_1, g_S_2, g_S_3, g_S_4, g_S_5, g_S_6, g_S_7, g_S_8, p_S_0, p_S_3, p_S_5, p_S_6, p_S_8_0, p_S_8_1, r_order, s_order, r_unlike, s_unlike, g_F_0, g_F_1, g_F_2, g_F_3, g_F_4, p_F_0, p_F_1, p_F_2, p_F_3, r_W, s_W, g_R_0, g_R_1, g_R_2, g_R_3, g_R_4, p_R_0, p_R_1, p_R_2, p_R_3, p_R_4, rd0F, rd0R, r_refusals, s_refusals, c_hasField w1 hs.1, h1, zB_tt, n_lit, n_0, nI_eq, Nat.one_ne_zero, h2, h3', h4, h5]
          · rw [decide_eq_false h5, if_neg (by decide)]
            simp (maxSteps := 2000000) (disch := omega) only [e_inl, e_goto, e_fall, e_if, e_icmp, e_iret, e_zret, e_lret, e_vret, e_call0_0, e_call0_1, e_call0_2, e_call0_3, e_call0_4, e_call1_0, e_call1_1, e_call1_2, e_call1_3, e_call1_4, e_call2_0, e_call2_1, e_call2_2, e_call2_3, e_call2_4, e_call3_0, e_call3_1, e_call3_2, e_call3_3, e_call3_4, e_call4_0, e_call4_1, e_call4_2, e_call4_3, e_call4_4, e_call5_0, e_call5_1, e_call5_2, e_call5_3, e_call5_4, e_call6_0, e_call6_1, e_call6_2, e_call6_3, e_call6_4, xP, xld, xst1, xst2, xis2, xii, xid, xll, xlv, xls, xlc, xil, xli, xrd, xdup, xdup2, xc1, xpu, c_eq, c_ne, c_lt, c_ge, c_gt, c_le, Option.bind_some, Option.map_some, List.length_nil, List.length_cons, Nat.reduceAdd, Nat.reduceLeDiff, Int.reduceToNat, Bool.and_self, Bool.false_eq_true, if_true, if_false, D102_31, g_x_0, g_x_1, g_x_2, g_x_3, g_x_4, g_x_5, g_x_6, g_x_7, g_S_0, g_S_1, g_S_2, g_S_3, g_S_4, g_S_5, g_S_6, g_S_7, g_S_8, p_S_0, p_S_3, p_S_5, p_S_6, p_S_8_0, p_S_8_1, r_order, s_order, r_unlike, s_unlike, g_F_0, g_F_1, g_F_2, g_F_3, g_F_4, p_F_0, p_F_1, p_F_2, p_F_3, r_W, s_W, g_R_0, g_R_1, g_R_2, g_R_3, g_R_4, p_R_0, p_R_1, p_R_2, p_R_3, p_R_4, rd0F, rd0R, r_refusals, s_refusals, c_hasField w1 hs.1, h1, zB_tt, n_lit, n_0, nI_eq, Nat.one_ne_zero, h2, h3', h4, h5]
  · rw [Bool.eq_false_iff.mpr h1, Bool.false_and, if_neg (by decide)]
    simp (maxSteps := 2000000) (disch := omega) only [e_inl, e_goto, e_fall, e_if, e_icmp, e_iret, e_zret, e_lret, e_vret, e_call0_0, e_call0_1, e_call0_2, e_call0_3, e_call0_4, e_call1_0, e_call1_1, e_call1_2, e_call1_3, e_call1_4, e_call2_0, e_call2_1, e_call2_2, e_call2_3, e_call2_4, e_call3_0, e_call3_1, e_call3_2, e_call3_3, e_call3_4, e_call4_0, e_call4_1, e_call4_2, e_call4_3, e_call4_4, e_call5_0, e_call5_1, e_call5_2, e_call5_3, e_call5_4, e_call6_0, e_call6_1, e_call6_2, e_call6_3, e_call6_4, xP, xld, xst1, xst2, xis2, xii, xid, xll, xlv, xls, xlc, xil, xli, xrd, xdup, xdup2, xc1, xpu, c_eq, c_ne, c_lt, c_ge, c_gt, c_le, Option.bind_some, Option.map_some, List.length_nil, List.length_cons, Nat.reduceAdd, Nat.reduceLeDiff, Int.reduceToNat, Bool.and_self, Bool.false_eq_true, if_true, if_false, D102_31, g_x_0, g_x_1, g_x_2, g_x_3, g_x_4, g_x_5, g_x_6, g_x_7, g_S_0, g_S_1, g_S_2, g_S_3, g_S_4, g_S_5, g_S_6, g_S_7, g_S_8, p_S_0, p_S_3, p_S_5, p_S_6, p_S_8_0, p_S_8_1, r_order, s_order, r_unlike, s_unlike, g_F_0, g_F_1, g_F_2, g_F_3, g_F_4, p_F_0, p_F_1, p_F_2, p_F_3, r_W, s_W, g_R_0, g_R_1, g_R_2, g_R_3, g_R_4, p_R_0, p_R_1, p_R_2, p_R_3, p_R_4, rd0F, rd0R, r_refusals, s_refusals, c_hasField w1 hs.1, Bool.eq_false_iff.mpr h1, zB_ff, n_0]
set_option maxRecDepth 100000 in
theorem c_tryWeight {σ : mS} (hw : wf σ) (hs : rpS σ (S 0)) (f v w : Int32) : ∃ s : xSt, xcall 102 [.ref 2, .int f, .int v, .int w] (hp q S P A D K X E Z I J V) = some (some (.int (dW σ f v w).1), (hp q (vf_upd S 0 s) P A D K X E Z I J V)) ∧ rpS (dW σ f v w).2 s ∧ s.1 8 = (S 0).1 8 := by
  have w1 := hw.1
  rw [c_tw_0 hw hs]
  unfold dW
  by_cases hok : (isF (mn σ) f && (inB v (nI 0) (nI 7) && inB w (nI 0) (nI 9))) = true
  · rw [if_pos hok, if_pos hok]
    rw [Bool.and_eq_true, Bool.and_eq_true] at hok
    obtain ⟨g, hg, rfl⟩ := isF_of (by omega) hok.1
    obtain ⟨u, hu, rfl⟩ := inB_of (by decide) hok.2.1
    obtain ⟨z, hz, rfl⟩ := inB_of (by decide) hok.2.2
    rw [nI_clamp (n := g) (by omega), nI_clamp (n := u) (by omega), nI_clamp (n := z) (by omega)]
    refine ⟨sW (S 0) g (upd ((S 0).2.2.1 g) u (nI z)), ?_, wg_rs hs, rfl⟩
    have ew := hs.2.2.1 g u (by omega) (by omega)
    rw [D102_34]
    simp (maxSteps := 2000000) (disch := omega) only [e_inl, e_goto, e_fall, e_if, e_icmp, e_iret, e_zret, e_lret, e_vret, e_call0_0, e_call0_1, e_call0_2, e_call0_3, e_call0_4, e_call1_0, e_call1_1, e_call1_2, e_call1_3, e_call1_4, e_call2_0, e_call2_1, e_call2_2, e_call2_3, e_call2_4, e_call3_0, e_call3_1, e_call3_2, e_call3_3, e_call3_4, e_call4_0, e_call4_1, e_call4_2, e_call4_3, e_call4_4, e_call5_0, e_call5_1, e_call5_2, e_call5_3, e_call5_4, e_call6_0, e_call6_1, e_call6_2, e_call6_3, e_call6_4, xP, xld, xst1, xst2, xis2, xii, xid, xll, xlv, xls, xlc, xil, xli, xrd, xdup, xdup2, xc1, xpu, c_eq, c_ne, c_lt, c_ge, c_gt, c_le, Option.bind_some, Option.map_some, List.length_nil, List.length_cons, Nat.reduceAdd, Nat.reduceLeDiff, Int.reduceToNat, Bool.and_self, Bool.false_eq_true, if_true, if_false, g_x_0, g_x_1, g_x_2, g_x_3, g_x_4, g_x_5, g_x_6, g_x_7, g_S_0, g_S_1, g_S_2, g_S_3, g_S_4, g_S_5, g_S_6, g_S_7, g_S_8, p_S_0, p_S_3, p_S_5, p_S_6, p_S_8_0, p_S_8_1, r_order, s_order, r_unlike, s_unlike, g_F_0, g_F_1, g_F_2, g_F_3, g_F_4, p_F_0, p_F_1, p_F_2, p_F_3, r_W, s_W, g_R_0, g_R_1, g_R_2, g_R_3, g_R_4, p_R_0, p_R_1, p_R_2, p_R_3, p_R_4, rd0F, rd0R, r_refusals, s_refusals, x_in, nI_clamp, if_true, ew, and_self, Nat.reduceLeDiff, true_and, show ∀ f : Nat, (2 ≤ 9 + 2 * f) = True from fun f => eq_true (by omega)]
  · rw [if_neg hok, if_neg hok]
    exact ⟨S 0, by rw [vu_id], hs, rfl⟩
set_option maxRecDepth 100000 in
theorem c_tryRound {σ : mS} (hw : wf σ) (hs : rpS σ (S 0)) (f z : Int32) : ∃ s : xSt, xcall 103 [.ref 2, .int f, .int z] (hp q S P A D K X E Z I J V) = some (some (.int (dR σ f z).1), (hp q (vf_upd S 0 s) P A D K X E Z I J V)) ∧ rpS (dR σ f z).2 s ∧ s.1 8 = (S 0).1 8 := by
  have w1 := hw.1
  rw [N103 _ _ _ _ (o_x ..), D103_0]
  unfold dR
  by_cases h1 : isF (mn σ) f = true
  · by_cases h2 : inB z (nI 0) (nI 1) = true
    · rw [h1, h2, Bool.true_and, if_pos rfl]
      have h1' := h1
      obtain ⟨g, hg, rfl⟩ := isF_of (by omega) h1
      obtain ⟨u, hu, rfl⟩ := inB_of (by decide) h2
      rw [nI_clamp (n := g) (by omega), nI_clamp (n := u) (by omega)]
      refine ⟨sF (sF (S 0) g 2 (nI u)) g 3 (nI 0), ?_, ro_rs hs, rfl⟩
      have ew := hs.2.1 g 2 (by omega) (by omega)
      have hl0 : ¬ nI u < nI 0 := by rw [nI_ltI (by omega) (by omega)]; omega
      have hle : nI u ≤ nI 1 := (nI_leI (by omega) (by omega)).mpr hu
      have a1 : ∀ t : List xI, xB xcall (den 103) (.inl (.aload 0) :: .inl (.getfield 256) :: .inl (.getfield 193) :: .inl (.iload 1) :: .inl .aaload :: .inl (.getfield 34) :: .inl (.istore 3) :: t) [some (.ref 2), some (.int (nI g)), some (.int (nI u)), none] [] (hp q S P A D K X E Z I J V) = xB xcall (den 103) t [some (.ref 2), some (.int (nI g)), some (.int (nI u)), some (.int (nI (mF σ g 2)))] [] (hp q S P A D K X E Z I J V) := by
        intro t
        simp (maxSteps := 2000000) (disch := omega) only [e_inl, e_goto, e_fall, e_if, e_icmp, e_iret, e_zret, e_lret, e_vret, e_call0_0, e_call0_1, e_call0_2, e_call0_3, e_call0_4, e_call1_0, e_call1_1, e_call1_2, e_call1_3, e_call1_4, e_call2_0, e_call2_1, e_call2_2, e_call2_3, e_call2_4, e_call3_0, e_call3_1, e_call3_2, e_call3_3, e_call3_4, e_call4_0, e_call4_1, e_call4_2, e_call4_3, e_call4_4, e_call5_0, e_call5_1, e_call5_2, e_call5_3, e_call5_4, e_call6_0, e_call6_1, e_call6_2, e_call6_3, e_call6_4, xP, xld, xst1, xst2, xis2, xii, xid, xll, xlv, xls, xlc, xil, xli, xrd, xdup, xdup2, xc1, xpu, c_eq, c_ne, c_lt, c_ge, c_gt, c_le, Option.bind_some, Option.map_some, List.length_nil, List.length_cons, Nat.reduceAdd, Nat.reduceLeDiff, Int.reduceToNat, Bool.and_self, Bool.false_eq_true, if_true, if_false, g_x_0, g_x_1, g_x_2, g_x_3, g_x_4, g_x_5, g_x_6, g_x_7, g_S_0, g_S_1, g_S_2, g_S_3, g_S_4, g_S_5, g_S_6, g_S_7, g_S_8, p_S_0, p_S_3, p_S_5, p_S_6, p_S_8_0, p_S_8_1, r_order, s_order, r_unlike, s_unlike, g_F_0, g_F_1, g_F_2, g_F_3, g_F_4, p_F_0, p_F_1, p_F_2, p_F_3, r_W, s_W, g_R_0, g_R_1, g_R_2, g_R_3, g_R_4, p_R_0, p_R_1, p_R_2, p_R_3, p_R_4, rd0F, rd0R, r_refusals, s_refusals, ew]
      have a2 : ∀ (L : xL) (t : List xI), xld L 0 = some (.ref 2) → xld L 1 = some (.int (nI g)) → xld L 2 = some (.int (nI u)) → xB xcall (den 103) (.inl (.aload 0) :: .inl (.getfield 256) :: .inl (.getfield 193) :: .inl (.iload 1) :: .inl .aaload :: .inl (.iload 2) :: .inl (.putfield 34) :: t) L [] (hp q S P A D K X E Z I J V) = xB xcall (den 103) t L [] (hp q (vf_upd S 0 (sF (S 0) g 2 (nI u))) P A D K X E Z I J V) := by
        intro L t l0 l1 l2
        simp (maxSteps := 2000000) (disch := omega) only [e_inl, e_goto, e_fall, e_if, e_icmp, e_iret, e_zret, e_lret, e_vret, e_call0_0, e_call0_1, e_call0_2, e_call0_3, e_call0_4, e_call1_0, e_call1_1, e_call1_2, e_call1_3, e_call1_4, e_call2_0, e_call2_1, e_call2_2, e_call2_3, e_call2_4, e_call3_0, e_call3_1, e_call3_2, e_call3_3, e_call3_4, e_call4_0, e_call4_1, e_call4_2, e_call4_3, e_call4_4, e_call5_0, e_call5_1, e_call5_2, e_call5_3, e_call5_4, e_call6_0, e_call6_1, e_call6_2, e_call6_3, e_call6_4, xP, xld, xst1, xst2, xis2, xii, xid, xll, xlv, xls, xlc, xil, xli, xrd, xdup, xdup2, xc1, xpu, c_eq, c_ne, c_lt, c_ge, c_gt, c_le, Option.bind_some, Option.map_some, List.length_nil, List.length_cons, Nat.reduceAdd, Nat.reduceLeDiff, Int.reduceToNat, Bool.and_self, Bool.false_eq_true, if_true, if_false, g_x_0, g_x_1, g_x_2, g_x_3, g_x_4, g_x_5, g_x_6, g_x_7, g_S_0, g_S_1, g_S_2, g_S_3, g_S_4, g_S_5, g_S_6, g_S_7, g_S_8, p_S_0, p_S_3, p_S_5, p_S_6, p_S_8_0, p_S_8_1, r_order, s_order, r_unlike, s_unlike, g_F_0, g_F_1, g_F_2, g_F_3, g_F_4, p_F_0, p_F_1, p_F_2, p_F_3, r_W, s_W, g_R_0, g_R_1, g_R_2, g_R_3, g_R_4, p_R_0, p_R_1, p_R_2, p_R_3, p_R_4, rd0F, rd0R, r_refusals, s_refusals, l0, l1, l2]
      have a3 : ∀ (S : Nat → xSt), xB xcall (den 103) [.inl (.aload 0), .inl (.getfield 256), .inl (.getfield 193), .inl (.iload 1), .inl .aaload, .inl (.iconst 0), .inl (.putfield 35), .inl (.iload 3), .inr .ireturn] [some (.ref 2), some (.int (nI g)), some (.int (nI u)), some (.int (nI (mF σ g 2)))] [] (hp q S P A D K X E Z I J V) = some (some (.int (nI (mF σ g 2))), (hp q (vf_upd S 0 (sF (S 0) g 3 (nI 0))) P A D K X E Z I J V)) := by
        intro S
        simp (maxSteps := 2000000) (disch := omega) only [e_inl, e_goto, e_fall, e_if, e_icmp, e_iret, e_zret, e_lret, e_vret, e_call0_0, e_call0_1, e_call0_2, e_call0_3, e_call0_4, e_call1_0, e_call1_1, e_call1_2, e_call1_3, e_call1_4, e_call2_0, e_call2_1, e_call2_2, e_call2_3, e_call2_4, e_call3_0, e_call3_1, e_call3_2, e_call3_3, e_call3_4, e_call4_0, e_call4_1, e_call4_2, e_call4_3, e_call4_4, e_call5_0, e_call5_1, e_call5_2, e_call5_3, e_call5_4, e_call6_0, e_call6_1, e_call6_2, e_call6_3, e_call6_4, xP, xld, xst1, xst2, xis2, xii, xid, xll, xlv, xls, xlc, xil, xli, xrd, xdup, xdup2, xc1, xpu, c_eq, c_ne, c_lt, c_ge, c_gt, c_le, Option.bind_some, Option.map_some, List.length_nil, List.length_cons, Nat.reduceAdd, Nat.reduceLeDiff, Int.reduceToNat, Bool.and_self, Bool.false_eq_true, if_true, if_false, g_x_0, g_x_1, g_x_2, g_x_3, g_x_4, g_x_5, g_x_6, g_x_7, g_S_0, g_S_1, g_S_2, g_S_3, g_S_4, g_S_5, g_S_6, g_S_7, g_S_8, p_S_0, p_S_3, p_S_5, p_S_6, p_S_8_0, p_S_8_1, r_order, s_order, r_unlike, s_unlike, g_F_0, g_F_1, g_F_2, g_F_3, g_F_4, p_F_0, p_F_1, p_F_2, p_F_3, r_W, s_W, g_R_0, g_R_1, g_R_2, g_R_3, g_R_4, p_R_0, p_R_1, p_R_2, p_R_3, p_R_4, rd0F, rd0R, r_refusals, s_refusals, n_lit]
      simp (maxSteps := 2000000) (disch := omega) only [e_inl, e_goto, e_fall, e_if, e_icmp, e_iret, e_zret, e_lret, e_vret, e_call0_0, e_call0_1, e_call0_2, e_call0_3, e_call0_4, e_call1_0, e_call1_1, e_call1_2, e_call1_3, e_call1_4, e_call2_0, e_call2_1, e_call2_2, e_call2_3, e_call2_4, e_call3_0, e_call3_1, e_call3_2, e_call3_3, e_call3_4, e_call4_0, e_call4_1, e_call4_2, e_call4_3, e_call4_4, e_call5_0, e_call5_1, e_call5_2, e_call5_3, e_call5_4, e_call6_0, e_call6_1, e_call6_2, e_call6_3, e_call6_4, xP, xld, xst1, xst2, xis2, xii, xid, xll, xlv, xls, xlc, xil, xli, xrd, xdup, xdup2, xc1, xpu, c_eq, c_ne, c_lt, c_ge, c_gt, c_le, Option.bind_some, Option.map_some, List.length_nil, List.length_cons, Nat.reduceAdd, Nat.reduceLeDiff, Int.reduceToNat, Bool.and_self, Bool.false_eq_true, if_true, if_false, g_x_0, g_x_1, g_x_2, g_x_3, g_x_4, g_x_5, g_x_6, g_x_7, g_S_0, g_S_1, g_S_2, g_S_3, g_S_4, g_S_5, g_S_6, g_S_7, g_S_8, p_S_0, p_S_3, p_S_5, p_S_6, p_S_8_0, p_S_8_1, r_order, s_order, r_unlike, s_unlike, g_F_0, g_F_1, g_F_2, g_F_3, g_F_4, p_F_0, p_F_1, p_F_2, p_F_3, r_W, s_W, g_R_0, g_R_1, g_R_2, g_R_3, g_R_4, p_R_0, p_R_1, p_R_2, p_R_3, p_R_4, rd0F, rd0R, r_refusals, s_refusals, c_hasField w1 hs.1, h1', zB_tt, n_lit, n_0, nI_eq, Nat.one_ne_zero, hl0, hle]
      rw [D103_23, a1, a2 _ _ rfl rfl rfl, a3]
      simp only [vu_s, vu_vu]
    · rw [Bool.eq_false_iff.mpr h2, Bool.and_false, if_neg (by decide)]
      refine ⟨S 0, ?_, hs, rfl⟩
      rw [vu_id]
      rw [inB_le 1 z] at h2
      by_cases h3 : z < nI 0
      · simp (maxSteps := 2000000) (disch := omega) only [e_inl, e_goto, e_fall, e_if, e_icmp, e_iret, e_zret, e_lret, e_vret, e_call0_0, e_call0_1, e_call0_2, e_call0_3, e_call0_4, e_call1_0, e_call1_1, e_call1_2, e_call1_3, e_call1_4, e_call2_0, e_call2_1, e_call2_2, e_call2_3, e_call2_4, e_call3_0, e_call3_1, e_call3_2, e_call3_3, e_call3_4, e_call4_0, e_call4_1, e_call4_2, e_call4_3, e_call4_4, e_call5_0, e_call5_1, e_call5_2, e_call5_3, e_call5_4, e_call6_0, e_call6_1, e_call6_2, e_call6_3, e_call6_4, xP, xld, xst1, xst2, xis2, xii, xid, xll, xlv, xls, xlc, xil, xli, xrd, xdup, xdup2, xc1, xpu, c_eq, c_ne, c_lt, c_ge, c_gt, c_le, Option.bind_some, Option.map_some, List.length_nil, List.length_cons, Nat.reduceAdd, Nat.reduceLeDiff, Int.reduceToNat, Bool.and_self, Bool.false_eq_true, if_true, if_false, D103_20, g_x_0, g_x_1, g_x_2, g_x_3, g_x_4, g_x_5, g_x_6, g_x_7, g_S_0, g_S_1, g_S_2, g_S_3, g_S_4, g_S_5, g_S_6, g_S_7, g_S_8, p_S_0, p_S_3, p_S_5, p_S_6, p_S_8_0, p_S_8_1, r_order, s_order, r_unlike, s_unlike, g_F_0, g_F_1, g_F_2, g_F_3, g_F_4, p_F_0, p_F_1, p_F_2, p_F_3, r_W, s_W, g_R_0, g_R_1, g_R_2, g_R_3, g_R_4, p_R_0, p_R_1, p_R_2, p_R_3, p_R_4, rd0F, rd0R, r_refusals, s_refusals, c_hasField w1 hs.1, h1, zB_tt, n_lit, n_0, nI_eq, Nat.one_ne_zero, h3]
      · have h4 : ¬ z ≤ nI 1 := fun h4 => h2 (by rw [decide_eq_true h3, decide_eq_true h4]; rfl)
        simp (maxSteps := 2000000) (disch := omega) only [e_inl, e_goto, e_fall, e_if, e_icmp, e_iret, e_zret, e_lret, e_vret, e_call0_0, e_call0_1, e_call0_2, e_call0_3, e_call0_4, e_call1_0, e_call1_1, e_call1_2, e_call1_3, e_call1_4, e_call2_0, e_call2_1, e_call2_2, e_call2_3, e_call2_4, e_call3_0, e_call3_1, e_call3_2, e_call3_3, e_call3_4, e_call4_0, e_call4_1, e_call4_2, e_call4_3, e_call4_4, e_call5_0, e_call5_1, e_call5_2, e_call5_3, e_call5_4, e_call6_0, e_call6_1, e_call6_2, e_call6_3, e_call6_4, xP, xld, xst1, xst2, xis2, xii, xid, xll, xlv, xls, xlc, xil, xli, xrd, xdup, xdup2, xc1, xpu, c_eq, c_ne, c_lt, c_ge, c_gt, c_le, Option.bind_some, Option.map_some, List.length_nil, List.length_cons, Nat.reduceAdd, Nat.reduceLeDiff, Int.reduceToNat, Bool.and_self, Bool.false_eq_true, if_true, if_false, D103_20, g_x_0, g_x_1, g_x_2, g_x_3, g_x_4, g_x_5, g_x_6, g_x_7, g_S_0, g_S_1, g_S_2, g_S_3, g_S_4, g_S_5, g_S_6, g_S_7, g_S_8, p_S_0, p_S_3, p_S_5, p_S_6, p_S_8_0, p_S_8_1, r_order, s_order, r_unlike, s_unlike, g_F_0, g_F_1, g_F_2, g_F_3, g_F_4, p_F_0, p_F_1, p_F_2, p_F_3, r_W, s_W, g_R_0, g_R_1, g_R_2, g_R_3, g_R_4, p_R_0, p_R_1, p_R_2, p_R_3, p_R_4, rd0F, rd0R, r_refusals, s_refusals, c_hasField w1 hs.1, h1, zB_tt, n_lit, n_0, nI_eq, Nat.one_ne_zero, h3, h4]
  · rw [Bool.eq_false_iff.mpr h1, Bool.false_and, if_neg (by decide)]
    refine ⟨S 0, ?_, hs, rfl⟩
    rw [vu_id]
    simp (maxSteps := 2000000) (disch := omega) only [e_inl, e_goto, e_fall, e_if, e_icmp, e_iret, e_zret, e_lret, e_vret, e_call0_0, e_call0_1, e_call0_2, e_call0_3, e_call0_4, e_call1_0, e_call1_1, e_call1_2, e_call1_3, e_call1_4, e_call2_0, e_call2_1, e_call2_2, e_call2_3, e_call2_4, e_call3_0, e_call3_1, e_call3_2, e_call3_3, e_call3_4, e_call4_0, e_call4_1, e_call4_2, e_call4_3, e_call4_4, e_call5_0, e_call5_1, e_call5_2, e_call5_3, e_call5_4, e_call6_0, e_call6_1, e_call6_2, e_call6_3, e_call6_4, xP, xld, xst1, xst2, xis2, xii, xid, xll, xlv, xls, xlc, xil, xli, xrd, xdup, xdup2, xc1, xpu, c_eq, c_ne, c_lt, c_ge, c_gt, c_le, Option.bind_some, Option.map_some, List.length_nil, List.length_cons, Nat.reduceAdd, Nat.reduceLeDiff, Int.reduceToNat, Bool.and_self, Bool.false_eq_true, if_true, if_false, D103_20, g_x_0, g_x_1, g_x_2, g_x_3, g_x_4, g_x_5, g_x_6, g_x_7, g_S_0, g_S_1, g_S_2, g_S_3, g_S_4, g_S_5, g_S_6, g_S_7, g_S_8, p_S_0, p_S_3, p_S_5, p_S_6, p_S_8_0, p_S_8_1, r_order, s_order, r_unlike, s_unlike, g_F_0, g_F_1, g_F_2, g_F_3, g_F_4, p_F_0, p_F_1, p_F_2, p_F_3, r_W, s_W, g_R_0, g_R_1, g_R_2, g_R_3, g_R_4, p_R_0, p_R_1, p_R_2, p_R_3, p_R_4, rd0F, rd0R, r_refusals, s_refusals, c_hasField w1 hs.1, Bool.eq_false_iff.mpr h1, zB_ff, n_0]
end
