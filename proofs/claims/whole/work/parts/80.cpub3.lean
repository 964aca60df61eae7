/-! ===== public calls of the class (3): a field's numbers, rows drawn, soft rules ===== -/
theorem sw_5 {w : Nat} (hw : w ≤ 5) : (xsw #[(0, 36), (1, 46), (2, 56), (3, 66), (4, 72)].toList 82 (w : Int)).toNat = if w = 0 then 36 else if w = 1 then 46 else if w = 2 then 56 else if w = 3 then 66 else if w = 4 then 72 else 82 := by
  match w, hw with
  | 0, _ => rfl
  | 1, _ => rfl
  | 2, _ => rfl
  | 3, _ => rfl
  | 4, _ => rfl
  | 5, _ => rfl
section
variable {q : Nat × (Nat → Int32)} {S : Nat → xSt} {P : Int32 × (Nat → Nat)} {A : (Nat → Int64) × Int32 × Int32 × (Nat → Int64) × (Nat → Nat → Int64)} {D : (Nat → Int64) × Int64} {K : Nat → Int64} {X : Int32 × Int32 × Int32 × (Nat → Int32) × (Nat → Int32)} {E Z : Nat → Int32} {I : Nat → Int32} {J : Nat → Int64} {V : Nat → Nat → Int32}
set_option maxRecDepth 100000 in
theorem c_factOfField {σ : mS} (hw : wf σ) (hs : rpS σ (S 0)) {f w : Nat} (hf : f < mn σ) (hw5 : w ≤ 5) : xcall 54 [.ref 3, .int (nI f), .int (nI w)] (hp q S P A D K X E Z I J V) = some (some (.int (aOf σ f w)), (hp q S P A D K X E Z I J V)) := by
  have w1 := hw.1
  have w9 := hw.2.2.2.2.2.2.2.2.1
  have r1 := hs.2.1
  have r5 := hs.2.2.2.2.2.2.2.1
  have hf4 : f < 4 := by omega
  rw [N54 _ _ _ _ (o_S ..), D54_0, e_inl]
  simp only [xP, xld, Option.bind_some]
  rw [e_sw, nI_toInt (by omega), sw_5 hw5]
  unfold aOf
  by_cases e0 : w = 0
  · subst e0
    rw [if_pos rfl, if_pos (by omega), D54_36]
    have e := r1 f 0 hf4 (by omega)
    simp (maxSteps := 2000000) (disch := omega) only [e_inl, e_goto, e_fall, e_if, e_icmp, e_iret, e_zret, e_lret, e_vret, e_call0_0, e_call0_1, e_call0_2, e_call0_3, e_call0_4, e_call1_0, e_call1_1, e_call1_2, e_call1_3, e_call1_4, e_call2_0, e_call2_1, e_call2_2, e_call2_3, e_call2_4, e_call3_0, e_call3_1, e_call3_2, e_call3_3, e_call3_4, e_call4_0, e_call4_1, e_call4_2, e_call4_3, e_call4_4, e_call5_0, e_call5_1, e_call5_2, e_call5_3, e_call5_4, e_call6_0, e_call6_1, e_call6_2, e_call6_3, e_call6_4, xP, xld, xst1, xst2, xis2, xii, xid, xll, xlv, xls, xlc, xil, xli, xrd, xdup, xdup2, xc1, xpu, c_eq, c_ne, c_lt, c_ge, c_gt, c_le, Option.bind_some, Option.map_some, List.length_nil, List.length_cons, Nat.reduceAdd, Nat.reduceLeDiff, Int.reduceToNat, Bool.and_self, Bool.false_eq_true, if_true, if_false, g_S_1, rd0F, g_F_0, e]
  rw [if_neg e0]
  by_cases e1 : w = 1
  · subst e1
    rw [if_pos rfl, if_pos (by omega), D54_46]
    have e := r1 f 1 hf4 (by omega)
    simp (maxSteps := 2000000) (disch := omega) only [e_inl, e_goto, e_fall, e_if, e_icmp, e_iret, e_zret, e_lret, e_vret, e_call0_0, e_call0_1, e_call0_2, e_call0_3, e_call0_4, e_call1_0, e_call1_1, e_call1_2, e_call1_3, e_call1_4, e_call2_0, e_call2_1, e_call2_2, e_call2_3, e_call2_4, e_call3_0, e_call3_1, e_call3_2, e_call3_3, e_call3_4, e_call4_0, e_call4_1, e_call4_2, e_call4_3, e_call4_4, e_call5_0, e_call5_1, e_call5_2, e_call5_3, e_call5_4, e_call6_0, e_call6_1, e_call6_2, e_call6_3, e_call6_4, xP, xld, xst1, xst2, xis2, xii, xid, xll, xlv, xls, xlc, xil, xli, xrd, xdup, xdup2, xc1, xpu, c_eq, c_ne, c_lt, c_ge, c_gt, c_le, Option.bind_some, Option.map_some, List.length_nil, List.length_cons, Nat.reduceAdd, Nat.reduceLeDiff, Int.reduceToNat, Bool.and_self, Bool.false_eq_true, if_true, if_false, g_S_1, rd0F, g_F_1, e]
  rw [if_neg e1]
  by_cases e2 : w = 2
  · subst e2
    rw [if_pos rfl, if_pos (by omega), D54_56]
    have e := r1 f 2 hf4 (by omega)
    simp (maxSteps := 2000000) (disch := omega) only [e_inl, e_goto, e_fall, e_if, e_icmp, e_iret, e_zret, e_lret, e_vret, e_call0_0, e_call0_1, e_call0_2, e_call0_3, e_call0_4, e_call1_0, e_call1_1, e_call1_2, e_call1_3, e_call1_4, e_call2_0, e_call2_1, e_call2_2, e_call2_3, e_call2_4, e_call3_0, e_call3_1, e_call3_2, e_call3_3, e_call3_4, e_call4_0, e_call4_1, e_call4_2, e_call4_3, e_call4_4, e_call5_0, e_call5_1, e_call5_2, e_call5_3, e_call5_4, e_call6_0, e_call6_1, e_call6_2, e_call6_3, e_call6_4, xP, xld, xst1, xst2, xis2, xii, xid, xll, xlv, xls, xlc, xil, xli, xrd, xdup, xdup2, xc1, xpu, c_eq, c_ne, c_lt, c_ge, c_gt, c_le, Option.bind_some, Option.map_some, List.length_nil, List.length_cons, Nat.reduceAdd, Nat.reduceLeDiff, Int.reduceToNat, Bool.and_self, Bool.false_eq_true, if_true, if_false, g_S_1, rd0F, g_F_2, e]
  rw [if_neg e2, if_neg (show ¬ w < 3 by omega)]
  by_cases e3 : w = 3
  · rw [if_pos e3, if_pos e3, D54_66]
    have e := c_placeInOrder (q := q) (S := S) (P := P) (A := A) (D := D) (K := K) (X := X) (E := E) (Z := Z) (I := I) (J := J) (V := V) hw hs hf
    simp (maxSteps := 2000000) (disch := omega) only [e_inl, e_goto, e_fall, e_if, e_icmp, e_iret, e_zret, e_lret, e_vret, e_call0_0, e_call0_1, e_call0_2, e_call0_3, e_call0_4, e_call1_0, e_call1_1, e_call1_2, e_call1_3, e_call1_4, e_call2_0, e_call2_1, e_call2_2, e_call2_3, e_call2_4, e_call3_0, e_call3_1, e_call3_2, e_call3_3, e_call3_4, e_call4_0, e_call4_1, e_call4_2, e_call4_3, e_call4_4, e_call5_0, e_call5_1, e_call5_2, e_call5_3, e_call5_4, e_call6_0, e_call6_1, e_call6_2, e_call6_3, e_call6_4, xP, xld, xst1, xst2, xis2, xii, xid, xll, xlv, xls, xlc, xil, xli, xrd, xdup, xdup2, xc1, xpu, c_eq, c_ne, c_lt, c_ge, c_gt, c_le, Option.bind_some, Option.map_some, List.length_nil, List.length_cons, Nat.reduceAdd, Nat.reduceLeDiff, Int.reduceToNat, Bool.and_self, Bool.false_eq_true, if_true, if_false, e]
  rw [if_neg e3, if_neg e3]
  by_cases e4 : w = 4
  · rw [if_pos e4, if_pos e4, D54_72]
    have e := r1 f 3 hf4 (by omega)
    simp (maxSteps := 2000000) (disch := omega) only [e_inl, e_goto, e_fall, e_if, e_icmp, e_iret, e_zret, e_lret, e_vret, e_call0_0, e_call0_1, e_call0_2, e_call0_3, e_call0_4, e_call1_0, e_call1_1, e_call1_2, e_call1_3, e_call1_4, e_call2_0, e_call2_1, e_call2_2, e_call2_3, e_call2_4, e_call3_0, e_call3_1, e_call3_2, e_call3_3, e_call3_4, e_call4_0, e_call4_1, e_call4_2, e_call4_3, e_call4_4, e_call5_0, e_call5_1, e_call5_2, e_call5_3, e_call5_4, e_call6_0, e_call6_1, e_call6_2, e_call6_3, e_call6_4, xP, xld, xst1, xst2, xis2, xii, xid, xll, xlv, xls, xlc, xil, xli, xrd, xdup, xdup2, xc1, xpu, c_eq, c_ne, c_lt, c_ge, c_gt, c_le, Option.bind_some, Option.map_some, List.length_nil, List.length_cons, Nat.reduceAdd, Nat.reduceLeDiff, Int.reduceToNat, Bool.and_self, Bool.false_eq_true, if_true, if_false, g_S_1, rd0F, g_F_3, e]
  rw [if_neg e4, if_neg e4, D54_82]
  by_cases eN : mN σ = 0
  · rw [if_pos eN]
    rw [eN, rI_0] at r5
    simp (maxSteps := 2000000) (disch := omega) only [e_inl, e_goto, e_fall, e_if, e_icmp, e_iret, e_zret, e_lret, e_vret, e_call0_0, e_call0_1, e_call0_2, e_call0_3, e_call0_4, e_call1_0, e_call1_1, e_call1_2, e_call1_3, e_call1_4, e_call2_0, e_call2_1, e_call2_2, e_call2_3, e_call2_4, e_call3_0, e_call3_1, e_call3_2, e_call3_3, e_call3_4, e_call4_0, e_call4_1, e_call4_2, e_call4_3, e_call4_4, e_call5_0, e_call5_1, e_call5_2, e_call5_3, e_call5_4, e_call6_0, e_call6_1, e_call6_2, e_call6_3, e_call6_4, xP, xld, xst1, xst2, xis2, xii, xid, xll, xlv, xls, xlc, xil, xli, xrd, xdup, xdup2, xc1, xpu, c_eq, c_ne, c_lt, c_ge, c_gt, c_le, Option.bind_some, Option.map_some, List.length_nil, List.length_cons, Nat.reduceAdd, Nat.reduceLeDiff, Int.reduceToNat, Bool.and_self, Bool.false_eq_true, if_true, if_false, D54_102, g_S_5, r5, not_true_eq_false]
  · rw [if_neg eN]
    obtain ⟨n, hn⟩ : ∃ n, mN σ = n + 1 := ⟨mN σ - 1, by omega⟩
    rw [hn, rI_succ] at r5
    rw [hn, Nat.add_sub_cancel]
    have hne := n_neg (x := n) (by omega)
    simp (maxSteps := 2000000) (disch := omega) only [e_inl, e_goto, e_fall, e_if, e_icmp, e_iret, e_zret, e_lret, e_vret, e_call0_0, e_call0_1, e_call0_2, e_call0_3, e_call0_4, e_call1_0, e_call1_1, e_call1_2, e_call1_3, e_call1_4, e_call2_0, e_call2_1, e_call2_2, e_call2_3, e_call2_4, e_call3_0, e_call3_1, e_call3_2, e_call3_3, e_call3_4, e_call4_0, e_call4_1, e_call4_2, e_call4_3, e_call4_4, e_call5_0, e_call5_1, e_call5_2, e_call5_3, e_call5_4, e_call6_0, e_call6_1, e_call6_2, e_call6_3, e_call6_4, xP, xld, xst1, xst2, xis2, xii, xid, xll, xlv, xls, xlc, xil, xli, xrd, xdup, xdup2, xc1, xpu, c_eq, c_ne, c_lt, c_ge, c_gt, c_le, Option.bind_some, Option.map_some, List.length_nil, List.length_cons, Nat.reduceAdd, Nat.reduceLeDiff, Int.reduceToNat, Bool.and_self, Bool.false_eq_true, if_true, if_false, D54_94, D54_102, g_S_5, r5, hne, not_false_eq_true, c_valueIn]
set_option maxRecDepth 100000 in
theorem C_of {M : mM} (hI : ClsI M S P A X E) (f w : Int32) : ∃ (E' : Nat → Int32), xcall 75 [.ref 2, .int f, .int w] (hp q S P A D K X E Z I J V) = some (some (.int (oOf M f w).1), (hp q S P A D K X (E') Z I J V)) ∧ ClsI (oOf M f w).2 S P A X E' := by
  have w1 := hI.1.1
  have h0 := hI.2.1.1
  have h10 : (nI 1 = nI 0) = False := eq_false (by decide)
  have eb := c_bad (q := q) (S := S) (P := P) (A := A) (D := D) (K := K) (X := X) (E := E) (Z := Z) (I := I) (J := J) (V := V) _ rfl
  rw [N75 _ _ _ _ (o_x ..), D75_0]
  unfold oOf
  by_cases h1 : isF (mn M.1) f = true
  · by_cases h2 : inB w (nI 0) (nI 5) = true
    · rw [h1, h2, Bool.true_and, if_pos rfl]
      have h1' := h1
      obtain ⟨g, hg, rfl⟩ := isF_of (by omega) h1
      obtain ⟨u, hu, rfl⟩ := inB_of (by decide) h2
      have l0 : ¬ nI u < nI 0 := by rw [nI_ltI (by omega) (by omega)]; omega
      have l1 : nI u ≤ nI 5 := (nI_leI (by omega) (by omega)).mpr hu
      rw [nI_clamp (n := g) (by omega), nI_clamp (n := u) (by omega)]
      refine ⟨E, ?_, hI⟩
      simp (maxSteps := 2000000) (disch := omega) only [e_inl, e_goto, e_fall, e_if, e_icmp, e_iret, e_zret, e_lret, e_vret, e_call0_0, e_call0_1, e_call0_2, e_call0_3, e_call0_4, e_call1_0, e_call1_1, e_call1_2, e_call1_3, e_call1_4, e_call2_0, e_call2_1, e_call2_2, e_call2_3, e_call2_4, e_call3_0, e_call3_1, e_call3_2, e_call3_3, e_call3_4, e_call4_0, e_call4_1, e_call4_2, e_call4_3, e_call4_4, e_call5_0, e_call5_1, e_call5_2, e_call5_3, e_call5_4, e_call6_0, e_call6_1, e_call6_2, e_call6_3, e_call6_4, xP, xld, xst1, xst2, xis2, xii, xid, xll, xlv, xls, xlc, xil, xli, xrd, xdup, xdup2, xc1, xpu, c_eq, c_ne, c_lt, c_ge, c_gt, c_le, Option.bind_some, Option.map_some, List.length_nil, List.length_cons, Nat.reduceAdd, Nat.reduceLeDiff, Int.reduceToNat, Bool.and_self, Bool.false_eq_true, if_true, if_false, D75_27, g_x_0, n_lit, n_0, c_hasField w1 h0, h1', zB_tt, h10, l0, l1, c_factOfField hI.1 hI.2.1 hg hu]
    · rw [Bool.eq_false_iff.mpr h2, Bool.and_false, if_neg (by decide)]
      refine ⟨inc E 0, ?_, clsBad hI (by omega)⟩
      rw [inB_le] at h2
      by_cases h3 : w < nI 0
      · simp (maxSteps := 2000000) (disch := omega) only [e_inl, e_goto, e_fall, e_if, e_icmp, e_iret, e_zret, e_lret, e_vret, e_call0_0, e_call0_1, e_call0_2, e_call0_3, e_call0_4, e_call1_0, e_call1_1, e_call1_2, e_call1_3, e_call1_4, e_call2_0, e_call2_1, e_call2_2, e_call2_3, e_call2_4, e_call3_0, e_call3_1, e_call3_2, e_call3_3, e_call3_4, e_call4_0, e_call4_1, e_call4_2, e_call4_3, e_call4_4, e_call5_0, e_call5_1, e_call5_2, e_call5_3, e_call5_4, e_call6_0, e_call6_1, e_call6_2, e_call6_3, e_call6_4, xP, xld, xst1, xst2, xis2, xii, xid, xll, xlv, xls, xlc, xil, xli, xrd, xdup, xdup2, xc1, xpu, c_eq, c_ne, c_lt, c_ge, c_gt, c_le, Option.bind_some, Option.map_some, List.length_nil, List.length_cons, Nat.reduceAdd, Nat.reduceLeDiff, Int.reduceToNat, Bool.and_self, Bool.false_eq_true, if_true, if_false, D75_20, g_x_0, n_lit, n_0, c_hasField w1 h0, h1, zB_tt, h10, h3, eb]
      · have h4 : ¬ w ≤ nI 5 := fun h4 => h2 (by rw [decide_eq_true h3, decide_eq_true h4]; rfl)
        simp (maxSteps := 2000000) (disch := omega) only [e_inl, e_goto, e_fall, e_if, e_icmp, e_iret, e_zret, e_lret, e_vret, e_call0_0, e_call0_1, e_call0_2, e_call0_3, e_call0_4, e_call1_0, e_call1_1, e_call1_2, e_call1_3, e_call1_4, e_call2_0, e_call2_1, e_call2_2, e_call2_3, e_call2_4, e_call3_0, e_call3_1, e_call3_2, e_call3_3, e_call3_4, e_call4_0, e_call4_1, e_call4_2, e_call4_3, e_call4_4, e_call5_0, e_call5_1, e_call5_2, e_call5_3, e_call5_4, e_call6_0, e_call6_1, e_call6_2, e_call6_3, e_call6_4, xP, xld, xst1, xst2, xis2, xii, xid, xll, xlv, xls, xlc, xil, xli, xrd, xdup, xdup2, xc1, xpu, c_eq, c_ne, c_lt, c_ge, c_gt, c_le, Option.bind_some, Option.map_some, List.length_nil, List.length_cons, Nat.reduceAdd, Nat.reduceLeDiff, Int.reduceToNat, Bool.and_self, Bool.false_eq_true, if_true, if_false, D75_20, g_x_0, n_lit, n_0, c_hasField w1 h0, h1, zB_tt, h10, h3, h4, eb]
  · rw [Bool.eq_false_iff.mpr h1, Bool.false_and, if_neg (by decide)]
    refine ⟨inc E 0, ?_, clsBad hI (by omega)⟩
    simp (maxSteps := 2000000) (disch := omega) only [e_inl, e_goto, e_fall, e_if, e_icmp, e_iret, e_zret, e_lret, e_vret, e_call0_0, e_call0_1, e_call0_2, e_call0_3, e_call0_4, e_call1_0, e_call1_1, e_call1_2, e_call1_3, e_call1_4, e_call2_0, e_call2_1, e_call2_2, e_call2_3, e_call2_4, e_call3_0, e_call3_1, e_call3_2, e_call3_3, e_call3_4, e_call4_0, e_call4_1, e_call4_2, e_call4_3, e_call4_4, e_call5_0, e_call5_1, e_call5_2, e_call5_3, e_call5_4, e_call6_0, e_call6_1, e_call6_2, e_call6_3, e_call6_4, xP, xld, xst1, xst2, xis2, xii, xid, xll, xlv, xls, xlc, xil, xli, xrd, xdup, xdup2, xc1, xpu, c_eq, c_ne, c_lt, c_ge, c_gt, c_le, Option.bind_some, Option.map_some, List.length_nil, List.length_cons, Nat.reduceAdd, Nat.reduceLeDiff, Int.reduceToNat, Bool.and_self, Bool.false_eq_true, if_true, if_false, D75_20, g_x_0, n_0, c_hasField w1 h0, Bool.eq_false_iff.mpr h1, zB_ff, eb]
set_option maxRecDepth 100000 in
theorem C_drawn {M : mM} (hI : ClsI M S P A X E) (i f : Int32) : ∃ (E' : Nat → Int32), xcall 85 [.ref 2, .int i, .int f] (hp q S P A D K X E Z I J V) = some (some (.int (oDrawn M i f).1), (hp q S P A D K X (E') Z I J V)) ∧ ClsI (oDrawn M i f).2 S P A X E' := by
  have w1 := hI.1.1
  have w10 := hI.1.2.2.2.2.2.2.2.2.2.1
  have r0 := hI.2.1.1
  have r8 := hI.2.1.2.2.2.2.2.2.2.2.1
  have r9 := hI.2.1.2.2.2.2.2.2.2.2.2
  have h10 : (nI 1 = nI 0) = False := eq_false (by decide)
  have hl1 : (Int32.ofInt (-1) < Int32.ofInt (-1)) = False := by decide
  have eb := c_bad (q := q) (S := S) (P := P) (A := A) (D := D) (K := K) (X := X) (E := E) (Z := Z) (I := I) (J := J) (V := V) _ rfl
  rw [N85 _ _ _ _ (o_x ..), D85_0]
  unfold oDrawn
  by_cases hi : i = Int32.ofInt (-1)
  · subst hi
    rw [if_pos rfl]
    by_cases hf : f = nI 0
    · subst hf
      refine ⟨E, ?_, by simpa using hI⟩
      simp (maxSteps := 2000000) (disch := omega) only [e_inl, e_goto, e_fall, e_if, e_icmp, e_iret, e_zret, e_lret, e_vret, e_call0_0, e_call0_1, e_call0_2, e_call0_3, e_call0_4, e_call1_0, e_call1_1, e_call1_2, e_call1_3, e_call1_4, e_call2_0, e_call2_1, e_call2_2, e_call2_3, e_call2_4, e_call3_0, e_call3_1, e_call3_2, e_call3_3, e_call3_4, e_call4_0, e_call4_1, e_call4_2, e_call4_3, e_call4_4, e_call5_0, e_call5_1, e_call5_2, e_call5_3, e_call5_4, e_call6_0, e_call6_1, e_call6_2, e_call6_3, e_call6_4, xP, xld, xst1, xst2, xis2, xii, xid, xll, xlv, xls, xlc, xil, xli, xrd, xdup, xdup2, xc1, xpu, c_eq, c_ne, c_lt, c_ge, c_gt, c_le, Option.bind_some, Option.map_some, List.length_nil, List.length_cons, Nat.reduceAdd, Nat.reduceLeDiff, Int.reduceToNat, Bool.and_self, Bool.false_eq_true, if_true, if_false, D85_35, g_x_0, g_S_6, hl1, n_0, r8, not_true_eq_false, decide_true]
    · refine ⟨inc E 0, ?_, ?_⟩
      · simp (maxSteps := 2000000) (disch := omega) only [e_inl, e_goto, e_fall, e_if, e_icmp, e_iret, e_zret, e_lret, e_vret, e_call0_0, e_call0_1, e_call0_2, e_call0_3, e_call0_4, e_call1_0, e_call1_1, e_call1_2, e_call1_3, e_call1_4, e_call2_0, e_call2_1, e_call2_2, e_call2_3, e_call2_4, e_call3_0, e_call3_1, e_call3_2, e_call3_3, e_call3_4, e_call4_0, e_call4_1, e_call4_2, e_call4_3, e_call4_4, e_call5_0, e_call5_1, e_call5_2, e_call5_3, e_call5_4, e_call6_0, e_call6_1, e_call6_2, e_call6_3, e_call6_4, xP, xld, xst1, xst2, xis2, xii, xid, xll, xlv, xls, xlc, xil, xli, xrd, xdup, xdup2, xc1, xpu, c_eq, c_ne, c_lt, c_ge, c_gt, c_le, Option.bind_some, Option.map_some, List.length_nil, List.length_cons, Nat.reduceAdd, Nat.reduceLeDiff, Int.reduceToNat, Bool.and_self, Bool.false_eq_true, if_true, if_false, D85_28, hl1, n_0, hf, not_true_eq_false, eb, decide_false]
      · rw [decide_eq_false hf]
        exact clsBad hI (by omega)
  · have hlt := m1_nn hi
    rw [if_neg hi]
    by_cases h0 : nI 0 ≤ i
    · have hlt2 : ¬ i < Int32.ofInt (-1) := by rw [hlt]; exact fun z => z h0
      obtain ⟨k, hk, rfl⟩ := nn_of h0
      rw [decide_eq_true h0, Bool.true_and, nI_clamp (n := k) (by omega)]
      by_cases hf : isF (mn M.1) f = true
      · have hf' := hf
        obtain ⟨g, hg, rfl⟩ := isF_of (by omega) hf
        rw [if_pos hf', nI_clamp (n := g) (by omega)]
        refine ⟨E, ?_, hI⟩
        rw [if_neg hi]
        by_cases hb : k < mu M.1
        · have h3 : ¬ mu M.1 ≤ k := by omega
          have e9 := r9 k hb
          have hU := hI.1.2.2.2.2.2.2.2.2.2.2 k hb
          have er : xiald (hp q S P A D K X E Z I J V) 7 (nI k) = some (.int (nI (mU M.1 k))) := by rw [r_unlike, if_pos (x_in (by omega) (by omega)), nI_clamp (by omega), e9]
          rw [if_pos hb]
          simp (maxSteps := 2000000) (disch := omega) only [e_inl, e_goto, e_fall, e_if, e_icmp, e_iret, e_zret, e_lret, e_vret, e_call0_0, e_call0_1, e_call0_2, e_call0_3, e_call0_4, e_call1_0, e_call1_1, e_call1_2, e_call1_3, e_call1_4, e_call2_0, e_call2_1, e_call2_2, e_call2_3, e_call2_4, e_call3_0, e_call3_1, e_call3_2, e_call3_3, e_call3_4, e_call4_0, e_call4_1, e_call4_2, e_call4_3, e_call4_4, e_call5_0, e_call5_1, e_call5_2, e_call5_3, e_call5_4, e_call6_0, e_call6_1, e_call6_2, e_call6_3, e_call6_4, xP, xld, xst1, xst2, xis2, xii, xid, xll, xlv, xls, xlc, xil, xli, xrd, xdup, xdup2, xc1, xpu, c_eq, c_ne, c_lt, c_ge, c_gt, c_le, Option.bind_some, Option.map_some, List.length_nil, List.length_cons, Nat.reduceAdd, Nat.reduceLeDiff, Int.reduceToNat, Bool.and_self, Bool.false_eq_true, if_true, if_false, D85_17, D85_35, D85_48, D85_77, g_x_0, g_S_6, g_S_7, n_lit, n_0, nI_leI, hlt2, hi, not_false_eq_true, c_hasField w1 r0, hf', zB_tt, h10, r8, h3, er, c_valueIn]
        · have h3 : mu M.1 ≤ k := by omega
          rw [if_neg hb]
          simp (maxSteps := 2000000) (disch := omega) only [e_inl, e_goto, e_fall, e_if, e_icmp, e_iret, e_zret, e_lret, e_vret, e_call0_0, e_call0_1, e_call0_2, e_call0_3, e_call0_4, e_call1_0, e_call1_1, e_call1_2, e_call1_3, e_call1_4, e_call2_0, e_call2_1, e_call2_2, e_call2_3, e_call2_4, e_call3_0, e_call3_1, e_call3_2, e_call3_3, e_call3_4, e_call4_0, e_call4_1, e_call4_2, e_call4_3, e_call4_4, e_call5_0, e_call5_1, e_call5_2, e_call5_3, e_call5_4, e_call6_0, e_call6_1, e_call6_2, e_call6_3, e_call6_4, xP, xld, xst1, xst2, xis2, xii, xid, xll, xlv, xls, xlc, xil, xli, xrd, xdup, xdup2, xc1, xpu, c_eq, c_ne, c_lt, c_ge, c_gt, c_le, Option.bind_some, Option.map_some, List.length_nil, List.length_cons, Nat.reduceAdd, Nat.reduceLeDiff, Int.reduceToNat, Bool.and_self, Bool.false_eq_true, if_true, if_false, D85_17, D85_35, D85_48, D85_75, D85_77, g_x_0, g_S_6, n_lit, n_0, nI_leI, hlt2, hi, not_false_eq_true, c_hasField w1 r0, hf', zB_tt, h10, r8, h3]
      · rw [if_neg hf]
        refine ⟨inc E 0, ?_, clsBad hI (by omega)⟩
        have hf' := Bool.eq_false_iff.mpr hf
        simp (maxSteps := 2000000) (disch := omega) only [e_inl, e_goto, e_fall, e_if, e_icmp, e_iret, e_zret, e_lret, e_vret, e_call0_0, e_call0_1, e_call0_2, e_call0_3, e_call0_4, e_call1_0, e_call1_1, e_call1_2, e_call1_3, e_call1_4, e_call2_0, e_call2_1, e_call2_2, e_call2_3, e_call2_4, e_call3_0, e_call3_1, e_call3_2, e_call3_3, e_call3_4, e_call4_0, e_call4_1, e_call4_2, e_call4_3, e_call4_4, e_call5_0, e_call5_1, e_call5_2, e_call5_3, e_call5_4, e_call6_0, e_call6_1, e_call6_2, e_call6_3, e_call6_4, xP, xld, xst1, xst2, xis2, xii, xid, xll, xlv, xls, xlc, xil, xli, xrd, xdup, xdup2, xc1, xpu, c_eq, c_ne, c_lt, c_ge, c_gt, c_le, Option.bind_some, Option.map_some, List.length_nil, List.length_cons, Nat.reduceAdd, Nat.reduceLeDiff, Int.reduceToNat, Bool.and_self, Bool.false_eq_true, if_true, if_false, D85_17, D85_28, g_x_0, n_0, hlt2, hi, not_false_eq_true, not_true_eq_false, c_hasField w1 r0, hf', zB_ff, eb]
    · have hlt2 : i < Int32.ofInt (-1) := by rw [hlt]; exact h0
      rw [decide_eq_false h0, Bool.false_and, if_neg (by decide)]
      refine ⟨inc E 0, ?_, clsBad hI (by omega)⟩
      simp (maxSteps := 2000000) (disch := omega) only [e_inl, e_goto, e_fall, e_if, e_icmp, e_iret, e_zret, e_lret, e_vret, e_call0_0, e_call0_1, e_call0_2, e_call0_3, e_call0_4, e_call1_0, e_call1_1, e_call1_2, e_call1_3, e_call1_4, e_call2_0, e_call2_1, e_call2_2, e_call2_3, e_call2_4, e_call3_0, e_call3_1, e_call3_2, e_call3_3, e_call3_4, e_call4_0, e_call4_1, e_call4_2, e_call4_3, e_call4_4, e_call5_0, e_call5_1, e_call5_2, e_call5_3, e_call5_4, e_call6_0, e_call6_1, e_call6_2, e_call6_3, e_call6_4, xP, xld, xst1, xst2, xis2, xii, xid, xll, xlv, xls, xlc, xil, xli, xrd, xdup, xdup2, xc1, xpu, c_eq, c_ne, c_lt, c_ge, c_gt, c_le, Option.bind_some, Option.map_some, List.length_nil, List.length_cons, Nat.reduceAdd, Nat.reduceLeDiff, Int.reduceToNat, Bool.and_self, Bool.false_eq_true, if_true, if_false, D85_28, hlt2, eb]
end
