/-! ===== orders of a text done; the reference reads ===== -/
def dO (σ : mS) (c : Nat) (v : Nat → Nat) : Int32 × mS :=
  if c = 102 then dF σ (nI (v 0)) (nI (v 1)) else if c = 104 then dU σ (nI (v 0)) (nI (v 1)) (nI (v 2)) (nI (v 3)) (Int32.ofInt (-1)) else if c = 115 then dU σ (nI (v 1)) (nI (v 2)) (nI (v 3)) (nI (v 4)) (nI (v 0)) else if c = 119 then dW σ (nI (v 0)) (nI (v 1)) (nI (v 2)) else if c = 114 then dR σ (nI (v 0)) (nI 1) else if c = 120 then dX σ (nI (v 0)) else if c = 100 then dD σ (nI 0) (nI (v 0)) else dD σ (nI 1) (nI (v 0))
theorem dO_wf {σ : mS} (hw : wf σ) (c : Nat) (v : Nat → Nat) : wf (dO σ c v).2 := by
  unfold dO
  split
  · exact dF_wf hw _ _
  split
  · exact dU_wf hw _ _ _ _ _
  split
  · exact dU_wf hw _ _ _ _ _
  split
  · exact dW_wf hw _ _ _
  split
  · exact dR_wf hw _ _
  split
  · exact dX_wf hw _
  split
  · exact (dD_wf hw _ _).1
  · exact (dD_wf hw _ _).1
def doT (c : Nat) : Nat := if c = 102 then 148 else if c = 104 then 155 else if c = 115 then 167 else if c = 119 then 188 else if c = 114 then 197 else if c = 120 then 204 else if c = 100 then 210 else 217
theorem sw_do : ∀ c : Nat, c < 128 → (xsw #[(100, 210), (101, 217), (102, 148), (103, 217), (104, 155), (105, 217), (106, 217), (107, 217), (108, 217), (109, 217), (110, 217), (111, 217), (112, 217), (113, 217), (114, 197), (115, 167), (116, 217), (117, 217), (118, 217), (119, 188), (120, 204)].toList 217 (c : Int)).toNat = doT c := by decide +kernel
section
variable {q : Nat × (Nat → Int32)} {S : Nat → xSt} {P : Int32 × (Nat → Nat)} {A : (Nat → Int64) × Int32 × Int32 × (Nat → Int64) × (Nat → Nat → Int64)} {D : (Nat → Int64) × Int64} {K : Nat → Int64} {X : Int32 × Int32 × Int32 × (Nat → Int32) × (Nat → Int32)} {E Z : Nat → Int32} {I : Nat → Int32} {J : Nat → Int64} {V : Nat → Nat → Int32}
set_option maxRecDepth 100000 in
theorem t_do_a {k : Nat} {L : xL} {j : Nat} {L' : xL} (z : Int) (i : Nat) (hi : Int32.ofInt z = nI i) (hk : 5 * k + i < 300) (h0 : xld L 0 = some (.ref 163)) (h1 : xld L 1 = some (.int (nI k))) (hs : xst1 L j (.int (V 20 (5 * k + i))) = some L') (t : List xI) : xB xcall (den 180) (.inl (.aload 0) :: .inl (.getfield 308) :: .inl (.iconst 5) :: .inl (.iload 1) :: .inl .imul :: .inl (.iconst z) :: .inl .iadd :: .inl .iaload :: .inl (.istore j) :: t) L [] (hp q S P A D K X E Z I J V) = xB xcall (den 180) t L' [] (hp q S P A D K X E Z I J V) := by
  simp (maxSteps := 2000000) (disch := omega) only [e_inl, e_goto, e_fall, e_if, e_icmp, e_iret, e_zret, e_lret, e_vret, e_call0_0, e_call0_1, e_call0_2, e_call0_3, e_call0_4, e_call1_0, e_call1_1, e_call1_2, e_call1_3, e_call1_4, e_call2_0, e_call2_1, e_call2_2, e_call2_3, e_call2_4, e_call3_0, e_call3_1, e_call3_2, e_call3_3, e_call3_4, e_call4_0, e_call4_1, e_call4_2, e_call4_3, e_call4_4, e_call5_0, e_call5_1, e_call5_2, e_call5_3, e_call5_4, e_call6_0, e_call6_1, e_call6_2, e_call6_3, e_call6_4, xP, xld, xst1, xst2, xis2, xii, xid, xll, xlv, xls, xlc, xil, xli, xrd, xdup, xdup2, xc1, xpu, c_eq, c_ne, c_lt, c_ge, c_gt, c_le, Option.bind_some, Option.map_some, List.length_nil, List.length_cons, Nat.reduceAdd, Nat.reduceLeDiff, Int.reduceToNat, Bool.and_self, Bool.false_eq_true, if_true, if_false, o_m, g_m_0, g_m_1, g_m_2, g_m_3, g_m_4, g_m_5, g_m_6, g_m_7, g_m_8, g_m_9, g_m_10, g_m_11, g_m_12, g_m_13, g_m_14, g_m_15, g_m_16, g_m_17, g_m_18, g_m_19, g_m_20, g_m_21, p_m_3, p_m_7, p_m_8, p_m_11, p_m_13, p_m_15, p_m_16, p_m_17, p_m_18, p_m_21, p_m_5_0, p_m_5_1, r_m0, s_m0, r_m1, s_m1, r_m2, s_m2, r_m4, s_m4, r_m6, s_m6, r_m9, s_m9, r_m10, s_m10, r_m12, s_m12, r_m14, s_m14, r_m19, s_m19, r_m20, s_m20, Nat.reduceEqDiff, decide_true, decide_false, Bool.true_and, Bool.false_and, Bool.and_true, Bool.and_false, zB_tt, zB_ff, not_false_eq_true, not_true_eq_false, n_lit, n_mul, nI_add, n_sub, x_in, nI_clamp, nI_ltI, nI_leI, nI_eq, and_self, true_and, and_true, h0, h1, hi, hs]
set_option maxRecDepth 100000 in
theorem t_do_0 {k : Nat} {c : Nat} (hk : k < 60) (hc : c < 128) (h19 : V 19 k = nI c) : xcall 180 [.ref 163, .int (nI k)] (hp q S P A D K X E Z I J V) = den 180 (doT c) [some (.ref 163), some (.int (nI k)), some (.int (V 20 (5 * k))), some (.int (V 20 (5 * k + 1))), some (.int (V 20 (5 * k + 2))), some (.int (V 20 (5 * k + 3)))] [] (hp q S P A D K X E Z I J V) := by
  have a1 : ∀ (L L' : xL) (t : List xI), xld L 0 = some (.ref 163) → xld L 1 = some (.int (nI k)) → xst1 L 2 (.int (V 20 (5 * k))) = some L' → xB xcall (den 180) (.inl (.aload 0) :: .inl (.getfield 308) :: .inl (.iconst 5) :: .inl (.iload 1) :: .inl .imul :: .inl .iaload :: .inl (.istore 2) :: t) L [] (hp q S P A D K X E Z I J V) = xB xcall (den 180) t L' [] (hp q S P A D K X E Z I J V) := by
    intro L L' t h0 h1 hs
    simp (maxSteps := 2000000) (disch := omega) only [e_inl, e_goto, e_fall, e_if, e_icmp, e_iret, e_zret, e_lret, e_vret, e_call0_0, e_call0_1, e_call0_2, e_call0_3, e_call0_4, e_call1_0, e_call1_1, e_call1_2, e_call1_3, e_call1_4, e_call2_0, e_call2_1, e_call2_2, e_call2_3, e_call2_4, e_call3_0, e_call3_1, e_call3_2, e_call3_3, e_call3_4, e_call4_0, e_call4_1, e_call4_2, e_call4_3, e_call4_4, e_call5_0, e_call5_1, e_call5_2, e_call5_3, e_call5_4, e_call6_0, e_call6_1, e_call6_2, e_call6_3, e_call6_4, xP, xld, xst1, xst2, xis2, xii, xid, xll, xlv, xls, xlc, xil, xli, xrd, xdup, xdup2, xc1, xpu, c_eq, c_ne, c_lt, c_ge, c_gt, c_le, Option.bind_some, Option.map_some, List.length_nil, List.length_cons, Nat.reduceAdd, Nat.reduceLeDiff, Int.reduceToNat, Bool.and_self, Bool.false_eq_true, if_true, if_false, o_m, g_m_0, g_m_1, g_m_2, g_m_3, g_m_4, g_m_5, g_m_6, g_m_7, g_m_8, g_m_9, g_m_10, g_m_11, g_m_12, g_m_13, g_m_14, g_m_15, g_m_16, g_m_17, g_m_18, g_m_19, g_m_20, g_m_21, p_m_3, p_m_7, p_m_8, p_m_11, p_m_13, p_m_15, p_m_16, p_m_17, p_m_18, p_m_21, p_m_5_0, p_m_5_1, r_m0, s_m0, r_m1, s_m1, r_m2, s_m2, r_m4, s_m4, r_m6, s_m6, r_m9, s_m9, r_m10, s_m10, r_m12, s_m12, r_m14, s_m14, r_m19, s_m19, r_m20, s_m20, Nat.reduceEqDiff, decide_true, decide_false, Bool.true_and, Bool.false_and, Bool.and_true, Bool.and_false, zB_tt, zB_ff, not_false_eq_true, not_true_eq_false, n_lit, n_mul, nI_add, n_sub, x_in, nI_clamp, nI_ltI, nI_leI, nI_eq, and_self, true_and, and_true, h0, h1, hs]
  have a2 : ∀ (L : xL) (t : List xI), xld L 0 = some (.ref 163) → xld L 1 = some (.int (nI k)) → xB xcall (den 180) (.inl (.aload 0) :: .inl (.getfield 307) :: .inl (.iload 1) :: .inl .iaload :: t) L [] (hp q S P A D K X E Z I J V) = xB xcall (den 180) t L [.int (nI c)] (hp q S P A D K X E Z I J V) := by
    intro L t h0 h1
    simp (maxSteps := 2000000) (disch := omega) only [e_inl, e_goto, e_fall, e_if, e_icmp, e_iret, e_zret, e_lret, e_vret, e_call0_0, e_call0_1, e_call0_2, e_call0_3, e_call0_4, e_call1_0, e_call1_1, e_call1_2, e_call1_3, e_call1_4, e_call2_0, e_call2_1, e_call2_2, e_call2_3, e_call2_4, e_call3_0, e_call3_1, e_call3_2, e_call3_3, e_call3_4, e_call4_0, e_call4_1, e_call4_2, e_call4_3, e_call4_4, e_call5_0, e_call5_1, e_call5_2, e_call5_3, e_call5_4, e_call6_0, e_call6_1, e_call6_2, e_call6_3, e_call6_4, xP, xld, xst1, xst2, xis2, xii, xid, xll, xlv, xls, xlc, xil, xli, xrd, xdup, xdup2, xc1, xpu, c_eq, c_ne, c_lt, c_ge, c_gt, c_le, Option.bind_some, Option.map_some, List.length_nil, List.length_cons, Nat.reduceAdd, Nat.reduceLeDiff, Int.reduceToNat, Bool.and_self, Bool.false_eq_true, if_true, if_false, o_m, g_m_0, g_m_1, g_m_2, g_m_3, g_m_4, g_m_5, g_m_6, g_m_7, g_m_8, g_m_9, g_m_10, g_m_11, g_m_12, g_m_13, g_m_14, g_m_15, g_m_16, g_m_17, g_m_18, g_m_19, g_m_20, g_m_21, p_m_3, p_m_7, p_m_8, p_m_11, p_m_13, p_m_15, p_m_16, p_m_17, p_m_18, p_m_21, p_m_5_0, p_m_5_1, r_m0, s_m0, r_m1, s_m1, r_m2, s_m2, r_m4, s_m4, r_m6, s_m6, r_m9, s_m9, r_m10, s_m10, r_m12, s_m12, r_m14, s_m14, r_m19, s_m19, r_m20, s_m20, Nat.reduceEqDiff, decide_true, decide_false, Bool.true_and, Bool.false_and, Bool.and_true, Bool.and_false, zB_tt, zB_ff, not_false_eq_true, not_true_eq_false, n_lit, n_mul, nI_add, n_sub, x_in, nI_clamp, nI_ltI, nI_leI, nI_eq, and_self, true_and, and_true, h0, h1, h19]
  rw [N180 _ _ _ (o_m ..), D180_0, a1 _ [some (.ref 163), some (.int (nI k)), some (.int (V 20 (5 * k))), none, none, none] _ rfl rfl rfl]
  rw [t_do_a (L' := [some (.ref 163), some (.int (nI k)), some (.int (V 20 (5 * k))), some (.int (V 20 (5 * k + 1))), none, none]) 1 1 rfl (by omega) rfl rfl rfl]
  rw [t_do_a (L' := [some (.ref 163), some (.int (nI k)), some (.int (V 20 (5 * k))), some (.int (V 20 (5 * k + 1))), some (.int (V 20 (5 * k + 2))), none]) 2 2 rfl (by omega) rfl rfl rfl]
  rw [t_do_a (L' := [some (.ref 163), some (.int (nI k)), some (.int (V 20 (5 * k))), some (.int (V 20 (5 * k + 1))), some (.int (V 20 (5 * k + 2))), some (.int (V 20 (5 * k + 3)))]) 3 3 rfl (by omega) rfl rfl rfl]
  rw [a2 _ _ rfl rfl, e_sw, nI_toInt (by omega), sw_do c hc]
set_option maxRecDepth 100000 in
theorem t_doOrder {σ : mS} (hw : wf σ) (hr : rpA σ (V 0)) (hL : LayI σ I V) {k c : Nat} (hk : k < 60) (hc : c < 128) (h19 : V 19 k = nI c) (hcn : nb c ≠ 0) {v : Nat → Nat} (hv : ∀ i, i < nb c → V 20 (5 * k + i) = nI (v i)) : ∃ (I' : Nat → Int32) (V' : Nat → Nat → Int32) (J' : Nat → Int64), xcall 180 [.ref 163, .int (nI k)] (hp q S P A D K X E Z I J V) = some (some (.int (dO σ c v).1), (hp q S P A D K X E Z (I') (J') (V'))) ∧ rpA (dO σ c v).2 (V' 0) ∧ LayI (dO σ c v).2 I' V' ∧ DF I I' V V' := by
  rw [t_do_0 hk hc h19]
  unfold dO doT
  by_cases c1 : c = 102
  · have e0 := hv 0 (by rw [c1]; decide)
    have e1 := hv 1 (by rw [c1]; decide)
    rw [Nat.add_zero] at e0
    obtain ⟨I', V', J', e, g⟩ := t_doField (q := q) (S := S) (P := P) (A := A) (D := D) (K := K) (X := X) (E := E) (Z := Z) (J := J) hw hr hL (nI (v 0)) (nI (v 1))
    rw [if_pos c1, if_pos c1]
    refine ⟨I', V', J', ?_, g⟩
    rw [D180_148]
    simp (maxSteps := 2000000) (disch := omega) only [e_inl, e_goto, e_fall, e_if, e_icmp, e_iret, e_zret, e_lret, e_vret, e_call0_0, e_call0_1, e_call0_2, e_call0_3, e_call0_4, e_call1_0, e_call1_1, e_call1_2, e_call1_3, e_call1_4, e_call2_0, e_call2_1, e_call2_2, e_call2_3, e_call2_4, e_call3_0, e_call3_1, e_call3_2, e_call3_3, e_call3_4, e_call4_0, e_call4_1, e_call4_2, e_call4_3, e_call4_4, e_call5_0, e_call5_1, e_call5_2, e_call5_3, e_call5_4, e_call6_0, e_call6_1, e_call6_2, e_call6_3, e_call6_4, xP, xld, xst1, xst2, xis2, xii, xid, xll, xlv, xls, xlc, xil, xli, xrd, xdup, xdup2, xc1, xpu, c_eq, c_ne, c_lt, c_ge, c_gt, c_le, Option.bind_some, Option.map_some, List.length_nil, List.length_cons, Nat.reduceAdd, Nat.reduceLeDiff, Int.reduceToNat, Bool.and_self, Bool.false_eq_true, if_true, if_false, e0, e1, e]
  rw [if_neg c1, if_neg c1]
  by_cases c2 : c = 104
  · have e0 := hv 0 (by rw [c2]; decide)
    have e1 := hv 1 (by rw [c2]; decide)
    have e2 := hv 2 (by rw [c2]; decide)
    have e3 := hv 3 (by rw [c2]; decide)
    rw [Nat.add_zero] at e0
    obtain ⟨I', V', J', e, g⟩ := t_doRule (q := q) (S := S) (P := P) (A := A) (D := D) (K := K) (X := X) (E := E) (Z := Z) (J := J) hw hr hL (nI (v 0)) (nI (v 1)) (nI (v 2)) (nI (v 3)) (Int32.ofInt (-1))
    rw [if_pos c2, if_pos c2]
    refine ⟨I', V', J', ?_, g⟩
    rw [D180_155]
    simp (maxSteps := 2000000) (disch := omega) only [e_inl, e_goto, e_fall, e_if, e_icmp, e_iret, e_zret, e_lret, e_vret, e_call0_0, e_call0_1, e_call0_2, e_call0_3, e_call0_4, e_call1_0, e_call1_1, e_call1_2, e_call1_3, e_call1_4, e_call2_0, e_call2_1, e_call2_2, e_call2_3, e_call2_4, e_call3_0, e_call3_1, e_call3_2, e_call3_3, e_call3_4, e_call4_0, e_call4_1, e_call4_2, e_call4_3, e_call4_4, e_call5_0, e_call5_1, e_call5_2, e_call5_3, e_call5_4, e_call6_0, e_call6_1, e_call6_2, e_call6_3, e_call6_4, xP, xld, xst1, xst2, xis2, xii, xid, xll, xlv, xls, xlc, xil, xli, xrd, xdup, xdup2, xc1, xpu, c_eq, c_ne, c_lt, c_ge, c_gt, c_le, Option.bind_some, Option.map_some, List.length_nil, List.length_cons, Nat.reduceAdd, Nat.reduceLeDiff, Int.reduceToNat, Bool.and_self, Bool.false_eq_true, if_true, if_false, e0, e1, e2, e3, e]
  rw [if_neg c2, if_neg c2]
  by_cases c3 : c = 115
  · have e0 := hv 0 (by rw [c3]; decide)
    have e1 := hv 1 (by rw [c3]; decide)
    have e2 := hv 2 (by rw [c3]; decide)
    have e3 := hv 3 (by rw [c3]; decide)
    have e4 := hv 4 (by rw [c3]; decide)
    rw [Nat.add_zero] at e0
    obtain ⟨I', V', J', e, g⟩ := t_doRule (q := q) (S := S) (P := P) (A := A) (D := D) (K := K) (X := X) (E := E) (Z := Z) (J := J) hw hr hL (nI (v 1)) (nI (v 2)) (nI (v 3)) (nI (v 4)) (nI (v 0))
    rw [if_pos c3, if_pos c3]
    refine ⟨I', V', J', ?_, g⟩
    rw [D180_167]
    simp (maxSteps := 2000000) (disch := omega) only [e_inl, e_goto, e_fall, e_if, e_icmp, e_iret, e_zret, e_lret, e_vret, e_call0_0, e_call0_1, e_call0_2, e_call0_3, e_call0_4, e_call1_0, e_call1_1, e_call1_2, e_call1_3, e_call1_4, e_call2_0, e_call2_1, e_call2_2, e_call2_3, e_call2_4, e_call3_0, e_call3_1, e_call3_2, e_call3_3, e_call3_4, e_call4_0, e_call4_1, e_call4_2, e_call4_3, e_call4_4, e_call5_0, e_call5_1, e_call5_2, e_call5_3, e_call5_4, e_call6_0, e_call6_1, e_call6_2, e_call6_3, e_call6_4, xP, xld, xst1, xst2, xis2, xii, xid, xll, xlv, xls, xlc, xil, xli, xrd, xdup, xdup2, xc1, xpu, c_eq, c_ne, c_lt, c_ge, c_gt, c_le, Option.bind_some, Option.map_some, List.length_nil, List.length_cons, Nat.reduceAdd, Nat.reduceLeDiff, Int.reduceToNat, Bool.and_self, Bool.false_eq_true, if_true, if_false, o_m, g_m_0, g_m_1, g_m_2, g_m_3, g_m_4, g_m_5, g_m_6, g_m_7, g_m_8, g_m_9, g_m_10, g_m_11, g_m_12, g_m_13, g_m_14, g_m_15, g_m_16, g_m_17, g_m_18, g_m_19, g_m_20, g_m_21, p_m_3, p_m_7, p_m_8, p_m_11, p_m_13, p_m_15, p_m_16, p_m_17, p_m_18, p_m_21, p_m_5_0, p_m_5_1, r_m0, s_m0, r_m1, s_m1, r_m2, s_m2, r_m4, s_m4, r_m6, s_m6, r_m9, s_m9, r_m10, s_m10, r_m12, s_m12, r_m14, s_m14, r_m19, s_m19, r_m20, s_m20, Nat.reduceEqDiff, decide_true, decide_false, Bool.true_and, Bool.false_and, Bool.and_true, Bool.and_false, zB_tt, zB_ff, not_false_eq_true, not_true_eq_false, n_lit, n_mul, nI_add, n_sub, x_in, nI_clamp, nI_ltI, nI_leI, nI_eq, and_self, true_and, and_true, e0, e1, e2, e3, e4, e]
  rw [if_neg c3, if_neg c3]
  by_cases c4 : c = 119
  · have e0 := hv 0 (by rw [c4]; decide)
    have e1 := hv 1 (by rw [c4]; decide)
    have e2 := hv 2 (by rw [c4]; decide)
    rw [Nat.add_zero] at e0
    obtain ⟨I', V', J', e, g⟩ := t_doWeighs (q := q) (S := S) (P := P) (A := A) (D := D) (K := K) (X := X) (E := E) (Z := Z) (J := J) hw hr hL (nI (v 0)) (nI (v 1)) (nI (v 2))
    rw [if_pos c4, if_pos c4]
    refine ⟨I', V', J', ?_, g⟩
    rw [D180_188]
    simp (maxSteps := 2000000) (disch := omega) only [e_inl, e_goto, e_fall, e_if, e_icmp, e_iret, e_zret, e_lret, e_vret, e_call0_0, e_call0_1, e_call0_2, e_call0_3, e_call0_4, e_call1_0, e_call1_1, e_call1_2, e_call1_3, e_call1_4, e_call2_0, e_call2_1, e_call2_2, e_call2_3, e_call2_4, e_call3_0, e_call3_1, e_call3_2, e_call3_3, e_call3_4, e_call4_0, e_call4_1, e_call4_2, e_call4_3, e_call4_4, e_call5_0, e_call5_1, e_call5_2, e_call5_3, e_call5_4, e_call6_0, e_call6_1, e_call6_2, e_call6_3, e_call6_4, xP, xld, xst1, xst2, xis2, xii, xid, xll, xlv, xls, xlc, xil, xli, xrd, xdup, xdup2, xc1, xpu, c_eq, c_ne, c_lt, c_ge, c_gt, c_le, Option.bind_some, Option.map_some, List.length_nil, List.length_cons, Nat.reduceAdd, Nat.reduceLeDiff, Int.reduceToNat, Bool.and_self, Bool.false_eq_true, if_true, if_false, e0, e1, e2, e]
  rw [if_neg c4, if_neg c4]
  have e0 := hv 0 (by omega)
  rw [Nat.add_zero] at e0
  by_cases c5 : c = 114
  · obtain ⟨I', V', J', e, g⟩ := t_doRound (q := q) (S := S) (P := P) (A := A) (D := D) (K := K) (X := X) (E := E) (Z := Z) (J := J) hw hr hL (nI (v 0)) (nI 1)
    rw [if_pos c5, if_pos c5]
    refine ⟨I', V', J', ?_, g⟩
    rw [D180_197]
    simp (maxSteps := 2000000) (disch := omega) only [e_inl, e_goto, e_fall, e_if, e_icmp, e_iret, e_zret, e_lret, e_vret, e_call0_0, e_call0_1, e_call0_2, e_call0_3, e_call0_4, e_call1_0, e_call1_1, e_call1_2, e_call1_3, e_call1_4, e_call2_0, e_call2_1, e_call2_2, e_call2_3, e_call2_4, e_call3_0, e_call3_1, e_call3_2, e_call3_3, e_call3_4, e_call4_0, e_call4_1, e_call4_2, e_call4_3, e_call4_4, e_call5_0, e_call5_1, e_call5_2, e_call5_3, e_call5_4, e_call6_0, e_call6_1, e_call6_2, e_call6_3, e_call6_4, xP, xld, xst1, xst2, xis2, xii, xid, xll, xlv, xls, xlc, xil, xli, xrd, xdup, xdup2, xc1, xpu, c_eq, c_ne, c_lt, c_ge, c_gt, c_le, Option.bind_some, Option.map_some, List.length_nil, List.length_cons, Nat.reduceAdd, Nat.reduceLeDiff, Int.reduceToNat, Bool.and_self, Bool.false_eq_true, if_true, if_false, n_lit, e0, e]
  rw [if_neg c5, if_neg c5]
  by_cases c6 : c = 120
  · obtain ⟨I', V', J', e, g⟩ := t_doDrops (q := q) (S := S) (P := P) (A := A) (D := D) (K := K) (X := X) (E := E) (Z := Z) (J := J) hw hr hL (nI (v 0))
    rw [if_pos c6, if_pos c6]
    refine ⟨I', V', J', ?_, g⟩
    rw [D180_204]
    simp (maxSteps := 2000000) (disch := omega) only [e_inl, e_goto, e_fall, e_if, e_icmp, e_iret, e_zret, e_lret, e_vret, e_call0_0, e_call0_1, e_call0_2, e_call0_3, e_call0_4, e_call1_0, e_call1_1, e_call1_2, e_call1_3, e_call1_4, e_call2_0, e_call2_1, e_call2_2, e_call2_3, e_call2_4, e_call3_0, e_call3_1, e_call3_2, e_call3_3, e_call3_4, e_call4_0, e_call4_1, e_call4_2, e_call4_3, e_call4_4, e_call5_0, e_call5_1, e_call5_2, e_call5_3, e_call5_4, e_call6_0, e_call6_1, e_call6_2, e_call6_3, e_call6_4, xP, xld, xst1, xst2, xis2, xii, xid, xll, xlv, xls, xlc, xil, xli, xrd, xdup, xdup2, xc1, xpu, c_eq, c_ne, c_lt, c_ge, c_gt, c_le, Option.bind_some, Option.map_some, List.length_nil, List.length_cons, Nat.reduceAdd, Nat.reduceLeDiff, Int.reduceToNat, Bool.and_self, Bool.false_eq_true, if_true, if_false, e0, e]
  rw [if_neg c6, if_neg c6]
  by_cases c7 : c = 100
  · obtain ⟨I', V', J', e, g⟩ := t_doDraws (q := q) (S := S) (P := P) (A := A) (D := D) (K := K) (X := X) (E := E) (Z := Z) (J := J) hw hr hL (nI 0) (nI (v 0))
    rw [if_pos c7, if_pos c7]
    refine ⟨I', V', J', ?_, g⟩
    rw [D180_210]
    simp (maxSteps := 2000000) (disch := omega) only [e_inl, e_goto, e_fall, e_if, e_icmp, e_iret, e_zret, e_lret, e_vret, e_call0_0, e_call0_1, e_call0_2, e_call0_3, e_call0_4, e_call1_0, e_call1_1, e_call1_2, e_call1_3, e_call1_4, e_call2_0, e_call2_1, e_call2_2, e_call2_3, e_call2_4, e_call3_0, e_call3_1, e_call3_2, e_call3_3, e_call3_4, e_call4_0, e_call4_1, e_call4_2, e_call4_3, e_call4_4, e_call5_0, e_call5_1, e_call5_2, e_call5_3, e_call5_4, e_call6_0, e_call6_1, e_call6_2, e_call6_3, e_call6_4, xP, xld, xst1, xst2, xis2, xii, xid, xll, xlv, xls, xlc, xil, xli, xrd, xdup, xdup2, xc1, xpu, c_eq, c_ne, c_lt, c_ge, c_gt, c_le, Option.bind_some, Option.map_some, List.length_nil, List.length_cons, Nat.reduceAdd, Nat.reduceLeDiff, Int.reduceToNat, Bool.and_self, Bool.false_eq_true, if_true, if_false, n_lit, e0, e]
  · obtain ⟨I', V', J', e, g⟩ := t_doDraws (q := q) (S := S) (P := P) (A := A) (D := D) (K := K) (X := X) (E := E) (Z := Z) (J := J) hw hr hL (nI 1) (nI (v 0))
    rw [if_neg c7, if_neg c7]
    refine ⟨I', V', J', ?_, g⟩
    rw [D180_217]
    simp (maxSteps := 2000000) (disch := omega) only [e_inl, e_goto, e_fall, e_if, e_icmp, e_iret, e_zret, e_lret, e_vret, e_call0_0, e_call0_1, e_call0_2, e_call0_3, e_call0_4, e_call1_0, e_call1_1, e_call1_2, e_call1_3, e_call1_4, e_call2_0, e_call2_1, e_call2_2, e_call2_3, e_call2_4, e_call3_0, e_call3_1, e_call3_2, e_call3_3, e_call3_4, e_call4_0, e_call4_1, e_call4_2, e_call4_3, e_call4_4, e_call5_0, e_call5_1, e_call5_2, e_call5_3, e_call5_4, e_call6_0, e_call6_1, e_call6_2, e_call6_3, e_call6_4, xP, xld, xst1, xst2, xis2, xii, xid, xll, xlv, xls, xlc, xil, xli, xrd, xdup, xdup2, xc1, xpu, c_eq, c_ne, c_lt, c_ge, c_gt, c_le, Option.bind_some, Option.map_some, List.length_nil, List.length_cons, Nat.reduceAdd, Nat.reduceLeDiff, Int.reduceToNat, Bool.and_self, Bool.false_eq_true, if_true, if_false, n_lit, e0, e]
end
/-- the state and how many were done, after k orders of a text -/
def rdS (T : tx) (σ : mS) : Nat → mS × Nat
  | 0 => (σ, 0)
  | k + 1 => ((dO (rdS T σ k).1 (T.2 (op T k)) (nv T (op T k + 1))).2, (rdS T σ k).2 + if 0 ≤ (dO (rdS T σ k).1 (T.2 (op T k)) (nv T (op T k + 1))).1 then 1 else 0)
theorem rdS_ok {T : tx} {σ : mS} (hw : wf σ) : ∀ k, wf (rdS T σ k).1 ∧ (rdS T σ k).2 ≤ k
  | 0 => ⟨hw, Nat.le_refl _⟩
  | k + 1 => by
    obtain ⟨h1, h2⟩ := rdS_ok (T := T) hw k
    refine ⟨dO_wf h1 _ _, ?_⟩
    show (rdS T σ k).2 + _ ≤ k + 1
    split <;> omega
