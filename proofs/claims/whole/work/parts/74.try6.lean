/-! ===== the class: rules told ===== -/
theorem most_ok : ∀ k, k ≤ 5 → xmost6 k = nI (mostN k) := by
  intro k hk
  match k, hk with
  | 0, _ => rfl
  | 1, _ => rfl
  | 2, _ => rfl
  | 3, _ => rfl
  | 4, _ => rfl
  | 5, _ => rfl
/-- what the class asks of a rule but for its rank -/
def okV (n : Nat) (kd x y c : Int32) : Bool := inB kd (nI 0) (nI 5) && (isF n x && (isF n y && ((decide (x = y) == decide (kd = nI 3)) && inB c (nI 0) (nI (mostN kd.toNatClampNeg)))))
theorem okU_V (n : Nat) (kd x y c rk : Int32) : okU n kd x y c rk = (okV n kd x y c && inB rk (Int32.ofInt (-1)) (nI 9)) := by
  unfold okU okV
  simp only [Bool.and_assoc]
theorem ru_rs {σ : mS} {s : xSt} (h : rpS σ s) {kd x y c rk : Nat} : rpSB (mn σ, mF σ, mW σ, mO σ, mK σ + 1, fun k i => if k = mK σ then (if i = 0 then kd else if i = 1 then x else if i = 2 then y else if i = 3 then c else rk) else mR σ k i, σ.2.2.2.2.2.2) (sI (sR (sR (sR (sR (sR s (mK σ) 0 (nI kd)) (mK σ) 1 (nI x)) (mK σ) 2 (nI y)) (mK σ) 3 (nI c)) (mK σ) 4 (rI rk)) 3 (nI (mK σ + 1))) := by
  obtain ⟨r0, r1, r2, r3, r4, r5, r6⟩ := h.B
  refine ⟨?_, r1, r2, r3, sI_s _ _ _, fun g i hg hi => ?_, fun g hg => ?_⟩
  · show upd s.1 3 (nI (mK σ + 1)) 0 = _
    rw [u_n _ _ (by omega)]
    exact r0
  · have hg : g < mK σ + 1 := hg
    show (sR (sR (sR (sR (sR s (mK σ) 0 (nI kd)) (mK σ) 1 (nI x)) (mK σ) 2 (nI y)) (mK σ) 3 (nI c)) (mK σ) 4 (rI rk)).2.2.2.2.1 g i = nI (if g = mK σ then (if i = 0 then kd else if i = 1 then x else if i = 2 then y else if i = 3 then c else rk) else mR σ g i)
    rw [sR_R, sR_R, sR_R, sR_R, sR_R]
    by_cases e : g = mK σ
    · rw [if_pos e, if_neg (by omega)]
      match i, hi with
      | 0, _ => rw [if_neg (by omega), if_neg (by omega), if_neg (by omega), if_pos ⟨e, rfl⟩, if_pos rfl]
      | 1, _ => rw [if_neg (by omega), if_neg (by omega), if_pos ⟨e, rfl⟩, if_neg (by omega), if_pos rfl]
      | 2, _ => rw [if_neg (by omega), if_pos ⟨e, rfl⟩, if_neg (by omega), if_neg (by omega), if_pos rfl]
      | 3, _ => rw [if_pos ⟨e, rfl⟩, if_neg (by omega), if_neg (by omega), if_neg (by omega), if_pos rfl]
    · rw [if_neg (fun z => e z.1), if_neg (fun z => e z.1), if_neg (fun z => e z.1), if_neg (fun z => e z.1), if_neg (fun z => e z.1), if_neg e]
      exact r5 g i (by omega) hi
  · have hg : g < mK σ + 1 := hg
    show (sR (sR (sR (sR (sR s (mK σ) 0 (nI kd)) (mK σ) 1 (nI x)) (mK σ) 2 (nI y)) (mK σ) 3 (nI c)) (mK σ) 4 (rI rk)).2.2.2.2.1 g 4 = rI (if g = mK σ then (if 4 = 0 then kd else if 4 = 1 then x else if 4 = 2 then y else if 4 = 3 then c else rk) else mR σ g 4)
    rw [sR_R, sR_R, sR_R, sR_R, sR_R]
    by_cases e : g = mK σ
    · rw [if_pos ⟨e, rfl⟩, if_pos e, if_neg (by omega), if_neg (by omega), if_neg (by omega), if_neg (by omega)]
    · rw [if_neg (fun z => e z.1), if_neg (fun z => e z.1), if_neg (fun z => e z.1), if_neg (fun z => e z.1), if_neg (fun z => e z.1), if_neg e]
      exact r6 g (by omega)
section
variable {q : Nat × (Nat → Int32)} {S : Nat → xSt} {P : Int32 × (Nat → Nat)} {A : (Nat → Int64) × Int32 × Int32 × (Nat → Int64) × (Nat → Nat → Int64)} {D : (Nat → Int64) × Int64} {K : Nat → Int64} {X : Int32 × Int32 × Int32 × (Nat → Int32) × (Nat → Int32)} {E Z : Nat → Int32} {I : Nat → Int32} {J : Nat → Int64} {V : Nat → Nat → Int32}
set_option maxRecDepth 100000 in
theorem c_ir_47 {k : Nat} (hk : k ≤ 5) (x y c : Int32) (b1 b2 : Bool) : den 47 47 [some (.ref 3), some (.int (nI k)), some (.int x), some (.int y), some (.int c)] [.int (zB b2), .int (zB b1)] (hp q S P A D K X E Z I J V) = some (some (.int (zB ((b1 == b2) && inB c (nI 0) (nI (mostN k))))), (hp q S P A D K X E Z I J V)) := by
  have hm := mostN_le k
  have em : xmost6 k = nI (mostN k) := most_ok k hk
  have er : xiald (hp q S P A D K X E Z I J V) 1 (nI k) = some (.int (nI (mostN k))) := by
    rw [r_most, if_pos (x_in (by omega) (by omega)), nI_clamp (by omega), em]
  rw [D47_47, inB_le]
  by_cases h0 : b1 = b2
  · rw [beq_iff_eq.mpr h0, Bool.true_and]
    by_cases h1 : c < nI 0
    · rw [decide_eq_false (show ¬ ¬ c < nI 0 from fun z => z h1), Bool.false_and, zB_ff]
      simp (maxSteps := 2000000) (disch := omega) only [e_inl, e_goto, e_fall, e_if, e_icmp, e_iret, e_zret, e_lret, e_vret, e_call0_0, e_call0_1, e_call0_2, e_call0_3, e_call0_4, e_call1_0, e_call1_1, e_call1_2, e_call1_3, e_call1_4, e_call2_0, e_call2_1, e_call2_2, e_call2_3, e_call2_4, e_call3_0, e_call3_1, e_call3_2, e_call3_3, e_call3_4, e_call4_0, e_call4_1, e_call4_2, e_call4_3, e_call4_4, e_call5_0, e_call5_1, e_call5_2, e_call5_3, e_call5_4, e_call6_0, e_call6_1, e_call6_2, e_call6_3, e_call6_4, xP, xld, xst1, xst2, xis2, xii, xid, xll, xlv, xls, xlc, xil, xli, xrd, xdup, xdup2, xc1, xpu, c_eq, c_ne, c_lt, c_ge, c_gt, c_le, Option.bind_some, Option.map_some, List.length_nil, List.length_cons, Nat.reduceAdd, Nat.reduceLeDiff, Int.reduceToNat, Bool.and_self, Bool.false_eq_true, if_true, if_false, D47_69, D47_70, zB_eq, h0, not_true_eq_false, n_lit, n_0, n_1, h1, true_or]
    · rw [decide_eq_true h1, Bool.true_and]
      by_cases h2 : c ≤ nI (mostN k)
      · have h3 : ¬ nI (mostN k) < c := Int32.not_lt.mpr h2
        rw [decide_eq_true h2, zB_tt]
        simp (maxSteps := 2000000) (disch := omega) only [e_inl, e_goto, e_fall, e_if, e_icmp, e_iret, e_zret, e_lret, e_vret, e_call0_0, e_call0_1, e_call0_2, e_call0_3, e_call0_4, e_call1_0, e_call1_1, e_call1_2, e_call1_3, e_call1_4, e_call2_0, e_call2_1, e_call2_2, e_call2_3, e_call2_4, e_call3_0, e_call3_1, e_call3_2, e_call3_3, e_call3_4, e_call4_0, e_call4_1, e_call4_2, e_call4_3, e_call4_4, e_call5_0, e_call5_1, e_call5_2, e_call5_3, e_call5_4, e_call6_0, e_call6_1, e_call6_2, e_call6_3, e_call6_4, xP, xld, xst1, xst2, xis2, xii, xid, xll, xlv, xls, xlc, xil, xli, xrd, xdup, xdup2, xc1, xpu, c_eq, c_ne, c_lt, c_ge, c_gt, c_le, Option.bind_some, Option.map_some, List.length_nil, List.length_cons, Nat.reduceAdd, Nat.reduceLeDiff, Int.reduceToNat, Bool.and_self, Bool.false_eq_true, if_true, if_false, D47_70, zB_eq, h0, not_true_eq_false, n_lit, n_0, n_1, h1, er, h3, or_true]
      · have h3 : nI (mostN k) < c := Int32.not_le.mp h2
        rw [decide_eq_false h2, zB_ff]
        simp (maxSteps := 2000000) (disch := omega) only [e_inl, e_goto, e_fall, e_if, e_icmp, e_iret, e_zret, e_lret, e_vret, e_call0_0, e_call0_1, e_call0_2, e_call0_3, e_call0_4, e_call1_0, e_call1_1, e_call1_2, e_call1_3, e_call1_4, e_call2_0, e_call2_1, e_call2_2, e_call2_3, e_call2_4, e_call3_0, e_call3_1, e_call3_2, e_call3_3, e_call3_4, e_call4_0, e_call4_1, e_call4_2, e_call4_3, e_call4_4, e_call5_0, e_call5_1, e_call5_2, e_call5_3, e_call5_4, e_call6_0, e_call6_1, e_call6_2, e_call6_3, e_call6_4, xP, xld, xst1, xst2, xis2, xii, xid, xll, xlv, xls, xlc, xil, xli, xrd, xdup, xdup2, xc1, xpu, c_eq, c_ne, c_lt, c_ge, c_gt, c_le, Option.bind_some, Option.map_some, List.length_nil, List.length_cons, Nat.reduceAdd, Nat.reduceLeDiff, Int.reduceToNat, Bool.and_self, Bool.false_eq_true, if_true, if_false, D47_69, D47_70, zB_eq, h0, not_true_eq_false, n_lit, n_0, n_1, h1, er, h3, true_or]
  · have hb : (b1 == b2) = false := by
      cases h : (b1 == b2)
      · rfl
      · exact absurd (eq_of_beq h) h0
    rw [hb, Bool.false_and, zB_ff]
    simp (maxSteps := 2000000) (disch := omega) only [e_inl, e_goto, e_fall, e_if, e_icmp, e_iret, e_zret, e_lret, e_vret, e_call0_0, e_call0_1, e_call0_2, e_call0_3, e_call0_4, e_call1_0, e_call1_1, e_call1_2, e_call1_3, e_call1_4, e_call2_0, e_call2_1, e_call2_2, e_call2_3, e_call2_4, e_call3_0, e_call3_1, e_call3_2, e_call3_3, e_call3_4, e_call4_0, e_call4_1, e_call4_2, e_call4_3, e_call4_4, e_call5_0, e_call5_1, e_call5_2, e_call5_3, e_call5_4, e_call6_0, e_call6_1, e_call6_2, e_call6_3, e_call6_4, xP, xld, xst1, xst2, xis2, xii, xid, xll, xlv, xls, xlc, xil, xli, xrd, xdup, xdup2, xc1, xpu, c_eq, c_ne, c_lt, c_ge, c_gt, c_le, Option.bind_some, Option.map_some, List.length_nil, List.length_cons, Nat.reduceAdd, Nat.reduceLeDiff, Int.reduceToNat, Bool.and_self, Bool.false_eq_true, if_true, if_false, D47_69, D47_70, zB_eq, h0, not_false_eq_true, n_lit, n_0, n_1, true_or]
set_option maxRecDepth 100000 in
theorem c_isRule {n : Nat} (hn : n ≤ 4) (h0 : (S 0).1 0 = nI n) (kd x y c : Int32) : xcall 47 [.ref 3, .int kd, .int x, .int y, .int c] (hp q S P A D K X E Z I J V) = some (some (.int (zB (okV n kd x y c))), (hp q S P A D K X E Z I J V)) := by
  rw [N47 _ _ _ _ _ _ (o_S ..), D47_0]
  unfold okV
  by_cases h1 : inB kd (nI 0) (nI 5) = true
  · rw [h1, Bool.true_and]
    obtain ⟨k, hk, rfl⟩ := inB_of (by decide) h1
    have hl0 : ¬ nI k < nI 0 := by rw [nI_ltI (by omega) (by omega)]; omega
    have hl5 : ¬ nI 5 < nI k := by rw [nI_ltI (by omega) (by omega)]; omega
    rw [nI_clamp (n := k) (by omega)]
    by_cases h2 : isF n x = true
    · rw [h2, Bool.true_and]
      by_cases h3 : isF n y = true
      · rw [h3, Bool.true_and]
        have e47 := c_ir_47 (q := q) (S := S) (P := P) (A := A) (D := D) (K := K) (X := X) (E := E) (Z := Z) (I := I) (J := J) (V := V) hk x y c (decide (x = y)) (decide (nI k = nI 3))
        rw [← e47]
        by_cases h4 : x = y
        · rw [decide_eq_true h4]
          by_cases h5 : nI k = nI 3
          · rw [decide_eq_true h5, zB_tt]
            rw [nI_eq (by omega) (by omega)] at h5
            subst h5
            simp (maxSteps := 2000000) (disch := omega) only [e_inl, e_goto, e_fall, e_if, e_icmp, e_iret, e_zret, e_lret, e_vret, e_call0_0, e_call0_1, e_call0_2, e_call0_3, e_call0_4, e_call1_0, e_call1_1, e_call1_2, e_call1_3, e_call1_4, e_call2_0, e_call2_1, e_call2_2, e_call2_3, e_call2_4, e_call3_0, e_call3_1, e_call3_2, e_call3_3, e_call3_4, e_call4_0, e_call4_1, e_call4_2, e_call4_3, e_call4_4, e_call5_0, e_call5_1, e_call5_2, e_call5_3, e_call5_4, e_call6_0, e_call6_1, e_call6_2, e_call6_3, e_call6_4, xP, xld, xst1, xst2, xis2, xii, xid, xll, xlv, xls, xlc, xil, xli, xrd, xdup, xdup2, xc1, xpu, c_eq, c_ne, c_lt, c_ge, c_gt, c_le, Option.bind_some, Option.map_some, List.length_nil, List.length_cons, Nat.reduceAdd, Nat.reduceLeDiff, Int.reduceToNat, Bool.and_self, Bool.false_eq_true, if_true, if_false, D47_27, D47_37, g_x_0, g_x_1, g_x_2, g_x_3, g_x_4, g_x_5, g_x_6, g_x_7, g_S_0, g_S_1, g_S_2, g_S_3, g_S_4, g_S_5, g_S_6, g_S_7, g_S_8, p_S_0, p_S_3, p_S_5, p_S_6, p_S_8_0, p_S_8_1, r_order, s_order, r_unlike, s_unlike, g_F_0, g_F_1, g_F_2, g_F_3, g_F_4, p_F_0, p_F_1, p_F_2, p_F_3, r_W, s_W, g_R_0, g_R_1, g_R_2, g_R_3, g_R_4, p_R_0, p_R_1, p_R_2, p_R_3, p_R_4, rd0F, rd0R, r_refusals, s_refusals, n_lit, n_0, hl0, hl5, c_hasField hn h0, h2, h3, zB_tt, nI_eq, Nat.one_ne_zero, not_false_eq_true, h4, not_true_eq_false]
          · rw [decide_eq_false h5, zB_tt, zB_ff]
            simp (maxSteps := 2000000) (disch := omega) only [e_inl, e_goto, e_fall, e_if, e_icmp, e_iret, e_zret, e_lret, e_vret, e_call0_0, e_call0_1, e_call0_2, e_call0_3, e_call0_4, e_call1_0, e_call1_1, e_call1_2, e_call1_3, e_call1_4, e_call2_0, e_call2_1, e_call2_2, e_call2_3, e_call2_4, e_call3_0, e_call3_1, e_call3_2, e_call3_3, e_call3_4, e_call4_0, e_call4_1, e_call4_2, e_call4_3, e_call4_4, e_call5_0, e_call5_1, e_call5_2, e_call5_3, e_call5_4, e_call6_0, e_call6_1, e_call6_2, e_call6_3, e_call6_4, xP, xld, xst1, xst2, xis2, xii, xid, xll, xlv, xls, xlc, xil, xli, xrd, xdup, xdup2, xc1, xpu, c_eq, c_ne, c_lt, c_ge, c_gt, c_le, Option.bind_some, Option.map_some, List.length_nil, List.length_cons, Nat.reduceAdd, Nat.reduceLeDiff, Int.reduceToNat, Bool.and_self, Bool.false_eq_true, if_true, if_false, D47_27, D47_37, D47_46, g_x_0, g_x_1, g_x_2, g_x_3, g_x_4, g_x_5, g_x_6, g_x_7, g_S_0, g_S_1, g_S_2, g_S_3, g_S_4, g_S_5, g_S_6, g_S_7, g_S_8, p_S_0, p_S_3, p_S_5, p_S_6, p_S_8_0, p_S_8_1, r_order, s_order, r_unlike, s_unlike, g_F_0, g_F_1, g_F_2, g_F_3, g_F_4, p_F_0, p_F_1, p_F_2, p_F_3, r_W, s_W, g_R_0, g_R_1, g_R_2, g_R_3, g_R_4, p_R_0, p_R_1, p_R_2, p_R_3, p_R_4, rd0F, rd0R, r_refusals, s_refusals, n_lit, n_0, hl0, hl5, c_hasField hn h0, h2, h3, zB_tt, Nat.one_ne_zero, not_false_eq_true, h4, not_true_eq_false, h5, if_true, show (nI 1 = nI 0) = False from eq_false (by decide)]
        · rw [decide_eq_false h4]
          by_cases h5 : nI k = nI 3
          · rw [decide_eq_true h5, zB_tt, zB_ff]
            rw [nI_eq (by omega) (by omega)] at h5
            subst h5
            simp (maxSteps := 2000000) (disch := omega) only [e_inl, e_goto, e_fall, e_if, e_icmp, e_iret, e_zret, e_lret, e_vret, e_call0_0, e_call0_1, e_call0_2, e_call0_3, e_call0_4, e_call1_0, e_call1_1, e_call1_2, e_call1_3, e_call1_4, e_call2_0, e_call2_1, e_call2_2, e_call2_3, e_call2_4, e_call3_0, e_call3_1, e_call3_2, e_call3_3, e_call3_4, e_call4_0, e_call4_1, e_call4_2, e_call4_3, e_call4_4, e_call5_0, e_call5_1, e_call5_2, e_call5_3, e_call5_4, e_call6_0, e_call6_1, e_call6_2, e_call6_3, e_call6_4, xP, xld, xst1, xst2, xis2, xii, xid, xll, xlv, xls, xlc, xil, xli, xrd, xdup, xdup2, xc1, xpu, c_eq, c_ne, c_lt, c_ge, c_gt, c_le, Option.bind_some, Option.map_some, List.length_nil, List.length_cons, Nat.reduceAdd, Nat.reduceLeDiff, Int.reduceToNat, Bool.and_self, Bool.false_eq_true, if_true, if_false, D47_27, D47_36, D47_37, g_x_0, g_x_1, g_x_2, g_x_3, g_x_4, g_x_5, g_x_6, g_x_7, g_S_0, g_S_1, g_S_2, g_S_3, g_S_4, g_S_5, g_S_6, g_S_7, g_S_8, p_S_0, p_S_3, p_S_5, p_S_6, p_S_8_0, p_S_8_1, r_order, s_order, r_unlike, s_unlike, g_F_0, g_F_1, g_F_2, g_F_3, g_F_4, p_F_0, p_F_1, p_F_2, p_F_3, r_W, s_W, g_R_0, g_R_1, g_R_2, g_R_3, g_R_4, p_R_0, p_R_1, p_R_2, p_R_3, p_R_4, rd0F, rd0R, r_refusals, s_refusals, n_lit, n_0, hl0, hl5, c_hasField hn h0, h2, h3, zB_tt, Nat.one_ne_zero, not_false_eq_true, h4, not_true_eq_false, show (nI 1 = nI 0) = False from eq_false (by decide)]
          · rw [decide_eq_false h5, zB_ff]
            simp (maxSteps := 2000000) (disch := omega) only [e_inl, e_goto, e_fall, e_if, e_icmp, e_iret, e_zret, e_lret, e_vret, e_call0_0, e_call0_1, e_call0_2, e_call0_3, e_call0_4, e_call1_0, e_call1_1, e_call1_2, e_call1_3, e_call1_4, e_call2_0, e_call2_1, e_call2_2, e_call2_3, e_call2_4, e_call3_0, e_call3_1, e_call3_2, e_call3_3, e_call3_4, e_call4_0, e_call4_1, e_call4_2, e_call4_3, e_call4_4, e_call5_0, e_call5_1, e_call5_2, e_call5_3, e_call5_4, e_call6_0, e_call6_1, e_call6_2, e_call6_3, e_call6_4, xP, xld, xst1, xst2, xis2, xii, xid, xll, xlv, xls, xlc, xil, xli, xrd, xdup, xdup2, xc1, xpu, c_eq, c_ne, c_lt, c_ge, c_gt, c_le, Option.bind_some, Option.map_some, List.length_nil, List.length_cons, Nat.reduceAdd, Nat.reduceLeDiff, Int.reduceToNat, Bool.and_self, Bool.false_eq_true, if_true, if_false, D47_27, D47_36, D47_37, D47_46, g_x_0, g_x_1, g_x_2, g_x_3, g_x_4, g_x_5, g_x_6, g_x_7, g_S_0, g_S_1, g_S_2, g_S_3, g_S_4, g_S_5, g_S_6, g_S_7, g_S_8, p_S_0, p_S_3, p_S_5, p_S_6, p_S_8_0, p_S_8_1, r_order, s_order, r_unlike, s_unlike, g_F_0, g_F_1, g_F_2, g_F_3, g_F_4, p_F_0, p_F_1, p_F_2, p_F_3, r_W, s_W, g_R_0, g_R_1, g_R_2, g_R_3, g_R_4, p_R_0, p_R_1, p_R_2, p_R_3, p_R_4, rd0F, rd0R, r_refusals, s_refusals, n_lit, n_0, hl0, hl5, c_hasField hn h0, h2, h3, zB_tt, Nat.one_ne_zero, not_false_eq_true, h4, not_true_eq_false, h5, show (nI 1 = nI 0) = False from eq_false (by decide)]
      · rw [Bool.eq_false_iff.mpr h3, Bool.false_and, zB_ff]
        simp (maxSteps := 2000000) (disch := omega) only [e_inl, e_goto, e_fall, e_if, e_icmp, e_iret, e_zret, e_lret, e_vret, e_call0_0, e_call0_1, e_call0_2, e_call0_3, e_call0_4, e_call1_0, e_call1_1, e_call1_2, e_call1_3, e_call1_4, e_call2_0, e_call2_1, e_call2_2, e_call2_3, e_call2_4, e_call3_0, e_call3_1, e_call3_2, e_call3_3, e_call3_4, e_call4_0, e_call4_1, e_call4_2, e_call4_3, e_call4_4, e_call5_0, e_call5_1, e_call5_2, e_call5_3, e_call5_4, e_call6_0, e_call6_1, e_call6_2, e_call6_3, e_call6_4, xP, xld, xst1, xst2, xis2, xii, xid, xll, xlv, xls, xlc, xil, xli, xrd, xdup, xdup2, xc1, xpu, c_eq, c_ne, c_lt, c_ge, c_gt, c_le, Option.bind_some, Option.map_some, List.length_nil, List.length_cons, Nat.reduceAdd, Nat.reduceLeDiff, Int.reduceToNat, Bool.and_self, Bool.false_eq_true, if_true, if_false, D47_25, g_x_0, g_x_1, g_x_2, g_x_3, g_x_4, g_x_5, g_x_6, g_x_7, g_S_0, g_S_1, g_S_2, g_S_3, g_S_4, g_S_5, g_S_6, g_S_7, g_S_8, p_S_0, p_S_3, p_S_5, p_S_6, p_S_8_0, p_S_8_1, r_order, s_order, r_unlike, s_unlike, g_F_0, g_F_1, g_F_2, g_F_3, g_F_4, p_F_0, p_F_1, p_F_2, p_F_3, r_W, s_W, g_R_0, g_R_1, g_R_2, g_R_3, g_R_4, p_R_0, p_R_1, p_R_2, p_R_3, p_R_4, rd0F, rd0R, r_refusals, s_refusals, n_lit, n_0, n_1, hl0, hl5, c_hasField hn h0, h2, Bool.eq_false_iff.mpr h3, zB_tt, zB_ff, not_true_eq_false, true_or, show (nI 1 = nI 0) = False from eq_false (by decide)]
    · rw [Bool.eq_false_iff.mpr h2, Bool.false_and, zB_ff]
      simp (maxSteps := 2000000) (disch := omega) only [e_inl, e_goto, e_fall, e_if, e_icmp, e_iret, e_zret, e_lret, e_vret, e_call0_0, e_call0_1, e_call0_2, e_call0_3, e_call0_4, e_call1_0, e_call1_1, e_call1_2, e_call1_3, e_call1_4, e_call2_0, e_call2_1, e_call2_2, e_call2_3, e_call2_4, e_call3_0, e_call3_1, e_call3_2, e_call3_3, e_call3_4, e_call4_0, e_call4_1, e_call4_2, e_call4_3, e_call4_4, e_call5_0, e_call5_1, e_call5_2, e_call5_3, e_call5_4, e_call6_0, e_call6_1, e_call6_2, e_call6_3, e_call6_4, xP, xld, xst1, xst2, xis2, xii, xid, xll, xlv, xls, xlc, xil, xli, xrd, xdup, xdup2, xc1, xpu, c_eq, c_ne, c_lt, c_ge, c_gt, c_le, Option.bind_some, Option.map_some, List.length_nil, List.length_cons, Nat.reduceAdd, Nat.reduceLeDiff, Int.reduceToNat, Bool.and_self, Bool.false_eq_true, if_true, if_false, D47_25, g_x_0, g_x_1, g_x_2, g_x_3, g_x_4, g_x_5, g_x_6, g_x_7, g_S_0, g_S_1, g_S_2, g_S_3, g_S_4, g_S_5, g_S_6, g_S_7, g_S_8, p_S_0, p_S_3, p_S_5, p_S_6, p_S_8_0, p_S_8_1, r_order, s_order, r_unlike, s_unlike, g_F_0, g_F_1, g_F_2, g_F_3, g_F_4, p_F_0, p_F_1, p_F_2, p_F_3, r_W, s_W, g_R_0, g_R_1, g_R_2, g_R_3, g_R_4, p_R_0, p_R_1, p_R_2, p_R_3, p_R_4, rd0F, rd0R, r_refusals, s_refusals, n_lit, n_0, n_1, hl0, hl5, c_hasField hn h0, Bool.eq_false_iff.mpr h2, zB_ff, true_or]
  · rw [Bool.eq_false_iff.mpr h1, Bool.false_and, zB_ff]
    have h1' : ¬ (decide (¬ kd < nI 0) && decide (kd ≤ nI 5)) = true := by rw [← inB_le]; exact h1
    by_cases h2 : kd < nI 0
    · simp (maxSteps := 2000000) (disch := omega) only [e_inl, e_goto, e_fall, e_if, e_icmp, e_iret, e_zret, e_lret, e_vret, e_call0_0, e_call0_1, e_call0_2, e_call0_3, e_call0_4, e_call1_0, e_call1_1, e_call1_2, e_call1_3, e_call1_4, e_call2_0, e_call2_1, e_call2_2, e_call2_3, e_call2_4, e_call3_0, e_call3_1, e_call3_2, e_call3_3, e_call3_4, e_call4_0, e_call4_1, e_call4_2, e_call4_3, e_call4_4, e_call5_0, e_call5_1, e_call5_2, e_call5_3, e_call5_4, e_call6_0, e_call6_1, e_call6_2, e_call6_3, e_call6_4, xP, xld, xst1, xst2, xis2, xii, xid, xll, xlv, xls, xlc, xil, xli, xrd, xdup, xdup2, xc1, xpu, c_eq, c_ne, c_lt, c_ge, c_gt, c_le, Option.bind_some, Option.map_some, List.length_nil, List.length_cons, Nat.reduceAdd, Nat.reduceLeDiff, Int.reduceToNat, Bool.and_self, Bool.false_eq_true, if_true, if_false, D47_25, n_lit, n_0, n_1, h2, true_or]
    · have h3 : nI 5 < kd := by
        apply Int32.not_le.mp
        intro h3
        exact h1' (by rw [decide_eq_true h2, decide_eq_true h3]; rfl)
      simp (maxSteps := 2000000) (disch := omega) only [e_inl, e_goto, e_fall, e_if, e_icmp, e_iret, e_zret, e_lret, e_vret, e_call0_0, e_call0_1, e_call0_2, e_call0_3, e_call0_4, e_call1_0, e_call1_1, e_call1_2, e_call1_3, e_call1_4, e_call2_0, e_call2_1, e_call2_2, e_call2_3, e_call2_4, e_call3_0, e_call3_1, e_call3_2, e_call3_3, e_call3_4, e_call4_0, e_call4_1, e_call4_2, e_call4_3, e_call4_4, e_call5_0, e_call5_1, e_call5_2, e_call5_3, e_call5_4, e_call6_0, e_call6_1, e_call6_2, e_call6_3, e_call6_4, xP, xld, xst1, xst2, xis2, xii, xid, xll, xlv, xls, xlc, xil, xli, xrd, xdup, xdup2, xc1, xpu, c_eq, c_ne, c_lt, c_ge, c_gt, c_le, Option.bind_some, Option.map_some, List.length_nil, List.length_cons, Nat.reduceAdd, Nat.reduceLeDiff, Int.reduceToNat, Bool.and_self, Bool.false_eq_true, if_true, if_false, D47_25, n_lit, n_0, n_1, h2, h3, true_or]
end
