/-! ===== the class: sets of rows, method by method, wherever they lie ===== -/
/-- the set of rows at a, in a heap with a place for its words -/
def IsRS (a : Nat) (F : (Nat → Int64) → xH) : Prop := ∀ W, xobj (F W) a 4 = true ∧ xget (F W) a 128 = some (.ref (a + 1)) ∧ (∀ i, xlald (F W) (a + 1) i = if xin i 64 then some (.long (W i.toNatClampNeg)) else none) ∧ ∀ i x, xlast (F W) (a + 1) i x = if xin i 64 then some (F (vp_updL W i.toNatClampNeg x)) else none
theorem IsRS.o {a : Nat} {F : (Nat → Int64) → xH} (h : IsRS a F) (W : Nat → Int64) : xobj (F W) a 4 = true := (h W).1
theorem IsRS.g {a : Nat} {F : (Nat → Int64) → xH} (h : IsRS a F) (W : Nat → Int64) : xget (F W) a 128 = some (.ref (a + 1)) := (h W).2.1
theorem IsRS.r {a : Nat} {F : (Nat → Int64) → xH} (h : IsRS a F) (W : Nat → Int64) {w : Nat} (hw : w < 64) : xlald (F W) (a + 1) (nI w) = some (.long (W w)) := by
  rw [(h W).2.2.1, if_pos (x_in hw (by omega)), nI_clamp (by omega)]
theorem IsRS.s {a : Nat} {F : (Nat → Int64) → xH} (h : IsRS a F) (W : Nat → Int64) {w : Nat} (hw : w < 64) (x : Int64) : xlast (F W) (a + 1) (nI w) x = some (F (vp_updL W w x)) := by
  rw [(h W).2.2.2, if_pos (x_in hw (by omega)), nI_clamp (by omega)]
set_option maxRecDepth 100000 in
theorem c_wordValue {w f : Nat} (hw : w < 64) (hf : f < 4) (h : xH) : xcall 23 [.int (nI w), .int (nI f)] h = some (some (.int (nI (wv w f))), h) := by
  rw [N23, D23_0]
  unfold wv
  by_cases h0 : f = 0
  · rw [if_pos h0]
    simp (maxSteps := 2000000) (disch := omega) only [e_inl, e_goto, e_fall, e_if, e_icmp, e_iret, e_zret, e_lret, e_vret, e_call0_0, e_call0_1, e_call0_2, e_call0_3, e_call0_4, e_call1_0, e_call1_1, e_call1_2, e_call1_3, e_call1_4, e_call2_0, e_call2_1, e_call2_2, e_call2_3, e_call2_4, e_call3_0, e_call3_1, e_call3_2, e_call3_3, e_call3_4, e_call4_0, e_call4_1, e_call4_2, e_call4_3, e_call4_4, e_call5_0, e_call5_1, e_call5_2, e_call5_3, e_call5_4, e_call6_0, e_call6_1, e_call6_2, e_call6_3, e_call6_4, xP, xld, xst1, xst2, xis2, xii, xid, xll, xlv, xls, xlc, xil, xli, xrd, xdup, xdup2, xc1, xpu, c_eq, c_ne, c_lt, c_ge, c_gt, c_le, Option.bind_some, Option.map_some, List.length_nil, List.length_cons, Nat.reduceAdd, Nat.reduceLeDiff, Int.reduceToNat, Bool.and_self, Bool.false_eq_true, if_true, if_false, D23_14, Nat.reduceEqDiff, decide_true, decide_false, Bool.true_and, Bool.false_and, Bool.and_true, Bool.and_false, zB_tt, zB_ff, not_false_eq_true, not_true_eq_false, n_lit, n_mul, nI_add, n_sub, x_in, nI_clamp, nI_ltI, nI_leI, nI_eq, and_self, true_and, and_true, n_0, h0, n_shr]
  · rw [if_neg h0]
    simp (maxSteps := 2000000) (disch := omega) only [e_inl, e_goto, e_fall, e_if, e_icmp, e_iret, e_zret, e_lret, e_vret, e_call0_0, e_call0_1, e_call0_2, e_call0_3, e_call0_4, e_call1_0, e_call1_1, e_call1_2, e_call1_3, e_call1_4, e_call2_0, e_call2_1, e_call2_2, e_call2_3, e_call2_4, e_call3_0, e_call3_1, e_call3_2, e_call3_3, e_call3_4, e_call4_0, e_call4_1, e_call4_2, e_call4_3, e_call4_4, e_call5_0, e_call5_1, e_call5_2, e_call5_3, e_call5_4, e_call6_0, e_call6_1, e_call6_2, e_call6_3, e_call6_4, xP, xld, xst1, xst2, xis2, xii, xid, xll, xlv, xls, xlc, xil, xli, xrd, xdup, xdup2, xc1, xpu, c_eq, c_ne, c_lt, c_ge, c_gt, c_le, Option.bind_some, Option.map_some, List.length_nil, List.length_cons, Nat.reduceAdd, Nat.reduceLeDiff, Int.reduceToNat, Bool.and_self, Bool.false_eq_true, if_true, if_false, D23_10, D23_14, Nat.reduceEqDiff, decide_true, decide_false, Bool.true_and, Bool.false_and, Bool.and_true, Bool.and_false, zB_tt, zB_ff, not_false_eq_true, not_true_eq_false, n_lit, n_mul, nI_add, n_sub, x_in, nI_clamp, nI_ltI, nI_leI, nI_eq, and_self, true_and, and_true, n_0, h0, n_and7]
theorem n_bit0 {s k : Nat} (hs : s < 2 ^ 31) (hk : k < 31) : (nI s >>> (nI k &&& 31) &&& nI 1 = nI 0) = (s.testBit k = false) := by
  rw [n_shr hs (by omega), n_and1, tb_div, nI_eq (by omega) (by omega)]
  have h2 := Nat.mod_lt (s / 2 ^ k) (show 2 > 0 by decide)
  by_cases e : s / 2 ^ k % 2 = 1
  · simp [e]
  · have : s / 2 ^ k % 2 = 0 := by omega
    simp [this]
set_option maxRecDepth 100000 in
theorem c_hasWord {w f vs : Nat} (hw : w < 64) (hf : f < 4) (hv : vs < 256) (h : xH) : xcall 24 [.int (nI w), .int (nI f), .int (nI vs)] h = some (some (.int (zB (hwB w f vs))), h) := by
  rw [N24, D24_0]
  have h8 := wv_lt hw f
  unfold hwB
  by_cases h2 : 2 ≤ f
  · rw [decide_eq_true h2, Bool.true_or, zB_tt]
    simp (maxSteps := 2000000) (disch := omega) only [e_inl, e_goto, e_fall, e_if, e_icmp, e_iret, e_zret, e_lret, e_vret, e_call0_0, e_call0_1, e_call0_2, e_call0_3, e_call0_4, e_call1_0, e_call1_1, e_call1_2, e_call1_3, e_call1_4, e_call2_0, e_call2_1, e_call2_2, e_call2_3, e_call2_4, e_call3_0, e_call3_1, e_call3_2, e_call3_3, e_call3_4, e_call4_0, e_call4_1, e_call4_2, e_call4_3, e_call4_4, e_call5_0, e_call5_1, e_call5_2, e_call5_3, e_call5_4, e_call6_0, e_call6_1, e_call6_2, e_call6_3, e_call6_4, xP, xld, xst1, xst2, xis2, xii, xid, xll, xlv, xls, xlc, xil, xli, xrd, xdup, xdup2, xc1, xpu, c_eq, c_ne, c_lt, c_ge, c_gt, c_le, Option.bind_some, Option.map_some, List.length_nil, List.length_cons, Nat.reduceAdd, Nat.reduceLeDiff, Int.reduceToNat, Bool.and_self, Bool.false_eq_true, if_true, if_false, D24_17, D24_22, Nat.reduceEqDiff, decide_true, decide_false, Bool.true_and, Bool.false_and, Bool.and_true, Bool.and_false, zB_tt, zB_ff, not_false_eq_true, not_true_eq_false, n_lit, n_mul, nI_add, n_sub, x_in, nI_clamp, nI_ltI, nI_leI, nI_eq, and_self, true_and, and_true, h2, n_0, n_1, or_true]
  · rw [decide_eq_false h2, Bool.false_or]
    have eb := n_bit0 (s := vs) (k := wv w f) (by omega) (by omega)
    cases hb : vs.testBit (wv w f)
    · have eb2 : nI vs >>> (nI (wv w f) &&& 31) &&& nI 1 = nI 0 := by rw [eb]; exact hb
      rw [zB_ff]
      simp (maxSteps := 2000000) (disch := omega) only [e_inl, e_goto, e_fall, e_if, e_icmp, e_iret, e_zret, e_lret, e_vret, e_call0_0, e_call0_1, e_call0_2, e_call0_3, e_call0_4, e_call1_0, e_call1_1, e_call1_2, e_call1_3, e_call1_4, e_call2_0, e_call2_1, e_call2_2, e_call2_3, e_call2_4, e_call3_0, e_call3_1, e_call3_2, e_call3_3, e_call3_4, e_call4_0, e_call4_1, e_call4_2, e_call4_3, e_call4_4, e_call5_0, e_call5_1, e_call5_2, e_call5_3, e_call5_4, e_call6_0, e_call6_1, e_call6_2, e_call6_3, e_call6_4, xP, xld, xst1, xst2, xis2, xii, xid, xll, xlv, xls, xlc, xil, xli, xrd, xdup, xdup2, xc1, xpu, c_eq, c_ne, c_lt, c_ge, c_gt, c_le, Option.bind_some, Option.map_some, List.length_nil, List.length_cons, Nat.reduceAdd, Nat.reduceLeDiff, Int.reduceToNat, Bool.and_self, Bool.false_eq_true, if_true, if_false, D24_21, D24_22, n_lit, nI_leI, h2, c_wordValue, n_0, n_1, eb2, true_or]
    · have eb2 : ¬ nI vs >>> (nI (wv w f) &&& 31) &&& nI 1 = nI 0 := by rw [eb, hb]; decide
      rw [zB_tt]
      simp (maxSteps := 2000000) (disch := omega) only [e_inl, e_goto, e_fall, e_if, e_icmp, e_iret, e_zret, e_lret, e_vret, e_call0_0, e_call0_1, e_call0_2, e_call0_3, e_call0_4, e_call1_0, e_call1_1, e_call1_2, e_call1_3, e_call1_4, e_call2_0, e_call2_1, e_call2_2, e_call2_3, e_call2_4, e_call3_0, e_call3_1, e_call3_2, e_call3_3, e_call3_4, e_call4_0, e_call4_1, e_call4_2, e_call4_3, e_call4_4, e_call5_0, e_call5_1, e_call5_2, e_call5_3, e_call5_4, e_call6_0, e_call6_1, e_call6_2, e_call6_3, e_call6_4, xP, xld, xst1, xst2, xis2, xii, xid, xll, xlv, xls, xlc, xil, xli, xrd, xdup, xdup2, xc1, xpu, c_eq, c_ne, c_lt, c_ge, c_gt, c_le, Option.bind_some, Option.map_some, List.length_nil, List.length_cons, Nat.reduceAdd, Nat.reduceLeDiff, Int.reduceToNat, Bool.and_self, Bool.false_eq_true, if_true, if_false, D24_17, D24_22, n_lit, nI_leI, h2, c_wordValue, n_0, n_1, eb2, or_true]
set_option maxRecDepth 100000 in
theorem c_ww_14 {f vs : Nat} (hf : 2 ≤ f) (hf4 : f < 4) (hv : vs < 256) (h : xH) : den 25 14 [some (.int (nI f)), some (.int (nI vs)), some (.long (lN 0)), none, some (.int (nI 0))] [] h = some (some (.long (lN (wiN f vs))), h) := by
  have hl := x_loop (i := 25) (pc := 14) (fun k => [some (.int (nI f)), some (.int (nI vs)), some (.long (lN (wiK f vs k))), none, some (.int (nI k))]) (fun _ => h) 8 (fun k hk => by
    rw [D25_14]
    have h1 : ¬ 8 ≤ k := by omega
    have eb := n_bit0 (s := vs) (k := k) (by omega) (by omega)
    have hlt := wiK_lt f vs k
    cases hb : vs.testBit k
    · have eb2 : nI vs >>> (nI k &&& 31) &&& nI 1 = nI 0 := by rw [eb]; exact hb
      rw [wiK_no hb]
      simp (maxSteps := 2000000) (disch := omega) only [e_inl, e_goto, e_fall, e_if, e_icmp, e_iret, e_zret, e_lret, e_vret, e_call0_0, e_call0_1, e_call0_2, e_call0_3, e_call0_4, e_call1_0, e_call1_1, e_call1_2, e_call1_3, e_call1_4, e_call2_0, e_call2_1, e_call2_2, e_call2_3, e_call2_4, e_call3_0, e_call3_1, e_call3_2, e_call3_3, e_call3_4, e_call4_0, e_call4_1, e_call4_2, e_call4_3, e_call4_4, e_call5_0, e_call5_1, e_call5_2, e_call5_3, e_call5_4, e_call6_0, e_call6_1, e_call6_2, e_call6_3, e_call6_4, xP, xld, xst1, xst2, xis2, xii, xid, xll, xlv, xls, xlc, xil, xli, xrd, xdup, xdup2, xc1, xpu, c_eq, c_ne, c_lt, c_ge, c_gt, c_le, Option.bind_some, Option.map_some, List.length_nil, List.length_cons, Nat.reduceAdd, Nat.reduceLeDiff, Int.reduceToNat, Bool.and_self, Bool.false_eq_true, if_true, if_false, D25_56, n_lit, nI_leI, nI_add, h1, n_0, eb2]
    · have eb2 : ¬ nI vs >>> (nI k &&& 31) &&& nI 1 = nI 0 := by rw [eb, hb]; decide
      have hfc : f = 2 ∨ f = 3 := by omega
      rw [← wiK_yes hb]
      rcases hfc with e | e
      · subst e
        have e8 := wi_2 k hk
        have hlt2 := bset_lt (fun b => decide (vl b 2 = k)) 64
        have esh : lN 255 <<< ((nI (8 * k)).toInt64 &&& 63) = lN (255 * 2 ^ (8 * k)) := wb_shl 255 (by omega)
        rw [e8] at esh
        have eor := wb_or hlt hlt2
        simp (maxSteps := 2000000) (disch := omega) only [e_inl, e_goto, e_fall, e_if, e_icmp, e_iret, e_zret, e_lret, e_vret, e_call0_0, e_call0_1, e_call0_2, e_call0_3, e_call0_4, e_call1_0, e_call1_1, e_call1_2, e_call1_3, e_call1_4, e_call2_0, e_call2_1, e_call2_2, e_call2_3, e_call2_4, e_call3_0, e_call3_1, e_call3_2, e_call3_3, e_call3_4, e_call4_0, e_call4_1, e_call4_2, e_call4_3, e_call4_4, e_call5_0, e_call5_1, e_call5_2, e_call5_3, e_call5_4, e_call6_0, e_call6_1, e_call6_2, e_call6_3, e_call6_4, xP, xld, xst1, xst2, xis2, xii, xid, xll, xlv, xls, xlc, xil, xli, xrd, xdup, xdup2, xc1, xpu, c_eq, c_ne, c_lt, c_ge, c_gt, c_le, Option.bind_some, Option.map_some, List.length_nil, List.length_cons, Nat.reduceAdd, Nat.reduceLeDiff, Int.reduceToNat, Bool.and_self, Bool.false_eq_true, if_true, if_false, D25_54, D25_56, n_lit, m_lit, nI_leI, nI_add, n_mul, nI_eq, h1, n_0, eb2, not_true_eq_false, esh, eor]
      · subst e
        have e8 := wi_3 k hk
        have hlt2 := bset_lt (fun b => decide (vl b 3 = k)) 64
        have esh : lN 72340172838076673 <<< ((nI k).toInt64 &&& 63) = lN (72340172838076673 * 2 ^ k) := wb_shl _ (by omega)
        rw [e8] at esh
        have eor := wb_or hlt hlt2
        simp (maxSteps := 2000000) (disch := omega) only [e_inl, e_goto, e_fall, e_if, e_icmp, e_iret, e_zret, e_lret, e_vret, e_call0_0, e_call0_1, e_call0_2, e_call0_3, e_call0_4, e_call1_0, e_call1_1, e_call1_2, e_call1_3, e_call1_4, e_call2_0, e_call2_1, e_call2_2, e_call2_3, e_call2_4, e_call3_0, e_call3_1, e_call3_2, e_call3_3, e_call3_4, e_call4_0, e_call4_1, e_call4_2, e_call4_3, e_call4_4, e_call5_0, e_call5_1, e_call5_2, e_call5_3, e_call5_4, e_call6_0, e_call6_1, e_call6_2, e_call6_3, e_call6_4, xP, xld, xst1, xst2, xis2, xii, xid, xll, xlv, xls, xlc, xil, xli, xrd, xdup, xdup2, xc1, xpu, c_eq, c_ne, c_lt, c_ge, c_gt, c_le, Option.bind_some, Option.map_some, List.length_nil, List.length_cons, Nat.reduceAdd, Nat.reduceLeDiff, Int.reduceToNat, Bool.and_self, Bool.false_eq_true, if_true, if_false, D25_48, D25_54, D25_56, n_lit, m_lit, nI_leI, nI_add, n_mul, nI_eq, h1, n_0, eb2, Nat.reduceEqDiff, not_false_eq_true, esh, eor])
  rw [wiK_0, wiK_8 vs hf] at hl
  rw [hl, D25_14]
  simp (maxSteps := 2000000) (disch := omega) only [e_inl, e_goto, e_fall, e_if, e_icmp, e_iret, e_zret, e_lret, e_vret, e_call0_0, e_call0_1, e_call0_2, e_call0_3, e_call0_4, e_call1_0, e_call1_1, e_call1_2, e_call1_3, e_call1_4, e_call2_0, e_call2_1, e_call2_2, e_call2_3, e_call2_4, e_call3_0, e_call3_1, e_call3_2, e_call3_3, e_call3_4, e_call4_0, e_call4_1, e_call4_2, e_call4_3, e_call4_4, e_call5_0, e_call5_1, e_call5_2, e_call5_3, e_call5_4, e_call6_0, e_call6_1, e_call6_2, e_call6_3, e_call6_4, xP, xld, xst1, xst2, xis2, xii, xid, xll, xlv, xls, xlc, xil, xli, xrd, xdup, xdup2, xc1, xpu, c_eq, c_ne, c_lt, c_ge, c_gt, c_le, Option.bind_some, Option.map_some, List.length_nil, List.length_cons, Nat.reduceAdd, Nat.reduceLeDiff, Int.reduceToNat, Bool.and_self, Bool.false_eq_true, if_true, if_false, D25_62, n_lit, nI_leI, Nat.le_refl]
set_option maxRecDepth 100000 in
theorem c_withinWord {f vs : Nat} (hf4 : f < 4) (hv : vs < 256) (h : xH) : xcall 25 [.int (nI f), .int (nI vs)] h = some (some (.long (lN (wiN f vs))), h) := by
  rw [N25, D25_0]
  by_cases h2 : 2 ≤ f
  · simp (maxSteps := 2000000) (disch := omega) only [e_inl, e_goto, e_fall, e_if, e_icmp, e_iret, e_zret, e_lret, e_vret, e_call0_0, e_call0_1, e_call0_2, e_call0_3, e_call0_4, e_call1_0, e_call1_1, e_call1_2, e_call1_3, e_call1_4, e_call2_0, e_call2_1, e_call2_2, e_call2_3, e_call2_4, e_call3_0, e_call3_1, e_call3_2, e_call3_3, e_call3_4, e_call4_0, e_call4_1, e_call4_2, e_call4_3, e_call4_4, e_call5_0, e_call5_1, e_call5_2, e_call5_3, e_call5_4, e_call6_0, e_call6_1, e_call6_2, e_call6_3, e_call6_4, xP, xld, xst1, xst2, xis2, xii, xid, xll, xlv, xls, xlc, xil, xli, xrd, xdup, xdup2, xc1, xpu, c_eq, c_ne, c_lt, c_ge, c_gt, c_le, Option.bind_some, Option.map_some, List.length_nil, List.length_cons, Nat.reduceAdd, Nat.reduceLeDiff, Int.reduceToNat, Bool.and_self, Bool.false_eq_true, if_true, if_false, D25_9, n_lit, m_lit, nI_leI, h2, c_ww_14]
  · rw [wi_all vs (show f < 2 by omega), ← lN_m1]
    simp (maxSteps := 2000000) (disch := omega) only [e_inl, e_goto, e_fall, e_if, e_icmp, e_iret, e_zret, e_lret, e_vret, e_call0_0, e_call0_1, e_call0_2, e_call0_3, e_call0_4, e_call1_0, e_call1_1, e_call1_2, e_call1_3, e_call1_4, e_call2_0, e_call2_1, e_call2_2, e_call2_3, e_call2_4, e_call3_0, e_call3_1, e_call3_2, e_call3_3, e_call3_4, e_call4_0, e_call4_1, e_call4_2, e_call4_3, e_call4_4, e_call5_0, e_call5_1, e_call5_2, e_call5_3, e_call5_4, e_call6_0, e_call6_1, e_call6_2, e_call6_3, e_call6_4, xP, xld, xst1, xst2, xis2, xii, xid, xll, xlv, xls, xlc, xil, xli, xrd, xdup, xdup2, xc1, xpu, c_eq, c_ne, c_lt, c_ge, c_gt, c_le, Option.bind_some, Option.map_some, List.length_nil, List.length_cons, Nat.reduceAdd, Nat.reduceLeDiff, Int.reduceToNat, Bool.and_self, Bool.false_eq_true, if_true, if_false, n_lit, nI_leI, h2]
set_option maxRecDepth 100000 in
theorem c_becomesAll {a : Nat} {F : (Nat → Int64) → xH} (hF : IsRS a F) (W : Nat → Int64) : ∃ W', xcall 27 [.ref a] (F W) = some (none, F W') ∧ RS (fun _ => true) W' := by
  refine ⟨fa_fill (fun _ => Int64.ofInt (-1)) W 64, ?_, fun w hw => ?_⟩
  · rw [N27 _ _ (hF.o W), D27_0]
    have hl := x_loop (i := 27) (pc := 2) (fun k => [some (.ref a), some (.int (nI k))]) (fun k => F (fa_fill (fun _ => Int64.ofInt (-1)) W k)) 64 (fun k hk => by
      rw [D27_2]
      have h1 : ¬ 64 ≤ k := by omega
      have e1 := hF.g (fa_fill (fun _ => Int64.ofInt (-1)) W k)
      have e2 := hF.s (fa_fill (fun _ => Int64.ofInt (-1)) W k) hk (Int64.ofInt (-1))
      rw [fl_succ (fun _ => Int64.ofInt (-1)) W k] at e2
      simp (maxSteps := 2000000) (disch := omega) only [e_inl, e_goto, e_fall, e_if, e_icmp, e_iret, e_zret, e_lret, e_vret, e_call0_0, e_call0_1, e_call0_2, e_call0_3, e_call0_4, e_call1_0, e_call1_1, e_call1_2, e_call1_3, e_call1_4, e_call2_0, e_call2_1, e_call2_2, e_call2_3, e_call2_4, e_call3_0, e_call3_1, e_call3_2, e_call3_3, e_call3_4, e_call4_0, e_call4_1, e_call4_2, e_call4_3, e_call4_4, e_call5_0, e_call5_1, e_call5_2, e_call5_3, e_call5_4, e_call6_0, e_call6_1, e_call6_2, e_call6_3, e_call6_4, xP, xld, xst1, xst2, xis2, xii, xid, xll, xlv, xls, xlc, xil, xli, xrd, xdup, xdup2, xc1, xpu, c_eq, c_ne, c_lt, c_ge, c_gt, c_le, Option.bind_some, Option.map_some, List.length_nil, List.length_cons, Nat.reduceAdd, Nat.reduceLeDiff, Int.reduceToNat, Bool.and_self, Bool.false_eq_true, if_true, if_false, n_lit, nI_leI, nI_add, h1, e1, e2])
    simp only [fa_fill_0] at hl
    simp only [e_inl, e_goto, e_fall, e_if, e_icmp, e_iret, e_zret, e_lret, e_vret, e_call0_0, e_call0_1, e_call0_2, e_call0_3, e_call0_4, e_call1_0, e_call1_1, e_call1_2, e_call1_3, e_call1_4, e_call2_0, e_call2_1, e_call2_2, e_call2_3, e_call2_4, e_call3_0, e_call3_1, e_call3_2, e_call3_3, e_call3_4, e_call4_0, e_call4_1, e_call4_2, e_call4_3, e_call4_4, e_call5_0, e_call5_1, e_call5_2, e_call5_3, e_call5_4, e_call6_0, e_call6_1, e_call6_2, e_call6_3, e_call6_4, xP, xld, xst1, xst2, xis2, xii, xid, xll, xlv, xls, xlc, xil, xli, xrd, xdup, xdup2, xc1, xpu, c_eq, c_ne, c_lt, c_ge, c_gt, c_le, Option.bind_some, Option.map_some, List.length_nil, List.length_cons, Nat.reduceAdd, Nat.reduceLeDiff, Int.reduceToNat, Bool.and_self, Bool.false_eq_true, if_true, if_false, n_lit]
    rw [hl, D27_2]
    simp (maxSteps := 2000000) (disch := omega) only [e_inl, e_goto, e_fall, e_if, e_icmp, e_iret, e_zret, e_lret, e_vret, e_call0_0, e_call0_1, e_call0_2, e_call0_3, e_call0_4, e_call1_0, e_call1_1, e_call1_2, e_call1_3, e_call1_4, e_call2_0, e_call2_1, e_call2_2, e_call2_3, e_call2_4, e_call3_0, e_call3_1, e_call3_2, e_call3_3, e_call3_4, e_call4_0, e_call4_1, e_call4_2, e_call4_3, e_call4_4, e_call5_0, e_call5_1, e_call5_2, e_call5_3, e_call5_4, e_call6_0, e_call6_1, e_call6_2, e_call6_3, e_call6_4, xP, xld, xst1, xst2, xis2, xii, xid, xll, xlv, xls, xlc, xil, xli, xrd, xdup, xdup2, xc1, xpu, c_eq, c_ne, c_lt, c_ge, c_gt, c_le, Option.bind_some, Option.map_some, List.length_nil, List.length_cons, Nat.reduceAdd, Nat.reduceLeDiff, Int.reduceToNat, Bool.and_self, Bool.false_eq_true, if_true, if_false, D27_23, n_lit, nI_leI, Nat.le_refl]
  · rw [fa_fill_in hw, lN_m1]
    congr 1
    apply Nat.eq_of_testBit_eq
    intro j
    unfold wdN
    rw [bset_bit, Nat.testBit_two_pow_sub_one]
    simp
set_option maxRecDepth 100000 in
theorem c_keepValues {a f vs : Nat} {F : (Nat → Int64) → xH} (hF : IsRS a F) {W : Nat → Int64} {m : Nat → Bool} (hm : RS m W) (hf : f < 4) (hv : vs < 256) : ∃ W', xcall 30 [.ref a, .int (nI f), .int (nI vs)] (F W) = some (none, F W') ∧ RS (lim m f vs) W' := by
  refine ⟨fa_fill (fun w => lN (wdN (lim m f vs) w)) W 64, ?_, fun w hw => fa_fill_in hw⟩
  rw [N30 _ _ _ _ (hF.o W), D30_0]
  have hl := x_loop (i := 30) (pc := 9) (fun k => [some (.ref a), some (.int (nI f)), some (.int (nI vs)), some (.long (lN (wiN f vs))), none, some (.int (nI k))]) (fun k => F (fa_fill (fun w => lN (wdN (lim m f vs) w)) W k)) 64 (fun k hk => by
    rw [D30_9]
    have h1 : ¬ 64 ≤ k := by omega
    have e1 := hF.g (fa_fill (fun w => lN (wdN (lim m f vs) w)) W k)
    have er := hF.r (fa_fill (fun w => lN (wdN (lim m f vs) w)) W k) hk
    rw [fa_fill_out (Nat.le_refl k), hm k hk] at er
    have eh := c_hasWord hk hf hv (F (fa_fill (fun w => lN (wdN (lim m f vs) w)) W k))
    have e2 := hF.s (fa_fill (fun w => lN (wdN (lim m f vs) w)) W k) hk (lN (wdN (lim m f vs) k))
    rw [fl_succ (fun w => lN (wdN (lim m f vs) w)) W k] at e2
    cases hb : hwB k f vs
    · have e0 : wdN (lim m f vs) k = 0 := wdN_0 (fun b hb2 => by
        have := hw_wi (vs := vs) hk hb2 hf
        rw [hb, Bool.false_and] at this
        unfold lim
        rw [← this, Bool.and_false])
      rw [hb, zB_ff] at eh
      rw [e0] at e2
      simp (maxSteps := 2000000) (disch := omega) only [e_inl, e_goto, e_fall, e_if, e_icmp, e_iret, e_zret, e_lret, e_vret, e_call0_0, e_call0_1, e_call0_2, e_call0_3, e_call0_4, e_call1_0, e_call1_1, e_call1_2, e_call1_3, e_call1_4, e_call2_0, e_call2_1, e_call2_2, e_call2_3, e_call2_4, e_call3_0, e_call3_1, e_call3_2, e_call3_3, e_call3_4, e_call4_0, e_call4_1, e_call4_2, e_call4_3, e_call4_4, e_call5_0, e_call5_1, e_call5_2, e_call5_3, e_call5_4, e_call6_0, e_call6_1, e_call6_2, e_call6_3, e_call6_4, xP, xld, xst1, xst2, xis2, xii, xid, xll, xlv, xls, xlc, xil, xli, xrd, xdup, xdup2, xc1, xpu, c_eq, c_ne, c_lt, c_ge, c_gt, c_le, Option.bind_some, Option.map_some, List.length_nil, List.length_cons, Nat.reduceAdd, Nat.reduceLeDiff, Int.reduceToNat, Bool.and_self, Bool.false_eq_true, if_true, if_false, D30_44, D30_45, n_lit, m_lit, nI_leI, nI_add, n_0, h1, e1, eh, e2]
    · have e0 : wdN m k &&& wiN f vs = wdN (lim m f vs) k := by
        apply Nat.eq_of_testBit_eq
        intro j
        rw [Nat.testBit_and]
        by_cases hj : j < 64
        · have := hw_wi (vs := vs) hk hj hf
          rw [hb, Bool.true_and] at this
          rw [wdN_bit hj, wdN_bit hj, this]
          rfl
        · unfold wdN wiN
          rw [bset_bit, bset_bit, bset_bit]
          simp [hj]
      have ea := wb_and (wdN_lt m k) (wiN_lt f vs)
      rw [e0] at ea
      rw [hb, zB_tt] at eh
      simp (maxSteps := 2000000) (disch := omega) only [e_inl, e_goto, e_fall, e_if, e_icmp, e_iret, e_zret, e_lret, e_vret, e_call0_0, e_call0_1, e_call0_2, e_call0_3, e_call0_4, e_call1_0, e_call1_1, e_call1_2, e_call1_3, e_call1_4, e_call2_0, e_call2_1, e_call2_2, e_call2_3, e_call2_4, e_call3_0, e_call3_1, e_call3_2, e_call3_3, e_call3_4, e_call4_0, e_call4_1, e_call4_2, e_call4_3, e_call4_4, e_call5_0, e_call5_1, e_call5_2, e_call5_3, e_call5_4, e_call6_0, e_call6_1, e_call6_2, e_call6_3, e_call6_4, xP, xld, xst1, xst2, xis2, xii, xid, xll, xlv, xls, xlc, xil, xli, xrd, xdup, xdup2, xc1, xpu, c_eq, c_ne, c_lt, c_ge, c_gt, c_le, Option.bind_some, Option.map_some, List.length_nil, List.length_cons, Nat.reduceAdd, Nat.reduceLeDiff, Int.reduceToNat, Bool.and_self, Bool.false_eq_true, if_true, if_false, D30_45, n_lit, m_lit, nI_leI, nI_add, nI_eq, Nat.one_ne_zero, n_0, h1, e1, er, eh, ea, e2])
  simp only [fa_fill_0] at hl
  have ew := c_withinWord hf hv (F W)
  simp (maxSteps := 2000000) (disch := omega) only [e_inl, e_goto, e_fall, e_if, e_icmp, e_iret, e_zret, e_lret, e_vret, e_call0_0, e_call0_1, e_call0_2, e_call0_3, e_call0_4, e_call1_0, e_call1_1, e_call1_2, e_call1_3, e_call1_4, e_call2_0, e_call2_1, e_call2_2, e_call2_3, e_call2_4, e_call3_0, e_call3_1, e_call3_2, e_call3_3, e_call3_4, e_call4_0, e_call4_1, e_call4_2, e_call4_3, e_call4_4, e_call5_0, e_call5_1, e_call5_2, e_call5_3, e_call5_4, e_call6_0, e_call6_1, e_call6_2, e_call6_3, e_call6_4, xP, xld, xst1, xst2, xis2, xii, xid, xll, xlv, xls, xlc, xil, xli, xrd, xdup, xdup2, xc1, xpu, c_eq, c_ne, c_lt, c_ge, c_gt, c_le, Option.bind_some, Option.map_some, List.length_nil, List.length_cons, Nat.reduceAdd, Nat.reduceLeDiff, Int.reduceToNat, Bool.and_self, Bool.false_eq_true, if_true, if_false, n_lit, ew]
  rw [hl, D30_9]
  simp (maxSteps := 2000000) (disch := omega) only [e_inl, e_goto, e_fall, e_if, e_icmp, e_iret, e_zret, e_lret, e_vret, e_call0_0, e_call0_1, e_call0_2, e_call0_3, e_call0_4, e_call1_0, e_call1_1, e_call1_2, e_call1_3, e_call1_4, e_call2_0, e_call2_1, e_call2_2, e_call2_3, e_call2_4, e_call3_0, e_call3_1, e_call3_2, e_call3_3, e_call3_4, e_call4_0, e_call4_1, e_call4_2, e_call4_3, e_call4_4, e_call5_0, e_call5_1, e_call5_2, e_call5_3, e_call5_4, e_call6_0, e_call6_1, e_call6_2, e_call6_3, e_call6_4, xP, xld, xst1, xst2, xis2, xii, xid, xll, xlv, xls, xlc, xil, xli, xrd, xdup, xdup2, xc1, xpu, c_eq, c_ne, c_lt, c_ge, c_gt, c_le, Option.bind_some, Option.map_some, List.length_nil, List.length_cons, Nat.reduceAdd, Nat.reduceLeDiff, Int.reduceToNat, Bool.and_self, Bool.false_eq_true, if_true, if_false, D30_52, n_lit, nI_leI, Nat.le_refl]
set_option maxRecDepth 100000 in
theorem c_isEmpty {a : Nat} {F : (Nat → Int64) → xH} (hF : IsRS a F) {W : Nat → Int64} {m : Nat → Bool} (hm : RS m W) : xcall 31 [.ref a] (F W) = some (some (.int (zB (decide (fb_ct m 4096 = 0)))), F W) := by
  rw [N31 _ _ (hF.o W), D31_0]
  have e1 := hF.g W
  have step : ∀ k, k < 64 → wdN m k = 0 → den 31 2 [some (.ref a), some (.int (nI k))] [] (F W) = den 31 2 [some (.ref a), some (.int (nI (k + 1)))] [] (F W) := by
    intro k hk h0
    rw [D31_2]
    have h1 : ¬ 64 ≤ k := by omega
    have er := hF.r W hk
    rw [hm k hk, h0] at er
    have ec := m_cmp0 (a := 0) (by omega)
    have ec2 : lg_cmp (lN 0) (Int64.ofInt 0) = nI 0 := by rw [← n_0, ec]
    simp (maxSteps := 2000000) (disch := omega) only [e_inl, e_goto, e_fall, e_if, e_icmp, e_iret, e_zret, e_lret, e_vret, e_call0_0, e_call0_1, e_call0_2, e_call0_3, e_call0_4, e_call1_0, e_call1_1, e_call1_2, e_call1_3, e_call1_4, e_call2_0, e_call2_1, e_call2_2, e_call2_3, e_call2_4, e_call3_0, e_call3_1, e_call3_2, e_call3_3, e_call3_4, e_call4_0, e_call4_1, e_call4_2, e_call4_3, e_call4_4, e_call5_0, e_call5_1, e_call5_2, e_call5_3, e_call5_4, e_call6_0, e_call6_1, e_call6_2, e_call6_3, e_call6_4, xP, xld, xst1, xst2, xis2, xii, xid, xll, xlv, xls, xlc, xil, xli, xrd, xdup, xdup2, xc1, xpu, c_eq, c_ne, c_lt, c_ge, c_gt, c_le, Option.bind_some, Option.map_some, List.length_nil, List.length_cons, Nat.reduceAdd, Nat.reduceLeDiff, Int.reduceToNat, Bool.and_self, Bool.false_eq_true, if_true, if_false, D31_21, n_lit, nI_leI, nI_add, h1, e1, er, n_0, ec2]
  generalize hp0 : (fun w => !decide (wdN m w = 0)) = p
  have hpw : ∀ w, p w = !decide (wdN m w = 0) := fun w => by rw [← hp0]
  have hm64 := fa_first_le p 64
  have hl := x_loop (i := 31) (pc := 2) (fun k => [some (.ref a), some (.int (nI k))]) (fun _ => F W) (fa_first p 64) (fun k hk => by
    have := fa_first_no p 64 k hk
    rw [hpw] at this
    exact step k (by omega) (by simpa using this))
  simp (maxSteps := 2000000) (disch := omega) only [e_inl, e_goto, e_fall, e_if, e_icmp, e_iret, e_zret, e_lret, e_vret, e_call0_0, e_call0_1, e_call0_2, e_call0_3, e_call0_4, e_call1_0, e_call1_1, e_call1_2, e_call1_3, e_call1_4, e_call2_0, e_call2_1, e_call2_2, e_call2_3, e_call2_4, e_call3_0, e_call3_1, e_call3_2, e_call3_3, e_call3_4, e_call4_0, e_call4_1, e_call4_2, e_call4_3, e_call4_4, e_call5_0, e_call5_1, e_call5_2, e_call5_3, e_call5_4, e_call6_0, e_call6_1, e_call6_2, e_call6_3, e_call6_4, xP, xld, xst1, xst2, xis2, xii, xid, xll, xlv, xls, xlc, xil, xli, xrd, xdup, xdup2, xc1, xpu, c_eq, c_ne, c_lt, c_ge, c_gt, c_le, Option.bind_some, Option.map_some, List.length_nil, List.length_cons, Nat.reduceAdd, Nat.reduceLeDiff, Int.reduceToNat, Bool.and_self, Bool.false_eq_true, if_true, if_false, n_lit]
  rw [hl, D31_2]
  by_cases h : fa_first p 64 < 64
  · have hy := fa_first_yes p 64 h
    rw [hpw] at hy
    have hy : wdN m (fa_first p 64) ≠ 0 := by simpa using hy
    have h1 : ¬ 64 ≤ fa_first p 64 := by omega
    have er := hF.r W h
    rw [hm _ h] at er
    have ec := m_cmp0 (wdN_lt m (fa_first p 64))
    have ec2 : ¬ lg_cmp (lN (wdN m (fa_first p 64))) (Int64.ofInt 0) = nI 0 := by rw [← n_0, ec]; exact hy
    have hne : ¬ fb_ct m 4096 = 0 := by
      intro h0
      apply hy
      apply wdN_0
      intro b hb
      exact fb_ct_zero.mp h0 _ (by omega)
    rw [decide_eq_false hne, zB_ff]
    simp (maxSteps := 2000000) (disch := omega) only [e_inl, e_goto, e_fall, e_if, e_icmp, e_iret, e_zret, e_lret, e_vret, e_call0_0, e_call0_1, e_call0_2, e_call0_3, e_call0_4, e_call1_0, e_call1_1, e_call1_2, e_call1_3, e_call1_4, e_call2_0, e_call2_1, e_call2_2, e_call2_3, e_call2_4, e_call3_0, e_call3_1, e_call3_2, e_call3_3, e_call3_4, e_call4_0, e_call4_1, e_call4_2, e_call4_3, e_call4_4, e_call5_0, e_call5_1, e_call5_2, e_call5_3, e_call5_4, e_call6_0, e_call6_1, e_call6_2, e_call6_3, e_call6_4, xP, xld, xst1, xst2, xis2, xii, xid, xll, xlv, xls, xlc, xil, xli, xrd, xdup, xdup2, xc1, xpu, c_eq, c_ne, c_lt, c_ge, c_gt, c_le, Option.bind_some, Option.map_some, List.length_nil, List.length_cons, Nat.reduceAdd, Nat.reduceLeDiff, Int.reduceToNat, Bool.and_self, Bool.false_eq_true, if_true, if_false, n_lit, nI_leI, h1, e1, er, n_0, n_1, ec2, true_or]
  · have h1 : fa_first p 64 = 64 := by omega
    have h0 : fb_ct m 4096 = 0 := fb_ct_zero.mpr (fun x hx => by
      have := fa_first_no p 64 (x / 64) (by omega)
      rw [hpw] at this
      have h2 : wdN m (x / 64) = 0 := by simpa using this
      have h3 := wdN_z h2 (b := x % 64) (by omega)
      rw [show 64 * (x / 64) + x % 64 = x by omega] at h3
      exact h3)
    rw [decide_eq_true h0, zB_tt, h1]
    simp (maxSteps := 2000000) (disch := omega) only [e_inl, e_goto, e_fall, e_if, e_icmp, e_iret, e_zret, e_lret, e_vret, e_call0_0, e_call0_1, e_call0_2, e_call0_3, e_call0_4, e_call1_0, e_call1_1, e_call1_2, e_call1_3, e_call1_4, e_call2_0, e_call2_1, e_call2_2, e_call2_3, e_call2_4, e_call3_0, e_call3_1, e_call3_2, e_call3_3, e_call3_4, e_call4_0, e_call4_1, e_call4_2, e_call4_3, e_call4_4, e_call5_0, e_call5_1, e_call5_2, e_call5_3, e_call5_4, e_call6_0, e_call6_1, e_call6_2, e_call6_3, e_call6_4, xP, xld, xst1, xst2, xis2, xii, xid, xll, xlv, xls, xlc, xil, xli, xrd, xdup, xdup2, xc1, xpu, c_eq, c_ne, c_lt, c_ge, c_gt, c_le, Option.bind_some, Option.map_some, List.length_nil, List.length_cons, Nat.reduceAdd, Nat.reduceLeDiff, Int.reduceToNat, Bool.and_self, Bool.false_eq_true, if_true, if_false, D31_27, n_lit, nI_leI, Nat.le_refl, n_0, n_1, or_true]
set_option maxRecDepth 100000 in
theorem c_bcW {m : Nat → Bool} (w : Nat) (h : xH) : xcall 187 [.long (lN (wdN m w))] h = some (some (.int (nI (fb_ct (fun b => m (64 * w + b)) 64))), h) := by
  rw [t_bitCountL (wdN_lt m w), wdN_ct]
set_option maxRecDepth 100000 in
theorem c_size {a : Nat} {F : (Nat → Int64) → xH} (hF : IsRS a F) {W : Nat → Int64} {m : Nat → Bool} (hm : RS m W) : xcall 32 [.ref a] (F W) = some (some (.int (nI (fb_ct m 4096))), F W) := by
  rw [N32 _ _ (hF.o W), D32_0]
  have e1 := hF.g W
  have hl := x_loop (i := 32) (pc := 4) (fun k => [some (.ref a), some (.int (nI (fb_ct m (64 * k)))), some (.int (nI k))]) (fun _ => F W) 64 (fun k hk => by
    rw [D32_4]
    have h1 : ¬ 64 ≤ k := by omega
    have er := hF.r W hk
    rw [hm k hk] at er
    rw [ct_word]
    simp (maxSteps := 2000000) (disch := omega) only [e_inl, e_goto, e_fall, e_if, e_icmp, e_iret, e_zret, e_lret, e_vret, e_call0_0, e_call0_1, e_call0_2, e_call0_3, e_call0_4, e_call1_0, e_call1_1, e_call1_2, e_call1_3, e_call1_4, e_call2_0, e_call2_1, e_call2_2, e_call2_3, e_call2_4, e_call3_0, e_call3_1, e_call3_2, e_call3_3, e_call3_4, e_call4_0, e_call4_1, e_call4_2, e_call4_3, e_call4_4, e_call5_0, e_call5_1, e_call5_2, e_call5_3, e_call5_4, e_call6_0, e_call6_1, e_call6_2, e_call6_3, e_call6_4, xP, xld, xst1, xst2, xis2, xii, xid, xll, xlv, xls, xlc, xil, xli, xrd, xdup, xdup2, xc1, xpu, c_eq, c_ne, c_lt, c_ge, c_gt, c_le, Option.bind_some, Option.map_some, List.length_nil, List.length_cons, Nat.reduceAdd, Nat.reduceLeDiff, Int.reduceToNat, Bool.and_self, Bool.false_eq_true, if_true, if_false, n_lit, nI_leI, nI_add, h1, e1, er, c_bcW])
  simp (maxSteps := 2000000) (disch := omega) only [e_inl, e_goto, e_fall, e_if, e_icmp, e_iret, e_zret, e_lret, e_vret, e_call0_0, e_call0_1, e_call0_2, e_call0_3, e_call0_4, e_call1_0, e_call1_1, e_call1_2, e_call1_3, e_call1_4, e_call2_0, e_call2_1, e_call2_2, e_call2_3, e_call2_4, e_call3_0, e_call3_1, e_call3_2, e_call3_3, e_call3_4, e_call4_0, e_call4_1, e_call4_2, e_call4_3, e_call4_4, e_call5_0, e_call5_1, e_call5_2, e_call5_3, e_call5_4, e_call6_0, e_call6_1, e_call6_2, e_call6_3, e_call6_4, xP, xld, xst1, xst2, xis2, xii, xid, xll, xlv, xls, xlc, xil, xli, xrd, xdup, xdup2, xc1, xpu, c_eq, c_ne, c_lt, c_ge, c_gt, c_le, Option.bind_some, Option.map_some, List.length_nil, List.length_cons, Nat.reduceAdd, Nat.reduceLeDiff, Int.reduceToNat, Bool.and_self, Bool.false_eq_true, if_true, if_false, n_lit]
  have e0 : fb_ct m (64 * 0) = 0 := rfl
  rw [e0] at hl
  rw [hl, D32_4]
  simp (maxSteps := 2000000) (disch := omega) only [e_inl, e_goto, e_fall, e_if, e_icmp, e_iret, e_zret, e_lret, e_vret, e_call0_0, e_call0_1, e_call0_2, e_call0_3, e_call0_4, e_call1_0, e_call1_1, e_call1_2, e_call1_3, e_call1_4, e_call2_0, e_call2_1, e_call2_2, e_call2_3, e_call2_4, e_call3_0, e_call3_1, e_call3_2, e_call3_3, e_call3_4, e_call4_0, e_call4_1, e_call4_2, e_call4_3, e_call4_4, e_call5_0, e_call5_1, e_call5_2, e_call5_3, e_call5_4, e_call6_0, e_call6_1, e_call6_2, e_call6_3, e_call6_4, xP, xld, xst1, xst2, xis2, xii, xid, xll, xlv, xls, xlc, xil, xli, xrd, xdup, xdup2, xc1, xpu, c_eq, c_ne, c_lt, c_ge, c_gt, c_le, Option.bind_some, Option.map_some, List.length_nil, List.length_cons, Nat.reduceAdd, Nat.reduceLeDiff, Int.reduceToNat, Bool.and_self, Bool.false_eq_true, if_true, if_false, D32_28, n_lit, nI_leI, Nat.le_refl, Nat.reduceMul]
