/-! ===== the members of a set of numbers, in order ===== -/
theorem fl_get (p : Nat → Bool) : ∀ (n : Nat) {x : Nat}, x < n → p x = true → ((List.range n).filter p).getD (fb_ct p x) 0 = x
  | 0, x, h, _ => absurd h (Nat.not_lt_zero x)
  | n + 1, x, h, hx => by
    rw [List.range_succ, List.filter_append]
    by_cases e : x < n
    · have hlt : fb_ct p x < ((List.range n).filter p).length := by
        rw [ct_filter]
        have h1 := fb_ct_mono p (show x + 1 ≤ n by omega)
        rw [fb_ct_succ, hx, if_pos rfl] at h1
        omega
      have := fl_get p n e hx
      rw [List.getD_eq_getElem?_getD, List.getElem?_append_left hlt, ← List.getD_eq_getElem?_getD]
      exact this
    · have : x = n := by omega
      subst this
      rw [List.getD_eq_getElem?_getD, List.getElem?_append_right (by rw [ct_filter]; exact Nat.le_refl _), ct_filter, Nat.sub_self]
      simp [hx]
theorem fl_mem (p : Nat → Bool) {n i : Nat} (h : i < ((List.range n).filter p).length) : ((List.range n).filter p).getD i 0 < n ∧ p (((List.range n).filter p).getD i 0) = true ∧ fb_ct p (((List.range n).filter p).getD i 0) = i := by
  rw [ct_filter] at h
  obtain ⟨x, h1, h2, h3⟩ := fb_ct_kth h
  have e := fl_get p n h1 h2
  rw [h3] at e
  rw [e]
  exact ⟨h1, h2, h3⟩
theorem fl_sm (p : Nat → Bool) (g : Nat → Nat) : ∀ n, fb_sm (fun i => g (((List.range n).filter p).getD i 0)) (fb_ct p n) = fb_sm (fun x => if p x = true then g x else 0) n
  | 0 => rfl
  | n + 1 => by
    have ih := fl_sm p g n
    have hc : fb_sm (fun i => g (((List.range (n + 1)).filter p).getD i 0)) (fb_ct p n) = fb_sm (fun i => g (((List.range n).filter p).getD i 0)) (fb_ct p n) := by
      apply fb_sm_cong
      intro i hi
      show g _ = g _
      congr 1
      rw [List.range_succ, List.filter_append, List.getD_eq_getElem?_getD, List.getElem?_append_left (by rw [ct_filter]; exact hi), ← List.getD_eq_getElem?_getD]
    rw [fb_sm_succ, ← ih, fb_ct_succ]
    by_cases h : p n = true
    · rw [if_pos h, if_pos h, fb_sm_succ, hc, fl_get p (n + 1) (Nat.lt_succ_self n) h]
    · rw [if_neg h, if_neg h]
      exact hc
theorem fl_smx (p : Nat → Bool) (g : Nat → Nat) {n m : Nat} (h : m ≤ n) : fb_sm (fun i => g (((List.range n).filter p).getD i 0)) (fb_ct p m) = fb_sm (fun x => if p x = true then g x else 0) m := by
  rw [← fl_sm p g m]
  apply fb_sm_cong
  intro i hi
  show g _ = g _
  congr 1
  obtain ⟨x, h1, h2, h3⟩ := fb_ct_kth hi
  rw [← h3, fl_get p n (by omega) h2, fl_get p m h1 h2]
theorem ct_sm (p : Nat → Bool) : ∀ n, fb_ct p n = fb_sm (fun x => if p x = true then 1 else 0) n
  | 0 => rfl
  | n + 1 => by rw [fb_ct_succ, fb_sm_succ, ct_sm p n]
/-- the i-th lawful row -/
def lw (σ : mS) (i : Nat) : Nat := (lwL σ 4096).getD i 0
/-- how many lawful rows -/
def lwN (σ : mS) : Nat := fb_ct (lawB σ) 4096
theorem lwN_len (σ : mS) : (lwL σ 4096).length = lwN σ := ct_filter _ _
theorem lwN_le (σ : mS) : lwN σ ≤ 4096 := fb_ct_le _ _
theorem lw_mem {σ : mS} {i : Nat} (h : i < lwN σ) : lw σ i < 4096 ∧ lawB σ (lw σ i) = true ∧ fb_ct (lawB σ) (lw σ i) = i := by
  rw [← lwN_len] at h
  exact fl_mem (lawB σ) h
theorem lw_get {σ : mS} {x : Nat} (h : x < 4096) (hx : lawB σ x = true) : lw σ (fb_ct (lawB σ) x) = x := fl_get _ _ h hx
theorem lw_sm (σ : mS) (g : Nat → Nat) : fb_sm (fun i => g (lw σ i)) (lwN σ) = fb_sm (fun x => if lawB σ x = true then g x else 0) 4096 := fl_sm _ _ _
theorem lw_smx (σ : mS) (g : Nat → Nat) {m : Nat} (h : m ≤ 4096) : fb_sm (fun i => g (lw σ i)) (fb_ct (lawB σ) m) = fb_sm (fun x => if lawB σ x = true then g x else 0) m := fl_smx _ _ h
/-- a row's weight and sum, over the first k fields -/
def wP (σ : mS) (x : Nat) : Nat → Nat
  | 0 => 1
  | k + 1 => wP σ x k * mW σ k (vl x k)
def sP (x : Nat) : Nat → Nat
  | 0 => 0
  | k + 1 => sP x k + vl x k
theorem wP_le {σ : mS} (hw : wf σ) (x : Nat) : ∀ k, k ≤ 4 → wP σ x k ≤ 9 ^ k
  | 0, _ => Nat.le_refl _
  | k + 1, h => by
    have h1 := wP_le hw x k (by omega)
    have h2 := hw.2.2.1 k (vl x k) (by omega) (vl_lt x k)
    rw [wP, Nat.pow_succ]
    exact Nat.mul_le_mul h1 h2
theorem wP_4 {σ : mS} (hw : wf σ) (x : Nat) : wP σ x 4 = wP σ x (mn σ) := by
  obtain ⟨w1, -, -, w4, -⟩ := hw
  have step : ∀ k, k < 4 → mn σ ≤ k → wP σ x (k + 1) = wP σ x k := by
    intro k hk hn
    rw [wP, (w4 k hk hn).2 _ (vl_lt x k), Nat.mul_one]
  have h4 : ∀ j, mn σ + j ≤ 4 → wP σ x (mn σ + j) = wP σ x (mn σ) := by
    intro j
    induction j with
    | zero => intro _; rfl
    | succ j ih => intro h; rw [← Nat.add_assoc, step _ (by omega) (by omega), ih (by omega)]
  have := h4 (4 - mn σ) (by omega)
  rw [show mn σ + (4 - mn σ) = 4 by omega] at this
  exact this
theorem sP_le (x : Nat) : ∀ k, sP x k ≤ 7 * k
  | 0 => Nat.le_refl _
  | k + 1 => by
    have h1 := sP_le x k
    have h2 := vl_lt x k
    rw [sP]
    omega
theorem sP_4 {σ : mS} (hw : wf σ) {x : Nat} (hin : inR σ x) : sP x 4 = sP x (mn σ) := by
  obtain ⟨w1, -, -, w4, -⟩ := hw
  have step : ∀ k, k < 4 → mn σ ≤ k → sP x (k + 1) = sP x k := by
    intro k hk hn
    have h1 := (hin k hk).2
    rw [(w4 k hk hn).1 1 (by omega)] at h1
    rw [sP]
    omega
  have h4 : ∀ j, mn σ + j ≤ 4 → sP x (mn σ + j) = sP x (mn σ) := by
    intro j
    induction j with
    | zero => intro _; rfl
    | succ j ih => intro h; rw [← Nat.add_assoc, step _ (by omega) (by omega), ih (by omega)]
  have := h4 (4 - mn σ) (by omega)
  rw [show mn σ + (4 - mn σ) = 4 by omega] at this
  exact this
theorem law_in {σ : mS} {x : Nat} (h : lawB σ x = true) : inR σ x := by
  unfold lawB at h
  rw [Bool.and_eq_true] at h
  exact (inRb_iff σ x).mp h.1
/-- a field's place in the order -/
def plc (σ : mS) (f : Nat) : Nat := fa_first (fun p => decide (mO σ p = f)) (mn σ)
theorem plc_lt {σ : mS} (hw : wf σ) {f : Nat} (hf : f < mn σ) : plc σ f < mn σ ∧ mO σ (plc σ f) = f ∧ ∀ j, j < plc σ f → mO σ j ≠ f := by
  obtain ⟨-, -, -, -, w5, w6, -⟩ := hw
  obtain ⟨p, hp1, hp2⟩ := fb_onto w5 w6 hf
  have hlt : plc σ f < mn σ := by
    apply Nat.lt_of_not_le
    intro h
    have h2 := fa_first_no (fun p => decide (mO σ p = f)) (mn σ) p (Nat.lt_of_lt_of_le hp1 h)
    simp [hp2] at h2
  have hy := fa_first_yes (fun p => decide (mO σ p = f)) (mn σ) hlt
  refine ⟨hlt, of_decide_eq_true hy, fun j hj => ?_⟩
  have h2 := fa_first_no (fun p => decide (mO σ p = f)) (mn σ) j hj
  exact of_decide_eq_false h2
section
variable {q : Nat × (Nat → Int32)} {S : Nat → xSt} {P : Int32 × (Nat → Nat)} {A : (Nat → Int64) × Int32 × Int32 × (Nat → Int64) × (Nat → Nat → Int64)} {D : (Nat → Int64) × Int64} {K : Nat → Int64} {X : Int32 × Int32 × Int32 × (Nat → Int32) × (Nat → Int32)} {E Z : Nat → Int32} {I : Nat → Int32} {J : Nat → Int64} {V : Nat → Nat → Int32}
theorem t_weightOf {σ : mS} (hw : wf σ) (hr : rpA σ (V 0)) {x : Nat} (hx : x < 4096) : xcall 148 [.ref 163, .int (nI x)] (hp q S P A D K X E Z I J V) = some (some (.int (nI (wP σ x (mn σ)))), (hp q S P A D K X E Z I J V)) := by
  rw [N148 _ _ _ (o_m ..), D148_0]
  have w1 := hw.1
  have r0 := hr.1
  have r4 := hr.2.2.2.1
  have hl := x_loop (i := 148) (pc := 4) (fun k => [some (.ref 163), some (.int (nI x)), some (.int (nI (wP σ x k))), some (.int (nI k))]) (fun _ => (hp q S P A D K X E Z I J V)) (mn σ) (fun k hk => by
    rw [D148_4]
    have h1 : ¬ mn σ ≤ k := by omega
    have h2 := vl_lt x k
    have e4 := r4 k (vl x k) hk h2
    have e5 : wP σ x (k + 1) = wP σ x k * mW σ k (vl x k) := rfl
    simp (maxSteps := 2000000) (disch := omega) only [e_inl, e_goto, e_fall, e_if, e_icmp, e_iret, e_zret, e_lret, e_vret, e_call0_0, e_call0_1, e_call0_2, e_call0_3, e_call0_4, e_call1_0, e_call1_1, e_call1_2, e_call1_3, e_call1_4, e_call2_0, e_call2_1, e_call2_2, e_call2_3, e_call2_4, e_call3_0, e_call3_1, e_call3_2, e_call3_3, e_call3_4, e_call4_0, e_call4_1, e_call4_2, e_call4_3, e_call4_4, e_call5_0, e_call5_1, e_call5_2, e_call5_3, e_call5_4, e_call6_0, e_call6_1, e_call6_2, e_call6_3, e_call6_4, xP, xld, xst1, xst2, xis2, xii, xid, xll, xlv, xls, xlc, xil, xli, xrd, xdup, xdup2, xc1, xpu, c_eq, c_ne, c_lt, c_ge, c_gt, c_le, Option.bind_some, Option.map_some, List.length_nil, List.length_cons, Nat.reduceAdd, Nat.reduceLeDiff, Int.reduceToNat, Bool.and_self, Bool.false_eq_true, if_true, if_false, o_m, g_m_0, g_m_1, g_m_2, g_m_3, g_m_4, g_m_5, g_m_6, g_m_7, g_m_8, g_m_9, g_m_10, g_m_11, g_m_12, g_m_13, g_m_14, g_m_15, g_m_16, g_m_17, g_m_18, g_m_19, g_m_20, g_m_21, p_m_3, p_m_7, p_m_8, p_m_11, p_m_13, p_m_15, p_m_16, p_m_17, p_m_18, p_m_21, p_m_5_0, p_m_5_1, r_m0, s_m0, r_m1, s_m1, r_m2, s_m2, r_m4, s_m4, r_m6, s_m6, r_m9, s_m9, r_m10, s_m10, r_m12, s_m12, r_m14, s_m14, r_m19, s_m19, r_m20, s_m20, Nat.reduceEqDiff, decide_true, decide_false, Bool.true_and, Bool.false_and, Bool.and_true, Bool.and_false, zB_tt, zB_ff, not_false_eq_true, not_true_eq_false, n_lit, n_mul, nI_add, n_sub, x_in, nI_clamp, nI_ltI, nI_leI, nI_eq, and_self, true_and, and_true, h1, t_fields, r0, t_valueOf, t_ofField, e4, e5])
  have e0 : wP σ x 0 = 1 := rfl
  rw [e0] at hl
  simp (maxSteps := 2000000) (disch := omega) only [e_inl, e_goto, e_fall, e_if, e_icmp, e_iret, e_zret, e_lret, e_vret, e_call0_0, e_call0_1, e_call0_2, e_call0_3, e_call0_4, e_call1_0, e_call1_1, e_call1_2, e_call1_3, e_call1_4, e_call2_0, e_call2_1, e_call2_2, e_call2_3, e_call2_4, e_call3_0, e_call3_1, e_call3_2, e_call3_3, e_call3_4, e_call4_0, e_call4_1, e_call4_2, e_call4_3, e_call4_4, e_call5_0, e_call5_1, e_call5_2, e_call5_3, e_call5_4, e_call6_0, e_call6_1, e_call6_2, e_call6_3, e_call6_4, xP, xld, xst1, xst2, xis2, xii, xid, xll, xlv, xls, xlc, xil, xli, xrd, xdup, xdup2, xc1, xpu, c_eq, c_ne, c_lt, c_ge, c_gt, c_le, Option.bind_some, Option.map_some, List.length_nil, List.length_cons, Nat.reduceAdd, Nat.reduceLeDiff, Int.reduceToNat, Bool.and_self, Bool.false_eq_true, if_true, if_false, Nat.reduceEqDiff, decide_true, decide_false, Bool.true_and, Bool.false_and, Bool.and_true, Bool.and_false, zB_tt, zB_ff, not_false_eq_true, not_true_eq_false, n_lit, n_mul, nI_add, n_sub, x_in, nI_clamp, nI_ltI, nI_leI, nI_eq, and_self, true_and, and_true]
  rw [hl, D148_4]
  simp (maxSteps := 2000000) (disch := omega) only [e_inl, e_goto, e_fall, e_if, e_icmp, e_iret, e_zret, e_lret, e_vret, e_call0_0, e_call0_1, e_call0_2, e_call0_3, e_call0_4, e_call1_0, e_call1_1, e_call1_2, e_call1_3, e_call1_4, e_call2_0, e_call2_1, e_call2_2, e_call2_3, e_call2_4, e_call3_0, e_call3_1, e_call3_2, e_call3_3, e_call3_4, e_call4_0, e_call4_1, e_call4_2, e_call4_3, e_call4_4, e_call5_0, e_call5_1, e_call5_2, e_call5_3, e_call5_4, e_call6_0, e_call6_1, e_call6_2, e_call6_3, e_call6_4, xP, xld, xst1, xst2, xis2, xii, xid, xll, xlv, xls, xlc, xil, xli, xrd, xdup, xdup2, xc1, xpu, c_eq, c_ne, c_lt, c_ge, c_gt, c_le, Option.bind_some, Option.map_some, List.length_nil, List.length_cons, Nat.reduceAdd, Nat.reduceLeDiff, Int.reduceToNat, Bool.and_self, Bool.false_eq_true, if_true, if_false, D148_34, o_m, g_m_0, g_m_1, g_m_2, g_m_3, g_m_4, g_m_5, g_m_6, g_m_7, g_m_8, g_m_9, g_m_10, g_m_11, g_m_12, g_m_13, g_m_14, g_m_15, g_m_16, g_m_17, g_m_18, g_m_19, g_m_20, g_m_21, p_m_3, p_m_7, p_m_8, p_m_11, p_m_13, p_m_15, p_m_16, p_m_17, p_m_18, p_m_21, p_m_5_0, p_m_5_1, r_m0, s_m0, r_m1, s_m1, r_m2, s_m2, r_m4, s_m4, r_m6, s_m6, r_m9, s_m9, r_m10, s_m10, r_m12, s_m12, r_m14, s_m14, r_m19, s_m19, r_m20, s_m20, Nat.reduceEqDiff, decide_true, decide_false, Bool.true_and, Bool.false_and, Bool.and_true, Bool.and_false, zB_tt, zB_ff, not_false_eq_true, not_true_eq_false, n_lit, n_mul, nI_add, n_sub, x_in, nI_clamp, nI_ltI, nI_leI, nI_eq, and_self, true_and, and_true, t_fields, r0, Nat.le_refl]
theorem t_sumOf {σ : mS} (hw : wf σ) (hr : rpA σ (V 0)) {x : Nat} (hx : x < 4096) : xcall 149 [.ref 163, .int (nI x)] (hp q S P A D K X E Z I J V) = some (some (.int (nI (sP x (mn σ)))), (hp q S P A D K X E Z I J V)) := by
  rw [N149 _ _ _ (o_m ..), D149_0]
  have w1 := hw.1
  have r0 := hr.1
  have hl := x_loop (i := 149) (pc := 4) (fun k => [some (.ref 163), some (.int (nI x)), some (.int (nI (sP x k))), some (.int (nI k))]) (fun _ => (hp q S P A D K X E Z I J V)) (mn σ) (fun k hk => by
    rw [D149_4]
    have h1 : ¬ mn σ ≤ k := by omega
    have e5 : sP x (k + 1) = sP x k + vl x k := rfl
    simp (maxSteps := 2000000) (disch := omega) only [e_inl, e_goto, e_fall, e_if, e_icmp, e_iret, e_zret, e_lret, e_vret, e_call0_0, e_call0_1, e_call0_2, e_call0_3, e_call0_4, e_call1_0, e_call1_1, e_call1_2, e_call1_3, e_call1_4, e_call2_0, e_call2_1, e_call2_2, e_call2_3, e_call2_4, e_call3_0, e_call3_1, e_call3_2, e_call3_3, e_call3_4, e_call4_0, e_call4_1, e_call4_2, e_call4_3, e_call4_4, e_call5_0, e_call5_1, e_call5_2, e_call5_3, e_call5_4, e_call6_0, e_call6_1, e_call6_2, e_call6_3, e_call6_4, xP, xld, xst1, xst2, xis2, xii, xid, xll, xlv, xls, xlc, xil, xli, xrd, xdup, xdup2, xc1, xpu, c_eq, c_ne, c_lt, c_ge, c_gt, c_le, Option.bind_some, Option.map_some, List.length_nil, List.length_cons, Nat.reduceAdd, Nat.reduceLeDiff, Int.reduceToNat, Bool.and_self, Bool.false_eq_true, if_true, if_false, o_m, g_m_0, g_m_1, g_m_2, g_m_3, g_m_4, g_m_5, g_m_6, g_m_7, g_m_8, g_m_9, g_m_10, g_m_11, g_m_12, g_m_13, g_m_14, g_m_15, g_m_16, g_m_17, g_m_18, g_m_19, g_m_20, g_m_21, p_m_3, p_m_7, p_m_8, p_m_11, p_m_13, p_m_15, p_m_16, p_m_17, p_m_18, p_m_21, p_m_5_0, p_m_5_1, r_m0, s_m0, r_m1, s_m1, r_m2, s_m2, r_m4, s_m4, r_m6, s_m6, r_m9, s_m9, r_m10, s_m10, r_m12, s_m12, r_m14, s_m14, r_m19, s_m19, r_m20, s_m20, Nat.reduceEqDiff, decide_true, decide_false, Bool.true_and, Bool.false_and, Bool.and_true, Bool.and_false, zB_tt, zB_ff, not_false_eq_true, not_true_eq_false, n_lit, n_mul, nI_add, n_sub, x_in, nI_clamp, nI_ltI, nI_leI, nI_eq, and_self, true_and, and_true, h1, t_fields, r0, t_valueOf, e5])
  have e0 : sP x 0 = 0 := rfl
  rw [e0] at hl
  simp (maxSteps := 2000000) (disch := omega) only [e_inl, e_goto, e_fall, e_if, e_icmp, e_iret, e_zret, e_lret, e_vret, e_call0_0, e_call0_1, e_call0_2, e_call0_3, e_call0_4, e_call1_0, e_call1_1, e_call1_2, e_call1_3, e_call1_4, e_call2_0, e_call2_1, e_call2_2, e_call2_3, e_call2_4, e_call3_0, e_call3_1, e_call3_2, e_call3_3, e_call3_4, e_call4_0, e_call4_1, e_call4_2, e_call4_3, e_call4_4, e_call5_0, e_call5_1, e_call5_2, e_call5_3, e_call5_4, e_call6_0, e_call6_1, e_call6_2, e_call6_3, e_call6_4, xP, xld, xst1, xst2, xis2, xii, xid, xll, xlv, xls, xlc, xil, xli, xrd, xdup, xdup2, xc1, xpu, c_eq, c_ne, c_lt, c_ge, c_gt, c_le, Option.bind_some, Option.map_some, List.length_nil, List.length_cons, Nat.reduceAdd, Nat.reduceLeDiff, Int.reduceToNat, Bool.and_self, Bool.false_eq_true, if_true, if_false, Nat.reduceEqDiff, decide_true, decide_false, Bool.true_and, Bool.false_and, Bool.and_true, Bool.and_false, zB_tt, zB_ff, not_false_eq_true, not_true_eq_false, n_lit, n_mul, nI_add, n_sub, x_in, nI_clamp, nI_ltI, nI_leI, nI_eq, and_self, true_and, and_true]
  rw [hl, D149_4]
  simp (maxSteps := 2000000) (disch := omega) only [e_inl, e_goto, e_fall, e_if, e_icmp, e_iret, e_zret, e_lret, e_vret, e_call0_0, e_call0_1, e_call0_2, e_call0_3, e_call0_4, e_call1_0, e_call1_1, e_call1_2, e_call1_3, e_call1_4, e_call2_0, e_call2_1, e_call2_2, e_call2_3, e_call2_4, e_call3_0, e_call3_1, e_call3_2, e_call3_3, e_call3_4, e_call4_0, e_call4_1, e_call4_2, e_call4_3, e_call4_4, e_call5_0, e_call5_1, e_call5_2, e_call5_3, e_call5_4, e_call6_0, e_call6_1, e_call6_2, e_call6_3, e_call6_4, xP, xld, xst1, xst2, xis2, xii, xid, xll, xlv, xls, xlc, xil, xli, xrd, xdup, xdup2, xc1, xpu, c_eq, c_ne, c_lt, c_ge, c_gt, c_le, Option.bind_some, Option.map_some, List.length_nil, List.length_cons, Nat.reduceAdd, Nat.reduceLeDiff, Int.reduceToNat, Bool.and_self, Bool.false_eq_true, if_true, if_false, D149_27, o_m, g_m_0, g_m_1, g_m_2, g_m_3, g_m_4, g_m_5, g_m_6, g_m_7, g_m_8, g_m_9, g_m_10, g_m_11, g_m_12, g_m_13, g_m_14, g_m_15, g_m_16, g_m_17, g_m_18, g_m_19, g_m_20, g_m_21, p_m_3, p_m_7, p_m_8, p_m_11, p_m_13, p_m_15, p_m_16, p_m_17, p_m_18, p_m_21, p_m_5_0, p_m_5_1, r_m0, s_m0, r_m1, s_m1, r_m2, s_m2, r_m4, s_m4, r_m6, s_m6, r_m9, s_m9, r_m10, s_m10, r_m12, s_m12, r_m14, s_m14, r_m19, s_m19, r_m20, s_m20, Nat.reduceEqDiff, decide_true, decide_false, Bool.true_and, Bool.false_and, Bool.and_true, Bool.and_false, zB_tt, zB_ff, not_false_eq_true, not_true_eq_false, n_lit, n_mul, nI_add, n_sub, x_in, nI_clamp, nI_ltI, nI_leI, nI_eq, and_self, true_and, and_true, t_fields, r0, Nat.le_refl]
end
