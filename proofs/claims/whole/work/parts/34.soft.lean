/-! ===== soft rules as they are looked at; the reference's list of them ===== -/
/-- soft rules of ranks below r, and of rank r those below k -/
def sfL (σ : mS) : Nat → List Nat
  | 0 => []
  | r + 1 => sfL σ r ++ (List.range (mK σ)).filter (fun k => decide (mR σ k 4 = r + 1))
def sfK (σ : mS) (r k : Nat) : List Nat := sfL σ r ++ (List.range k).filter (fun k => decide (mR σ k 4 = r + 1))
theorem sfK_0 (σ : mS) (r : Nat) : sfK σ r 0 = sfL σ r := by simp [sfK]
theorem sfK_end (σ : mS) (r : Nat) : sfK σ r (mK σ) = sfL σ (r + 1) := rfl
theorem sfK_yes {σ : mS} {r k : Nat} (h : mR σ k 4 = r + 1) : sfK σ r (k + 1) = sfK σ r k ++ [k] := by
  unfold sfK
  rw [List.range_succ, List.filter_append, ← List.append_assoc]
  simp [h]
theorem sfK_no {σ : mS} {r k : Nat} (h : ¬ mR σ k 4 = r + 1) : sfK σ r (k + 1) = sfK σ r k := by
  unfold sfK
  rw [List.range_succ, List.filter_append]
  simp [h]
theorem ct_filter (p : Nat → Bool) : ∀ n, ((List.range n).filter p).length = fb_ct p n
  | 0 => rfl
  | n + 1 => by
    rw [List.range_succ, List.filter_append, List.length_append, ct_filter p n, fb_ct_succ]
    cases h : p n <;> simp [h]
theorem sfL_len (σ : mS) : ∀ r, (sfL σ r).length = fb_ct (fun k => decide (1 ≤ mR σ k 4) && decide (mR σ k 4 ≤ r)) (mK σ)
  | 0 => by
    symm
    apply fb_ct_zero.mpr
    intro k _
    by_cases h : mR σ k 4 = 0
    · simp [h]
    · have : ¬ mR σ k 4 ≤ 0 := by omega
      simp [this]
  | r + 1 => by
    rw [sfL, List.length_append, sfL_len σ r, ct_filter, ← fb_ct_or]
    · apply fb_ct_cong
      intro k _
      rw [Bool.eq_iff_iff]
      simp only [Bool.or_eq_true, Bool.and_eq_true, decide_eq_true_eq]
      omega
    · intro k _
      simp only [Bool.and_eq_true, decide_eq_true_eq]
      omega
theorem sfK_len (σ : mS) {r k : Nat} (hk : k ≤ mK σ) : (sfK σ r k).length ≤ mK σ := by
  have h1 : (sfK σ r k).length ≤ (sfK σ r (mK σ)).length := by
    unfold sfK
    rw [List.length_append, List.length_append, ct_filter, ct_filter]
    exact Nat.add_le_add_left (fb_ct_mono _ hk) _
  rw [sfK_end, sfL_len] at h1
  exact Nat.le_trans h1 (fb_ct_le _ _)
theorem sfL_mem {σ : mS} : ∀ {r k : Nat}, k ∈ sfL σ r → k < mK σ
  | 0, k, h => by simp [sfL] at h
  | r + 1, k, h => by
    rw [sfL, List.mem_append] at h
    rcases h with h | h
    · exact sfL_mem h
    · exact List.mem_range.mp (List.mem_filter.mp h).1
/-- a list laid into an array -/
def layL (l : List Nat) (b : Nat → Int32) : Nat → Int32 := fun j => if j < l.length then nI (l.getD j 0) else b j
theorem layL_nil (b : Nat → Int32) : layL [] b = b := funext fun j => if_neg (Nat.not_lt_zero j)
theorem layL_snoc (l : List Nat) (b : Nat → Int32) (x : Nat) : upd (layL l b) l.length (nI x) = layL (l ++ [x]) b := by
  funext j
  unfold upd layL
  rw [List.length_append]
  by_cases h : j = l.length
  · subst h
    simp
  · rw [if_neg h]
    by_cases h2 : j < l.length
    · rw [if_pos h2, if_pos (by simp; omega)]
      congr 1
      rw [List.getD_eq_getElem?_getD, List.getD_eq_getElem?_getD, List.getElem?_append_left h2]
    · rw [if_neg h2, if_neg (by simp; omega)]
section
variable {q : Nat × (Nat → Int32)} {S : Nat → xSt} {P : Int32 × (Nat → Nat)} {A : (Nat → Int64) × Int32 × Int32 × (Nat → Int64) × (Nat → Nat → Int64)} {D : (Nat → Int64) × Int64} {K : Nat → Int64} {X : Int32 × Int32 × Int32 × (Nat → Int32) × (Nat → Int32)} {E Z : Nat → Int32} {I : Nat → Int32} {J : Nat → Int64} {V : Nat → Nat → Int32}
theorem t_soft_15 {σ : mS} {r : Nat} (hw : wf σ) (hr : rpA σ (V 0)) (hr10 : r < 10) (b : Nat → Int32) : den 146 15 [some (.ref 163), some (.int (nI r)), some (.int (nI 0))] [] (hp q S P A D K X E Z (upd I 11 (nI (sfL σ r).length)) J (vf_upd V 10 (layL (sfL σ r) b))) = den 146 7 [some (.ref 163), some (.int (nI (r + 1))), some (.int (nI (mK σ)))] [] (hp q S P A D K X E Z (upd I 11 (nI (sfL σ (r + 1)).length)) J (vf_upd V 10 (layL (sfL σ (r + 1)) b))) := by
  have h8 := hw.2.2.2.2.2.2.1
  have w8 := hw.2.2.2.2.2.2.2.1
  have r57 := hr.2.2.2.2.2.1
  have r4 := hr.2.2.2.2.2.2.2.1
  have hl := x_loop (i := 146) (pc := 15) (fun k => [some (.ref 163), some (.int (nI r)), some (.int (nI k))]) (fun k => (hp q S P A D K X E Z (upd I 11 (nI (sfK σ r k).length)) J (vf_upd V 10 (layL (sfK σ r k) b)))) (mK σ) (fun k hk => by
    rw [D146_15]
    have h1 : ¬ mK σ ≤ k := by omega
    have e4 := r4 k hk
    have hr4 := (w8 k hk).2.2.2.2
    have er := rI_eqn (r := mR σ k 4) (k := r) (by omega) (by omega)
    have hlen := sfK_len σ (r := r) (k := k) (by omega)
    by_cases hb : mR σ k 4 = r + 1
    · have hlen2 := sfK_len σ (r := r) (k := k + 1) (by omega)
      rw [sfK_yes hb] at hlen2 ⊢
      rw [List.length_append] at hlen2 ⊢
      simp only [List.length_cons, List.length_nil, Nat.zero_add] at hlen2 ⊢
      have e5 : upd (upd I 11 (nI (sfK σ r k).length)) 11 (nI ((sfK σ r k).length + 1)) = upd I 11 (nI ((sfK σ r k).length + 1)) := fa_upd_twice _ _ _ _
      simp (maxSteps := 2000000) (disch := omega) only [e_inl, e_goto, e_fall, e_if, e_icmp, e_iret, e_zret, e_lret, e_vret, e_call0_0, e_call0_1, e_call0_2, e_call0_3, e_call0_4, e_call1_0, e_call1_1, e_call1_2, e_call1_3, e_call1_4, e_call2_0, e_call2_1, e_call2_2, e_call2_3, e_call2_4, e_call3_0, e_call3_1, e_call3_2, e_call3_3, e_call3_4, e_call4_0, e_call4_1, e_call4_2, e_call4_3, e_call4_4, e_call5_0, e_call5_1, e_call5_2, e_call5_3, e_call5_4, e_call6_0, e_call6_1, e_call6_2, e_call6_3, e_call6_4, xP, xld, xst1, xst2, xis2, xii, xid, xll, xlv, xls, xlc, xil, xli, xrd, xdup, xdup2, xc1, xpu, c_eq, c_ne, c_lt, c_ge, c_gt, c_le, Option.bind_some, Option.map_some, List.length_nil, List.length_cons, Nat.reduceAdd, Nat.reduceLeDiff, Int.reduceToNat, Bool.and_self, Bool.false_eq_true, if_true, if_false, D146_56, o_m, g_m_0, g_m_1, g_m_2, g_m_3, g_m_4, g_m_5, g_m_6, g_m_7, g_m_8, g_m_9, g_m_10, g_m_11, g_m_12, g_m_13, g_m_14, g_m_15, g_m_16, g_m_17, g_m_18, g_m_19, g_m_20, g_m_21, p_m_3, p_m_7, p_m_8, p_m_11, p_m_13, p_m_15, p_m_16, p_m_17, p_m_18, p_m_21, p_m_5_0, p_m_5_1, r_m0, s_m0, r_m1, s_m1, r_m2, s_m2, r_m4, s_m4, r_m6, s_m6, r_m9, s_m9, r_m10, s_m10, r_m12, s_m12, r_m14, s_m14, r_m19, s_m19, r_m20, s_m20, Nat.reduceEqDiff, decide_true, decide_false, Bool.true_and, Bool.false_and, Bool.and_true, Bool.and_false, zB_tt, zB_ff, not_false_eq_true, not_true_eq_false, n_lit, n_mul, nI_add, n_sub, x_in, nI_clamp, nI_ltI, nI_leI, nI_eq, and_self, true_and, and_true, h1, vu_n, vu_s, vu_vu, r57, t_ofRule, e4, hb, rI_succ, u_s, layL_snoc, e5]
    · rw [sfK_no hb]
      simp (maxSteps := 2000000) (disch := omega) only [e_inl, e_goto, e_fall, e_if, e_icmp, e_iret, e_zret, e_lret, e_vret, e_call0_0, e_call0_1, e_call0_2, e_call0_3, e_call0_4, e_call1_0, e_call1_1, e_call1_2, e_call1_3, e_call1_4, e_call2_0, e_call2_1, e_call2_2, e_call2_3, e_call2_4, e_call3_0, e_call3_1, e_call3_2, e_call3_3, e_call3_4, e_call4_0, e_call4_1, e_call4_2, e_call4_3, e_call4_4, e_call5_0, e_call5_1, e_call5_2, e_call5_3, e_call5_4, e_call6_0, e_call6_1, e_call6_2, e_call6_3, e_call6_4, xP, xld, xst1, xst2, xis2, xii, xid, xll, xlv, xls, xlc, xil, xli, xrd, xdup, xdup2, xc1, xpu, c_eq, c_ne, c_lt, c_ge, c_gt, c_le, Option.bind_some, Option.map_some, List.length_nil, List.length_cons, Nat.reduceAdd, Nat.reduceLeDiff, Int.reduceToNat, Bool.and_self, Bool.false_eq_true, if_true, if_false, D146_56, o_m, g_m_0, g_m_1, g_m_2, g_m_3, g_m_4, g_m_5, g_m_6, g_m_7, g_m_8, g_m_9, g_m_10, g_m_11, g_m_12, g_m_13, g_m_14, g_m_15, g_m_16, g_m_17, g_m_18, g_m_19, g_m_20, g_m_21, p_m_3, p_m_7, p_m_8, p_m_11, p_m_13, p_m_15, p_m_16, p_m_17, p_m_18, p_m_21, p_m_5_0, p_m_5_1, r_m0, s_m0, r_m1, s_m1, r_m2, s_m2, r_m4, s_m4, r_m6, s_m6, r_m9, s_m9, r_m10, s_m10, r_m12, s_m12, r_m14, s_m14, r_m19, s_m19, r_m20, s_m20, Nat.reduceEqDiff, decide_true, decide_false, Bool.true_and, Bool.false_and, Bool.and_true, Bool.and_false, zB_tt, zB_ff, not_false_eq_true, not_true_eq_false, n_lit, n_mul, nI_add, n_sub, x_in, nI_clamp, nI_ltI, nI_leI, nI_eq, and_self, true_and, and_true, h1, vu_n, vu_s, vu_vu, r57, t_ofRule, e4, er, hb])
  simp only [sfK_0, sfK_end] at hl
  rw [hl, D146_15]
  simp (maxSteps := 2000000) (disch := omega) only [e_inl, e_goto, e_fall, e_if, e_icmp, e_iret, e_zret, e_lret, e_vret, e_call0_0, e_call0_1, e_call0_2, e_call0_3, e_call0_4, e_call1_0, e_call1_1, e_call1_2, e_call1_3, e_call1_4, e_call2_0, e_call2_1, e_call2_2, e_call2_3, e_call2_4, e_call3_0, e_call3_1, e_call3_2, e_call3_3, e_call3_4, e_call4_0, e_call4_1, e_call4_2, e_call4_3, e_call4_4, e_call5_0, e_call5_1, e_call5_2, e_call5_3, e_call5_4, e_call6_0, e_call6_1, e_call6_2, e_call6_3, e_call6_4, xP, xld, xst1, xst2, xis2, xii, xid, xll, xlv, xls, xlc, xil, xli, xrd, xdup, xdup2, xc1, xpu, c_eq, c_ne, c_lt, c_ge, c_gt, c_le, Option.bind_some, Option.map_some, List.length_nil, List.length_cons, Nat.reduceAdd, Nat.reduceLeDiff, Int.reduceToNat, Bool.and_self, Bool.false_eq_true, if_true, if_false, D146_62, o_m, g_m_0, g_m_1, g_m_2, g_m_3, g_m_4, g_m_5, g_m_6, g_m_7, g_m_8, g_m_9, g_m_10, g_m_11, g_m_12, g_m_13, g_m_14, g_m_15, g_m_16, g_m_17, g_m_18, g_m_19, g_m_20, g_m_21, p_m_3, p_m_7, p_m_8, p_m_11, p_m_13, p_m_15, p_m_16, p_m_17, p_m_18, p_m_21, p_m_5_0, p_m_5_1, r_m0, s_m0, r_m1, s_m1, r_m2, s_m2, r_m4, s_m4, r_m6, s_m6, r_m9, s_m9, r_m10, s_m10, r_m12, s_m12, r_m14, s_m14, r_m19, s_m19, r_m20, s_m20, Nat.reduceEqDiff, decide_true, decide_false, Bool.true_and, Bool.false_and, Bool.and_true, Bool.and_false, zB_tt, zB_ff, not_false_eq_true, not_true_eq_false, n_lit, n_mul, nI_add, n_sub, x_in, nI_clamp, nI_ltI, nI_leI, nI_eq, and_self, true_and, and_true, vu_n, r57, Nat.le_refl]
end
