/-! ===== which soft rules are kept, as the reference looks at them ===== -/
/-- whether a set that is there holds all of r -/
def trS (tm : Nat → Bool) (r : Nat) : Bool := exB (fun s => tm s && decide (r ^^^ (r &&& s) = 0)) 256
/-- rules of a list taken one by one, those that can be kept -/
def kfT (sm : Nat → Bool) (r : Nat) (l : List Nat) : Nat := l.foldl (fun r k => if sm (r ||| 2 ^ k) = true then r ||| 2 ^ k else r) r
theorem kfT_snoc (sm : Nat → Bool) (r : Nat) (l : List Nat) (k : Nat) : kfT sm r (l ++ [k]) = if sm (kfT sm r l ||| 2 ^ k) = true then kfT sm r l ||| 2 ^ k else kfT sm r l := by
  unfold kfT
  rw [List.foldl_append]
  rfl
theorem kfT_lt {sm : Nat → Bool} : ∀ (l : List Nat) {r : Nat}, r < 256 → (∀ k, k ∈ l → k < 8) → kfT sm r l < 256
  | [], r, hr, _ => hr
  | k :: l, r, hr, h => by
    have h2 := h k List.mem_cons_self
    have h3 : 2 ^ k < 2 ^ 8 := Nat.pow_lt_pow_right (by decide) h2
    have e : kfT sm r (k :: l) = kfT sm (if sm (r ||| 2 ^ k) = true then r ||| 2 ^ k else r) l := rfl
    rw [e]
    refine kfT_lt l ?_ (fun j hj => h j (List.mem_cons_of_mem _ hj))
    split
    · exact Nat.or_lt_two_pow (n := 8) hr h3
    · exact hr
/-- hard rules -/
def hdR (σ : mS) : Nat := bset (fun k => decide (mR σ k 4 = 0)) (mK σ)
theorem hdR_lt {σ : mS} (hw : wf σ) : hdR σ < 256 := Nat.lt_of_lt_of_le (bset_lt _ _) (Nat.pow_le_pow_right (by decide) hw.2.2.2.2.2.2.1)
section
variable {q : Nat × (Nat → Int32)} {S : Nat → xSt} {P : Int32 × (Nat → Nat)} {A : (Nat → Int64) × Int32 × Int32 × (Nat → Int64) × (Nat → Nat → Int64)} {D : (Nat → Int64) × Int64} {K : Nat → Int64} {X : Int32 × Int32 × Int32 × (Nat → Int32) × (Nat → Int32)} {E Z : Nat → Int32} {I : Nat → Int32} {J : Nat → Int64} {V : Nat → Nat → Int32}
theorem t_soft_78 {σ : mS} {tm : Nat → Bool} (hw : wf σ) (h9 : ∀ s, s < 256 → V 9 s = zB (tm s)) (b : Nat → Int32) {z : Option Value} (hl10 : I 11 = nI (sfL σ 10).length) (hv10 : V 10 = layL (sfL σ 10) b) (h0 : I 8 = nI (hdR σ)) : den 146 78 [some (.ref 163), some (.int (nI 0)), z] [] (hp q S P A D K X E Z I J V) = some (none, (hp q S P A D K X E Z (upd I 8 (nI (kfT (trS tm) (hdR σ) (sfL σ 10)))) J V)) := by
  have h8 := hw.2.2.2.2.2.2.1
  have hlen : (sfL σ 10).length ≤ 8 := by
    have := sfK_len σ (r := 9) (k := mK σ) (Nat.le_refl _)
    rw [sfK_end] at this
    exact Nat.le_trans this h8
  have hl := x_loop (i := 146) (pc := 78) (fun i => [some (.ref 163), some (.int (nI i)), z]) (fun i => (hp q S P A D K X E Z (upd I 8 (nI (kfT (trS tm) (hdR σ) ((sfL σ 10).take i)))) J V)) (sfL σ 10).length (fun i hi => by
    rw [D146_78]
    have h1 : ¬ (sfL σ 10).length ≤ i := by omega
    have hmem : ∀ k, k ∈ (sfL σ 10).take i → k < 8 := fun k hk => by
      have := sfL_mem (List.mem_of_mem_take hk)
      omega
    have hk256 := kfT_lt (sm := trS tm) _ (hdR_lt hw) hmem
    have ek : (sfL σ 10).getD i 0 = (sfL σ 10)[i] := by simp [List.getD_eq_getElem?_getD, hi]
    have hk8 : (sfL σ 10)[i] < 8 := by
      have := sfL_mem (List.getElem_mem hi)
      omega
    have ev : layL (sfL σ 10) b i = nI (sfL σ 10)[i] := by
      unfold layL
      rw [if_pos hi, ek]
    have etk : (sfL σ 10).take (i + 1) = (sfL σ 10).take i ++ [(sfL σ 10)[i]] := (List.take_append_getElem hi).symm
    rw [etk, kfT_snoc]
    generalize hK : kfT (trS tm) (hdR σ) ((sfL σ 10).take i) = r at hk256 ⊢
    generalize hk : (sfL σ 10)[i] = k at hk8 ev ⊢
    have hp2 : (2 : Nat) ^ k < 2 ^ 8 := Nat.pow_lt_pow_right (by decide) hk8
    have hor : r ||| 2 ^ k < 2 ^ 8 := Nat.or_lt_two_pow hk256 hp2
    have hs : ∀ (I' : Nat → Int32), xcall 142 [.ref 163, .int (nI (r ||| 2 ^ k))] (hp q S P A D K X E Z (I') J V) = some (some (.int (zB (trS tm (r ||| 2 ^ k)))), (hp q S P A D K X E Z (I') J V)) := fun I' => t_isSome (by omega) h9
    have e5 : ∀ y, upd (upd I 8 (nI r)) 8 y = upd I 8 y := fun y => fa_upd_twice _ _ _ _
    cases ht : trS tm (r ||| 2 ^ k)
    · simp (maxSteps := 2000000) (disch := omega) only [e_inl, e_goto, e_fall, e_if, e_icmp, e_iret, e_zret, e_lret, e_vret, e_call0_0, e_call0_1, e_call0_2, e_call0_3, e_call0_4, e_call1_0, e_call1_1, e_call1_2, e_call1_3, e_call1_4, e_call2_0, e_call2_1, e_call2_2, e_call2_3, e_call2_4, e_call3_0, e_call3_1, e_call3_2, e_call3_3, e_call3_4, e_call4_0, e_call4_1, e_call4_2, e_call4_3, e_call4_4, e_call5_0, e_call5_1, e_call5_2, e_call5_3, e_call5_4, e_call6_0, e_call6_1, e_call6_2, e_call6_3, e_call6_4, xP, xld, xst1, xst2, xis2, xii, xid, xll, xlv, xls, xlc, xil, xli, xrd, xdup, xdup2, xc1, xpu, c_eq, c_ne, c_lt, c_ge, c_gt, c_le, Option.bind_some, Option.map_some, List.length_nil, List.length_cons, Nat.reduceAdd, Nat.reduceLeDiff, Int.reduceToNat, Bool.and_self, Bool.false_eq_true, if_true, if_false, D146_122, D146_123, o_m, g_m_0, g_m_1, g_m_2, g_m_3, g_m_4, g_m_5, g_m_6, g_m_7, g_m_8, g_m_9, g_m_10, g_m_11, g_m_12, g_m_13, g_m_14, g_m_15, g_m_16, g_m_17, g_m_18, g_m_19, g_m_20, g_m_21, p_m_3, p_m_7, p_m_8, p_m_11, p_m_13, p_m_15, p_m_16, p_m_17, p_m_18, p_m_21, p_m_5_0, p_m_5_1, r_m0, s_m0, r_m1, s_m1, r_m2, s_m2, r_m4, s_m4, r_m6, s_m6, r_m9, s_m9, r_m10, s_m10, r_m12, s_m12, r_m14, s_m14, r_m19, s_m19, r_m20, s_m20, Nat.reduceEqDiff, decide_true, decide_false, Bool.true_and, Bool.false_and, Bool.and_true, Bool.and_false, zB_tt, zB_ff, not_false_eq_true, not_true_eq_false, n_lit, n_mul, nI_add, n_sub, x_in, nI_clamp, nI_ltI, nI_leI, nI_eq, and_self, true_and, and_true, u_n, u_s, hl10, h1, hv10, ev, n_shl, Nat.one_mul, fa_or, hs, ht, n_0, Nat.or_zero, e5, Bool.false_eq_true, if_false]
    · simp (maxSteps := 2000000) (disch := omega) only [e_inl, e_goto, e_fall, e_if, e_icmp, e_iret, e_zret, e_lret, e_vret, e_call0_0, e_call0_1, e_call0_2, e_call0_3, e_call0_4, e_call1_0, e_call1_1, e_call1_2, e_call1_3, e_call1_4, e_call2_0, e_call2_1, e_call2_2, e_call2_3, e_call2_4, e_call3_0, e_call3_1, e_call3_2, e_call3_3, e_call3_4, e_call4_0, e_call4_1, e_call4_2, e_call4_3, e_call4_4, e_call5_0, e_call5_1, e_call5_2, e_call5_3, e_call5_4, e_call6_0, e_call6_1, e_call6_2, e_call6_3, e_call6_4, xP, xld, xst1, xst2, xis2, xii, xid, xll, xlv, xls, xlc, xil, xli, xrd, xdup, xdup2, xc1, xpu, c_eq, c_ne, c_lt, c_ge, c_gt, c_le, Option.bind_some, Option.map_some, List.length_nil, List.length_cons, Nat.reduceAdd, Nat.reduceLeDiff, Int.reduceToNat, Bool.and_self, Bool.false_eq_true, if_true, if_false, D146_122, D146_123, o_m, g_m_0, g_m_1, g_m_2, g_m_3, g_m_4, g_m_5, g_m_6, g_m_7, g_m_8, g_m_9, g_m_10, g_m_11, g_m_12, g_m_13, g_m_14, g_m_15, g_m_16, g_m_17, g_m_18, g_m_19, g_m_20, g_m_21, p_m_3, p_m_7, p_m_8, p_m_11, p_m_13, p_m_15, p_m_16, p_m_17, p_m_18, p_m_21, p_m_5_0, p_m_5_1, r_m0, s_m0, r_m1, s_m1, r_m2, s_m2, r_m4, s_m4, r_m6, s_m6, r_m9, s_m9, r_m10, s_m10, r_m12, s_m12, r_m14, s_m14, r_m19, s_m19, r_m20, s_m20, Nat.reduceEqDiff, decide_true, decide_false, Bool.true_and, Bool.false_and, Bool.and_true, Bool.and_false, zB_tt, zB_ff, not_false_eq_true, not_true_eq_false, n_lit, n_mul, nI_add, n_sub, x_in, nI_clamp, nI_ltI, nI_leI, nI_eq, and_self, true_and, and_true, u_n, u_s, hl10, h1, hv10, ev, n_shl, Nat.one_mul, fa_or, hs, ht, n_0, e5, Nat.one_ne_zero])
  have e0 : upd I 8 (nI (kfT (trS tm) (hdR σ) ((sfL σ 10).take 0))) = I := by
    rw [List.take_zero]
    exact fa_upd_same h0
  simp only [e0, List.take_length] at hl
  rw [hl, D146_78]
  simp (maxSteps := 2000000) (disch := omega) only [e_inl, e_goto, e_fall, e_if, e_icmp, e_iret, e_zret, e_lret, e_vret, e_call0_0, e_call0_1, e_call0_2, e_call0_3, e_call0_4, e_call1_0, e_call1_1, e_call1_2, e_call1_3, e_call1_4, e_call2_0, e_call2_1, e_call2_2, e_call2_3, e_call2_4, e_call3_0, e_call3_1, e_call3_2, e_call3_3, e_call3_4, e_call4_0, e_call4_1, e_call4_2, e_call4_3, e_call4_4, e_call5_0, e_call5_1, e_call5_2, e_call5_3, e_call5_4, e_call6_0, e_call6_1, e_call6_2, e_call6_3, e_call6_4, xP, xld, xst1, xst2, xis2, xii, xid, xll, xlv, xls, xlc, xil, xli, xrd, xdup, xdup2, xc1, xpu, c_eq, c_ne, c_lt, c_ge, c_gt, c_le, Option.bind_some, Option.map_some, List.length_nil, List.length_cons, Nat.reduceAdd, Nat.reduceLeDiff, Int.reduceToNat, Bool.and_self, Bool.false_eq_true, if_true, if_false, D146_133, o_m, g_m_0, g_m_1, g_m_2, g_m_3, g_m_4, g_m_5, g_m_6, g_m_7, g_m_8, g_m_9, g_m_10, g_m_11, g_m_12, g_m_13, g_m_14, g_m_15, g_m_16, g_m_17, g_m_18, g_m_19, g_m_20, g_m_21, p_m_3, p_m_7, p_m_8, p_m_11, p_m_13, p_m_15, p_m_16, p_m_17, p_m_18, p_m_21, p_m_5_0, p_m_5_1, r_m0, s_m0, r_m1, s_m1, r_m2, s_m2, r_m4, s_m4, r_m6, s_m6, r_m9, s_m9, r_m10, s_m10, r_m12, s_m12, r_m14, s_m14, r_m19, s_m19, r_m20, s_m20, Nat.reduceEqDiff, decide_true, decide_false, Bool.true_and, Bool.false_and, Bool.and_true, Bool.and_false, zB_tt, zB_ff, not_false_eq_true, not_true_eq_false, n_lit, n_mul, nI_add, n_sub, x_in, nI_clamp, nI_ltI, nI_leI, nI_eq, and_self, true_and, and_true, u_n, hl10, Nat.le_refl]
theorem t_lookAtSoft {σ : mS} {tm : Nat → Bool} (hw : wf σ) (hr : rpA σ (V 0)) (h9 : ∀ s, s < 256 → V 9 s = zB (tm s)) : xcall 146 [.ref 163] (hp q S P A D K X E Z I J V) = some (none, (hp q S P A D K X E Z (upd (upd (upd I 11 (nI (sfL σ 10).length)) 8 (nI (hdR σ))) 8 (nI (kfT (trS tm) (hdR σ) (sfL σ 10)))) J (vf_upd V 10 (layL (sfL σ 10) (V 10))))) := by
  rw [N146 _ _ (o_m ..)]
  simp (maxSteps := 2000000) (disch := omega) only [e_inl, e_goto, e_fall, e_if, e_icmp, e_iret, e_zret, e_lret, e_vret, e_call0_0, e_call0_1, e_call0_2, e_call0_3, e_call0_4, e_call1_0, e_call1_1, e_call1_2, e_call1_3, e_call1_4, e_call2_0, e_call2_1, e_call2_2, e_call2_3, e_call2_4, e_call3_0, e_call3_1, e_call3_2, e_call3_3, e_call3_4, e_call4_0, e_call4_1, e_call4_2, e_call4_3, e_call4_4, e_call5_0, e_call5_1, e_call5_2, e_call5_3, e_call5_4, e_call6_0, e_call6_1, e_call6_2, e_call6_3, e_call6_4, xP, xld, xst1, xst2, xis2, xii, xid, xll, xlv, xls, xlc, xil, xli, xrd, xdup, xdup2, xc1, xpu, c_eq, c_ne, c_lt, c_ge, c_gt, c_le, Option.bind_some, Option.map_some, List.length_nil, List.length_cons, Nat.reduceAdd, Nat.reduceLeDiff, Int.reduceToNat, Bool.and_self, Bool.false_eq_true, if_true, if_false, D146_0, o_m, g_m_0, g_m_1, g_m_2, g_m_3, g_m_4, g_m_5, g_m_6, g_m_7, g_m_8, g_m_9, g_m_10, g_m_11, g_m_12, g_m_13, g_m_14, g_m_15, g_m_16, g_m_17, g_m_18, g_m_19, g_m_20, g_m_21, p_m_3, p_m_7, p_m_8, p_m_11, p_m_13, p_m_15, p_m_16, p_m_17, p_m_18, p_m_21, p_m_5_0, p_m_5_1, r_m0, s_m0, r_m1, s_m1, r_m2, s_m2, r_m4, s_m4, r_m6, s_m6, r_m9, s_m9, r_m10, s_m10, r_m12, s_m12, r_m14, s_m14, r_m19, s_m19, r_m20, s_m20, Nat.reduceEqDiff, decide_true, decide_false, Bool.true_and, Bool.false_and, Bool.and_true, Bool.and_false, zB_tt, zB_ff, not_false_eq_true, not_true_eq_false, n_lit, n_mul, nI_add, n_sub, x_in, nI_clamp, nI_ltI, nI_leI, nI_eq, and_self, true_and, and_true]
  have hz : den 146 7 [some (.ref 163), some (.int (nI 0)), none] [] (hp q S P A D K X E Z (upd I 11 (nI 0)) J V) = den 146 7 [some (.ref 163), some (.int (nI 10)), some (.int (nI (mK σ)))] [] (hp q S P A D K X E Z (upd I 11 (nI (sfL σ 10).length)) J (vf_upd V 10 (layL (sfL σ 10) (V 10)))) := by
    have go : ∀ (r : Nat) (z : Option Value), r < 10 → den 146 7 [some (.ref 163), some (.int (nI r)), z] [] (hp q S P A D K X E Z (upd I 11 (nI (sfL σ r).length)) J (vf_upd V 10 (layL (sfL σ r) (V 10)))) = den 146 7 [some (.ref 163), some (.int (nI (r + 1))), some (.int (nI (mK σ)))] [] (hp q S P A D K X E Z (upd I 11 (nI (sfL σ (r + 1)).length)) J (vf_upd V 10 (layL (sfL σ (r + 1)) (V 10)))) := by
      intro r z h10
      rw [D146_7]
      have h1 : ¬ 10 ≤ r := by omega
      simp (maxSteps := 2000000) (disch := omega) only [e_inl, e_goto, e_fall, e_if, e_icmp, e_iret, e_zret, e_lret, e_vret, e_call0_0, e_call0_1, e_call0_2, e_call0_3, e_call0_4, e_call1_0, e_call1_1, e_call1_2, e_call1_3, e_call1_4, e_call2_0, e_call2_1, e_call2_2, e_call2_3, e_call2_4, e_call3_0, e_call3_1, e_call3_2, e_call3_3, e_call3_4, e_call4_0, e_call4_1, e_call4_2, e_call4_3, e_call4_4, e_call5_0, e_call5_1, e_call5_2, e_call5_3, e_call5_4, e_call6_0, e_call6_1, e_call6_2, e_call6_3, e_call6_4, xP, xld, xst1, xst2, xis2, xii, xid, xll, xlv, xls, xlc, xil, xli, xrd, xdup, xdup2, xc1, xpu, c_eq, c_ne, c_lt, c_ge, c_gt, c_le, Option.bind_some, Option.map_some, List.length_nil, List.length_cons, Nat.reduceAdd, Nat.reduceLeDiff, Int.reduceToNat, Bool.and_self, Bool.false_eq_true, if_true, if_false, o_m, g_m_0, g_m_1, g_m_2, g_m_3, g_m_4, g_m_5, g_m_6, g_m_7, g_m_8, g_m_9, g_m_10, g_m_11, g_m_12, g_m_13, g_m_14, g_m_15, g_m_16, g_m_17, g_m_18, g_m_19, g_m_20, g_m_21, p_m_3, p_m_7, p_m_8, p_m_11, p_m_13, p_m_15, p_m_16, p_m_17, p_m_18, p_m_21, p_m_5_0, p_m_5_1, r_m0, s_m0, r_m1, s_m1, r_m2, s_m2, r_m4, s_m4, r_m6, s_m6, r_m9, s_m9, r_m10, s_m10, r_m12, s_m12, r_m14, s_m14, r_m19, s_m19, r_m20, s_m20, Nat.reduceEqDiff, decide_true, decide_false, Bool.true_and, Bool.false_and, Bool.and_true, Bool.and_false, zB_tt, zB_ff, not_false_eq_true, not_true_eq_false, n_lit, n_mul, nI_add, n_sub, x_in, nI_clamp, nI_ltI, nI_leI, nI_eq, and_self, true_and, and_true, h1]
      exact t_soft_15 hw hr h10 (V 10)
    have hl := x_loop (i := 146) (pc := 7) (fun r => [some (.ref 163), some (.int (nI (r + 1))), some (.int (nI (mK σ)))]) (fun r => (hp q S P A D K X E Z (upd I 11 (nI (sfL σ (r + 1)).length)) J (vf_upd V 10 (layL (sfL σ (r + 1)) (V 10))))) 9 (fun r h9r => go (r + 1) _ (by omega))
    have h0 := go 0 none (by omega)
    have e0 : sfL σ 0 = [] := rfl
    rw [e0, layL_nil, vu_id] at h0
    exact h0.trans hl
  rw [hz, D146_7]
  have hh := t_hard (q := q) (S := S) (P := P) (A := A) (D := D) (K := K) (X := X) (E := E) (Z := Z) (I := upd I 11 (nI (sfL σ 10).length)) (J := J) (V := vf_upd V 10 (layL (sfL σ 10) (V 10))) hw (by rw [vu_n _ _ (by omega)]; exact hr)
  simp (maxSteps := 2000000) (disch := omega) only [e_inl, e_goto, e_fall, e_if, e_icmp, e_iret, e_zret, e_lret, e_vret, e_call0_0, e_call0_1, e_call0_2, e_call0_3, e_call0_4, e_call1_0, e_call1_1, e_call1_2, e_call1_3, e_call1_4, e_call2_0, e_call2_1, e_call2_2, e_call2_3, e_call2_4, e_call3_0, e_call3_1, e_call3_2, e_call3_3, e_call3_4, e_call4_0, e_call4_1, e_call4_2, e_call4_3, e_call4_4, e_call5_0, e_call5_1, e_call5_2, e_call5_3, e_call5_4, e_call6_0, e_call6_1, e_call6_2, e_call6_3, e_call6_4, xP, xld, xst1, xst2, xis2, xii, xid, xll, xlv, xls, xlc, xil, xli, xrd, xdup, xdup2, xc1, xpu, c_eq, c_ne, c_lt, c_ge, c_gt, c_le, Option.bind_some, Option.map_some, List.length_nil, List.length_cons, Nat.reduceAdd, Nat.reduceLeDiff, Int.reduceToNat, Bool.and_self, Bool.false_eq_true, if_true, if_false, D146_68, o_m, g_m_0, g_m_1, g_m_2, g_m_3, g_m_4, g_m_5, g_m_6, g_m_7, g_m_8, g_m_9, g_m_10, g_m_11, g_m_12, g_m_13, g_m_14, g_m_15, g_m_16, g_m_17, g_m_18, g_m_19, g_m_20, g_m_21, p_m_3, p_m_7, p_m_8, p_m_11, p_m_13, p_m_15, p_m_16, p_m_17, p_m_18, p_m_21, p_m_5_0, p_m_5_1, r_m0, s_m0, r_m1, s_m1, r_m2, s_m2, r_m4, s_m4, r_m6, s_m6, r_m9, s_m9, r_m10, s_m10, r_m12, s_m12, r_m14, s_m14, r_m19, s_m19, r_m20, s_m20, Nat.reduceEqDiff, decide_true, decide_false, Bool.true_and, Bool.false_and, Bool.and_true, Bool.and_false, zB_tt, zB_ff, not_false_eq_true, not_true_eq_false, n_lit, n_mul, nI_add, n_sub, x_in, nI_clamp, nI_ltI, nI_leI, nI_eq, and_self, true_and, and_true, Nat.le_refl, hh]
  rw [t_soft_78 (tm := tm) hw (fun s hs => by rw [vu_n _ _ (by omega)]; exact h9 s hs) (V 10)]
  · rfl
  · rw [u_n _ _ (by omega), u_s]
  · rw [vu_s]
  · rw [u_s]; rfl
end
