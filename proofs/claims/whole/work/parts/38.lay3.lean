/-! ===== the reference lays the lawful rows (3), and reads them ===== -/
/-- laid, or to be laid -/
def LayI (σ : mS) (I : Nat → Int32) (V : Nat → Nat → Int32) : Prop := I 5 = nI 0 ∨ (I 5 = nI 1 ∧ Laid σ I V)
/-- what laying leaves alone -/
def Kept (I I' : Nat → Int32) (V V' : Nat → Nat → Int32) : Prop := (∀ k, k ≠ 5 → k ≠ 7 → k ≠ 8 → k ≠ 11 → I' k = I k) ∧ ∀ k, k ≠ 6 → k ≠ 9 → k ≠ 10 → V' k = V k
theorem Kept.rf (I : Nat → Int32) (V : Nat → Nat → Int32) : Kept I I V V := ⟨fun _ _ _ _ _ => rfl, fun _ _ _ _ => rfl⟩
theorem layL_at {l : List Nat} {b : Nat → Int32} {i : Nat} (h : i < l.length) : layL l b i = nI (l.getD i 0) := if_pos h
def layIf (σ : mS) (I : Nat → Int32) : Nat → Int32 := upd (upd (upd (upd (upd I 5 (nI 1)) 11 (nI (sfL σ 10).length)) 8 (nI (hdR σ))) 8 (nI (kpR σ))) 7 (nI (lwL σ 4096).length)
def layV1 (σ : mS) (V : Nat → Nat → Int32) : Nat → Nat → Int32 := vf_upd (vf_upd V 9 (smA σ (V 9) 4096)) 10 (layL (sfL σ 10) (vf_upd V 9 (smA σ (V 9) 4096) 10))
def layVf (σ : mS) (V : Nat → Nat → Int32) : Nat → Nat → Int32 := vf_upd (layV1 σ V) 6 (layL (lwL σ 4096) (layV1 σ V 6))
section
variable {q : Nat × (Nat → Int32)} {S : Nat → xSt} {P : Int32 × (Nat → Nat)} {A : (Nat → Int64) × Int32 × Int32 × (Nat → Int64) × (Nat → Nat → Int64)} {D : (Nat → Int64) × Int64} {K : Nat → Int64} {X : Int32 × Int32 × Int32 × (Nat → Int32) × (Nat → Int32)} {E Z : Nat → Int32} {I : Nat → Int32} {J : Nat → Int64} {V : Nat → Nat → Int32}
theorem t_layA {σ : mS} (hw : wf σ) (hr : rpA σ (V 0)) (hL : LayI σ I V) : ∃ (I' : Nat → Int32) (V' : Nat → Nat → Int32), xcall 147 [.ref 163] (hp q S P A D K X E Z I J V) = some (none, (hp q S P A D K X E Z (I') J (V'))) ∧ I' 5 = nI 1 ∧ Laid σ I' V' ∧ Kept I I' V V' := by
  rcases hL with h5 | ⟨h5, hl⟩
  · refine ⟨layIf σ I, layVf σ V, ?_, ?_, ?_, ?_⟩
    · rw [N147 _ _ (o_m ..)]
      have ez : zB false = nI 0 := rfl
      simp (maxSteps := 2000000) (disch := omega) only [e_inl, e_goto, e_fall, e_if, e_icmp, e_iret, e_zret, e_lret, e_vret, e_call0_0, e_call0_1, e_call0_2, e_call0_3, e_call0_4, e_call1_0, e_call1_1, e_call1_2, e_call1_3, e_call1_4, e_call2_0, e_call2_1, e_call2_2, e_call2_3, e_call2_4, e_call3_0, e_call3_1, e_call3_2, e_call3_3, e_call3_4, e_call4_0, e_call4_1, e_call4_2, e_call4_3, e_call4_4, e_call5_0, e_call5_1, e_call5_2, e_call5_3, e_call5_4, e_call6_0, e_call6_1, e_call6_2, e_call6_3, e_call6_4, xP, xld, xst1, xst2, xis2, xii, xid, xll, xlv, xls, xlc, xil, xli, xrd, xdup, xdup2, xc1, xpu, c_eq, c_ne, c_lt, c_ge, c_gt, c_le, Option.bind_some, Option.map_some, List.length_nil, List.length_cons, Nat.reduceAdd, Nat.reduceLeDiff, Int.reduceToNat, Bool.and_self, Bool.false_eq_true, if_true, if_false, D147_0, D147_8, o_m, g_m_0, g_m_1, g_m_2, g_m_3, g_m_4, g_m_5, g_m_6, g_m_7, g_m_8, g_m_9, g_m_10, g_m_11, g_m_12, g_m_13, g_m_14, g_m_15, g_m_16, g_m_17, g_m_18, g_m_19, g_m_20, g_m_21, p_m_3, p_m_7, p_m_8, p_m_11, p_m_13, p_m_15, p_m_16, p_m_17, p_m_18, p_m_21, p_m_5_0, p_m_5_1, r_m0, s_m0, r_m1, s_m1, r_m2, s_m2, r_m4, s_m4, r_m6, s_m6, r_m9, s_m9, r_m10, s_m10, r_m12, s_m12, r_m14, s_m14, r_m19, s_m19, r_m20, s_m20, Nat.reduceEqDiff, decide_true, decide_false, Bool.true_and, Bool.false_and, Bool.and_true, Bool.and_false, zB_tt, zB_ff, not_false_eq_true, not_true_eq_false, n_lit, n_mul, nI_add, n_sub, x_in, nI_clamp, nI_ltI, nI_leI, nI_eq, and_self, true_and, and_true, h5, n_0]
      rw [t_lay_15 (z := none), D147_35]
      have hr1 : rpA σ (vf_upd V 9 (fa_fill (fun _ => nI 0) (V 9) 256) 0) := by rw [vu_n _ _ (by omega)]; exact hr
      simp (maxSteps := 2000000) (disch := omega) only [e_inl, e_goto, e_fall, e_if, e_icmp, e_iret, e_zret, e_lret, e_vret, e_call0_0, e_call0_1, e_call0_2, e_call0_3, e_call0_4, e_call1_0, e_call1_1, e_call1_2, e_call1_3, e_call1_4, e_call2_0, e_call2_1, e_call2_2, e_call2_3, e_call2_4, e_call3_0, e_call3_1, e_call3_2, e_call3_3, e_call3_4, e_call4_0, e_call4_1, e_call4_2, e_call4_3, e_call4_4, e_call5_0, e_call5_1, e_call5_2, e_call5_3, e_call5_4, e_call6_0, e_call6_1, e_call6_2, e_call6_3, e_call6_4, xP, xld, xst1, xst2, xis2, xii, xid, xll, xlv, xls, xlc, xil, xli, xrd, xdup, xdup2, xc1, xpu, c_eq, c_ne, c_lt, c_ge, c_gt, c_le, Option.bind_some, Option.map_some, List.length_nil, List.length_cons, Nat.reduceAdd, Nat.reduceLeDiff, Int.reduceToNat, Bool.and_self, Bool.false_eq_true, if_true, if_false, o_m, g_m_0, g_m_1, g_m_2, g_m_3, g_m_4, g_m_5, g_m_6, g_m_7, g_m_8, g_m_9, g_m_10, g_m_11, g_m_12, g_m_13, g_m_14, g_m_15, g_m_16, g_m_17, g_m_18, g_m_19, g_m_20, g_m_21, p_m_3, p_m_7, p_m_8, p_m_11, p_m_13, p_m_15, p_m_16, p_m_17, p_m_18, p_m_21, p_m_5_0, p_m_5_1, r_m0, s_m0, r_m1, s_m1, r_m2, s_m2, r_m4, s_m4, r_m6, s_m6, r_m9, s_m9, r_m10, s_m10, r_m12, s_m12, r_m14, s_m14, r_m19, s_m19, r_m20, s_m20, Nat.reduceEqDiff, decide_true, decide_false, Bool.true_and, Bool.false_and, Bool.and_true, Bool.and_false, zB_tt, zB_ff, not_false_eq_true, not_true_eq_false, n_lit, n_mul, nI_add, n_sub, x_in, nI_clamp, nI_ltI, nI_leI, nI_eq, and_self, true_and, and_true, t_first hw hr1]
      rw [← smA_0 σ (V 9), t_lay_40 hw hr (V 9), D147_65]
      have hr2 : rpA σ (vf_upd V 9 (smA σ (V 9) 4096) 0) := by rw [vu_n _ _ (by omega)]; exact hr
      have hs := t_lookAtSoft (q := q) (S := S) (P := P) (A := A) (D := D) (K := K) (X := X) (E := E) (Z := Z) (I := upd I 5 (nI 1)) (J := J) (V := vf_upd V 9 (smA σ (V 9) 4096)) (tm := tmS σ 4096) hw hr2 (fun s hs => by rw [vu_s]; exact if_pos hs)
      rw [kfT_cong (smR_tr hw)] at hs
      have hr3 : rpA σ (vf_upd (vf_upd V 9 (smA σ (V 9) 4096)) 10 (layL (sfL σ 10) (vf_upd V 9 (smA σ (V 9) 4096) 10)) 0) := by rw [vu_n _ _ (by omega)]; exact hr2
      simp (maxSteps := 2000000) (disch := omega) only [e_inl, e_goto, e_fall, e_if, e_icmp, e_iret, e_zret, e_lret, e_vret, e_call0_0, e_call0_1, e_call0_2, e_call0_3, e_call0_4, e_call1_0, e_call1_1, e_call1_2, e_call1_3, e_call1_4, e_call2_0, e_call2_1, e_call2_2, e_call2_3, e_call2_4, e_call3_0, e_call3_1, e_call3_2, e_call3_3, e_call3_4, e_call4_0, e_call4_1, e_call4_2, e_call4_3, e_call4_4, e_call5_0, e_call5_1, e_call5_2, e_call5_3, e_call5_4, e_call6_0, e_call6_1, e_call6_2, e_call6_3, e_call6_4, xP, xld, xst1, xst2, xis2, xii, xid, xll, xlv, xls, xlc, xil, xli, xrd, xdup, xdup2, xc1, xpu, c_eq, c_ne, c_lt, c_ge, c_gt, c_le, Option.bind_some, Option.map_some, List.length_nil, List.length_cons, Nat.reduceAdd, Nat.reduceLeDiff, Int.reduceToNat, Bool.and_self, Bool.false_eq_true, if_true, if_false, o_m, g_m_0, g_m_1, g_m_2, g_m_3, g_m_4, g_m_5, g_m_6, g_m_7, g_m_8, g_m_9, g_m_10, g_m_11, g_m_12, g_m_13, g_m_14, g_m_15, g_m_16, g_m_17, g_m_18, g_m_19, g_m_20, g_m_21, p_m_3, p_m_7, p_m_8, p_m_11, p_m_13, p_m_15, p_m_16, p_m_17, p_m_18, p_m_21, p_m_5_0, p_m_5_1, r_m0, s_m0, r_m1, s_m1, r_m2, s_m2, r_m4, s_m4, r_m6, s_m6, r_m9, s_m9, r_m10, s_m10, r_m12, s_m12, r_m14, s_m14, r_m19, s_m19, r_m20, s_m20, Nat.reduceEqDiff, decide_true, decide_false, Bool.true_and, Bool.false_and, Bool.and_true, Bool.and_false, zB_tt, zB_ff, not_false_eq_true, not_true_eq_false, n_lit, n_mul, nI_add, n_sub, x_in, nI_clamp, nI_ltI, nI_leI, nI_eq, and_self, true_and, and_true, hs, t_first hw hr3]
      have e9 := t_lay_79 (q := q) (S := S) (P := P) (A := A) (D := D) (K := K) (X := X) (E := E) (Z := Z) (I := upd (upd (upd (upd I 5 (nI 1)) 11 (nI (sfL σ 10).length)) 8 (nI (hdR σ))) 8 (nI (kpR σ))) (J := J) (V := layV1 σ V) hw hr3 (u_s _ _ _) (layV1 σ V 6)
      rw [vu_id] at e9
      exact e9
    · unfold layIf
      rw [u_n _ _ (by omega), u_n _ _ (by omega), u_n _ _ (by omega), u_n _ _ (by omega), u_s]
    · unfold layIf layVf layV1
      refine ⟨fun s hs => ?_, ?_, fun i hi => ?_, ?_, u_s _ _ _, fun i hi => ?_⟩
      · rw [vu_n _ _ (by omega), vu_n _ _ (by omega), vu_s]
        exact if_pos hs
      · rw [u_n _ _ (by omega), u_n _ _ (by omega), u_n _ _ (by omega), u_s]
      · rw [vu_n _ _ (by omega), vu_s]
        exact layL_at hi
      · rw [u_n _ _ (by omega), u_s]
      · rw [vu_s]
        exact layL_at hi
    · unfold layIf layVf layV1
      refine ⟨fun k k1 k2 k3 k4 => ?_, fun k k1 k2 k3 => ?_⟩
      · rw [u_n _ _ k2, u_n _ _ k3, u_n _ _ k3, u_n _ _ k4, u_n _ _ k1]
      · rw [vu_n _ _ k1, vu_n _ _ k3, vu_n _ _ k2]
  · refine ⟨I, V, ?_, h5, hl, Kept.rf I V⟩
    rw [N147 _ _ (o_m ..)]
    simp (maxSteps := 2000000) (disch := omega) only [e_inl, e_goto, e_fall, e_if, e_icmp, e_iret, e_zret, e_lret, e_vret, e_call0_0, e_call0_1, e_call0_2, e_call0_3, e_call0_4, e_call1_0, e_call1_1, e_call1_2, e_call1_3, e_call1_4, e_call2_0, e_call2_1, e_call2_2, e_call2_3, e_call2_4, e_call3_0, e_call3_1, e_call3_2, e_call3_3, e_call3_4, e_call4_0, e_call4_1, e_call4_2, e_call4_3, e_call4_4, e_call5_0, e_call5_1, e_call5_2, e_call5_3, e_call5_4, e_call6_0, e_call6_1, e_call6_2, e_call6_3, e_call6_4, xP, xld, xst1, xst2, xis2, xii, xid, xll, xlv, xls, xlc, xil, xli, xrd, xdup, xdup2, xc1, xpu, c_eq, c_ne, c_lt, c_ge, c_gt, c_le, Option.bind_some, Option.map_some, List.length_nil, List.length_cons, Nat.reduceAdd, Nat.reduceLeDiff, Int.reduceToNat, Bool.and_self, Bool.false_eq_true, if_true, if_false, D147_0, o_m, g_m_0, g_m_1, g_m_2, g_m_3, g_m_4, g_m_5, g_m_6, g_m_7, g_m_8, g_m_9, g_m_10, g_m_11, g_m_12, g_m_13, g_m_14, g_m_15, g_m_16, g_m_17, g_m_18, g_m_19, g_m_20, g_m_21, p_m_3, p_m_7, p_m_8, p_m_11, p_m_13, p_m_15, p_m_16, p_m_17, p_m_18, p_m_21, p_m_5_0, p_m_5_1, r_m0, s_m0, r_m1, s_m1, r_m2, s_m2, r_m4, s_m4, r_m6, s_m6, r_m9, s_m9, r_m10, s_m10, r_m12, s_m12, r_m14, s_m14, r_m19, s_m19, r_m20, s_m20, Nat.reduceEqDiff, decide_true, decide_false, Bool.true_and, Bool.false_and, Bool.and_true, Bool.and_false, zB_tt, zB_ff, not_false_eq_true, not_true_eq_false, n_lit, n_mul, nI_add, n_sub, x_in, nI_clamp, nI_ltI, nI_leI, nI_eq, and_self, true_and, and_true, h5, n_0, Nat.one_ne_zero]
end
