/-! ===== the reference reads a number ===== -/
section
variable {q : Nat × (Nat → Int32)} {S : Nat → xSt} {P : Int32 × (Nat → Nat)} {A : (Nat → Int64) × Int32 × Int32 × (Nat → Int64) × (Nat → Nat → Int64)} {D : (Nat → Int64) × Int64} {K : Nat → Int64} {X : Int32 × Int32 × Int32 × (Nat → Int32) × (Nat → Int32)} {E Z : Nat → Int32} {I : Nat → Int32} {J : Nat → Int64} {V : Nat → Nat → Int32}
set_option maxRecDepth 100000 in
theorem t_number {T : tx} {p : Nat} (hp1 : p ≤ T.1) (hT : rpT T I V) (h16 : I 16 = nI p) (h17 : I 17 = Int32.ofInt (-1)) : xcall 177 [.ref 163] (hp q S P A D K X E Z I J V) = some (some (.int (nI (rN T p).1)), (hp q S P A D K X E Z (upd (upd I 16 (nI (rN T p).2.1)) 17 (if (rN T p).2.2 = true then Int32.ofInt (-1) else nI (rN T p).2.1)) J V)) := by
  rw [N177 _ _ (o_m ..), D177_0]
  have hT' := hT
  obtain ⟨t1, t2, t3⟩ := hT
  have eh := t_here (q := q) (S := S) (P := P) (A := A) (D := D) (K := K) (X := X) (E := E) (Z := Z) (J := J) (V := V) (T := T) _ p I (Nat.le_refl _) (by omega) hT' h16
  have hin := isD_in (T := T) (p := skp T p) (fun i hi => (t3 i hi).2)
  have hs := skp_le hp1
  have em := t_must (q := q) (S := S) (P := P) (A := A) (D := D) (K := K) (X := X) (E := E) (Z := Z) (J := J) (V := V) (I := upd I 16 (nI (skp T p))) (isD T (skp T p)) (p := skp T p) (g := Int32.ofInt (-1)) (u_s _ _ _) (by rw [u_n _ _ (by omega)]; exact h17)
  generalize hI1 : upd (upd I 16 (nI (skp T p))) 17 (if Int32.ofInt (-1) = Int32.ofInt (-1) ∧ isD T (skp T p) = false then nI (skp T p) else Int32.ofInt (-1)) = I1 at em
  simp (maxSteps := 2000000) (disch := omega) only [e_inl, e_goto, e_fall, e_if, e_icmp, e_iret, e_zret, e_lret, e_vret, e_call0_0, e_call0_1, e_call0_2, e_call0_3, e_call0_4, e_call1_0, e_call1_1, e_call1_2, e_call1_3, e_call1_4, e_call2_0, e_call2_1, e_call2_2, e_call2_3, e_call2_4, e_call3_0, e_call3_1, e_call3_2, e_call3_3, e_call3_4, e_call4_0, e_call4_1, e_call4_2, e_call4_3, e_call4_4, e_call5_0, e_call5_1, e_call5_2, e_call5_3, e_call5_4, e_call6_0, e_call6_1, e_call6_2, e_call6_3, e_call6_4, xP, xld, xst1, xst2, xis2, xii, xid, xll, xlv, xls, xlc, xil, xli, xrd, xdup, xdup2, xc1, xpu, c_eq, c_ne, c_lt, c_ge, c_gt, c_le, Option.bind_some, Option.map_some, List.length_nil, List.length_cons, Nat.reduceAdd, Nat.reduceLeDiff, Int.reduceToNat, Bool.and_self, Bool.false_eq_true, if_true, if_false, o_m, g_m_0, g_m_1, g_m_2, g_m_3, g_m_4, g_m_5, g_m_6, g_m_7, g_m_8, g_m_9, g_m_10, g_m_11, g_m_12, g_m_13, g_m_14, g_m_15, g_m_16, g_m_17, g_m_18, g_m_19, g_m_20, g_m_21, p_m_3, p_m_7, p_m_8, p_m_11, p_m_13, p_m_15, p_m_16, p_m_17, p_m_18, p_m_21, p_m_5_0, p_m_5_1, r_m0, s_m0, r_m1, s_m1, r_m2, s_m2, r_m4, s_m4, r_m6, s_m6, r_m9, s_m9, r_m10, s_m10, r_m12, s_m12, r_m14, s_m14, r_m19, s_m19, r_m20, s_m20, Nat.reduceEqDiff, decide_true, decide_false, Bool.true_and, Bool.false_and, Bool.and_true, Bool.and_false, zB_tt, zB_ff, not_false_eq_true, not_true_eq_false, n_lit, n_mul, nI_add, n_sub, x_in, nI_clamp, nI_ltI, nI_leI, nI_eq, and_self, true_and, and_true, eh, t_inB, hin, em]
  have h116 : I1 16 = nI (skp T p) := by rw [← hI1, u_n _ _ (by omega), u_s]
  have h117 : I1 17 = if isD T (skp T p) = true then Int32.ofInt (-1) else nI (skp T p) := by
    rw [← hI1, u_s]
    cases isD T (skp T p) <;> simp
  have h115 : I1 15 = I 15 := by rw [← hI1, u_n _ _ (by omega), u_n _ _ (by omega)]
  have hI1n : ∀ k, k ≠ 16 → k ≠ 17 → I1 k = I k := fun k a b => by rw [← hI1, u_n _ _ b, u_n _ _ a]
  obtain ⟨z, el⟩ := t_num_19 (q := q) (S := S) (P := P) (A := A) (D := D) (K := K) (X := X) (E := E) (Z := Z) (J := J) (V := V) (T := T) 6 0 0 (skp T p) I1 (by omega) hs (by decide) (hT'.of h115 rfl) h116
  obtain ⟨d1, d2, d3⟩ := dg_bd T 6 0 (skp T p) hs
  have e1 : (rN T p).1 = (dg T 6 0 (skp T p)).1 := rfl
  have e2 : (rN T p).2.1 = (dg T 6 0 (skp T p)).2 := rfl
  have e3 : (rN T p).2.2 = (isD T (skp T p) && !isD T (dg T 6 0 (skp T p)).2) := rfl
  have hz : isD T (skp T p) = false → (dg T 6 0 (skp T p)).2 = skp T p := fun h => by rw [dg, if_neg (by rw [h]; decide)]
  rw [el, e1, e2, e3, D177_66]
  generalize dg T 6 0 (skp T p) = w at *
  have hf := t_isFigure (q := q) (S := S) (P := P) (A := A) (D := D) (K := K) (X := X) (E := E) (Z := Z) (J := J) (V := V) (I := upd I1 16 (nI w.2)) (T := T) (p := w.2) (by omega) (hT'.of (by rw [u_n _ _ (by omega)]; exact h115) rfl) (u_s _ _ _)
  have em2 := t_must (q := q) (S := S) (P := P) (A := A) (D := D) (K := K) (X := X) (E := E) (Z := Z) (J := J) (V := V) (I := upd I1 16 (nI w.2)) (!isD T w.2) (p := w.2) (g := if isD T (skp T p) = true then Int32.ofInt (-1) else nI (skp T p)) (u_s _ _ _) (by rw [u_n _ _ (by omega)]; exact h117)
  have hfin : upd (upd I1 16 (nI w.2)) 17 (if (if isD T (skp T p) = true then Int32.ofInt (-1) else nI (skp T p)) = Int32.ofInt (-1) ∧ (!isD T w.2) = false then nI w.2 else (if isD T (skp T p) = true then Int32.ofInt (-1) else nI (skp T p))) = upd (upd I 16 (nI w.2)) 17 (if (isD T (skp T p) && !isD T w.2) = true then Int32.ofInt (-1) else nI w.2) := by
    funext k
    by_cases k17 : k = 17
    · subst k17
      rw [u_s, u_s]
      by_cases hd : isD T (skp T p) = true
      · rw [hd]
        cases isD T w.2 <;> simp
      · have hd := Bool.eq_false_iff.mpr hd
        have hne := n_neg (x := skp T p) (by omega)
        rw [hz hd, hd]
        simp [hne]
    · rw [u_n _ _ k17, u_n _ _ k17]
      by_cases k16 : k = 16
      · subst k16
        rw [u_s, u_s]
      · rw [u_n _ _ k16, u_n _ _ k16, hI1n k k16 k17]
  rw [hfin] at em2
  by_cases hd : isD T w.2 = true
  · rw [hd] at hf em2 ⊢
    rw [Bool.not_true, zB_ff] at em2
    simp (maxSteps := 2000000) (disch := omega) only [e_inl, e_goto, e_fall, e_if, e_icmp, e_iret, e_zret, e_lret, e_vret, e_call0_0, e_call0_1, e_call0_2, e_call0_3, e_call0_4, e_call1_0, e_call1_1, e_call1_2, e_call1_3, e_call1_4, e_call2_0, e_call2_1, e_call2_2, e_call2_3, e_call2_4, e_call3_0, e_call3_1, e_call3_2, e_call3_3, e_call3_4, e_call4_0, e_call4_1, e_call4_2, e_call4_3, e_call4_4, e_call5_0, e_call5_1, e_call5_2, e_call5_3, e_call5_4, e_call6_0, e_call6_1, e_call6_2, e_call6_3, e_call6_4, xP, xld, xst1, xst2, xis2, xii, xid, xll, xlv, xls, xlc, xil, xli, xrd, xdup, xdup2, xc1, xpu, c_eq, c_ne, c_lt, c_ge, c_gt, c_le, Option.bind_some, Option.map_some, List.length_nil, List.length_cons, Nat.reduceAdd, Nat.reduceLeDiff, Int.reduceToNat, Bool.and_self, Bool.false_eq_true, if_true, if_false, D177_78, D177_79, o_m, g_m_0, g_m_1, g_m_2, g_m_3, g_m_4, g_m_5, g_m_6, g_m_7, g_m_8, g_m_9, g_m_10, g_m_11, g_m_12, g_m_13, g_m_14, g_m_15, g_m_16, g_m_17, g_m_18, g_m_19, g_m_20, g_m_21, p_m_3, p_m_7, p_m_8, p_m_11, p_m_13, p_m_15, p_m_16, p_m_17, p_m_18, p_m_21, p_m_5_0, p_m_5_1, r_m0, s_m0, r_m1, s_m1, r_m2, s_m2, r_m4, s_m4, r_m6, s_m6, r_m9, s_m9, r_m10, s_m10, r_m12, s_m12, r_m14, s_m14, r_m19, s_m19, r_m20, s_m20, Nat.reduceEqDiff, decide_true, decide_false, Bool.true_and, Bool.false_and, Bool.and_true, Bool.and_false, zB_tt, zB_ff, not_false_eq_true, not_true_eq_false, n_lit, n_mul, nI_add, n_sub, x_in, nI_clamp, nI_ltI, nI_leI, nI_eq, and_self, true_and, and_true, hf, n_0, Nat.one_ne_zero, em2, Bool.not_true]
  · have hd := Bool.eq_false_iff.mpr hd
    rw [hd] at hf em2 ⊢
    rw [Bool.not_false, zB_tt] at em2
    simp (maxSteps := 2000000) (disch := omega) only [e_inl, e_goto, e_fall, e_if, e_icmp, e_iret, e_zret, e_lret, e_vret, e_call0_0, e_call0_1, e_call0_2, e_call0_3, e_call0_4, e_call1_0, e_call1_1, e_call1_2, e_call1_3, e_call1_4, e_call2_0, e_call2_1, e_call2_2, e_call2_3, e_call2_4, e_call3_0, e_call3_1, e_call3_2, e_call3_3, e_call3_4, e_call4_0, e_call4_1, e_call4_2, e_call4_3, e_call4_4, e_call5_0, e_call5_1, e_call5_2, e_call5_3, e_call5_4, e_call6_0, e_call6_1, e_call6_2, e_call6_3, e_call6_4, xP, xld, xst1, xst2, xis2, xii, xid, xll, xlv, xls, xlc, xil, xli, xrd, xdup, xdup2, xc1, xpu, c_eq, c_ne, c_lt, c_ge, c_gt, c_le, Option.bind_some, Option.map_some, List.length_nil, List.length_cons, Nat.reduceAdd, Nat.reduceLeDiff, Int.reduceToNat, Bool.and_self, Bool.false_eq_true, if_true, if_false, D177_79, o_m, g_m_0, g_m_1, g_m_2, g_m_3, g_m_4, g_m_5, g_m_6, g_m_7, g_m_8, g_m_9, g_m_10, g_m_11, g_m_12, g_m_13, g_m_14, g_m_15, g_m_16, g_m_17, g_m_18, g_m_19, g_m_20, g_m_21, p_m_3, p_m_7, p_m_8, p_m_11, p_m_13, p_m_15, p_m_16, p_m_17, p_m_18, p_m_21, p_m_5_0, p_m_5_1, r_m0, s_m0, r_m1, s_m1, r_m2, s_m2, r_m4, s_m4, r_m6, s_m6, r_m9, s_m9, r_m10, s_m10, r_m12, s_m12, r_m14, s_m14, r_m19, s_m19, r_m20, s_m20, Nat.reduceEqDiff, decide_true, decide_false, Bool.true_and, Bool.false_and, Bool.and_true, Bool.and_false, zB_tt, zB_ff, not_false_eq_true, not_true_eq_false, n_lit, n_mul, nI_add, n_sub, x_in, nI_clamp, nI_ltI, nI_leI, nI_eq, and_self, true_and, and_true, hf, n_0, em2, Bool.not_false]
end
