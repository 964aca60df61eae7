/-! ===== the class: the law looked at ===== -/
theorem sI8_rp {σ : mS} {s : xSt} (h : rpS σ s) (x : Int32) : rpS σ (sI s 8 x) := by
  obtain ⟨r0, r1, r2, r3, r4, r5, r6, r7, r8, r9⟩ := h
  have hu : ∀ k, k ≠ 8 → (sI s 8 x).1 k = s.1 k := fun k hk => by
    show upd s.1 8 x k = _
    exact u_n _ _ hk
  exact ⟨by rw [hu 0 (by omega)]; exact r0, r1, r2, r3, by rw [hu 3 (by omega)]; exact r4, r5, r6, by rw [hu 5 (by omega)]; exact r7, by rw [hu 6 (by omega)]; exact r8, r9⟩
section
variable {q : Nat × (Nat → Int32)} {S : Nat → xSt} {P : Int32 × (Nat → Nat)} {A : (Nat → Int64) × Int32 × Int32 × (Nat → Int64) × (Nat → Nat → Int64)} {D : (Nat → Int64) × Int64} {K : Nat → Int64} {X : Int32 × Int32 × Int32 × (Nat → Int32) × (Nat → Int32)} {E Z : Nat → Int32} {I : Nat → Int32} {J : Nat → Int64} {V : Nat → Nat → Int32}
set_option maxRecDepth 100000 in
theorem c_look {σ : mS} (hw : wf σ) (hs : rpS σ (S 0)) (hk : knS σ (S 0) A) : ∃ (s : xSt) (A' : (Nat → Int64) × Int32 × Int32 × (Nat → Int64) × (Nat → Nat → Int64)), xcall 14 [.ref 131, .ref 3] (hp q S P A D K X E Z I J V) = some (none, (hp q (vf_upd S 0 s) P (A') D K X E Z I J V)) ∧ rpS σ s ∧ s.1 8 = nI 1 ∧ LawK σ A' := by
  rcases hk with h8 | ⟨h8, hA⟩
  · have hs1 : rpS σ (vf_upd S 0 (sI (S 0) 8 (nI 1)) 0) := by rw [vu_s]; exact sI8_rp hs _
    obtain ⟨W0, e0, m0⟩ := c_becomesAll (isInR (q := q) (S := vf_upd S 0 (sI (S 0) 8 (nI 1))) (P := P) (A := A) (D := D) (K := K) (X := X) (E := E) (Z := Z) (I := I) (J := J) (V := V)) A.2.2.2.1
    have e0' : xcall 27 [.ref 134] (hp q (vf_upd S 0 (sI (S 0) 8 (nI 1))) P A D K X E Z I J V) = some (none, (hp q (vf_upd S 0 (sI (S 0) 8 (nI 1))) P ((A.1, A.2.1, A.2.2.1, W0, A.2.2.2.2)) D K X E Z I J V)) := e0
    obtain ⟨W1, e1, m1⟩ := c_lk_22 (q := q) (S := vf_upd S 0 (sI (S 0) 8 (nI 1))) (P := P) (A := A) (D := D) (K := K) (X := X) (E := E) (Z := Z) (I := I) (J := J) (V := V) hw hs1 4 0 W0 none (by omega) m0
    have m1' : RS (inRb σ) W1 := fun w hw64 => by
      rw [m1 w hw64]
      congr 1
      exact wdN_cong (fun b _ => inK_4 σ _)
    obtain ⟨Y, e2, hY⟩ := c_lk_54 (q := q) (S := vf_upd S 0 (sI (S 0) 8 (nI 1))) (P := P) (A := (A.1, A.2.1, A.2.2.1, W1, A.2.2.2.2)) (D := D) (K := K) (X := X) (E := E) (Z := Z) (I := I) (J := J) (V := V) hw hs1 (mK σ) 0 A.2.2.2.2 (by omega) (fun i hi => absurd hi (Nat.not_lt_zero i))
    have hR : ∀ (a : Nat → Int64) (x y : Int32), LawR σ (a, x, y, W1, Y) := fun _ _ _ => ⟨m1', hY⟩
    have e3 := c_withSoft (q := q) (S := vf_upd S 0 (sI (S 0) 8 (nI 1))) (P := P) (A := (A.1, A.2.1, A.2.2.1, W1, Y)) (D := D) (K := K) (X := X) (E := E) (Z := Z) (I := I) (J := J) (V := V) hw hs1 (hR _ _ _)
    have e4 := c_someRowKeeps (q := q) (S := vf_upd S 0 (sI (S 0) 8 (nI 1))) (P := P) (A := (A.1, nI (kpR σ), A.2.2.1, W1, Y)) (D := D) (K := K) (X := X) (E := E) (Z := Z) (I := I) (J := J) (V := V) hw (hR _ _ _) (r := hdR σ) (fun j hj => hdR_bits hj) (hdR_lt hw)
    have e5 := c_leastUnkept (q := q) (S := vf_upd S 0 (sI (S 0) 8 (nI 1))) (P := P) (A := (A.1, nI (kpR σ), A.2.2.1, W1, Y)) (D := D) (K := K) (X := X) (E := E) (Z := Z) (I := I) (J := J) (V := V) hw (hR _ _ _)
    obtain ⟨W2, e6, m2⟩ := c_lk_146 (q := q) (S := vf_upd S 0 (sI (S 0) 8 (nI 1))) (P := P) (A := (A.1, nI (kpR σ), nI (coreN σ), W1, Y)) (D := D) (K := K) (X := X) (E := E) (Z := Z) (I := I) (J := J) (V := V) (hd := nI (hdR σ)) hw hs1 rfl hY (mK σ) 0 (va_cpy W1 A.1 0 0 64) (by omega) m1'.cpy
    refine ⟨sI (S 0) 8 (nI 1), (W2, nI (kpR σ), nI (coreN σ), W1, Y), ?_, sI8_rp hs _, sI_s _ _ _, m2, rfl, rfl⟩
    have h10 : (nI 1 = nI 0) = False := eq_false (by decide)
    have e130 : den 14 130 [some (.ref 131), some (.ref 3), some (.int (nI (hdR σ))), some (.int (nI (mK σ)))] [.int (nI (coreN σ)), .ref 131] (hp q (vf_upd S 0 (sI (S 0) 8 (nI 1))) P ((A.1, nI (kpR σ), A.2.2.1, W1, Y)) D K X E Z I J V) = some (none, (hp q (vf_upd S 0 (sI (S 0) 8 (nI 1))) P ((W2, nI (kpR σ), nI (coreN σ), W1, Y)) D K X E Z I J V)) := by
      rw [D14_130]
      simp (maxSteps := 2000000) (disch := omega) only [e_inl, e_goto, e_fall, e_if, e_icmp, e_iret, e_zret, e_lret, e_vret, e_call0_0, e_call0_1, e_call0_2, e_call0_3, e_call0_4, e_call1_0, e_call1_1, e_call1_2, e_call1_3, e_call1_4, e_call2_0, e_call2_1, e_call2_2, e_call2_3, e_call2_4, e_call3_0, e_call3_1, e_call3_2, e_call3_3, e_call3_4, e_call4_0, e_call4_1, e_call4_2, e_call4_3, e_call4_4, e_call5_0, e_call5_1, e_call5_2, e_call5_3, e_call5_4, e_call6_0, e_call6_1, e_call6_2, e_call6_3, e_call6_4, xP, xld, xst1, xst2, xis2, xii, xid, xll, xlv, xls, xlc, xil, xli, xrd, xdup, xdup2, xc1, xpu, c_eq, c_ne, c_lt, c_ge, c_gt, c_le, Option.bind_some, Option.map_some, List.length_nil, List.length_cons, Nat.reduceAdd, Nat.reduceLeDiff, Int.reduceToNat, Bool.and_self, Bool.false_eq_true, if_true, if_false, p_law_2, g_law_0, g_law_3, c_beL_I, n_lit]
      exact e6
    have e102 : den 14 102 [some (.ref 131), some (.ref 3), some (.int (nI (hdR σ))), some (.int (nI (mK σ)))] [] (hp q (vf_upd S 0 (sI (S 0) 8 (nI 1))) P ((A.1, A.2.1, A.2.2.1, W1, Y)) D K X E Z I J V) = some (none, (hp q (vf_upd S 0 (sI (S 0) 8 (nI 1))) P ((W2, nI (kpR σ), nI (coreN σ), W1, Y)) D K X E Z I J V)) := by
      rw [D14_102]
      by_cases ht : smR σ (hdR σ) = true
      · have ec : coreN σ = 0 := if_pos ht
        rw [ht, zB_tt] at e4
        rw [ec] at e130 ⊢
        simp (maxSteps := 2000000) (disch := omega) only [e_inl, e_goto, e_fall, e_if, e_icmp, e_iret, e_zret, e_lret, e_vret, e_call0_0, e_call0_1, e_call0_2, e_call0_3, e_call0_4, e_call1_0, e_call1_1, e_call1_2, e_call1_3, e_call1_4, e_call2_0, e_call2_1, e_call2_2, e_call2_3, e_call2_4, e_call3_0, e_call3_1, e_call3_2, e_call3_3, e_call3_4, e_call4_0, e_call4_1, e_call4_2, e_call4_3, e_call4_4, e_call5_0, e_call5_1, e_call5_2, e_call5_3, e_call5_4, e_call6_0, e_call6_1, e_call6_2, e_call6_3, e_call6_4, xP, xld, xst1, xst2, xis2, xii, xid, xll, xlv, xls, xlc, xil, xli, xrd, xdup, xdup2, xc1, xpu, c_eq, c_ne, c_lt, c_ge, c_gt, c_le, Option.bind_some, Option.map_some, List.length_nil, List.length_cons, Nat.reduceAdd, Nat.reduceLeDiff, Int.reduceToNat, Bool.and_self, Bool.false_eq_true, if_true, if_false, e3, p_law_1, e4, n_lit, n_0, h10, e130]
      · have ec : coreN σ = crN σ 8 := if_neg ht
        rw [Bool.eq_false_iff.mpr ht, zB_ff] at e4
        rw [ec] at e130 ⊢
        simp (maxSteps := 2000000) (disch := omega) only [e_inl, e_goto, e_fall, e_if, e_icmp, e_iret, e_zret, e_lret, e_vret, e_call0_0, e_call0_1, e_call0_2, e_call0_3, e_call0_4, e_call1_0, e_call1_1, e_call1_2, e_call1_3, e_call1_4, e_call2_0, e_call2_1, e_call2_2, e_call2_3, e_call2_4, e_call3_0, e_call3_1, e_call3_2, e_call3_3, e_call3_4, e_call4_0, e_call4_1, e_call4_2, e_call4_3, e_call4_4, e_call5_0, e_call5_1, e_call5_2, e_call5_3, e_call5_4, e_call6_0, e_call6_1, e_call6_2, e_call6_3, e_call6_4, xP, xld, xst1, xst2, xis2, xii, xid, xll, xlv, xls, xlc, xil, xli, xrd, xdup, xdup2, xc1, xpu, c_eq, c_ne, c_lt, c_ge, c_gt, c_le, Option.bind_some, Option.map_some, List.length_nil, List.length_cons, Nat.reduceAdd, Nat.reduceLeDiff, Int.reduceToNat, Bool.and_self, Bool.false_eq_true, if_true, if_false, D14_125, e3, p_law_1, e4, e5, n_lit, n_0, e130]
    rw [N14 _ _ _ (o_law ..), D14_0]
    simp (maxSteps := 2000000) (disch := omega) only [e_inl, e_goto, e_fall, e_if, e_icmp, e_iret, e_zret, e_lret, e_vret, e_call0_0, e_call0_1, e_call0_2, e_call0_3, e_call0_4, e_call1_0, e_call1_1, e_call1_2, e_call1_3, e_call1_4, e_call2_0, e_call2_1, e_call2_2, e_call2_3, e_call2_4, e_call3_0, e_call3_1, e_call3_2, e_call3_3, e_call3_4, e_call4_0, e_call4_1, e_call4_2, e_call4_3, e_call4_4, e_call5_0, e_call5_1, e_call5_2, e_call5_3, e_call5_4, e_call6_0, e_call6_1, e_call6_2, e_call6_3, e_call6_4, xP, xld, xst1, xst2, xis2, xii, xid, xll, xlv, xls, xlc, xil, xli, xrd, xdup, xdup2, xc1, xpu, c_eq, c_ne, c_lt, c_ge, c_gt, c_le, Option.bind_some, Option.map_some, List.length_nil, List.length_cons, Nat.reduceAdd, Nat.reduceLeDiff, Int.reduceToNat, Bool.and_self, Bool.false_eq_true, if_true, if_false, D14_8, g_S_8, h8, n_lit, n_0, p_S_8_1, g_law_3, e0']
    rw [e1, D14_50]
    simp (maxSteps := 2000000) (disch := omega) only [e_inl, e_goto, e_fall, e_if, e_icmp, e_iret, e_zret, e_lret, e_vret, e_call0_0, e_call0_1, e_call0_2, e_call0_3, e_call0_4, e_call1_0, e_call1_1, e_call1_2, e_call1_3, e_call1_4, e_call2_0, e_call2_1, e_call2_2, e_call2_3, e_call2_4, e_call3_0, e_call3_1, e_call3_2, e_call3_3, e_call3_4, e_call4_0, e_call4_1, e_call4_2, e_call4_3, e_call4_4, e_call5_0, e_call5_1, e_call5_2, e_call5_3, e_call5_4, e_call6_0, e_call6_1, e_call6_2, e_call6_3, e_call6_4, xP, xld, xst1, xst2, xis2, xii, xid, xll, xlv, xls, xlc, xil, xli, xrd, xdup, xdup2, xc1, xpu, c_eq, c_ne, c_lt, c_ge, c_gt, c_le, Option.bind_some, Option.map_some, List.length_nil, List.length_cons, Nat.reduceAdd, Nat.reduceLeDiff, Int.reduceToNat, Bool.and_self, Bool.false_eq_true, if_true, if_false, n_lit]
    exact e2.trans e102
  · refine ⟨S 0, A, ?_, hs, h8, hA⟩
    have h10 : (nI 1 = nI 0) = False := eq_false (by decide)
    rw [vu_id, N14 _ _ _ (o_law ..), D14_0]
    simp (maxSteps := 2000000) (disch := omega) only [e_inl, e_goto, e_fall, e_if, e_icmp, e_iret, e_zret, e_lret, e_vret, e_call0_0, e_call0_1, e_call0_2, e_call0_3, e_call0_4, e_call1_0, e_call1_1, e_call1_2, e_call1_3, e_call1_4, e_call2_0, e_call2_1, e_call2_2, e_call2_3, e_call2_4, e_call3_0, e_call3_1, e_call3_2, e_call3_3, e_call3_4, e_call4_0, e_call4_1, e_call4_2, e_call4_3, e_call4_4, e_call5_0, e_call5_1, e_call5_2, e_call5_3, e_call5_4, e_call6_0, e_call6_1, e_call6_2, e_call6_3, e_call6_4, xP, xld, xst1, xst2, xis2, xii, xid, xll, xlv, xls, xlc, xil, xli, xrd, xdup, xdup2, xc1, xpu, c_eq, c_ne, c_lt, c_ge, c_gt, c_le, Option.bind_some, Option.map_some, List.length_nil, List.length_cons, Nat.reduceAdd, Nat.reduceLeDiff, Int.reduceToNat, Bool.and_self, Bool.false_eq_true, if_true, if_false, g_S_8, h8, n_0, h10]
end
