/-! ===== public calls of the class (4): rows, a least set ===== -/
theorem ClsI.look {M : mM} {S : Nat → xSt} {P : Int32 × (Nat → Nat)} {A A' : (Nat → Int64) × Int32 × Int32 × (Nat → Int64) × (Nat → Nat → Int64)} {X : Int32 × Int32 × Int32 × (Nat → Int32) × (Nat → Int32)} {E : Nat → Int32} (hI : ClsI M S P A X E) {s : xSt} (hs : rpS M.1 s) (h8 : s.1 8 = nI 1) (hA : LawK M.1 A') : ClsI M (vf_upd S 0 s) P A' X E := by
  obtain ⟨i1, i2, i3, i4, i5, i6, i7, i8, i9⟩ := hI
  refine ⟨i1, by rw [vu_s]; exact hs, Or.inr ⟨by rw [vu_s]; exact h8, hA⟩, i4, i5, i6, fun j hj => ?_, i8, i9⟩
  have h1 := (i6.1 j (by omega)).1
  rw [vu_n _ _ (by omega)]
  exact i7 j hj
section
variable {q : Nat × (Nat → Int32)} {S : Nat → xSt} {P : Int32 × (Nat → Nat)} {A : (Nat → Int64) × Int32 × Int32 × (Nat → Int64) × (Nat → Nat → Int64)} {D : (Nat → Int64) × Int64} {K : Nat → Int64} {X : Int32 × Int32 × Int32 × (Nat → Int32) × (Nat → Int32)} {E Z : Nat → Int32} {I : Nat → Int32} {J : Nat → Int64} {V : Nat → Nat → Int32}
set_option maxRecDepth 100000 in
theorem C_rows {M : mM} (hI : ClsI M S P A X E) : ∃ (S' : Nat → xSt) (A' : (Nat → Int64) × Int32 × Int32 × (Nat → Int64) × (Nat → Nat → Int64)), xcall 77 [.ref 2] (hp q S P A D K X E Z I J V) = some (some (.int (nI (lwN M.1))), (hp q (S') P (A') D K X E Z I J V)) ∧ ClsI M S' P A' X E := by
  obtain ⟨s, A', e1, hs, h8, hA⟩ := c_look (q := q) (S := S) (P := P) (A := A) (D := D) (K := K) (X := X) (E := E) (Z := Z) (I := I) (J := J) (V := V) hI.1 hI.2.1 hI.2.2.1
  refine ⟨_, A', ?_, hI.look hs h8 hA⟩
  have e2 := c_size (isLawful (q := q) (S := vf_upd S 0 s) (P := P) (A := A') (D := D) (K := K) (X := X) (E := E) (Z := Z) (I := I) (J := J) (V := V)) hA.1
  have e2' : xcall 32 [.ref 132] (hp q (vf_upd S 0 s) P (A') D K X E Z I J V) = some (some (.int (nI (lwN M.1))), (hp q (vf_upd S 0 s) P (A') D K X E Z I J V)) := e2
  rw [N77 _ _ (o_x ..)]
  simp (maxSteps := 2000000) (disch := omega) only [e_inl, e_goto, e_fall, e_if, e_icmp, e_iret, e_zret, e_lret, e_vret, e_call0_0, e_call0_1, e_call0_2, e_call0_3, e_call0_4, e_call1_0, e_call1_1, e_call1_2, e_call1_3, e_call1_4, e_call2_0, e_call2_1, e_call2_2, e_call2_3, e_call2_4, e_call3_0, e_call3_1, e_call3_2, e_call3_3, e_call3_4, e_call4_0, e_call4_1, e_call4_2, e_call4_3, e_call4_4, e_call5_0, e_call5_1, e_call5_2, e_call5_3, e_call5_4, e_call6_0, e_call6_1, e_call6_2, e_call6_3, e_call6_4, xP, xld, xst1, xst2, xis2, xii, xid, xll, xlv, xls, xlc, xil, xli, xrd, xdup, xdup2, xc1, xpu, c_eq, c_ne, c_lt, c_ge, c_gt, c_le, Option.bind_some, Option.map_some, List.length_nil, List.length_cons, Nat.reduceAdd, Nat.reduceLeDiff, Int.reduceToNat, Bool.and_self, Bool.false_eq_true, if_true, if_false, D77_0, g_x_0, g_x_2, g_law_0, e1, e2']
set_option maxRecDepth 100000 in
theorem C_core {M : mM} (hI : ClsI M S P A X E) : ∃ (S' : Nat → xSt) (A' : (Nat → Int64) × Int32 × Int32 × (Nat → Int64) × (Nat → Nat → Int64)), xcall 83 [.ref 2] (hp q S P A D K X E Z I J V) = some (some (.int (nI (coreN M.1))), (hp q (S') P (A') D K X E Z I J V)) ∧ ClsI M S' P A' X E := by
  obtain ⟨s, A', e1, hs, h8, hA⟩ := c_look (q := q) (S := S) (P := P) (A := A) (D := D) (K := K) (X := X) (E := E) (Z := Z) (I := I) (J := J) (V := V) hI.1 hI.2.1 hI.2.2.1
  refine ⟨_, A', ?_, hI.look hs h8 hA⟩
  have e2 := hA.2.2
  rw [N83 _ _ (o_x ..)]
  simp (maxSteps := 2000000) (disch := omega) only [e_inl, e_goto, e_fall, e_if, e_icmp, e_iret, e_zret, e_lret, e_vret, e_call0_0, e_call0_1, e_call0_2, e_call0_3, e_call0_4, e_call1_0, e_call1_1, e_call1_2, e_call1_3, e_call1_4, e_call2_0, e_call2_1, e_call2_2, e_call2_3, e_call2_4, e_call3_0, e_call3_1, e_call3_2, e_call3_3, e_call3_4, e_call4_0, e_call4_1, e_call4_2, e_call4_3, e_call4_4, e_call5_0, e_call5_1, e_call5_2, e_call5_3, e_call5_4, e_call6_0, e_call6_1, e_call6_2, e_call6_3, e_call6_4, xP, xld, xst1, xst2, xis2, xii, xid, xll, xlv, xls, xlc, xil, xli, xrd, xdup, xdup2, xc1, xpu, c_eq, c_ne, c_lt, c_ge, c_gt, c_le, Option.bind_some, Option.map_some, List.length_nil, List.length_cons, Nat.reduceAdd, Nat.reduceLeDiff, Int.reduceToNat, Bool.and_self, Bool.false_eq_true, if_true, if_false, D83_0, g_x_0, g_x_2, g_law_2, e1, e2]
set_option maxRecDepth 100000 in
theorem C_row {M : mM} (hI : ClsI M S P A X E) (i f : Int32) : ∃ (S' : Nat → xSt) (A' : (Nat → Int64) × Int32 × Int32 × (Nat → Int64) × (Nat → Nat → Int64)) (E' : Nat → Int32), xcall 78 [.ref 2, .int i, .int f] (hp q S P A D K X E Z I J V) = some (some (.int (oRow M i f).1), (hp q (S') P (A') D K X (E') Z I J V)) ∧ ClsI (oRow M i f).2 S' P A' X E' := by
  have w1 := hI.1.1
  have r0 := hI.2.1.1
  have h10 : (nI 1 = nI 0) = False := eq_false (by decide)
  have eb := c_bad (q := q) (S := S) (P := P) (A := A) (D := D) (K := K) (X := X) (E := E) (Z := Z) (I := I) (J := J) (V := V) _ rfl
  rw [N78 _ _ _ _ (o_x ..), D78_0]
  unfold oRow
  by_cases h0 : nI 0 ≤ i
  · have hl0 : ¬ i < nI 0 := Int32.not_lt.mpr h0
    rw [decide_eq_true h0, Bool.true_and]
    by_cases hf : isF (mn M.1) f = true
    · rw [if_pos hf]
      have hf' := hf
      obtain ⟨k, hk, rfl⟩ := nn_of h0
      obtain ⟨g, hg, rfl⟩ := isF_of (by omega) hf
      rw [nI_clamp (n := k) (by omega), nI_clamp (n := g) (by omega)]
      obtain ⟨s, A', e1, hs, h8, hA⟩ := c_look (q := q) (S := S) (P := P) (A := A) (D := D) (K := K) (X := X) (E := E) (Z := Z) (I := I) (J := J) (V := V) hI.1 hI.2.1 hI.2.2.1
      refine ⟨_, A', E, ?_, hI.look hs h8 hA⟩
      have e2 := c_codeAt (i := k) (isLawful (q := q) (S := vf_upd S 0 s) (P := P) (A := A') (D := D) (K := K) (X := X) (E := E) (Z := Z) (I := I) (J := J) (V := V)) hA.1 hk
      have e2' : xcall 35 [.ref 132, .int (nI k)] (hp q (vf_upd S 0 s) P (A') D K X E Z I J V) = some (some (.int (if k < lwN M.1 then nI (lw M.1 k) else Int32.ofInt (-1))), (hp q (vf_upd S 0 s) P (A') D K X E Z I J V)) := e2
      by_cases hb : k < lwN M.1
      · have hx := (lw_mem hb).1
        have hne := n_neg (x := lw M.1 k) (by omega)
        rw [if_pos hb] at e2' ⊢
        simp (maxSteps := 2000000) (disch := omega) only [e_inl, e_goto, e_fall, e_if, e_icmp, e_iret, e_zret, e_lret, e_vret, e_call0_0, e_call0_1, e_call0_2, e_call0_3, e_call0_4, e_call1_0, e_call1_1, e_call1_2, e_call1_3, e_call1_4, e_call2_0, e_call2_1, e_call2_2, e_call2_3, e_call2_4, e_call3_0, e_call3_1, e_call3_2, e_call3_3, e_call3_4, e_call4_0, e_call4_1, e_call4_2, e_call4_3, e_call4_4, e_call5_0, e_call5_1, e_call5_2, e_call5_3, e_call5_4, e_call6_0, e_call6_1, e_call6_2, e_call6_3, e_call6_4, xP, xld, xst1, xst2, xis2, xii, xid, xll, xlv, xls, xlc, xil, xli, xrd, xdup, xdup2, xc1, xpu, c_eq, c_ne, c_lt, c_ge, c_gt, c_le, Option.bind_some, Option.map_some, List.length_nil, List.length_cons, Nat.reduceAdd, Nat.reduceLeDiff, Int.reduceToNat, Bool.and_self, Bool.false_eq_true, if_true, if_false, D78_22, D78_55, D78_60, g_x_0, g_x_2, g_law_0, n_0, hl0, c_hasField w1 r0, hf', zB_tt, h10, not_false_eq_true, e1, e2', hne, c_valueIn]
      · rw [if_neg hb] at e2' ⊢
        simp (maxSteps := 2000000) (disch := omega) only [e_inl, e_goto, e_fall, e_if, e_icmp, e_iret, e_zret, e_lret, e_vret, e_call0_0, e_call0_1, e_call0_2, e_call0_3, e_call0_4, e_call1_0, e_call1_1, e_call1_2, e_call1_3, e_call1_4, e_call2_0, e_call2_1, e_call2_2, e_call2_3, e_call2_4, e_call3_0, e_call3_1, e_call3_2, e_call3_3, e_call3_4, e_call4_0, e_call4_1, e_call4_2, e_call4_3, e_call4_4, e_call5_0, e_call5_1, e_call5_2, e_call5_3, e_call5_4, e_call6_0, e_call6_1, e_call6_2, e_call6_3, e_call6_4, xP, xld, xst1, xst2, xis2, xii, xid, xll, xlv, xls, xlc, xil, xli, xrd, xdup, xdup2, xc1, xpu, c_eq, c_ne, c_lt, c_ge, c_gt, c_le, Option.bind_some, Option.map_some, List.length_nil, List.length_cons, Nat.reduceAdd, Nat.reduceLeDiff, Int.reduceToNat, Bool.and_self, Bool.false_eq_true, if_true, if_false, D78_22, D78_60, g_x_0, g_x_2, g_law_0, n_0, hl0, c_hasField w1 r0, hf', zB_tt, h10, not_false_eq_true, e1, e2', not_true_eq_false]
    · rw [if_neg hf]
      refine ⟨S, A, inc E 0, ?_, clsBad hI (by omega)⟩
      have hf' := Bool.eq_false_iff.mpr hf
      simp (maxSteps := 2000000) (disch := omega) only [e_inl, e_goto, e_fall, e_if, e_icmp, e_iret, e_zret, e_lret, e_vret, e_call0_0, e_call0_1, e_call0_2, e_call0_3, e_call0_4, e_call1_0, e_call1_1, e_call1_2, e_call1_3, e_call1_4, e_call2_0, e_call2_1, e_call2_2, e_call2_3, e_call2_4, e_call3_0, e_call3_1, e_call3_2, e_call3_3, e_call3_4, e_call4_0, e_call4_1, e_call4_2, e_call4_3, e_call4_4, e_call5_0, e_call5_1, e_call5_2, e_call5_3, e_call5_4, e_call6_0, e_call6_1, e_call6_2, e_call6_3, e_call6_4, xP, xld, xst1, xst2, xis2, xii, xid, xll, xlv, xls, xlc, xil, xli, xrd, xdup, xdup2, xc1, xpu, c_eq, c_ne, c_lt, c_ge, c_gt, c_le, Option.bind_some, Option.map_some, List.length_nil, List.length_cons, Nat.reduceAdd, Nat.reduceLeDiff, Int.reduceToNat, Bool.and_self, Bool.false_eq_true, if_true, if_false, D78_15, g_x_0, n_0, hl0, c_hasField w1 r0, hf', zB_ff, not_true_eq_false, eb]
  · have hl0 : i < nI 0 := Int32.not_le.mp h0
    rw [decide_eq_false h0, Bool.false_and, if_neg (by decide)]
    refine ⟨S, A, inc E 0, ?_, clsBad hI (by omega)⟩
    simp (maxSteps := 2000000) (disch := omega) only [e_inl, e_goto, e_fall, e_if, e_icmp, e_iret, e_zret, e_lret, e_vret, e_call0_0, e_call0_1, e_call0_2, e_call0_3, e_call0_4, e_call1_0, e_call1_1, e_call1_2, e_call1_3, e_call1_4, e_call2_0, e_call2_1, e_call2_2, e_call2_3, e_call2_4, e_call3_0, e_call3_1, e_call3_2, e_call3_3, e_call3_4, e_call4_0, e_call4_1, e_call4_2, e_call4_3, e_call4_4, e_call5_0, e_call5_1, e_call5_2, e_call5_3, e_call5_4, e_call6_0, e_call6_1, e_call6_2, e_call6_3, e_call6_4, xP, xld, xst1, xst2, xis2, xii, xid, xll, xlv, xls, xlc, xil, xli, xrd, xdup, xdup2, xc1, xpu, c_eq, c_ne, c_lt, c_ge, c_gt, c_le, Option.bind_some, Option.map_some, List.length_nil, List.length_cons, Nat.reduceAdd, Nat.reduceLeDiff, Int.reduceToNat, Bool.and_self, Bool.false_eq_true, if_true, if_false, D78_15, n_0, hl0, eb]
end
