/-! ===== the class: a value drawn (2) ===== -/
section
variable {q : Nat × (Nat → Int32)} {S : Nat → xSt} {P : Int32 × (Nat → Nat)} {A : (Nat → Int64) × Int32 × Int32 × (Nat → Int64) × (Nat → Nat → Int64)} {D : (Nat → Int64) × Int64} {K : Nat → Int64} {X : Int32 × Int32 × Int32 × (Nat → Int32) × (Nat → Int32)} {E Z : Nat → Int32} {I : Nat → Int32} {J : Nat → Int64} {V : Nat → Nat → Int32}
set_option maxRecDepth 100000 in
theorem c_takeValue {σ : mS} (hw : wf σ) (hs : rpS σ (S 0)) {f can s : Nat} (hf : f < 4) (hc : can < 256) (h0 : can ≠ 0) (hs2 : s < 2 ^ 31) (hD : D.2 = lN s) : xcall 5 [.ref 153, .ref (8 + 2 * f), .int (nI can)] (hp q S P A D K X E Z I J V) = some (some (.int (nI (vdX σ f can s))), (hp q S P A ((D.1, lN (sd s))) K X E Z I J V)) := by
  have h10 : (nI 1 = nI 0) = False := eq_false (by decide)
  have hvw := vW_le hw hf can
  have hvt := vT_le hw hf can
  have hp0 := vT_pos (σ := σ) (f := f) hc h0
  have hv := ch_lt s hp0
  have e1 := c_weightOfValues (q := q) (S := S) (P := P) (A := A) (D := D) (K := K) (X := X) (E := E) (Z := Z) (I := I) (J := J) (V := V) hw hs hf hc
  have e2 := t_bitCountI hc (hp q S P A D K X E Z I J V)
  have e3 := c_chanceBelow (q := q) (S := S) (P := P) (A := A) (D := D) (K := K) (X := X) (E := E) (Z := Z) (I := I) (J := J) (V := V) hs2 hp0 (by omega) hD
  have e4 := c_tk_39 (q := q) (S := S) (P := P) (A := A) (D := (D.1, lN (sd s))) (K := K) (X := X) (E := E) (Z := Z) (I := I) (J := J) (V := V) (tg := nI (vW σ f can)) (v := ch s (vT σ f can)) hw hs hf hc (by rw [vG_sm]; exact hv)
  unfold vdX
  rw [N5 _ _ _ _ (o_drawer ..), D5_0]
  by_cases hz : vW σ f can = 0
  · have et : vT σ f can = fb_ct (fun v => can.testBit v) 8 := if_neg (by omega)
    rw [decide_eq_true hz, zB_tt, hz] at e4
    rw [hz] at e1
    rw [et] at e3 e4 ⊢
    simp (maxSteps := 2000000) (disch := omega) only [e_inl, e_goto, e_fall, e_if, e_icmp, e_iret, e_zret, e_lret, e_vret, e_call0_0, e_call0_1, e_call0_2, e_call0_3, e_call0_4, e_call1_0, e_call1_1, e_call1_2, e_call1_3, e_call1_4, e_call2_0, e_call2_1, e_call2_2, e_call2_3, e_call2_4, e_call3_0, e_call3_1, e_call3_2, e_call3_3, e_call3_4, e_call4_0, e_call4_1, e_call4_2, e_call4_3, e_call4_4, e_call5_0, e_call5_1, e_call5_2, e_call5_3, e_call5_4, e_call6_0, e_call6_1, e_call6_2, e_call6_3, e_call6_4, xP, xld, xst1, xst2, xis2, xii, xid, xll, xlv, xls, xlc, xil, xli, xrd, xdup, xdup2, xc1, xpu, c_eq, c_ne, c_lt, c_ge, c_gt, c_le, Option.bind_some, Option.map_some, List.length_nil, List.length_cons, Nat.reduceAdd, Nat.reduceLeDiff, Int.reduceToNat, Bool.and_self, Bool.false_eq_true, if_true, if_false, D5_15, D5_31, n_lit, n_0, e1, not_true_eq_false, h10, e2, e3, e4]
  · have et : vT σ f can = vW σ f can := if_pos (by omega)
    rw [decide_eq_false hz, zB_ff] at e4
    rw [et] at e3 e4 ⊢
    simp (maxSteps := 2000000) (disch := omega) only [e_inl, e_goto, e_fall, e_if, e_icmp, e_iret, e_zret, e_lret, e_vret, e_call0_0, e_call0_1, e_call0_2, e_call0_3, e_call0_4, e_call1_0, e_call1_1, e_call1_2, e_call1_3, e_call1_4, e_call2_0, e_call2_1, e_call2_2, e_call2_3, e_call2_4, e_call3_0, e_call3_1, e_call3_2, e_call3_3, e_call3_4, e_call4_0, e_call4_1, e_call4_2, e_call4_3, e_call4_4, e_call5_0, e_call5_1, e_call5_2, e_call5_3, e_call5_4, e_call6_0, e_call6_1, e_call6_2, e_call6_3, e_call6_4, xP, xld, xst1, xst2, xis2, xii, xid, xll, xlv, xls, xlc, xil, xli, xrd, xdup, xdup2, xc1, xpu, c_eq, c_ne, c_lt, c_ge, c_gt, c_le, Option.bind_some, Option.map_some, List.length_nil, List.length_cons, Nat.reduceAdd, Nat.reduceLeDiff, Int.reduceToNat, Bool.and_self, Bool.false_eq_true, if_true, if_false, D5_14, D5_15, D5_30, D5_31, n_lit, n_0, nI_eq, e1, hz, not_false_eq_true, e3, e4]
end
