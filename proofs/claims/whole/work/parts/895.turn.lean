/-! ===== the class: the values of a turn ===== -/
theorem trn_rs {σ : mS} {s : xSt} (h : rpS σ s) (f t : Nat) : rpS (trn σ f t) (sF s f 3 (nI t)) := by
  obtain ⟨r0, r1, r2⟩ := h
  refine ⟨r0, fun g j hg hj => ?_, r2⟩
  rw [sF_F]
  by_cases e : g = f ∧ j = 3
  · rw [if_pos e]
    obtain ⟨e1, e2⟩ := e
    subst e1
    subst e2
    rw [trn_F3]
  · rw [if_neg e, trn_Fn σ t e]
    exact r1 g j hg hj
section
variable {q : Nat × (Nat → Int32)} {S : Nat → xSt} {P : Int32 × (Nat → Nat)} {A : (Nat → Int64) × Int32 × Int32 × (Nat → Int64) × (Nat → Nat → Int64)} {D : (Nat → Int64) × Int64} {K : Nat → Int64} {X : Int32 × Int32 × Int32 × (Nat → Int32) × (Nat → Int32)} {E Z : Nat → Int32} {I : Nat → Int32} {J : Nat → Int64} {V : Nat → Nat → Int32}
set_option maxRecDepth 100000 in
theorem c_inTurn {σ : mS} (hw : wf σ) (hs : rpS σ (S 0)) {f can : Nat} (hf : f < 4) (hc : can < 256) : ∃ s : xSt, xcall 11 [.ref (8 + 2 * f), .int (nI can)] (hp q S P A D K X E Z I J V) = some (some (.int (nI (inT σ f can).2)), (hp q (vf_upd S 0 s) P A D K X E Z I J V)) ∧ rpS (inT σ f can).1 s ∧ s.1 8 = (S 0).1 8 := by
  obtain ⟨-, -, f2, f3, -⟩ := hw.2.1 f hf
  have r2 := hs.2.1 f 2 hf (by omega)
  have r3 := hs.2.1 f 3 hf (by omega)
  have ha := andn_lt (n := 8) (mF σ f 3) hc
  rw [N11 _ _ _ (o_F _ _ _ _ _ _ _ _ _ _ _ _ f hf), D11_0]
  unfold inT
  by_cases h2 : mF σ f 2 = 1
  · rw [if_pos h2]
    rw [h2] at r2
    by_cases h3 : can ^^^ (can &&& mF σ f 3) = 0
    · rw [if_pos h3]
      refine ⟨sF (S 0) f 3 (nI 0), ?_, trn_rs hs f 0, rfl⟩
      simp (maxSteps := 2000000) (disch := omega) only [e_inl, e_goto, e_fall, e_if, e_icmp, e_iret, e_zret, e_lret, e_vret, e_call0_0, e_call0_1, e_call0_2, e_call0_3, e_call0_4, e_call1_0, e_call1_1, e_call1_2, e_call1_3, e_call1_4, e_call2_0, e_call2_1, e_call2_2, e_call2_3, e_call2_4, e_call3_0, e_call3_1, e_call3_2, e_call3_3, e_call3_4, e_call4_0, e_call4_1, e_call4_2, e_call4_3, e_call4_4, e_call5_0, e_call5_1, e_call5_2, e_call5_3, e_call5_4, e_call6_0, e_call6_1, e_call6_2, e_call6_3, e_call6_4, xP, xld, xst1, xst2, xis2, xii, xid, xll, xlv, xls, xlc, xil, xli, xrd, xdup, xdup2, xc1, xpu, c_eq, c_ne, c_lt, c_ge, c_gt, c_le, Option.bind_some, Option.map_some, List.length_nil, List.length_cons, Nat.reduceAdd, Nat.reduceLeDiff, Int.reduceToNat, Bool.and_self, Bool.false_eq_true, if_true, if_false, D11_9, g_F_2, g_F_3, p_F_3, n_lit, n_0, nI_eq, r2, Nat.one_ne_zero, not_false_eq_true, r3, n_andn, h3, not_true_eq_false]
    · rw [if_neg h3]
      refine ⟨S 0, ?_, hs, rfl⟩
      rw [vu_id]
      simp (maxSteps := 2000000) (disch := omega) only [e_inl, e_goto, e_fall, e_if, e_icmp, e_iret, e_zret, e_lret, e_vret, e_call0_0, e_call0_1, e_call0_2, e_call0_3, e_call0_4, e_call1_0, e_call1_1, e_call1_2, e_call1_3, e_call1_4, e_call2_0, e_call2_1, e_call2_2, e_call2_3, e_call2_4, e_call3_0, e_call3_1, e_call3_2, e_call3_3, e_call3_4, e_call4_0, e_call4_1, e_call4_2, e_call4_3, e_call4_4, e_call5_0, e_call5_1, e_call5_2, e_call5_3, e_call5_4, e_call6_0, e_call6_1, e_call6_2, e_call6_3, e_call6_4, xP, xld, xst1, xst2, xis2, xii, xid, xll, xlv, xls, xlc, xil, xli, xrd, xdup, xdup2, xc1, xpu, c_eq, c_ne, c_lt, c_ge, c_gt, c_le, Option.bind_some, Option.map_some, List.length_nil, List.length_cons, Nat.reduceAdd, Nat.reduceLeDiff, Int.reduceToNat, Bool.and_self, Bool.false_eq_true, if_true, if_false, D11_9, D11_29, g_F_2, g_F_3, n_0, nI_eq, r2, Nat.one_ne_zero, not_false_eq_true, r3, n_andn, h3]
  · rw [if_neg h2]
    have h0 : mF σ f 2 = 0 := by omega
    rw [h0] at r2
    refine ⟨S 0, ?_, hs, rfl⟩
    rw [vu_id]
    simp (maxSteps := 2000000) (disch := omega) only [e_inl, e_goto, e_fall, e_if, e_icmp, e_iret, e_zret, e_lret, e_vret, e_call0_0, e_call0_1, e_call0_2, e_call0_3, e_call0_4, e_call1_0, e_call1_1, e_call1_2, e_call1_3, e_call1_4, e_call2_0, e_call2_1, e_call2_2, e_call2_3, e_call2_4, e_call3_0, e_call3_1, e_call3_2, e_call3_3, e_call3_4, e_call4_0, e_call4_1, e_call4_2, e_call4_3, e_call4_4, e_call5_0, e_call5_1, e_call5_2, e_call5_3, e_call5_4, e_call6_0, e_call6_1, e_call6_2, e_call6_3, e_call6_4, xP, xld, xst1, xst2, xis2, xii, xid, xll, xlv, xls, xlc, xil, xli, xrd, xdup, xdup2, xc1, xpu, c_eq, c_ne, c_lt, c_ge, c_gt, c_le, Option.bind_some, Option.map_some, List.length_nil, List.length_cons, Nat.reduceAdd, Nat.reduceLeDiff, Int.reduceToNat, Bool.and_self, Bool.false_eq_true, if_true, if_false, g_F_2, n_0, r2, not_true_eq_false]
end
