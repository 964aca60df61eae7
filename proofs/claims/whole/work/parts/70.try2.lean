/-! ===== the class: orders that change a state: ranges, weights, rounds, fields ===== -/
/-- the class's present state, and whether the law is known of it -/
def stK (σ : mS) (s : xSt) : Prop := rpS σ s ∧ (s.1 8 = nI 0 ∨ s.1 8 = nI 1)
theorem sF_F (s : xSt) (f k : Nat) (x : Int32) (g j : Nat) : (sF s f k x).2.1 g j = if g = f ∧ j = k then x else s.2.1 g j := by
  unfold sF
  show vf_upd s.2.1 f (upd (s.2.1 f) k x) g j = _
  by_cases e : g = f
  · subst e
    rw [vu_s]
    by_cases e2 : j = k
    · subst e2
      rw [u_s, if_pos ⟨rfl, rfl⟩]
    · rw [u_n _ _ e2, if_neg (fun z => e2 z.2)]
  · rw [vu_n _ _ e, if_neg (fun z => e z.1)]
theorem rg_rs {σ : mS} {s : xSt} (h : rpS σ s) {f l hh : Nat} : rpSB (mn σ, rgF σ f l hh, σ.2.2) (sF (sF s f 0 (nI l)) f 1 (nI hh)) := by
  obtain ⟨r0, r1, r2, r3, r4, r5, r6⟩ := h.B
  refine ⟨r0, fun g j hg hj => ?_, r2, r3, r4, r5, r6⟩
  rw [sF_F, sF_F]
  show _ = nI (rgF σ f l hh g j)
  by_cases e : g = f
  · subst e
    by_cases e0 : j = 0
    · subst e0
      rw [if_neg (by omega), if_pos ⟨rfl, rfl⟩, rgF_0]
    · by_cases e1 : j = 1
      · subst e1
        rw [if_pos ⟨rfl, rfl⟩, rgF_1]
      · rw [if_neg (by omega), if_neg (by omega), rgF_n σ l hh (by omega)]
        exact r1 g j hg hj
  · rw [if_neg (by omega), if_neg (by omega), rgF_n σ l hh (by omega)]
    exact r1 g j hg hj
section
variable {q : Nat × (Nat → Int32)} {S : Nat → xSt} {P : Int32 × (Nat → Nat)} {A : (Nat → Int64) × Int32 × Int32 × (Nat → Int64) × (Nat → Nat → Int64)} {D : (Nat → Int64) × Int64} {K : Nat → Int64} {X : Int32 × Int32 × Int32 × (Nat → Int32) × (Nat → Int32)} {E Z : Nat → Int32} {I : Nat → Int32} {J : Nat → Int64} {V : Nat → Nat → Int32}
set_option maxRecDepth 100000 in
theorem c_tryRange {σ : mS} (hw : wf σ) (hs : rpS σ (S 0)) (f lo hi : Int32) : ∃ s : xSt, xcall 101 [.ref 2, .int f, .int lo, .int hi] (hp q S P A D K X E Z I J V) = some (some (.int (dG σ f lo hi).1), (hp q (vf_upd S 0 s) P A D K X E Z I J V)) ∧ rpS (dG σ f lo hi).2 s ∧ (s.1 8 = nI 0 ∨ (s = S 0 ∧ (dG σ f lo hi).2 = σ)) := by
  have w1 := hw.1
  rw [N101 _ _ _ _ _ (o_x ..), D101_0]
  unfold dG
  by_cases h1 : isF (mn σ) f = true
  · by_cases h2 : (inB lo (nI 0) (nI 7) && inB hi lo (nI 7)) = true
    · rw [h1, h2, Bool.true_and, if_pos rfl]
      have h1' := h1
      have h2' := h2
      obtain ⟨g, hg, rfl⟩ := isF_of (by omega) h1
      obtain ⟨l, h, rfl, rfl, k1, k2⟩ := rng_nat h2
      rw [nI_clamp (n := l) (by omega), nI_clamp (n := h) (by omega), nI_clamp (n := g) (by omega)]
      refine ⟨eD (sF (sF (S 0) g 0 (nI l)) g 1 (nI h)), ?_, (eD_rp (rg_rs hs)).1, Or.inl (eD_rp (rg_rs hs)).2⟩
      have a1 : ∀ t : List xI, xB xcall (den 101) (.inl (.aload 0) :: .inl (.getfield 256) :: .inl (.getfield 193) :: .inl (.iload 1) :: .inl .aaload :: .inl (.iload 2) :: .inl (.putfield 32) :: t) [some (.ref 2), some (.int (nI g)), some (.int (nI l)), some (.int (nI h))] [] (hp q S P A D K X E Z I J V) = xB xcall (den 101) t [some (.ref 2), some (.int (nI g)), some (.int (nI l)), some (.int (nI h))] [] (hp q (vf_upd S 0 (sF (S 0) g 0 (nI l))) P A D K X E Z I J V) := by
        intro t
        simp (maxSteps := 2000000) (disch := omega) only [e_inl, e_goto, e_fall, e_if, e_icmp, e_iret, e_zret, e_lret, e_vret, e_call0_0, e_call0_1, e_call0_2, e_call0_3, e_call0_4, e_call1_0, e_call1_1, e_call1_2, e_call1_3, e_call1_4, e_call2_0, e_call2_1, e_call2_2, e_call2_3, e_call2_4, e_call3_0, e_call3_1, e_call3_2, e_call3_3, e_call3_4, e_call4_0, e_call4_1, e_call4_2, e_call4_3, e_call4_4, e_call5_0, e_call5_1, e_call5_2, e_call5_3, e_call5_4, e_call6_0, e_call6_1, e_call6_2, e_call6_3, e_call6_4, xP, xld, xst1, xst2, xis2, xii, xid, xll, xlv, xls, xlc, xil, xli, xrd, xdup, xdup2, xc1, xpu, c_eq, c_ne, c_lt, c_ge, c_gt, c_le, Option.bind_some, Option.map_some, List.length_nil, List.length_cons, Nat.reduceAdd, Nat.reduceLeDiff, Int.reduceToNat, Bool.and_self, Bool.false_eq_true, if_true, if_false, g_x_0, g_x_1, g_x_2, g_x_3, g_x_4, g_x_5, g_x_6, g_x_7, g_S_0, g_S_1, g_S_2, g_S_3, g_S_4, g_S_5, g_S_6, g_S_7, g_S_8, p_S_0, p_S_3, p_S_5, p_S_6, p_S_8_0, p_S_8_1, r_order, s_order, r_unlike, s_unlike, g_F_0, g_F_1, g_F_2, g_F_3, g_F_4, p_F_0, p_F_1, p_F_2, p_F_3, r_W, s_W, g_R_0, g_R_1, g_R_2, g_R_3, g_R_4, p_R_0, p_R_1, p_R_2, p_R_3, p_R_4, rd0F, rd0R, r_refusals, s_refusals]
      have a2 : ∀ (S : Nat → xSt) (t : List xI), xB xcall (den 101) (.inl (.aload 0) :: .inl (.getfield 256) :: .inl (.getfield 193) :: .inl (.iload 1) :: .inl .aaload :: .inl (.iload 3) :: .inl (.putfield 33) :: t) [some (.ref 2), some (.int (nI g)), some (.int (nI l)), some (.int (nI h))] [] (hp q S P A D K X E Z I J V) = xB xcall (den 101) t [some (.ref 2), some (.int (nI g)), some (.int (nI l)), some (.int (nI h))] [] (hp q (vf_upd S 0 (sF (S 0) g 1 (nI h))) P A D K X E Z I J V) := by
        intro S t
        simp (maxSteps := 2000000) (disch := omega) only [e_inl, e_goto, e_fall, e_if, e_icmp, e_iret, e_zret, e_lret, e_vret, e_call0_0, e_call0_1, e_call0_2, e_call0_3, e_call0_4, e_call1_0, e_call1_1, e_call1_2, e_call1_3, e_call1_4, e_call2_0, e_call2_1, e_call2_2, e_call2_3, e_call2_4, e_call3_0, e_call3_1, e_call3_2, e_call3_3, e_call3_4, e_call4_0, e_call4_1, e_call4_2, e_call4_3, e_call4_4, e_call5_0, e_call5_1, e_call5_2, e_call5_3, e_call5_4, e_call6_0, e_call6_1, e_call6_2, e_call6_3, e_call6_4, xP, xld, xst1, xst2, xis2, xii, xid, xll, xlv, xls, xlc, xil, xli, xrd, xdup, xdup2, xc1, xpu, c_eq, c_ne, c_lt, c_ge, c_gt, c_le, Option.bind_some, Option.map_some, List.length_nil, List.length_cons, Nat.reduceAdd, Nat.reduceLeDiff, Int.reduceToNat, Bool.and_self, Bool.false_eq_true, if_true, if_false, g_x_0, g_x_1, g_x_2, g_x_3, g_x_4, g_x_5, g_x_6, g_x_7, g_S_0, g_S_1, g_S_2, g_S_3, g_S_4, g_S_5, g_S_6, g_S_7, g_S_8, p_S_0, p_S_3, p_S_5, p_S_6, p_S_8_0, p_S_8_1, r_order, s_order, r_unlike, s_unlike, g_F_0, g_F_1, g_F_2, g_F_3, g_F_4, p_F_0, p_F_1, p_F_2, p_F_3, r_W, s_W, g_R_0, g_R_1, g_R_2, g_R_3, g_R_4, p_R_0, p_R_1, p_R_2, p_R_3, p_R_4, rd0F, rd0R, r_refusals, s_refusals]
      have a3 : ∀ (S : Nat → xSt), xB xcall (den 101) [.inl (.aload 0), .inl (.getfield 256), .inr (.invokeinterface 51 1), .inl (.iload 3), .inl (.iload 2), .inl .isub, .inl (.iconst 1), .inl .iadd, .inr .ireturn] [some (.ref 2), some (.int (nI g)), some (.int (nI l)), some (.int (nI h))] [] (hp q S P A D K X E Z I J V) = some (some (.int (nI (h - l + 1))), (hp q (vf_upd S 0 (eD (S 0))) P A D K X E Z I J V)) := by
        intro S
        simp (maxSteps := 2000000) (disch := omega) only [e_inl, e_goto, e_fall, e_if, e_icmp, e_iret, e_zret, e_lret, e_vret, e_call0_0, e_call0_1, e_call0_2, e_call0_3, e_call0_4, e_call1_0, e_call1_1, e_call1_2, e_call1_3, e_call1_4, e_call2_0, e_call2_1, e_call2_2, e_call2_3, e_call2_4, e_call3_0, e_call3_1, e_call3_2, e_call3_3, e_call3_4, e_call4_0, e_call4_1, e_call4_2, e_call4_3, e_call4_4, e_call5_0, e_call5_1, e_call5_2, e_call5_3, e_call5_4, e_call6_0, e_call6_1, e_call6_2, e_call6_3, e_call6_4, xP, xld, xst1, xst2, xis2, xii, xid, xll, xlv, xls, xlc, xil, xli, xrd, xdup, xdup2, xc1, xpu, c_eq, c_ne, c_lt, c_ge, c_gt, c_le, Option.bind_some, Option.map_some, List.length_nil, List.length_cons, Nat.reduceAdd, Nat.reduceLeDiff, Int.reduceToNat, Bool.and_self, Bool.false_eq_true, if_true, if_false, g_x_0, g_x_1, g_x_2, g_x_3, g_x_4, g_x_5, g_x_6, g_x_7, g_S_0, g_S_1, g_S_2, g_S_3, g_S_4, g_S_5, g_S_6, g_S_7, g_S_8, p_S_0, p_S_3, p_S_5, p_S_6, p_S_8_0, p_S_8_1, r_order, s_order, r_unlike, s_unlike, g_F_0, g_F_1, g_F_2, g_F_3, g_F_4, p_F_0, p_F_1, p_F_2, p_F_3, r_W, s_W, g_R_0, g_R_1, g_R_2, g_R_3, g_R_4, p_R_0, p_R_1, p_R_2, p_R_3, p_R_4, rd0F, rd0R, r_refusals, s_refusals, n_lit, n_sub, nI_add, c_emptyDrawn]
      simp (maxSteps := 2000000) (disch := omega) only [e_inl, e_goto, e_fall, e_if, e_icmp, e_iret, e_zret, e_lret, e_vret, e_call0_0, e_call0_1, e_call0_2, e_call0_3, e_call0_4, e_call1_0, e_call1_1, e_call1_2, e_call1_3, e_call1_4, e_call2_0, e_call2_1, e_call2_2, e_call2_3, e_call2_4, e_call3_0, e_call3_1, e_call3_2, e_call3_3, e_call3_4, e_call4_0, e_call4_1, e_call4_2, e_call4_3, e_call4_4, e_call5_0, e_call5_1, e_call5_2, e_call5_3, e_call5_4, e_call6_0, e_call6_1, e_call6_2, e_call6_3, e_call6_4, xP, xld, xst1, xst2, xis2, xii, xid, xll, xlv, xls, xlc, xil, xli, xrd, xdup, xdup2, xc1, xpu, c_eq, c_ne, c_lt, c_ge, c_gt, c_le, Option.bind_some, Option.map_some, List.length_nil, List.length_cons, Nat.reduceAdd, Nat.reduceLeDiff, Int.reduceToNat, Bool.and_self, Bool.false_eq_true, if_true, if_false, g_x_0, g_x_1, g_x_2, g_x_3, g_x_4, g_x_5, g_x_6, g_x_7, g_S_0, g_S_1, g_S_2, g_S_3, g_S_4, g_S_5, g_S_6, g_S_7, g_S_8, p_S_0, p_S_3, p_S_5, p_S_6, p_S_8_0, p_S_8_1, r_order, s_order, r_unlike, s_unlike, g_F_0, g_F_1, g_F_2, g_F_3, g_F_4, p_F_0, p_F_1, p_F_2, p_F_3, r_W, s_W, g_R_0, g_R_1, g_R_2, g_R_3, g_R_4, p_R_0, p_R_1, p_R_2, p_R_3, p_R_4, rd0F, rd0R, r_refusals, s_refusals, c_hasField w1 hs.1, h1', h2', c_isRange, zB_tt, n_0, nI_eq, Nat.one_ne_zero, not_false_eq_true]
      rw [D101_22, a1, a2, a3]
      simp only [vu_s, vu_vu]
    · rw [Bool.eq_false_iff.mpr h2, Bool.and_false, if_neg (by decide)]
      refine ⟨S 0, ?_, hs, Or.inr ⟨rfl, rfl⟩⟩
      rw [vu_id]
      simp (maxSteps := 2000000) (disch := omega) only [e_inl, e_goto, e_fall, e_if, e_icmp, e_iret, e_zret, e_lret, e_vret, e_call0_0, e_call0_1, e_call0_2, e_call0_3, e_call0_4, e_call1_0, e_call1_1, e_call1_2, e_call1_3, e_call1_4, e_call2_0, e_call2_1, e_call2_2, e_call2_3, e_call2_4, e_call3_0, e_call3_1, e_call3_2, e_call3_3, e_call3_4, e_call4_0, e_call4_1, e_call4_2, e_call4_3, e_call4_4, e_call5_0, e_call5_1, e_call5_2, e_call5_3, e_call5_4, e_call6_0, e_call6_1, e_call6_2, e_call6_3, e_call6_4, xP, xld, xst1, xst2, xis2, xii, xid, xll, xlv, xls, xlc, xil, xli, xrd, xdup, xdup2, xc1, xpu, c_eq, c_ne, c_lt, c_ge, c_gt, c_le, Option.bind_some, Option.map_some, List.length_nil, List.length_cons, Nat.reduceAdd, Nat.reduceLeDiff, Int.reduceToNat, Bool.and_self, Bool.false_eq_true, if_true, if_false, D101_19, g_x_0, g_x_1, g_x_2, g_x_3, g_x_4, g_x_5, g_x_6, g_x_7, g_S_0, g_S_1, g_S_2, g_S_3, g_S_4, g_S_5, g_S_6, g_S_7, g_S_8, p_S_0, p_S_3, p_S_5, p_S_6, p_S_8_0, p_S_8_1, r_order, s_order, r_unlike, s_unlike, g_F_0, g_F_1, g_F_2, g_F_3, g_F_4, p_F_0, p_F_1, p_F_2, p_F_3, r_W, s_W, g_R_0, g_R_1, g_R_2, g_R_3, g_R_4, p_R_0, p_R_1, p_R_2, p_R_3, p_R_4, rd0F, rd0R, r_refusals, s_refusals, c_hasField w1 hs.1, h1, Bool.eq_false_iff.mpr h2, c_isRange, zB_tt, zB_ff, n_0, nI_eq, Nat.one_ne_zero, not_true_eq_false]
  · rw [Bool.eq_false_iff.mpr h1, Bool.false_and, if_neg (by decide)]
    refine ⟨S 0, ?_, hs, Or.inr ⟨rfl, rfl⟩⟩
    rw [vu_id]
    simp (maxSteps := 2000000) (disch := omega) only [e_inl, e_goto, e_fall, e_if, e_icmp, e_iret, e_zret, e_lret, e_vret, e_call0_0, e_call0_1, e_call0_2, e_call0_3, e_call0_4, e_call1_0, e_call1_1, e_call1_2, e_call1_3, e_call1_4, e_call2_0, e_call2_1, e_call2_2, e_call2_3, e_call2_4, e_call3_0, e_call3_1, e_call3_2, e_call3_3, e_call3_4, e_call4_0, e_call4_1, e_call4_2, e_call4_3, e_call4_4, e_call5_0, e_call5_1, e_call5_2, e_call5_3, e_call5_4, e_call6_0, e_call6_1, e_call6_2, e_call6_3, e_call6_4, xP, xld, xst1, xst2, xis2, xii, xid, xll, xlv, xls, xlc, xil, xli, xrd, xdup, xdup2, xc1, xpu, c_eq, c_ne, c_lt, c_ge, c_gt, c_le, Option.bind_some, Option.map_some, List.length_nil, List.length_cons, Nat.reduceAdd, Nat.reduceLeDiff, Int.reduceToNat, Bool.and_self, Bool.false_eq_true, if_true, if_false, D101_19, g_x_0, g_x_1, g_x_2, g_x_3, g_x_4, g_x_5, g_x_6, g_x_7, g_S_0, g_S_1, g_S_2, g_S_3, g_S_4, g_S_5, g_S_6, g_S_7, g_S_8, p_S_0, p_S_3, p_S_5, p_S_6, p_S_8_0, p_S_8_1, r_order, s_order, r_unlike, s_unlike, g_F_0, g_F_1, g_F_2, g_F_3, g_F_4, p_F_0, p_F_1, p_F_2, p_F_3, r_W, s_W, g_R_0, g_R_1, g_R_2, g_R_3, g_R_4, p_R_0, p_R_1, p_R_2, p_R_3, p_R_4, rd0F, rd0R, r_refusals, s_refusals, c_hasField w1 hs.1, Bool.eq_false_iff.mpr h1, zB_ff, n_0]
end
