/-! ===== the class: a field comes; a rule is dropped ===== -/
def bgS (s : xSt) (f : Nat) (lo hi : Int32) : xSt := sW (sF (sF (sF (sF s f 0 lo) f 1 hi) f 2 (nI 0)) f 3 (nI 0)) f (fa_fill (fun _ => nI 1) (s.2.2.1 f) 8)
theorem ad_rs {σ : mS} (hw : wf σ) {s : xSt} (h : rpS σ s) {l hh : Nat} (hn : mn σ < 4) : rpSB (mn σ + 1, rgF σ (mn σ) l hh, mW σ, fun p => if p = mn σ then mn σ else mO σ p, σ.2.2.2.2) (sI (sO (bgS s (mn σ) (nI l) (nI hh)) (upd s.2.2.2.1 (mn σ) (nI (mn σ)))) 0 (nI (mn σ + 1))) := by
  have w4 := hw.2.2.2.1 (mn σ) hn (Nat.le_refl _)
  obtain ⟨r0, r1, r2, r3, r4, r5, r6⟩ := h.B
  refine ⟨sI_s _ _ _, fun g j hg hj => ?_, fun g u hg hu => ?_, fun p hp1 => ?_, ?_, r5, r6⟩
  · show (sF (sF (sF (sF s (mn σ) 0 (nI l)) (mn σ) 1 (nI hh)) (mn σ) 2 (nI 0)) (mn σ) 3 (nI 0)).2.1 g j = nI (rgF σ (mn σ) l hh g j)
    rw [sF_F, sF_F, sF_F, sF_F]
    by_cases e : g = mn σ
    · rw [if_neg (by omega)]
      by_cases e2 : j = 2
      · rw [if_pos ⟨e, e2⟩, rgF_n σ l hh (by omega), e, e2, w4.1 2 (by omega)]
      · rw [if_neg (by omega)]
        by_cases e1 : j = 1
        · rw [if_pos ⟨e, e1⟩, e, e1, rgF_1]
        · rw [if_neg (by omega), if_pos (by omega), show j = 0 by omega, e, rgF_0]
    · rw [if_neg (by omega), if_neg (by omega), if_neg (by omega), if_neg (by omega), rgF_n σ l hh (by omega)]
      exact r1 g j hg hj
  · show (sW (sF (sF (sF (sF s (mn σ) 0 (nI l)) (mn σ) 1 (nI hh)) (mn σ) 2 (nI 0)) (mn σ) 3 (nI 0)) (mn σ) (fa_fill (fun _ => nI 1) (s.2.2.1 (mn σ)) 8)).2.2.1 g u = nI (mW σ g u)
    rw [sW_W]
    by_cases e : g = mn σ
    · rw [if_pos e, fa_fill_in hu, e, w4.2 u hu]
    · rw [if_neg e]
      exact r2 g u hg hu
  · have hp1 : p < mn σ + 1 := hp1
    show upd s.2.2.2.1 (mn σ) (nI (mn σ)) p = nI (if p = mn σ then mn σ else mO σ p)
    by_cases e : p = mn σ
    · rw [if_pos e, e, u_s]
    · rw [if_neg e, u_n _ _ e]
      exact r3 p (by omega)
  · show upd s.1 0 (nI (mn σ + 1)) 3 = _
    rw [u_n _ _ (by omega)]
    exact r4
section
variable {q : Nat × (Nat → Int32)} {S : Nat → xSt} {P : Int32 × (Nat → Nat)} {A : (Nat → Int64) × Int32 × Int32 × (Nat → Int64) × (Nat → Nat → Int64)} {D : (Nat → Int64) × Int64} {K : Nat → Int64} {X : Int32 × Int32 × Int32 × (Nat → Int32) × (Nat → Int32)} {E Z : Nat → Int32} {I : Nat → Int32} {J : Nat → Int64} {V : Nat → Nat → Int32}
set_option maxRecDepth 100000 in
theorem c_begin {f : Nat} (hf : f < 4) (lo hi : Int32) : xcall 8 [.ref (8 + 2 * f), .int lo, .int hi] (hp q S P A D K X E Z I J V) = some (none, (hp q (vf_upd S 0 (bgS (S 0) f lo hi)) P A D K X E Z I J V)) := by
  have h9 : (2 ≤ 9 + 2 * f) = True := eq_true (by omega)
  rw [N8 _ _ _ _ (o_F _ _ _ _ _ _ _ _ _ _ _ _ f hf), D8_0]
  simp (maxSteps := 2000000) (disch := omega) only [e_inl, e_goto, e_fall, e_if, e_icmp, e_iret, e_zret, e_lret, e_vret, e_call0_0, e_call0_1, e_call0_2, e_call0_3, e_call0_4, e_call1_0, e_call1_1, e_call1_2, e_call1_3, e_call1_4, e_call2_0, e_call2_1, e_call2_2, e_call2_3, e_call2_4, e_call3_0, e_call3_1, e_call3_2, e_call3_3, e_call3_4, e_call4_0, e_call4_1, e_call4_2, e_call4_3, e_call4_4, e_call5_0, e_call5_1, e_call5_2, e_call5_3, e_call5_4, e_call6_0, e_call6_1, e_call6_2, e_call6_3, e_call6_4, xP, xld, xst1, xst2, xis2, xii, xid, xll, xlv, xls, xlc, xil, xli, xrd, xdup, xdup2, xc1, xpu, c_eq, c_ne, c_lt, c_ge, c_gt, c_le, Option.bind_some, Option.map_some, List.length_nil, List.length_cons, Nat.reduceAdd, Nat.reduceLeDiff, Int.reduceToNat, Bool.and_self, Bool.false_eq_true, if_true, if_false, g_x_0, g_x_1, g_x_2, g_x_3, g_x_4, g_x_5, g_x_6, g_x_7, g_S_0, g_S_1, g_S_2, g_S_3, g_S_4, g_S_5, g_S_6, g_S_7, g_S_8, p_S_0, p_S_3, p_S_5, p_S_6, p_S_8_0, p_S_8_1, r_order, s_order, r_unlike, s_unlike, g_F_0, g_F_1, g_F_2, g_F_3, g_F_4, p_F_0, p_F_1, p_F_2, p_F_3, r_W, s_W, g_R_0, g_R_1, g_R_2, g_R_3, g_R_4, p_R_0, p_R_1, p_R_2, p_R_3, p_R_4, rd0F, rd0R, r_refusals, s_refusals, n_lit, vu_s, vu_vu]
  have hl := x_loop (i := 8) (pc := 22) (fun k => [some (.ref (8 + 2 * f)), some (.int lo), some (.int hi), some (.int (nI k))]) (fun k => (hp q (vf_upd S 0 (sW (sF (sF (sF (sF (S 0) f 0 lo) f 1 hi) f 2 (nI 0)) f 3 (nI 0)) f (fa_fill (fun _ => nI 1) ((S 0).2.2.1 f) k))) P A D K X E Z I J V)) 8 (fun k hk => by
    rw [D8_22]
    have h1 : ¬ 8 ≤ k := by omega
    have hfl := fa_fill_succ (fun _ => nI 1) ((S 0).2.2.1 f) k
    generalize sF (sF (sF (sF (S 0) f 0 lo) f 1 hi) f 2 (nI 0)) f 3 (nI 0) = s
    have e1 : ∀ w, (sW s f w).2.2.1 f = w := fun w => vu_s _ _ _
    have e2 : ∀ w w', sW (sW s f w) f w' = sW s f w' := fun w w' => by unfold sW; rw [vu_vu]
    simp (maxSteps := 2000000) (disch := omega) only [e_inl, e_goto, e_fall, e_if, e_icmp, e_iret, e_zret, e_lret, e_vret, e_call0_0, e_call0_1, e_call0_2, e_call0_3, e_call0_4, e_call1_0, e_call1_1, e_call1_2, e_call1_3, e_call1_4, e_call2_0, e_call2_1, e_call2_2, e_call2_3, e_call2_4, e_call3_0, e_call3_1, e_call3_2, e_call3_3, e_call3_4, e_call4_0, e_call4_1, e_call4_2, e_call4_3, e_call4_4, e_call5_0, e_call5_1, e_call5_2, e_call5_3, e_call5_4, e_call6_0, e_call6_1, e_call6_2, e_call6_3, e_call6_4, xP, xld, xst1, xst2, xis2, xii, xid, xll, xlv, xls, xlc, xil, xli, xrd, xdup, xdup2, xc1, xpu, c_eq, c_ne, c_lt, c_ge, c_gt, c_le, Option.bind_some, Option.map_some, List.length_nil, List.length_cons, Nat.reduceAdd, Nat.reduceLeDiff, Int.reduceToNat, Bool.and_self, Bool.false_eq_true, if_true, if_false, g_x_0, g_x_1, g_x_2, g_x_3, g_x_4, g_x_5, g_x_6, g_x_7, g_S_0, g_S_1, g_S_2, g_S_3, g_S_4, g_S_5, g_S_6, g_S_7, g_S_8, p_S_0, p_S_3, p_S_5, p_S_6, p_S_8_0, p_S_8_1, r_order, s_order, r_unlike, s_unlike, g_F_0, g_F_1, g_F_2, g_F_3, g_F_4, p_F_0, p_F_1, p_F_2, p_F_3, r_W, s_W, g_R_0, g_R_1, g_R_2, g_R_3, g_R_4, p_R_0, p_R_1, p_R_2, p_R_3, p_R_4, rd0F, rd0R, r_refusals, s_refusals, n_lit, nI_leI, nI_add, h1, x_in, nI_clamp, h9, and_self, if_true, vu_s, vu_vu, e1, e2, hfl])
  have e0 : vf_upd S 0 (sW (sF (sF (sF (sF (S 0) f 0 lo) f 1 hi) f 2 (nI 0)) f 3 (nI 0)) f (fa_fill (fun _ => nI 1) ((S 0).2.2.1 f) 0)) = vf_upd S 0 (sF (sF (sF (sF (S 0) f 0 lo) f 1 hi) f 2 (nI 0)) f 3 (nI 0)) := by
    rw [fa_fill_0]
    congr 1
    show (_, _, vf_upd (S 0).2.2.1 f ((S 0).2.2.1 f), _) = _
    rw [vu_id]
    rfl
  simp only [e0] at hl
  rw [hl, D8_22]
  simp (maxSteps := 2000000) (disch := omega) only [e_inl, e_goto, e_fall, e_if, e_icmp, e_iret, e_zret, e_lret, e_vret, e_call0_0, e_call0_1, e_call0_2, e_call0_3, e_call0_4, e_call1_0, e_call1_1, e_call1_2, e_call1_3, e_call1_4, e_call2_0, e_call2_1, e_call2_2, e_call2_3, e_call2_4, e_call3_0, e_call3_1, e_call3_2, e_call3_3, e_call3_4, e_call4_0, e_call4_1, e_call4_2, e_call4_3, e_call4_4, e_call5_0, e_call5_1, e_call5_2, e_call5_3, e_call5_4, e_call6_0, e_call6_1, e_call6_2, e_call6_3, e_call6_4, xP, xld, xst1, xst2, xis2, xii, xid, xll, xlv, xls, xlc, xil, xli, xrd, xdup, xdup2, xc1, xpu, c_eq, c_ne, c_lt, c_ge, c_gt, c_le, Option.bind_some, Option.map_some, List.length_nil, List.length_cons, Nat.reduceAdd, Nat.reduceLeDiff, Int.reduceToNat, Bool.and_self, Bool.false_eq_true, if_true, if_false, D8_41, n_lit, nI_leI, Nat.le_refl]
  rfl
set_option maxRecDepth 100000 in
theorem c_addField {n : Nat} (hn : n < 4) (h0 : (S 0).1 0 = nI n) (lo hi : Int32) : xcall 48 [.ref 3, .int lo, .int hi] (hp q S P A D K X E Z I J V) = some (some (.int (nI n)), (hp q (vf_upd S 0 (eD (sI (sO (bgS (S 0) n lo hi) (upd (S 0).2.2.2.1 n (nI n))) 0 (nI (n + 1))))) P A D K X E Z I J V)) := by
  have a1 : ∀ t : List xI, xB xcall (den 48) (.inl (.aload 0) :: .inl (.getfield 192) :: .inl (.istore 3) :: t) [some (.ref 3), some (.int lo), some (.int hi), none] [] (hp q S P A D K X E Z I J V) = xB xcall (den 48) t [some (.ref 3), some (.int lo), some (.int hi), some (.int (nI n))] [] (hp q S P A D K X E Z I J V) := by
    intro t
    simp (maxSteps := 2000000) (disch := omega) only [e_inl, e_goto, e_fall, e_if, e_icmp, e_iret, e_zret, e_lret, e_vret, e_call0_0, e_call0_1, e_call0_2, e_call0_3, e_call0_4, e_call1_0, e_call1_1, e_call1_2, e_call1_3, e_call1_4, e_call2_0, e_call2_1, e_call2_2, e_call2_3, e_call2_4, e_call3_0, e_call3_1, e_call3_2, e_call3_3, e_call3_4, e_call4_0, e_call4_1, e_call4_2, e_call4_3, e_call4_4, e_call5_0, e_call5_1, e_call5_2, e_call5_3, e_call5_4, e_call6_0, e_call6_1, e_call6_2, e_call6_3, e_call6_4, xP, xld, xst1, xst2, xis2, xii, xid, xll, xlv, xls, xlc, xil, xli, xrd, xdup, xdup2, xc1, xpu, c_eq, c_ne, c_lt, c_ge, c_gt, c_le, Option.bind_some, Option.map_some, List.length_nil, List.length_cons, Nat.reduceAdd, Nat.reduceLeDiff, Int.reduceToNat, Bool.and_self, Bool.false_eq_true, if_true, if_false, g_x_0, g_x_1, g_x_2, g_x_3, g_x_4, g_x_5, g_x_6, g_x_7, g_S_0, g_S_1, g_S_2, g_S_3, g_S_4, g_S_5, g_S_6, g_S_7, g_S_8, p_S_0, p_S_3, p_S_5, p_S_6, p_S_8_0, p_S_8_1, r_order, s_order, r_unlike, s_unlike, g_F_0, g_F_1, g_F_2, g_F_3, g_F_4, p_F_0, p_F_1, p_F_2, p_F_3, r_W, s_W, g_R_0, g_R_1, g_R_2, g_R_3, g_R_4, p_R_0, p_R_1, p_R_2, p_R_3, p_R_4, rd0F, rd0R, r_refusals, s_refusals, h0]
  have a2 : ∀ t : List xI, xB xcall (den 48) (.inl (.aload 0) :: .inl (.getfield 193) :: .inl (.iload 3) :: .inl .aaload :: .inl (.iload 1) :: .inl (.iload 2) :: .inr (.invokeinterface 8 3) :: t) [some (.ref 3), some (.int lo), some (.int hi), some (.int (nI n))] [] (hp q S P A D K X E Z I J V) = xB xcall (den 48) t [some (.ref 3), some (.int lo), some (.int hi), some (.int (nI n))] [] (hp q (vf_upd S 0 (bgS (S 0) n lo hi)) P A D K X E Z I J V) := by
    intro t
    simp (maxSteps := 2000000) (disch := omega) only [e_inl, e_goto, e_fall, e_if, e_icmp, e_iret, e_zret, e_lret, e_vret, e_call0_0, e_call0_1, e_call0_2, e_call0_3, e_call0_4, e_call1_0, e_call1_1, e_call1_2, e_call1_3, e_call1_4, e_call2_0, e_call2_1, e_call2_2, e_call2_3, e_call2_4, e_call3_0, e_call3_1, e_call3_2, e_call3_3, e_call3_4, e_call4_0, e_call4_1, e_call4_2, e_call4_3, e_call4_4, e_call5_0, e_call5_1, e_call5_2, e_call5_3, e_call5_4, e_call6_0, e_call6_1, e_call6_2, e_call6_3, e_call6_4, xP, xld, xst1, xst2, xis2, xii, xid, xll, xlv, xls, xlc, xil, xli, xrd, xdup, xdup2, xc1, xpu, c_eq, c_ne, c_lt, c_ge, c_gt, c_le, Option.bind_some, Option.map_some, List.length_nil, List.length_cons, Nat.reduceAdd, Nat.reduceLeDiff, Int.reduceToNat, Bool.and_self, Bool.false_eq_true, if_true, if_false, g_x_0, g_x_1, g_x_2, g_x_3, g_x_4, g_x_5, g_x_6, g_x_7, g_S_0, g_S_1, g_S_2, g_S_3, g_S_4, g_S_5, g_S_6, g_S_7, g_S_8, p_S_0, p_S_3, p_S_5, p_S_6, p_S_8_0, p_S_8_1, r_order, s_order, r_unlike, s_unlike, g_F_0, g_F_1, g_F_2, g_F_3, g_F_4, p_F_0, p_F_1, p_F_2, p_F_3, r_W, s_W, g_R_0, g_R_1, g_R_2, g_R_3, g_R_4, p_R_0, p_R_1, p_R_2, p_R_3, p_R_4, rd0F, rd0R, r_refusals, s_refusals, c_begin]
  have a3 : ∀ (S : Nat → xSt) (t : List xI), xB xcall (den 48) (.inl (.aload 0) :: .inl (.getfield 194) :: .inl (.iload 3) :: .inl (.iload 3) :: .inl .iastore :: t) [some (.ref 3), some (.int lo), some (.int hi), some (.int (nI n))] [] (hp q S P A D K X E Z I J V) = xB xcall (den 48) t [some (.ref 3), some (.int lo), some (.int hi), some (.int (nI n))] [] (hp q (vf_upd S 0 (sO (S 0) (upd (S 0).2.2.2.1 n (nI n)))) P A D K X E Z I J V) := by
    intro S t
    simp (maxSteps := 2000000) (disch := omega) only [e_inl, e_goto, e_fall, e_if, e_icmp, e_iret, e_zret, e_lret, e_vret, e_call0_0, e_call0_1, e_call0_2, e_call0_3, e_call0_4, e_call1_0, e_call1_1, e_call1_2, e_call1_3, e_call1_4, e_call2_0, e_call2_1, e_call2_2, e_call2_3, e_call2_4, e_call3_0, e_call3_1, e_call3_2, e_call3_3, e_call3_4, e_call4_0, e_call4_1, e_call4_2, e_call4_3, e_call4_4, e_call5_0, e_call5_1, e_call5_2, e_call5_3, e_call5_4, e_call6_0, e_call6_1, e_call6_2, e_call6_3, e_call6_4, xP, xld, xst1, xst2, xis2, xii, xid, xll, xlv, xls, xlc, xil, xli, xrd, xdup, xdup2, xc1, xpu, c_eq, c_ne, c_lt, c_ge, c_gt, c_le, Option.bind_some, Option.map_some, List.length_nil, List.length_cons, Nat.reduceAdd, Nat.reduceLeDiff, Int.reduceToNat, Bool.and_self, Bool.false_eq_true, if_true, if_false, g_x_0, g_x_1, g_x_2, g_x_3, g_x_4, g_x_5, g_x_6, g_x_7, g_S_0, g_S_1, g_S_2, g_S_3, g_S_4, g_S_5, g_S_6, g_S_7, g_S_8, p_S_0, p_S_3, p_S_5, p_S_6, p_S_8_0, p_S_8_1, r_order, s_order, r_unlike, s_unlike, g_F_0, g_F_1, g_F_2, g_F_3, g_F_4, p_F_0, p_F_1, p_F_2, p_F_3, r_W, s_W, g_R_0, g_R_1, g_R_2, g_R_3, g_R_4, p_R_0, p_R_1, p_R_2, p_R_3, p_R_4, rd0F, rd0R, r_refusals, s_refusals, x_in, nI_clamp, and_self, Nat.reduceLeDiff, true_and, if_true]
  have a4 : ∀ (S : Nat → xSt) (t : List xI), (S 0).1 0 = nI n → xB xcall (den 48) (.inl (.aload 0) :: .inl .dup :: .inl (.getfield 192) :: .inl (.iconst 1) :: .inl .iadd :: .inl (.putfield 192) :: t) [some (.ref 3), some (.int lo), some (.int hi), some (.int (nI n))] [] (hp q S P A D K X E Z I J V) = xB xcall (den 48) t [some (.ref 3), some (.int lo), some (.int hi), some (.int (nI n))] [] (hp q (vf_upd S 0 (sI (S 0) 0 (nI (n + 1)))) P A D K X E Z I J V) := by
    intro S t h0
    simp (maxSteps := 2000000) (disch := omega) only [e_inl, e_goto, e_fall, e_if, e_icmp, e_iret, e_zret, e_lret, e_vret, e_call0_0, e_call0_1, e_call0_2, e_call0_3, e_call0_4, e_call1_0, e_call1_1, e_call1_2, e_call1_3, e_call1_4, e_call2_0, e_call2_1, e_call2_2, e_call2_3, e_call2_4, e_call3_0, e_call3_1, e_call3_2, e_call3_3, e_call3_4, e_call4_0, e_call4_1, e_call4_2, e_call4_3, e_call4_4, e_call5_0, e_call5_1, e_call5_2, e_call5_3, e_call5_4, e_call6_0, e_call6_1, e_call6_2, e_call6_3, e_call6_4, xP, xld, xst1, xst2, xis2, xii, xid, xll, xlv, xls, xlc, xil, xli, xrd, xdup, xdup2, xc1, xpu, c_eq, c_ne, c_lt, c_ge, c_gt, c_le, Option.bind_some, Option.map_some, List.length_nil, List.length_cons, Nat.reduceAdd, Nat.reduceLeDiff, Int.reduceToNat, Bool.and_self, Bool.false_eq_true, if_true, if_false, g_x_0, g_x_1, g_x_2, g_x_3, g_x_4, g_x_5, g_x_6, g_x_7, g_S_0, g_S_1, g_S_2, g_S_3, g_S_4, g_S_5, g_S_6, g_S_7, g_S_8, p_S_0, p_S_3, p_S_5, p_S_6, p_S_8_0, p_S_8_1, r_order, s_order, r_unlike, s_unlike, g_F_0, g_F_1, g_F_2, g_F_3, g_F_4, p_F_0, p_F_1, p_F_2, p_F_3, r_W, s_W, g_R_0, g_R_1, g_R_2, g_R_3, g_R_4, p_R_0, p_R_1, p_R_2, p_R_3, p_R_4, rd0F, rd0R, r_refusals, s_refusals, n_lit, nI_add, h0]
  have a5 : ∀ (S : Nat → xSt), xB xcall (den 48) [.inl (.aload 0), .inr (.invokeinterface 51 1), .inl (.iload 3), .inr .ireturn] [some (.ref 3), some (.int lo), some (.int hi), some (.int (nI n))] [] (hp q S P A D K X E Z I J V) = some (some (.int (nI n)), (hp q (vf_upd S 0 (eD (S 0))) P A D K X E Z I J V)) := by
    intro S
    simp (maxSteps := 2000000) (disch := omega) only [e_inl, e_goto, e_fall, e_if, e_icmp, e_iret, e_zret, e_lret, e_vret, e_call0_0, e_call0_1, e_call0_2, e_call0_3, e_call0_4, e_call1_0, e_call1_1, e_call1_2, e_call1_3, e_call1_4, e_call2_0, e_call2_1, e_call2_2, e_call2_3, e_call2_4, e_call3_0, e_call3_1, e_call3_2, e_call3_3, e_call3_4, e_call4_0, e_call4_1, e_call4_2, e_call4_3, e_call4_4, e_call5_0, e_call5_1, e_call5_2, e_call5_3, e_call5_4, e_call6_0, e_call6_1, e_call6_2, e_call6_3, e_call6_4, xP, xld, xst1, xst2, xis2, xii, xid, xll, xlv, xls, xlc, xil, xli, xrd, xdup, xdup2, xc1, xpu, c_eq, c_ne, c_lt, c_ge, c_gt, c_le, Option.bind_some, Option.map_some, List.length_nil, List.length_cons, Nat.reduceAdd, Nat.reduceLeDiff, Int.reduceToNat, Bool.and_self, Bool.false_eq_true, if_true, if_false, c_emptyDrawn]
  rw [N48 _ _ _ _ (o_S ..), D48_0, a1, a2, a3, a4, a5]
  · simp only [vu_s, vu_vu]
    rfl
  · rw [vu_s]
    exact h0
set_option maxRecDepth 100000 in
theorem c_tryField {σ : mS} (hw : wf σ) (hs : rpS σ (S 0)) (lo hi : Int32) : ∃ s : xSt, xcall 100 [.ref 2, .int lo, .int hi] (hp q S P A D K X E Z I J V) = some (some (.int (dF σ lo hi).1), (hp q (vf_upd S 0 s) P A D K X E Z I J V)) ∧ rpS (dF σ lo hi).2 s ∧ (s.1 8 = nI 0 ∨ (s = S 0 ∧ (dF σ lo hi).2 = σ)) := by
  have w1 := hw.1
  have h0 := hs.1
  rw [N100 _ _ _ _ (o_x ..), D100_0]
  unfold dF
  by_cases hok : (inB lo (nI 0) (nI 7) && inB hi lo (nI 7)) = true
  · rw [if_pos hok]
    have hok' := hok
    obtain ⟨l, h, rfl, rfl, h1, h2⟩ := rng_nat hok
    by_cases h4 : mn σ = 4
    · rw [if_pos h4]
      refine ⟨S 0, ?_, hs, Or.inr ⟨rfl, rfl⟩⟩
      rw [vu_id]
      rw [h4] at h0
      simp (maxSteps := 2000000) (disch := omega) only [e_inl, e_goto, e_fall, e_if, e_icmp, e_iret, e_zret, e_lret, e_vret, e_call0_0, e_call0_1, e_call0_2, e_call0_3, e_call0_4, e_call1_0, e_call1_1, e_call1_2, e_call1_3, e_call1_4, e_call2_0, e_call2_1, e_call2_2, e_call2_3, e_call2_4, e_call3_0, e_call3_1, e_call3_2, e_call3_3, e_call3_4, e_call4_0, e_call4_1, e_call4_2, e_call4_3, e_call4_4, e_call5_0, e_call5_1, e_call5_2, e_call5_3, e_call5_4, e_call6_0, e_call6_1, e_call6_2, e_call6_3, e_call6_4, xP, xld, xst1, xst2, xis2, xii, xid, xll, xlv, xls, xlc, xil, xli, xrd, xdup, xdup2, xc1, xpu, c_eq, c_ne, c_lt, c_ge, c_gt, c_le, Option.bind_some, Option.map_some, List.length_nil, List.length_cons, Nat.reduceAdd, Nat.reduceLeDiff, Int.reduceToNat, Bool.and_self, Bool.false_eq_true, if_true, if_false, D100_11, D100_36, g_x_0, g_x_1, g_x_2, g_x_3, g_x_4, g_x_5, g_x_6, g_x_7, g_S_0, g_S_1, g_S_2, g_S_3, g_S_4, g_S_5, g_S_6, g_S_7, g_S_8, p_S_0, p_S_3, p_S_5, p_S_6, p_S_8_0, p_S_8_1, r_order, s_order, r_unlike, s_unlike, g_F_0, g_F_1, g_F_2, g_F_3, g_F_4, p_F_0, p_F_1, p_F_2, p_F_3, r_W, s_W, g_R_0, g_R_1, g_R_2, g_R_3, g_R_4, p_R_0, p_R_1, p_R_2, p_R_3, p_R_4, rd0F, rd0R, r_refusals, s_refusals, n_lit, c_isRange, hok', zB_tt, n_0, nI_eq, Nat.one_ne_zero, not_false_eq_true, h0, not_true_eq_false]
    · rw [if_neg h4, nI_clamp (n := l) (by omega), nI_clamp (n := h) (by omega)]
      have ea := c_addField (q := q) (S := S) (P := P) (A := A) (D := D) (K := K) (X := X) (E := E) (Z := Z) (I := I) (J := J) (V := V) (show mn σ < 4 by omega) h0 (nI l) (nI h)
      refine ⟨_, ?_, (eD_rp (ad_rs hw hs (by omega))).1, Or.inl (eD_rp (ad_rs (l := l) (hh := h) hw hs (by omega))).2⟩
      simp (maxSteps := 2000000) (disch := omega) only [e_inl, e_goto, e_fall, e_if, e_icmp, e_iret, e_zret, e_lret, e_vret, e_call0_0, e_call0_1, e_call0_2, e_call0_3, e_call0_4, e_call1_0, e_call1_1, e_call1_2, e_call1_3, e_call1_4, e_call2_0, e_call2_1, e_call2_2, e_call2_3, e_call2_4, e_call3_0, e_call3_1, e_call3_2, e_call3_3, e_call3_4, e_call4_0, e_call4_1, e_call4_2, e_call4_3, e_call4_4, e_call5_0, e_call5_1, e_call5_2, e_call5_3, e_call5_4, e_call6_0, e_call6_1, e_call6_2, e_call6_3, e_call6_4, xP, xld, xst1, xst2, xis2, xii, xid, xll, xlv, xls, xlc, xil, xli, xrd, xdup, xdup2, xc1, xpu, c_eq, c_ne, c_lt, c_ge, c_gt, c_le, Option.bind_some, Option.map_some, List.length_nil, List.length_cons, Nat.reduceAdd, Nat.reduceLeDiff, Int.reduceToNat, Bool.and_self, Bool.false_eq_true, if_true, if_false, D100_11, D100_27, D100_36, g_x_0, g_x_1, g_x_2, g_x_3, g_x_4, g_x_5, g_x_6, g_x_7, g_S_0, g_S_1, g_S_2, g_S_3, g_S_4, g_S_5, g_S_6, g_S_7, g_S_8, p_S_0, p_S_3, p_S_5, p_S_6, p_S_8_0, p_S_8_1, r_order, s_order, r_unlike, s_unlike, g_F_0, g_F_1, g_F_2, g_F_3, g_F_4, p_F_0, p_F_1, p_F_2, p_F_3, r_W, s_W, g_R_0, g_R_1, g_R_2, g_R_3, g_R_4, p_R_0, p_R_1, p_R_2, p_R_3, p_R_4, rd0F, rd0R, r_refusals, s_refusals, n_lit, c_isRange, hok', zB_tt, n_0, nI_eq, Nat.one_ne_zero, not_false_eq_true, h0, h4, ea]
  · rw [if_neg hok]
    refine ⟨S 0, ?_, hs, Or.inr ⟨rfl, rfl⟩⟩
    rw [vu_id]
    simp (maxSteps := 2000000) (disch := omega) only [e_inl, e_goto, e_fall, e_if, e_icmp, e_iret, e_zret, e_lret, e_vret, e_call0_0, e_call0_1, e_call0_2, e_call0_3, e_call0_4, e_call1_0, e_call1_1, e_call1_2, e_call1_3, e_call1_4, e_call2_0, e_call2_1, e_call2_2, e_call2_3, e_call2_4, e_call3_0, e_call3_1, e_call3_2, e_call3_3, e_call3_4, e_call4_0, e_call4_1, e_call4_2, e_call4_3, e_call4_4, e_call5_0, e_call5_1, e_call5_2, e_call5_3, e_call5_4, e_call6_0, e_call6_1, e_call6_2, e_call6_3, e_call6_4, xP, xld, xst1, xst2, xis2, xii, xid, xll, xlv, xls, xlc, xil, xli, xrd, xdup, xdup2, xc1, xpu, c_eq, c_ne, c_lt, c_ge, c_gt, c_le, Option.bind_some, Option.map_some, List.length_nil, List.length_cons, Nat.reduceAdd, Nat.reduceLeDiff, Int.reduceToNat, Bool.and_self, Bool.false_eq_true, if_true, if_false, g_x_0, g_x_1, g_x_2, g_x_3, g_x_4, g_x_5, g_x_6, g_x_7, g_S_0, g_S_1, g_S_2, g_S_3, g_S_4, g_S_5, g_S_6, g_S_7, g_S_8, p_S_0, p_S_3, p_S_5, p_S_6, p_S_8_0, p_S_8_1, r_order, s_order, r_unlike, s_unlike, g_F_0, g_F_1, g_F_2, g_F_3, g_F_4, p_F_0, p_F_1, p_F_2, p_F_3, r_W, s_W, g_R_0, g_R_1, g_R_2, g_R_3, g_R_4, p_R_0, p_R_1, p_R_2, p_R_3, p_R_4, rd0F, rd0R, r_refusals, s_refusals, c_isRange, Bool.eq_false_iff.mpr hok, zB_ff, n_0, not_true_eq_false]
end
