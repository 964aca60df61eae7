/-! ===== the reference draws ===== -/
/-- what an order leaves alone -/
def DF (I I' : Nat → Int32) (V V' : Nat → Nat → Int32) : Prop := (∀ k, k ≠ 5 → k ≠ 7 → k ≠ 8 → k ≠ 11 → I' k = I k) ∧ ∀ k, k ≠ 0 → k ≠ 6 → k ≠ 9 → k ≠ 10 → k ≠ 12 → V' k = V k
theorem DF.rf (I : Nat → Int32) (V : Nat → Nat → Int32) : DF I I V V := ⟨fun _ _ _ _ _ => rfl, fun _ _ _ _ _ _ => rfl⟩
theorem DF.tr {I I' I'' : Nat → Int32} {V V' V'' : Nat → Nat → Int32} (h1 : DF I I' V V') (h2 : DF I' I'' V' V'') : DF I I'' V V'' :=
  ⟨fun k a b c d => (h2.1 k a b c d).trans (h1.1 k a b c d), fun k a b c d e => (h2.2 k a b c d e).trans (h1.2 k a b c d e)⟩
theorem Kept.DF {I I' : Nat → Int32} {V V' : Nat → Nat → Int32} (h : Kept I I' V V') : DF I I' V V' := ⟨h.1, fun k _ b c d _ => h.2 k b c d⟩
theorem DK.DF {I : Nat → Int32} {V V' : Nat → Nat → Int32} (h : DK V V') : DF I I V V' := ⟨fun _ _ _ _ _ => rfl, fun k a _ _ _ b => h k a b⟩
theorem DF.u0 {I : Nat → Int32} {V : Nat → Nat → Int32} (x : Nat → Int32) : DF I I V (vf_upd V 0 x) := ⟨fun _ _ _ _ _ => rfl, fun k a _ _ _ _ => vu_n _ _ a⟩
theorem DF.u05 {I : Nat → Int32} {V : Nat → Nat → Int32} (x : Nat → Int32) (y : Int32) : DF I (upd I 5 y) V (vf_upd V 0 x) := ⟨fun k a _ _ _ => u_n _ _ a, fun k a _ _ _ _ => vu_n _ _ a⟩
def okD (how from_ : Int32) : Bool := inB how (nI 0) (nI 1) && inB from_ (nI 0) (nI 999999)
/-- the draw: answer and state -/
def dD (σ : mS) (how from_ : Int32) : Int32 × mS := if okD how from_ = true then (if lwN σ = 0 then (Int32.ofInt (-3), σ) else if how = nI 0 then (nI (fb_ct (lawB σ) (tgX σ (lawB σ) from_.toNatClampNeg)), ndS (ttS σ (lawB σ) (mn σ)).1 (tgX σ (lawB σ) from_.toNatClampNeg)) else (nI (fb_ct (lawB σ) (ioX σ (lawB σ) from_.toNatClampNeg)), ndS (ioS σ (lawB σ) from_.toNatClampNeg (mn σ)).1 (ioX σ (lawB σ) from_.toNatClampNeg))) else (Int32.ofInt (-2), σ)
theorem lw_some {σ : mS} (h : lwN σ ≠ 0) : some1 (lawB σ) := fb_ct_pos.mp (show 0 < fb_ct (lawB σ) 4096 from Nat.pos_of_ne_zero h)
theorem dD_wf {σ : mS} (hw : wf σ) (how from_ : Int32) : wf (dD σ how from_).2 ∧ sameL σ (dD σ how from_).2 := by
  unfold dD
  split
  · rename_i hok
    split
    · exact ⟨hw, sameL.rf σ⟩
    · rename_i h0
      have hm := lw_some h0
      unfold okD at hok
      rw [Bool.and_eq_true] at hok
      obtain ⟨s, hs, e⟩ := inB_of (by decide) hok.2
      have hs2 : from_.toNatClampNeg < 2 ^ 31 := by rw [e, nI_clamp (by omega)]; omega
      split
      · obtain ⟨o1, o2, o3, o4⟩ := ttS_ok hw hm (mn σ)
        exact ⟨ndS_wf o1 (tgX_ok hw hm _).1, o2.L.tr (ndS_L _ _)⟩
      · obtain ⟨o1, o2, o3, o4, o5⟩ := ioS_ok hw hm hs2 (mn σ)
        exact ⟨ndS_wf o1 (ioX_ok hw hm hs2).1, o2.L.tr (ndS_L _ _)⟩
  · exact ⟨hw, sameL.rf σ⟩
section
variable {q : Nat × (Nat → Int32)} {S : Nat → xSt} {P : Int32 × (Nat → Nat)} {A : (Nat → Int64) × Int32 × Int32 × (Nat → Int64) × (Nat → Nat → Int64)} {D : (Nat → Int64) × Int64} {K : Nat → Int64} {X : Int32 × Int32 × Int32 × (Nat → Int32) × (Nat → Int32)} {E Z : Nat → Int32} {I : Nat → Int32} {J : Nat → Int64} {V : Nat → Nat → Int32}
set_option maxRecDepth 100000 in
theorem t_dd_38 {n : Nat} (h7 : I 7 = nI n) (hn : n ≤ 4096) {z1 z2 : Int32} {z4 z5 : Option Value} : den 169 38 [some (.ref 163), some (.int z1), some (.int z2), some (.int (nI 0)), z4, z5] [] (hp q S P A D K X E Z I J V) = den 169 59 [some (.ref 163), some (.int z1), some (.int z2), some (.int (nI n)), z4, z5] [] (hp q S P A D K X E Z I J (vf_upd V 12 (fa_fill (fun _ => nI 1) (V 12) n))) := by
  have hl := x_loop (i := 169) (pc := 38) (fun k => [some (.ref 163), some (.int z1), some (.int z2), some (.int (nI k)), z4, z5]) (fun k => (hp q S P A D K X E Z I J (vf_upd V 12 (fa_fill (fun _ => nI 1) (V 12) k)))) n (fun k hk => by
    rw [D169_38]
    have h1 : ¬ n ≤ k := by omega
    have h2 := fa_fill_succ (fun _ => nI 1) (V 12) k
    simp (maxSteps := 2000000) (disch := omega) only [e_inl, e_goto, e_fall, e_if, e_icmp, e_iret, e_zret, e_lret, e_vret, e_call0_0, e_call0_1, e_call0_2, e_call0_3, e_call0_4, e_call1_0, e_call1_1, e_call1_2, e_call1_3, e_call1_4, e_call2_0, e_call2_1, e_call2_2, e_call2_3, e_call2_4, e_call3_0, e_call3_1, e_call3_2, e_call3_3, e_call3_4, e_call4_0, e_call4_1, e_call4_2, e_call4_3, e_call4_4, e_call5_0, e_call5_1, e_call5_2, e_call5_3, e_call5_4, e_call6_0, e_call6_1, e_call6_2, e_call6_3, e_call6_4, xP, xld, xst1, xst2, xis2, xii, xid, xll, xlv, xls, xlc, xil, xli, xrd, xdup, xdup2, xc1, xpu, c_eq, c_ne, c_lt, c_ge, c_gt, c_le, Option.bind_some, Option.map_some, List.length_nil, List.length_cons, Nat.reduceAdd, Nat.reduceLeDiff, Int.reduceToNat, Bool.and_self, Bool.false_eq_true, if_true, if_false, o_m, g_m_0, g_m_1, g_m_2, g_m_3, g_m_4, g_m_5, g_m_6, g_m_7, g_m_8, g_m_9, g_m_10, g_m_11, g_m_12, g_m_13, g_m_14, g_m_15, g_m_16, g_m_17, g_m_18, g_m_19, g_m_20, g_m_21, p_m_3, p_m_7, p_m_8, p_m_11, p_m_13, p_m_15, p_m_16, p_m_17, p_m_18, p_m_21, p_m_5_0, p_m_5_1, r_m0, s_m0, r_m1, s_m1, r_m2, s_m2, r_m4, s_m4, r_m6, s_m6, r_m9, s_m9, r_m10, s_m10, r_m12, s_m12, r_m14, s_m14, r_m19, s_m19, r_m20, s_m20, Nat.reduceEqDiff, decide_true, decide_false, Bool.true_and, Bool.false_and, Bool.and_true, Bool.and_false, zB_tt, zB_ff, not_false_eq_true, not_true_eq_false, n_lit, n_mul, nI_add, n_sub, x_in, nI_clamp, nI_ltI, nI_leI, nI_eq, and_self, true_and, and_true, h7, h1, n_0, n_1, Nat.one_ne_zero, or_true, vu_s, vu_vu, h2])
  simp only [fa_fill_0, vu_id] at hl
  rw [hl, D169_38]
  simp (maxSteps := 2000000) (disch := omega) only [e_inl, e_goto, e_fall, e_if, e_icmp, e_iret, e_zret, e_lret, e_vret, e_call0_0, e_call0_1, e_call0_2, e_call0_3, e_call0_4, e_call1_0, e_call1_1, e_call1_2, e_call1_3, e_call1_4, e_call2_0, e_call2_1, e_call2_2, e_call2_3, e_call2_4, e_call3_0, e_call3_1, e_call3_2, e_call3_3, e_call3_4, e_call4_0, e_call4_1, e_call4_2, e_call4_3, e_call4_4, e_call5_0, e_call5_1, e_call5_2, e_call5_3, e_call5_4, e_call6_0, e_call6_1, e_call6_2, e_call6_3, e_call6_4, xP, xld, xst1, xst2, xis2, xii, xid, xll, xlv, xls, xlc, xil, xli, xrd, xdup, xdup2, xc1, xpu, c_eq, c_ne, c_lt, c_ge, c_gt, c_le, Option.bind_some, Option.map_some, List.length_nil, List.length_cons, Nat.reduceAdd, Nat.reduceLeDiff, Int.reduceToNat, Bool.and_self, Bool.false_eq_true, if_true, if_false, o_m, g_m_0, g_m_1, g_m_2, g_m_3, g_m_4, g_m_5, g_m_6, g_m_7, g_m_8, g_m_9, g_m_10, g_m_11, g_m_12, g_m_13, g_m_14, g_m_15, g_m_16, g_m_17, g_m_18, g_m_19, g_m_20, g_m_21, p_m_3, p_m_7, p_m_8, p_m_11, p_m_13, p_m_15, p_m_16, p_m_17, p_m_18, p_m_21, p_m_5_0, p_m_5_1, r_m0, s_m0, r_m1, s_m1, r_m2, s_m2, r_m4, s_m4, r_m6, s_m6, r_m9, s_m9, r_m10, s_m10, r_m12, s_m12, r_m14, s_m14, r_m19, s_m19, r_m20, s_m20, Nat.reduceEqDiff, decide_true, decide_false, Bool.true_and, Bool.false_and, Bool.and_true, Bool.and_false, zB_tt, zB_ff, not_false_eq_true, not_true_eq_false, n_lit, n_mul, nI_add, n_sub, x_in, nI_clamp, nI_ltI, nI_leI, nI_eq, and_self, true_and, and_true, h7, Nat.le_refl]
set_option maxRecDepth 100000 in
theorem t_doDraws {σ : mS} (hw : wf σ) (hr : rpA σ (V 0)) (hL : LayI σ I V) (how from_ : Int32) : ∃ (I' : Nat → Int32) (V' : Nat → Nat → Int32) (J' : Nat → Int64), xcall 169 [.ref 163, .int how, .int from_] (hp q S P A D K X E Z I J V) = some (some (.int (dD σ how from_).1), (hp q S P A D K X E Z (I') (J') (V'))) ∧ rpA (dD σ how from_).2 (V' 0) ∧ LayI (dD σ how from_).2 I' V' ∧ DF I I' V V' := by
  have hwf := dD_wf hw how from_
  rw [N169 _ _ _ _ (o_m ..), D169_0]
  unfold dD at hwf ⊢
  cases hok : okD how from_
  · refine ⟨I, V, J, ?_, hr, hL, DF.rf I V⟩
    unfold okD at hok
    simp only [Bool.false_eq_true, if_false]
    cases h1 : inB how (nI 0) (nI 1)
    · simp (maxSteps := 2000000) (disch := omega) only [e_inl, e_goto, e_fall, e_if, e_icmp, e_iret, e_zret, e_lret, e_vret, e_call0_0, e_call0_1, e_call0_2, e_call0_3, e_call0_4, e_call1_0, e_call1_1, e_call1_2, e_call1_3, e_call1_4, e_call2_0, e_call2_1, e_call2_2, e_call2_3, e_call2_4, e_call3_0, e_call3_1, e_call3_2, e_call3_3, e_call3_4, e_call4_0, e_call4_1, e_call4_2, e_call4_3, e_call4_4, e_call5_0, e_call5_1, e_call5_2, e_call5_3, e_call5_4, e_call6_0, e_call6_1, e_call6_2, e_call6_3, e_call6_4, xP, xld, xst1, xst2, xis2, xii, xid, xll, xlv, xls, xlc, xil, xli, xrd, xdup, xdup2, xc1, xpu, c_eq, c_ne, c_lt, c_ge, c_gt, c_le, Option.bind_some, Option.map_some, List.length_nil, List.length_cons, Nat.reduceAdd, Nat.reduceLeDiff, Int.reduceToNat, Bool.and_self, Bool.false_eq_true, if_true, if_false, D169_19, Nat.reduceEqDiff, decide_true, decide_false, Bool.true_and, Bool.false_and, Bool.and_true, Bool.and_false, zB_tt, zB_ff, not_false_eq_true, not_true_eq_false, n_lit, n_mul, nI_add, n_sub, x_in, nI_clamp, nI_ltI, nI_leI, nI_eq, and_self, true_and, and_true, t_inB, h1, n_0]
    · rw [h1, Bool.true_and] at hok
      simp (maxSteps := 2000000) (disch := omega) only [e_inl, e_goto, e_fall, e_if, e_icmp, e_iret, e_zret, e_lret, e_vret, e_call0_0, e_call0_1, e_call0_2, e_call0_3, e_call0_4, e_call1_0, e_call1_1, e_call1_2, e_call1_3, e_call1_4, e_call2_0, e_call2_1, e_call2_2, e_call2_3, e_call2_4, e_call3_0, e_call3_1, e_call3_2, e_call3_3, e_call3_4, e_call4_0, e_call4_1, e_call4_2, e_call4_3, e_call4_4, e_call5_0, e_call5_1, e_call5_2, e_call5_3, e_call5_4, e_call6_0, e_call6_1, e_call6_2, e_call6_3, e_call6_4, xP, xld, xst1, xst2, xis2, xii, xid, xll, xlv, xls, xlc, xil, xli, xrd, xdup, xdup2, xc1, xpu, c_eq, c_ne, c_lt, c_ge, c_gt, c_le, Option.bind_some, Option.map_some, List.length_nil, List.length_cons, Nat.reduceAdd, Nat.reduceLeDiff, Int.reduceToNat, Bool.and_self, Bool.false_eq_true, if_true, if_false, D169_19, Nat.reduceEqDiff, decide_true, decide_false, Bool.true_and, Bool.false_and, Bool.and_true, Bool.and_false, zB_tt, zB_ff, not_false_eq_true, not_true_eq_false, n_lit, n_mul, nI_add, n_sub, x_in, nI_clamp, nI_ltI, nI_leI, nI_eq, and_self, true_and, and_true, t_inB, h1, hok, n_0, Nat.one_ne_zero]
  · rw [hok] at hwf
    simp only [if_true] at hwf ⊢
    unfold okD at hok
    rw [Bool.and_eq_true] at hok
    obtain ⟨hk1, hk2⟩ := hok
    obtain ⟨s, hs, es⟩ := inB_of (by decide) hk2
    obtain ⟨w, hw1, ew⟩ := inB_of (by decide) hk1
    obtain ⟨I1, V1, el, g1, g2, g3⟩ := t_layA (q := q) (S := S) (P := P) (A := A) (D := D) (K := K) (X := X) (E := E) (Z := Z) (J := J) hw hr hL
    have e7 := g2.2.2.2.2.1
    have e6 := g2.2.2.2.2.2
    rw [lwN_len] at e7 e6
    have hN := lwN_le σ
    have hr1 : rpA σ (V1 0) := by rw [g3.2 0 (by omega) (by omega) (by omega)]; exact hr
    by_cases h0 : lwN σ = 0
    · refine ⟨I1, V1, J, ?_, ?_, ?_, g3.DF⟩
      · rw [if_pos h0]
        rw [h0] at e7
        simp (maxSteps := 2000000) (disch := omega) only [e_inl, e_goto, e_fall, e_if, e_icmp, e_iret, e_zret, e_lret, e_vret, e_call0_0, e_call0_1, e_call0_2, e_call0_3, e_call0_4, e_call1_0, e_call1_1, e_call1_2, e_call1_3, e_call1_4, e_call2_0, e_call2_1, e_call2_2, e_call2_3, e_call2_4, e_call3_0, e_call3_1, e_call3_2, e_call3_3, e_call3_4, e_call4_0, e_call4_1, e_call4_2, e_call4_3, e_call4_4, e_call5_0, e_call5_1, e_call5_2, e_call5_3, e_call5_4, e_call6_0, e_call6_1, e_call6_2, e_call6_3, e_call6_4, xP, xld, xst1, xst2, xis2, xii, xid, xll, xlv, xls, xlc, xil, xli, xrd, xdup, xdup2, xc1, xpu, c_eq, c_ne, c_lt, c_ge, c_gt, c_le, Option.bind_some, Option.map_some, List.length_nil, List.length_cons, Nat.reduceAdd, Nat.reduceLeDiff, Int.reduceToNat, Bool.and_self, Bool.false_eq_true, if_true, if_false, D169_22, o_m, g_m_0, g_m_1, g_m_2, g_m_3, g_m_4, g_m_5, g_m_6, g_m_7, g_m_8, g_m_9, g_m_10, g_m_11, g_m_12, g_m_13, g_m_14, g_m_15, g_m_16, g_m_17, g_m_18, g_m_19, g_m_20, g_m_21, p_m_3, p_m_7, p_m_8, p_m_11, p_m_13, p_m_15, p_m_16, p_m_17, p_m_18, p_m_21, p_m_5_0, p_m_5_1, r_m0, s_m0, r_m1, s_m1, r_m2, s_m2, r_m4, s_m4, r_m6, s_m6, r_m9, s_m9, r_m10, s_m10, r_m12, s_m12, r_m14, s_m14, r_m19, s_m19, r_m20, s_m20, Nat.reduceEqDiff, decide_true, decide_false, Bool.true_and, Bool.false_and, Bool.and_true, Bool.and_false, zB_tt, zB_ff, not_false_eq_true, not_true_eq_false, n_lit, n_mul, nI_add, n_sub, x_in, nI_clamp, nI_ltI, nI_leI, nI_eq, and_self, true_and, and_true, t_inB, hk1, hk2, n_0, Nat.one_ne_zero, el, e7]
      · rw [if_pos h0]; exact hr1
      · rw [if_pos h0]; exact Or.inr ⟨g1, g2⟩
    · rw [if_neg h0] at hwf ⊢
      have hm := lw_some h0
      have hB : LB (lawB σ) I1 (vf_upd V1 12 (fa_fill (fun _ => nI 1) (V1 12) (lwN σ))) := ⟨e7, fun i hi => by rw [vu_n _ _ (by omega)]; exact e6 i hi⟩
      have hM : MayI (lawB σ) (lawB σ) (vf_upd V1 12 (fa_fill (fun _ => nI 1) (V1 12) (lwN σ))) := fun i hi => by
        have hi2 : i < lwN σ := hi
        rw [vu_s, fa_fill_in hi2, (flw_mem hi).2.1]
        rfl
      have hr2 : rpA σ (vf_upd V1 12 (fa_fill (fun _ => nI 1) (V1 12) (lwN σ)) 0) := by rw [vu_n _ _ (by omega)]; exact hr1
      have hs2 : s < 2 ^ 31 := by omega
      have ec : from_.toNatClampNeg = s := by rw [es, nI_clamp (by omega)]
      rw [ec] at hwf ⊢
      have e38 := t_dd_38 (q := q) (S := S) (P := P) (A := A) (D := D) (K := K) (X := X) (E := E) (Z := Z) (I := I1) (J := J) (V := V1) (z1 := how) (z2 := from_) (z4 := none) (z5 := none) e7 hN
      have e13 : (vp_updL J 13 (lN s)) 13 = lN s := l_s _ _ _
      have ei : from_.toInt64 = lN s := by rw [es]; exact m_i2l (by omega)
      have hD1 : DF I I1 V (vf_upd V1 12 (fa_fill (fun _ => nI 1) (V1 12) (lwN σ))) := g3.DF.tr ⟨fun _ _ _ _ _ => rfl, fun k _ _ _ _ e => vu_n _ _ e⟩
      have fin : ∀ (V2 : Nat → Nat → Int32) (σ2 : mS) (x : Nat), wf σ2 → sameL σ σ2 → rpA σ2 (V2 0) → x < 4096 → lawB σ x = true → DK (vf_upd V1 12 (fa_fill (fun _ => nI 1) (V1 12) (lwN σ))) V2 → (∀ (J2 : Nat → Int64) (z3 : Int32), den 169 80 [some (.ref 163), some (.int how), some (.int from_), some (.int z3), none, none] [.int (nI (fb_ct (lawB σ) x))] (hp q S P A D K X E Z (I1) (J2) (V2)) = some (some (.int (nI (fb_ct (lawB σ) x))), (hp q S P A D K X E Z (I1) (J2) (vf_upd V2 0 (nfA σ2 (V2 0) x))))) ∧ rpA (ndS σ2 x) (vf_upd V2 0 (nfA σ2 (V2 0) x) 0) ∧ LayI (ndS σ2 x) I1 (vf_upd V2 0 (nfA σ2 (V2 0) x)) ∧ DF I I1 V (vf_upd V2 0 (nfA σ2 (V2 0) x)) := by
        intro V2 σ2 x hw2 hL2 hr3 hx hlx hdk
        have hct := ct_in hx hlx
        have h6 : V2 6 (fb_ct (lawB σ) x) = nI x := by
          rw [hdk 6 (by omega) (by omega), vu_n _ _ (by omega), e6 _ hct]
          show nI (lw σ _) = _
          rw [lw_get hx hlx]
        have hct2 : fb_ct (lawB σ) x < 4096 := by
          have : fb_ct (lawB σ) 4096 = lwN σ := rfl
          omega
        refine ⟨fun J2 z3 => t_dd_80 hw2 hr3 hx hct2 h6, ?_, ?_, ?_⟩
        · rw [vu_s]
          exact nfA_rp hw2 hr3 hx
        · apply (hL2.tr (ndS_L σ2 x)).lay
          refine LayI.of (I := I1) (V := V1) (Or.inr ⟨g1, g2⟩) (fun _ _ => rfl) (fun k hk => ?_)
          rw [vu_n _ _ (by omega), hdk k (by omega) (by omega), vu_n _ _ (by omega)]
        · exact hD1.tr (hdk.DF.tr (DF.u0 _))
      by_cases hz : how = nI 0
      · rw [if_pos hz] at hwf ⊢
        obtain ⟨V2, et, k1, k2⟩ := t_takeTogether (q := q) (S := S) (P := P) (A := A) (D := D) (K := K) (X := X) (E := E) (Z := Z) (I := I1) (J := vp_updL J 13 (lN s)) hw hr2 hm (fun _ h => h) hB hM hs2 e13
        obtain ⟨o1, o2, o3, o4⟩ := ttS_ok hw hm (mn σ)
        obtain ⟨x1, x2⟩ := tgX_ok hw hm s
        obtain ⟨e80, q1, q2, q3⟩ := fin V2 _ _ o1 o2.L k1 x1 x2 k2
        refine ⟨I1, _, vp_updL (vp_updL J 13 (lN s)) 13 (lN (sd s)), ?_, q1, q2, q3⟩
        subst hz
        simp (maxSteps := 2000000) (disch := omega) only [e_inl, e_goto, e_fall, e_if, e_icmp, e_iret, e_zret, e_lret, e_vret, e_call0_0, e_call0_1, e_call0_2, e_call0_3, e_call0_4, e_call1_0, e_call1_1, e_call1_2, e_call1_3, e_call1_4, e_call2_0, e_call2_1, e_call2_2, e_call2_3, e_call2_4, e_call3_0, e_call3_1, e_call3_2, e_call3_3, e_call3_4, e_call4_0, e_call4_1, e_call4_2, e_call4_3, e_call4_4, e_call5_0, e_call5_1, e_call5_2, e_call5_3, e_call5_4, e_call6_0, e_call6_1, e_call6_2, e_call6_3, e_call6_4, xP, xld, xst1, xst2, xis2, xii, xid, xll, xlv, xls, xlc, xil, xli, xrd, xdup, xdup2, xc1, xpu, c_eq, c_ne, c_lt, c_ge, c_gt, c_le, Option.bind_some, Option.map_some, List.length_nil, List.length_cons, Nat.reduceAdd, Nat.reduceLeDiff, Int.reduceToNat, Bool.and_self, Bool.false_eq_true, if_true, if_false, D169_22, D169_36, o_m, g_m_0, g_m_1, g_m_2, g_m_3, g_m_4, g_m_5, g_m_6, g_m_7, g_m_8, g_m_9, g_m_10, g_m_11, g_m_12, g_m_13, g_m_14, g_m_15, g_m_16, g_m_17, g_m_18, g_m_19, g_m_20, g_m_21, p_m_3, p_m_7, p_m_8, p_m_11, p_m_13, p_m_15, p_m_16, p_m_17, p_m_18, p_m_21, p_m_5_0, p_m_5_1, r_m0, s_m0, r_m1, s_m1, r_m2, s_m2, r_m4, s_m4, r_m6, s_m6, r_m9, s_m9, r_m10, s_m10, r_m12, s_m12, r_m14, s_m14, r_m19, s_m19, r_m20, s_m20, Nat.reduceEqDiff, decide_true, decide_false, Bool.true_and, Bool.false_and, Bool.and_true, Bool.and_false, zB_tt, zB_ff, not_false_eq_true, not_true_eq_false, n_lit, n_mul, nI_add, n_sub, x_in, nI_clamp, nI_ltI, nI_leI, nI_eq, and_self, true_and, and_true, t_inB, hk1, hk2, n_0, Nat.one_ne_zero, el, e7, h0]
        rw [e38, D169_59]
        simp (maxSteps := 2000000) (disch := omega) only [e_inl, e_goto, e_fall, e_if, e_icmp, e_iret, e_zret, e_lret, e_vret, e_call0_0, e_call0_1, e_call0_2, e_call0_3, e_call0_4, e_call1_0, e_call1_1, e_call1_2, e_call1_3, e_call1_4, e_call2_0, e_call2_1, e_call2_2, e_call2_3, e_call2_4, e_call3_0, e_call3_1, e_call3_2, e_call3_3, e_call3_4, e_call4_0, e_call4_1, e_call4_2, e_call4_3, e_call4_4, e_call5_0, e_call5_1, e_call5_2, e_call5_3, e_call5_4, e_call6_0, e_call6_1, e_call6_2, e_call6_3, e_call6_4, xP, xld, xst1, xst2, xis2, xii, xid, xll, xlv, xls, xlc, xil, xli, xrd, xdup, xdup2, xc1, xpu, c_eq, c_ne, c_lt, c_ge, c_gt, c_le, Option.bind_some, Option.map_some, List.length_nil, List.length_cons, Nat.reduceAdd, Nat.reduceLeDiff, Int.reduceToNat, Bool.and_self, Bool.false_eq_true, if_true, if_false, o_m, g_m_0, g_m_1, g_m_2, g_m_3, g_m_4, g_m_5, g_m_6, g_m_7, g_m_8, g_m_9, g_m_10, g_m_11, g_m_12, g_m_13, g_m_14, g_m_15, g_m_16, g_m_17, g_m_18, g_m_19, g_m_20, g_m_21, p_m_3, p_m_7, p_m_8, p_m_11, p_m_13, p_m_15, p_m_16, p_m_17, p_m_18, p_m_21, p_m_5_0, p_m_5_1, r_m0, s_m0, r_m1, s_m1, r_m2, s_m2, r_m4, s_m4, r_m6, s_m6, r_m9, s_m9, r_m10, s_m10, r_m12, s_m12, r_m14, s_m14, r_m19, s_m19, r_m20, s_m20, Nat.reduceEqDiff, decide_true, decide_false, Bool.true_and, Bool.false_and, Bool.and_true, Bool.and_false, zB_tt, zB_ff, not_false_eq_true, not_true_eq_false, n_lit, n_mul, nI_add, n_sub, x_in, nI_clamp, nI_ltI, nI_leI, nI_eq, and_self, true_and, and_true, n_0, ei, et, e80]
      · rw [if_neg hz] at hwf ⊢
        obtain ⟨V2, J2, et, k1, k2, k3⟩ := t_takeInOrder (q := q) (S := S) (P := P) (A := A) (D := D) (K := K) (X := X) (E := E) (Z := Z) (I := I1) (J := vp_updL J 13 (lN s)) hw hr2 hm (fun _ h => h) hB hM hs2 e13
        obtain ⟨o1, o2, o3, o4, o5⟩ := ioS_ok hw hm hs2 (mn σ)
        obtain ⟨x1, x2⟩ := ioX_ok hw hm hs2
        obtain ⟨e80, q1, q2, q3⟩ := fin V2 _ _ o1 o2.L k1 x1 x2 k2
        refine ⟨I1, _, J2, ?_, q1, q2, q3⟩
        simp (maxSteps := 2000000) (disch := omega) only [e_inl, e_goto, e_fall, e_if, e_icmp, e_iret, e_zret, e_lret, e_vret, e_call0_0, e_call0_1, e_call0_2, e_call0_3, e_call0_4, e_call1_0, e_call1_1, e_call1_2, e_call1_3, e_call1_4, e_call2_0, e_call2_1, e_call2_2, e_call2_3, e_call2_4, e_call3_0, e_call3_1, e_call3_2, e_call3_3, e_call3_4, e_call4_0, e_call4_1, e_call4_2, e_call4_3, e_call4_4, e_call5_0, e_call5_1, e_call5_2, e_call5_3, e_call5_4, e_call6_0, e_call6_1, e_call6_2, e_call6_3, e_call6_4, xP, xld, xst1, xst2, xis2, xii, xid, xll, xlv, xls, xlc, xil, xli, xrd, xdup, xdup2, xc1, xpu, c_eq, c_ne, c_lt, c_ge, c_gt, c_le, Option.bind_some, Option.map_some, List.length_nil, List.length_cons, Nat.reduceAdd, Nat.reduceLeDiff, Int.reduceToNat, Bool.and_self, Bool.false_eq_true, if_true, if_false, D169_22, D169_36, o_m, g_m_0, g_m_1, g_m_2, g_m_3, g_m_4, g_m_5, g_m_6, g_m_7, g_m_8, g_m_9, g_m_10, g_m_11, g_m_12, g_m_13, g_m_14, g_m_15, g_m_16, g_m_17, g_m_18, g_m_19, g_m_20, g_m_21, p_m_3, p_m_7, p_m_8, p_m_11, p_m_13, p_m_15, p_m_16, p_m_17, p_m_18, p_m_21, p_m_5_0, p_m_5_1, r_m0, s_m0, r_m1, s_m1, r_m2, s_m2, r_m4, s_m4, r_m6, s_m6, r_m9, s_m9, r_m10, s_m10, r_m12, s_m12, r_m14, s_m14, r_m19, s_m19, r_m20, s_m20, Nat.reduceEqDiff, decide_true, decide_false, Bool.true_and, Bool.false_and, Bool.and_true, Bool.and_false, zB_tt, zB_ff, not_false_eq_true, not_true_eq_false, n_lit, n_mul, nI_add, n_sub, x_in, nI_clamp, nI_ltI, nI_leI, nI_eq, and_self, true_and, and_true, t_inB, hk1, hk2, n_0, Nat.one_ne_zero, el, e7, h0]
        rw [e38, D169_59]
        simp (maxSteps := 2000000) (disch := omega) only [e_inl, e_goto, e_fall, e_if, e_icmp, e_iret, e_zret, e_lret, e_vret, e_call0_0, e_call0_1, e_call0_2, e_call0_3, e_call0_4, e_call1_0, e_call1_1, e_call1_2, e_call1_3, e_call1_4, e_call2_0, e_call2_1, e_call2_2, e_call2_3, e_call2_4, e_call3_0, e_call3_1, e_call3_2, e_call3_3, e_call3_4, e_call4_0, e_call4_1, e_call4_2, e_call4_3, e_call4_4, e_call5_0, e_call5_1, e_call5_2, e_call5_3, e_call5_4, e_call6_0, e_call6_1, e_call6_2, e_call6_3, e_call6_4, xP, xld, xst1, xst2, xis2, xii, xid, xll, xlv, xls, xlc, xil, xli, xrd, xdup, xdup2, xc1, xpu, c_eq, c_ne, c_lt, c_ge, c_gt, c_le, Option.bind_some, Option.map_some, List.length_nil, List.length_cons, Nat.reduceAdd, Nat.reduceLeDiff, Int.reduceToNat, Bool.and_self, Bool.false_eq_true, if_true, if_false, D169_76, o_m, g_m_0, g_m_1, g_m_2, g_m_3, g_m_4, g_m_5, g_m_6, g_m_7, g_m_8, g_m_9, g_m_10, g_m_11, g_m_12, g_m_13, g_m_14, g_m_15, g_m_16, g_m_17, g_m_18, g_m_19, g_m_20, g_m_21, p_m_3, p_m_7, p_m_8, p_m_11, p_m_13, p_m_15, p_m_16, p_m_17, p_m_18, p_m_21, p_m_5_0, p_m_5_1, r_m0, s_m0, r_m1, s_m1, r_m2, s_m2, r_m4, s_m4, r_m6, s_m6, r_m9, s_m9, r_m10, s_m10, r_m12, s_m12, r_m14, s_m14, r_m19, s_m19, r_m20, s_m20, Nat.reduceEqDiff, decide_true, decide_false, Bool.true_and, Bool.false_and, Bool.and_true, Bool.and_false, zB_tt, zB_ff, not_false_eq_true, not_true_eq_false, n_lit, n_mul, nI_add, n_sub, x_in, nI_clamp, nI_ltI, nI_leI, nI_eq, and_self, true_and, and_true, n_0, hz, ei, et, e80]
end
