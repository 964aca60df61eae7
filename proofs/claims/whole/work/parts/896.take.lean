/-! ===== the class: a value drawn ===== -/
section
variable {q : Nat × (Nat → Int32)} {S : Nat → xSt} {P : Int32 × (Nat → Nat)} {A : (Nat → Int64) × Int32 × Int32 × (Nat → Int64) × (Nat → Nat → Int64)} {D : (Nat → Int64) × Int64} {K : Nat → Int64} {X : Int32 × Int32 × Int32 × (Nat → Int32) × (Nat → Int32)} {E Z : Nat → Int32} {I : Nat → Int32} {J : Nat → Int64} {V : Nat → Nat → Int32}
set_option maxRecDepth 100000 in
theorem c_tk_39 {σ : mS} (hw : wf σ) (hs : rpS σ (S 0)) {f can v : Nat} (hf : f < 4) (hc : can < 256) {tg : Int32} (hv : v < fb_sm (vG σ f can) 8) : den 5 39 [some (.ref 153), some (.ref (8 + 2 * f)), some (.int (nI can)), some (.int tg), some (.int (zB (decide (vW σ f can = 0)))), some (.int (nI v)), some (.int (nI 0))] [] (hp q S P A D K X E Z I J V) = some (some (.int (nI (pkX (vG σ f can) 8 v))), (hp q S P A D K X E Z I J V)) := by
  have hvt := vT_le hw hf can
  have hvl : v < 2 ^ 29 := by rw [vG_sm] at hv; omega
  have h10 : (nI 1 = nI 0) = False := eq_false (by decide)
  obtain ⟨p1, p2, p3⟩ := pkX_ok hv
  generalize pkX (vG σ f can) 8 v = x at *
  have hl := x_loop (i := 5) (pc := 39) (fun k => [some (.ref 153), some (.ref (8 + 2 * f)), some (.int (nI can)), some (.int tg), some (.int (zB (decide (vW σ f can = 0)))), some (.int (nI (v - fb_sm (vG σ f can) k))), some (.int (nI k))]) (fun _ => (hp q S P A D K X E Z I J V)) x (fun k hk => by
    have h1 : ¬ 8 ≤ k := by omega
    have eb := n_bit0 (s := can) (k := k) (by omega) (by omega)
    have hmono := fb_sm_mono (vG σ f can) (k + 1) (x - (k + 1))
    rw [show k + 1 + (x - (k + 1)) = x by omega, fb_sm_succ] at hmono
    have ew := hs.2.2.1 f k hf (by omega)
    have er : xiald (hp q S P A D K X E Z I J V) (9 + 2 * f) (nI k) = some (.int (nI (mW σ f k))) := by rw [r_W _ _ _ _ _ _ _ _ _ _ _ _ f hf, if_pos (x_in (by omega) (by omega)), nI_clamp (by omega), ew]
    rw [D5_39, fb_sm_succ]
    generalize fb_sm (vG σ f can) k = u at *
    by_cases hb : can.testBit k = true
    · have eb2 : ¬ nI can >>> (nI k &&& 31) &&& nI 1 = nI 0 := by rw [eb, hb]; decide
      by_cases h0 : vW σ f can = 0
      · have eg : vG σ f can k = 1 := by unfold vG; rw [if_pos hb, if_neg (by omega)]
        rw [eg] at hmono ⊢
        have hsub : v - u - 1 = v - (u + 1) := by omega
        rw [decide_eq_true h0, zB_tt]
        simp (maxSteps := 2000000) (disch := omega) only [e_inl, e_goto, e_fall, e_if, e_icmp, e_iret, e_zret, e_lret, e_vret, e_call0_0, e_call0_1, e_call0_2, e_call0_3, e_call0_4, e_call1_0, e_call1_1, e_call1_2, e_call1_3, e_call1_4, e_call2_0, e_call2_1, e_call2_2, e_call2_3, e_call2_4, e_call3_0, e_call3_1, e_call3_2, e_call3_3, e_call3_4, e_call4_0, e_call4_1, e_call4_2, e_call4_3, e_call4_4, e_call5_0, e_call5_1, e_call5_2, e_call5_3, e_call5_4, e_call6_0, e_call6_1, e_call6_2, e_call6_3, e_call6_4, xP, xld, xst1, xst2, xis2, xii, xid, xll, xlv, xls, xlc, xil, xli, xrd, xdup, xdup2, xc1, xpu, c_eq, c_ne, c_lt, c_ge, c_gt, c_le, Option.bind_some, Option.map_some, List.length_nil, List.length_cons, Nat.reduceAdd, Nat.reduceLeDiff, Int.reduceToNat, Bool.and_self, Bool.false_eq_true, if_true, if_false, D5_73, D5_84, n_lit, nI_leI, nI_ltI, nI_add, n_sub, h1, n_0, eb2, h10, hsub, Nat.zero_le]
      · have eg : vG σ f can k = mW σ f k := by unfold vG; rw [if_pos hb, if_pos (by omega)]
        rw [eg] at hmono ⊢
        have hsub : v - u - mW σ f k = v - (u + mW σ f k) := by omega
        rw [decide_eq_false h0, zB_ff]
        simp (maxSteps := 2000000) (disch := omega) only [e_inl, e_goto, e_fall, e_if, e_icmp, e_iret, e_zret, e_lret, e_vret, e_call0_0, e_call0_1, e_call0_2, e_call0_3, e_call0_4, e_call1_0, e_call1_1, e_call1_2, e_call1_3, e_call1_4, e_call2_0, e_call2_1, e_call2_2, e_call2_3, e_call2_4, e_call3_0, e_call3_1, e_call3_2, e_call3_3, e_call3_4, e_call4_0, e_call4_1, e_call4_2, e_call4_3, e_call4_4, e_call5_0, e_call5_1, e_call5_2, e_call5_3, e_call5_4, e_call6_0, e_call6_1, e_call6_2, e_call6_3, e_call6_4, xP, xld, xst1, xst2, xis2, xii, xid, xll, xlv, xls, xlc, xil, xli, xrd, xdup, xdup2, xc1, xpu, c_eq, c_ne, c_lt, c_ge, c_gt, c_le, Option.bind_some, Option.map_some, List.length_nil, List.length_cons, Nat.reduceAdd, Nat.reduceLeDiff, Int.reduceToNat, Bool.and_self, Bool.false_eq_true, if_true, if_false, D5_66, D5_73, D5_84, g_F_4, n_lit, nI_leI, nI_ltI, nI_add, n_sub, h1, n_0, eb2, er, hsub, Nat.zero_le]
    · have eb2 : nI can >>> (nI k &&& 31) &&& nI 1 = nI 0 := by rw [eb]; exact Bool.eq_false_iff.mpr hb
      have eg : vG σ f can k = 0 := by unfold vG; rw [if_neg hb]
      rw [eg, Nat.add_zero]
      simp (maxSteps := 2000000) (disch := omega) only [e_inl, e_goto, e_fall, e_if, e_icmp, e_iret, e_zret, e_lret, e_vret, e_call0_0, e_call0_1, e_call0_2, e_call0_3, e_call0_4, e_call1_0, e_call1_1, e_call1_2, e_call1_3, e_call1_4, e_call2_0, e_call2_1, e_call2_2, e_call2_3, e_call2_4, e_call3_0, e_call3_1, e_call3_2, e_call3_3, e_call3_4, e_call4_0, e_call4_1, e_call4_2, e_call4_3, e_call4_4, e_call5_0, e_call5_1, e_call5_2, e_call5_3, e_call5_4, e_call6_0, e_call6_1, e_call6_2, e_call6_3, e_call6_4, xP, xld, xst1, xst2, xis2, xii, xid, xll, xlv, xls, xlc, xil, xli, xrd, xdup, xdup2, xc1, xpu, c_eq, c_ne, c_lt, c_ge, c_gt, c_le, Option.bind_some, Option.map_some, List.length_nil, List.length_cons, Nat.reduceAdd, Nat.reduceLeDiff, Int.reduceToNat, Bool.and_self, Bool.false_eq_true, if_true, if_false, D5_84, n_lit, nI_leI, nI_add, h1, n_0, eb2])
  have e0 : fb_sm (vG σ f can) 0 = 0 := rfl
  rw [e0, Nat.sub_zero] at hl
  rw [hl, D5_39]
  have h1 : ¬ 8 ≤ x := by omega
  rw [fb_sm_succ] at p3
  have hg0 : 0 < vG σ f can x := by omega
  have hg9 := vG_le hw hf can p1
  have hb : can.testBit x = true := by
    unfold vG at hg0
    split at hg0
    · assumption
    · omega
  have eb := n_bit0 (s := can) (k := x) (by omega) (by omega)
  have eb2 : ¬ nI can >>> (nI x &&& 31) &&& nI 1 = nI 0 := by rw [eb, hb]; decide
  have ew := hs.2.2.1 f x hf p1
  have er : xiald (hp q S P A D K X E Z I J V) (9 + 2 * f) (nI x) = some (.int (nI (mW σ f x))) := by rw [r_W _ _ _ _ _ _ _ _ _ _ _ _ f hf, if_pos (x_in p1 (by omega)), nI_clamp (by omega), ew]
  generalize fb_sm (vG σ f can) x = u at *
  by_cases h0 : vW σ f can = 0
  · have eg : vG σ f can x = 1 := by unfold vG; rw [if_pos hb, if_neg (by omega)]
    rw [eg] at p3
    have hge := n_subge (a := v - u) (b := 1) (c := 0) (by omega) (by omega) (by omega)
    have hn : ¬ 0 + 1 ≤ v - u := by omega
    rw [decide_eq_true h0, zB_tt]
    simp (maxSteps := 2000000) (disch := omega) only [e_inl, e_goto, e_fall, e_if, e_icmp, e_iret, e_zret, e_lret, e_vret, e_call0_0, e_call0_1, e_call0_2, e_call0_3, e_call0_4, e_call1_0, e_call1_1, e_call1_2, e_call1_3, e_call1_4, e_call2_0, e_call2_1, e_call2_2, e_call2_3, e_call2_4, e_call3_0, e_call3_1, e_call3_2, e_call3_3, e_call3_4, e_call4_0, e_call4_1, e_call4_2, e_call4_3, e_call4_4, e_call5_0, e_call5_1, e_call5_2, e_call5_3, e_call5_4, e_call6_0, e_call6_1, e_call6_2, e_call6_3, e_call6_4, xP, xld, xst1, xst2, xis2, xii, xid, xll, xlv, xls, xlc, xil, xli, xrd, xdup, xdup2, xc1, xpu, c_eq, c_ne, c_lt, c_ge, c_gt, c_le, Option.bind_some, Option.map_some, List.length_nil, List.length_cons, Nat.reduceAdd, Nat.reduceLeDiff, Int.reduceToNat, Bool.and_self, Bool.false_eq_true, if_true, if_false, D5_73, n_lit, nI_leI, h1, n_0, eb2, h10, hge, hn]
  · have eg : vG σ f can x = mW σ f x := by unfold vG; rw [if_pos hb, if_pos (by omega)]
    rw [eg] at p3 hg9
    have hge := n_subge (a := v - u) (b := mW σ f x) (c := 0) (by omega) (by omega) (by omega)
    have hn : ¬ 0 + mW σ f x ≤ v - u := by omega
    rw [decide_eq_false h0, zB_ff]
    simp (maxSteps := 2000000) (disch := omega) only [e_inl, e_goto, e_fall, e_if, e_icmp, e_iret, e_zret, e_lret, e_vret, e_call0_0, e_call0_1, e_call0_2, e_call0_3, e_call0_4, e_call1_0, e_call1_1, e_call1_2, e_call1_3, e_call1_4, e_call2_0, e_call2_1, e_call2_2, e_call2_3, e_call2_4, e_call3_0, e_call3_1, e_call3_2, e_call3_3, e_call3_4, e_call4_0, e_call4_1, e_call4_2, e_call4_3, e_call4_4, e_call5_0, e_call5_1, e_call5_2, e_call5_3, e_call5_4, e_call6_0, e_call6_1, e_call6_2, e_call6_3, e_call6_4, xP, xld, xst1, xst2, xis2, xii, xid, xll, xlv, xls, xlc, xil, xli, xrd, xdup, xdup2, xc1, xpu, c_eq, c_ne, c_lt, c_ge, c_gt, c_le, Option.bind_some, Option.map_some, List.length_nil, List.length_cons, Nat.reduceAdd, Nat.reduceLeDiff, Int.reduceToNat, Bool.and_self, Bool.false_eq_true, if_true, if_false, D5_66, D5_73, g_F_4, n_lit, nI_leI, h1, n_0, eb2, er, hge, hn]
end
