/-! ===== the class: the text read (1) ===== -/
theorem tx_eta {X : Int32 × Int32 × Int32 × (Nat → Int32) × (Nat → Int32)} {a : Int32} (h : X.2.1 = a) : (X.1, a, X.2.2) = X := by rw [← h]
def nbC (c : Nat) : Nat := if nb c = 0 then 110 else 98 + 2 * nb c
theorem sw_nbC : ∀ c : Nat, c < 128 → (xsw #[(100, 100), (101, 110), (102, 102), (103, 110), (104, 106), (105, 110), (106, 110), (107, 110), (108, 110), (109, 110), (110, 110), (111, 100), (112, 110), (113, 110), (114, 100), (115, 108), (116, 110), (117, 110), (118, 110), (119, 104), (120, 100)].toList 110 (c : Int)).toNat = nbC c := by decide +kernel
section
variable {q : Nat × (Nat → Int32)} {S : Nat → xSt} {P : Int32 × (Nat → Nat)} {A : (Nat → Int64) × Int32 × Int32 × (Nat → Int64) × (Nat → Nat → Int64)} {D : (Nat → Int64) × Int64} {K : Nat → Int64} {X : Int32 × Int32 × Int32 × (Nat → Int32) × (Nat → Int32)} {E Z : Nat → Int32} {I : Nat → Int32} {J : Nat → Int64} {V : Nat → Nat → Int32}
set_option maxRecDepth 100000 in
theorem c_nb_at {c : Nat} {L : xL} {h : xH} : den 63 (nbC c) L [] h = some (some (.int (nI (nb c))), h) := by
  have h5 := nb_le c
  unfold nbC
  generalize nb c = n at *
  match n, h5 with
  | 0, _ => simp only [Nat.reduceEqDiff, Nat.reduceMul, if_true, if_false, D63_110, e_inl, e_goto, e_fall, e_if, e_icmp, e_iret, e_zret, e_lret, e_vret, e_call0_0, e_call0_1, e_call0_2, e_call0_3, e_call0_4, e_call1_0, e_call1_1, e_call1_2, e_call1_3, e_call1_4, e_call2_0, e_call2_1, e_call2_2, e_call2_3, e_call2_4, e_call3_0, e_call3_1, e_call3_2, e_call3_3, e_call3_4, e_call4_0, e_call4_1, e_call4_2, e_call4_3, e_call4_4, e_call5_0, e_call5_1, e_call5_2, e_call5_3, e_call5_4, e_call6_0, e_call6_1, e_call6_2, e_call6_3, e_call6_4, xP, xld, xst1, xst2, xis2, xii, xid, xll, xlv, xls, xlc, xil, xli, xrd, xdup, xdup2, xc1, xpu, c_eq, c_ne, c_lt, c_ge, c_gt, c_le, Option.bind_some, Option.map_some, List.length_nil, List.length_cons, Nat.reduceAdd, Nat.reduceLeDiff, Int.reduceToNat, Bool.and_self, Bool.false_eq_true, if_true, if_false, n_lit]
  | 1, _ => simp only [Nat.reduceEqDiff, Nat.reduceMul, if_true, if_false, D63_100, e_inl, e_goto, e_fall, e_if, e_icmp, e_iret, e_zret, e_lret, e_vret, e_call0_0, e_call0_1, e_call0_2, e_call0_3, e_call0_4, e_call1_0, e_call1_1, e_call1_2, e_call1_3, e_call1_4, e_call2_0, e_call2_1, e_call2_2, e_call2_3, e_call2_4, e_call3_0, e_call3_1, e_call3_2, e_call3_3, e_call3_4, e_call4_0, e_call4_1, e_call4_2, e_call4_3, e_call4_4, e_call5_0, e_call5_1, e_call5_2, e_call5_3, e_call5_4, e_call6_0, e_call6_1, e_call6_2, e_call6_3, e_call6_4, xP, xld, xst1, xst2, xis2, xii, xid, xll, xlv, xls, xlc, xil, xli, xrd, xdup, xdup2, xc1, xpu, c_eq, c_ne, c_lt, c_ge, c_gt, c_le, Option.bind_some, Option.map_some, List.length_nil, List.length_cons, Nat.reduceAdd, Nat.reduceLeDiff, Int.reduceToNat, Bool.and_self, Bool.false_eq_true, if_true, if_false, n_lit]
  | 2, _ => simp only [Nat.reduceEqDiff, Nat.reduceMul, if_true, if_false, D63_102, e_inl, e_goto, e_fall, e_if, e_icmp, e_iret, e_zret, e_lret, e_vret, e_call0_0, e_call0_1, e_call0_2, e_call0_3, e_call0_4, e_call1_0, e_call1_1, e_call1_2, e_call1_3, e_call1_4, e_call2_0, e_call2_1, e_call2_2, e_call2_3, e_call2_4, e_call3_0, e_call3_1, e_call3_2, e_call3_3, e_call3_4, e_call4_0, e_call4_1, e_call4_2, e_call4_3, e_call4_4, e_call5_0, e_call5_1, e_call5_2, e_call5_3, e_call5_4, e_call6_0, e_call6_1, e_call6_2, e_call6_3, e_call6_4, xP, xld, xst1, xst2, xis2, xii, xid, xll, xlv, xls, xlc, xil, xli, xrd, xdup, xdup2, xc1, xpu, c_eq, c_ne, c_lt, c_ge, c_gt, c_le, Option.bind_some, Option.map_some, List.length_nil, List.length_cons, Nat.reduceAdd, Nat.reduceLeDiff, Int.reduceToNat, Bool.and_self, Bool.false_eq_true, if_true, if_false, n_lit]
  | 3, _ => simp only [Nat.reduceEqDiff, Nat.reduceMul, if_true, if_false, D63_104, e_inl, e_goto, e_fall, e_if, e_icmp, e_iret, e_zret, e_lret, e_vret, e_call0_0, e_call0_1, e_call0_2, e_call0_3, e_call0_4, e_call1_0, e_call1_1, e_call1_2, e_call1_3, e_call1_4, e_call2_0, e_call2_1, e_call2_2, e_call2_3, e_call2_4, e_call3_0, e_call3_1, e_call3_2, e_call3_3, e_call3_4, e_call4_0, e_call4_1, e_call4_2, e_call4_3, e_call4_4, e_call5_0, e_call5_1, e_call5_2, e_call5_3, e_call5_4, e_call6_0, e_call6_1, e_call6_2, e_call6_3, e_call6_4, xP, xld, xst1, xst2, xis2, xii, xid, xll, xlv, xls, xlc, xil, xli, xrd, xdup, xdup2, xc1, xpu, c_eq, c_ne, c_lt, c_ge, c_gt, c_le, Option.bind_some, Option.map_some, List.length_nil, List.length_cons, Nat.reduceAdd, Nat.reduceLeDiff, Int.reduceToNat, Bool.and_self, Bool.false_eq_true, if_true, if_false, n_lit]
  | 4, _ => simp only [Nat.reduceEqDiff, Nat.reduceMul, if_true, if_false, D63_106, e_inl, e_goto, e_fall, e_if, e_icmp, e_iret, e_zret, e_lret, e_vret, e_call0_0, e_call0_1, e_call0_2, e_call0_3, e_call0_4, e_call1_0, e_call1_1, e_call1_2, e_call1_3, e_call1_4, e_call2_0, e_call2_1, e_call2_2, e_call2_3, e_call2_4, e_call3_0, e_call3_1, e_call3_2, e_call3_3, e_call3_4, e_call4_0, e_call4_1, e_call4_2, e_call4_3, e_call4_4, e_call5_0, e_call5_1, e_call5_2, e_call5_3, e_call5_4, e_call6_0, e_call6_1, e_call6_2, e_call6_3, e_call6_4, xP, xld, xst1, xst2, xis2, xii, xid, xll, xlv, xls, xlc, xil, xli, xrd, xdup, xdup2, xc1, xpu, c_eq, c_ne, c_lt, c_ge, c_gt, c_le, Option.bind_some, Option.map_some, List.length_nil, List.length_cons, Nat.reduceAdd, Nat.reduceLeDiff, Int.reduceToNat, Bool.and_self, Bool.false_eq_true, if_true, if_false, n_lit]
  | 5, _ => simp only [Nat.reduceEqDiff, Nat.reduceMul, if_true, if_false, D63_108, e_inl, e_goto, e_fall, e_if, e_icmp, e_iret, e_zret, e_lret, e_vret, e_call0_0, e_call0_1, e_call0_2, e_call0_3, e_call0_4, e_call1_0, e_call1_1, e_call1_2, e_call1_3, e_call1_4, e_call2_0, e_call2_1, e_call2_2, e_call2_3, e_call2_4, e_call3_0, e_call3_1, e_call3_2, e_call3_3, e_call3_4, e_call4_0, e_call4_1, e_call4_2, e_call4_3, e_call4_4, e_call5_0, e_call5_1, e_call5_2, e_call5_3, e_call5_4, e_call6_0, e_call6_1, e_call6_2, e_call6_3, e_call6_4, xP, xld, xst1, xst2, xis2, xii, xid, xll, xlv, xls, xlc, xil, xli, xrd, xdup, xdup2, xc1, xpu, c_eq, c_ne, c_lt, c_ge, c_gt, c_le, Option.bind_some, Option.map_some, List.length_nil, List.length_cons, Nat.reduceAdd, Nat.reduceLeDiff, Int.reduceToNat, Bool.and_self, Bool.false_eq_true, if_true, if_false, n_lit]
set_option maxRecDepth 100000 in
theorem c_numbersBehind {c : Nat} (hc : c < 128) (h : xH) : xcall 63 [.int (nI c)] h = some (some (.int (nI (nb c))), h) := by
  rw [N63, D63_0, e_inl]
  simp only [xP, xld, Option.bind_some]
  rw [e_sw, nI_toInt (by omega), sw_nbC c hc]
  exact c_nb_at
set_option maxRecDepth 100000 in
theorem c_sk_0 {T : tx} (m : Nat) : ∀ (p : Nat) (X : Int32 × Int32 × Int32 × (Nat → Int32) × (Nat → Int32)), T.1 - p ≤ m → p ≤ T.1 → txS T X → X.2.1 = nI p → den 66 0 [some (.ref 158)] [] (hp q S P A D K X E Z I J V) = some (none, (hp q S P A D K ((X.1, nI (skp T p), X.2.2)) E Z I J V)) := by
  induction m with
  | zero =>
    intro p X hm hp1 hT h2
    obtain ⟨t1, t2, t3⟩ := hT
    have hb : isB T p = false := by
      cases hb : isB T p
      · rfl
      · have := (isB_lt hb).1
        omega
    have h1 : T.1 ≤ p := by omega
    rw [skp_no hb, tx_eta h2, D66_0]
    simp (maxSteps := 2000000) (disch := omega) only [e_inl, e_goto, e_fall, e_if, e_icmp, e_iret, e_zret, e_lret, e_vret, e_call0_0, e_call0_1, e_call0_2, e_call0_3, e_call0_4, e_call1_0, e_call1_1, e_call1_2, e_call1_3, e_call1_4, e_call2_0, e_call2_1, e_call2_2, e_call2_3, e_call2_4, e_call3_0, e_call3_1, e_call3_2, e_call3_3, e_call3_4, e_call4_0, e_call4_1, e_call4_2, e_call4_3, e_call4_4, e_call5_0, e_call5_1, e_call5_2, e_call5_3, e_call5_4, e_call6_0, e_call6_1, e_call6_2, e_call6_3, e_call6_4, xP, xld, xst1, xst2, xis2, xii, xid, xll, xlv, xls, xlc, xil, xli, xrd, xdup, xdup2, xc1, xpu, c_eq, c_ne, c_lt, c_ge, c_gt, c_le, Option.bind_some, Option.map_some, List.length_nil, List.length_cons, Nat.reduceAdd, Nat.reduceLeDiff, Int.reduceToNat, Bool.and_self, Bool.false_eq_true, if_true, if_false, D66_38, g_text_0, g_text_1, t2, h2, nI_leI, h1]
  | succ m ih =>
    intro p X hm hp1 hT h2
    have hT' := hT
    obtain ⟨t1, t2, t3⟩ := hT
    rw [D66_0]
    by_cases hlt : p < T.1
    · have h1 : ¬ T.1 ≤ p := by omega
      obtain ⟨e1, e2⟩ := t3 p hlt
      have er : xiald (hp q S P A D K X E Z I J V) 160 (nI p) = some (.int (nI (T.2 p))) := by rw [r_bytes, if_pos (x_in (by omega) (by omega)), nI_clamp (by omega), e1]
      by_cases h32 : T.2 p = 32
      · have hb : isB T p = true := by unfold isB; rw [decide_eq_true hlt, decide_eq_true h32]; rfl
        have ih2 := ih (p + 1) (X.1, nI (p + 1), X.2.2) (by omega) (by omega) hT' rfl
        rw [skp_yes hb]
        refine Eq.trans ?_ ih2
        rw [h32] at er
        simp (maxSteps := 2000000) (disch := omega) only [e_inl, e_goto, e_fall, e_if, e_icmp, e_iret, e_zret, e_lret, e_vret, e_call0_0, e_call0_1, e_call0_2, e_call0_3, e_call0_4, e_call1_0, e_call1_1, e_call1_2, e_call1_3, e_call1_4, e_call2_0, e_call2_1, e_call2_2, e_call2_3, e_call2_4, e_call3_0, e_call3_1, e_call3_2, e_call3_3, e_call3_4, e_call4_0, e_call4_1, e_call4_2, e_call4_3, e_call4_4, e_call5_0, e_call5_1, e_call5_2, e_call5_3, e_call5_4, e_call6_0, e_call6_1, e_call6_2, e_call6_3, e_call6_4, xP, xld, xst1, xst2, xis2, xii, xid, xll, xlv, xls, xlc, xil, xli, xrd, xdup, xdup2, xc1, xpu, c_eq, c_ne, c_lt, c_ge, c_gt, c_le, Option.bind_some, Option.map_some, List.length_nil, List.length_cons, Nat.reduceAdd, Nat.reduceLeDiff, Int.reduceToNat, Bool.and_self, Bool.false_eq_true, if_true, if_false, g_text_0, g_text_1, g_text_4, p_text_1, t2, h2, nI_leI, h1, er, n_lit, not_true_eq_false, nI_add]
      · have hb : isB T p = false := by unfold isB; rw [decide_eq_false h32, Bool.and_false]
        rw [skp_no hb, tx_eta h2]
        simp (maxSteps := 2000000) (disch := omega) only [e_inl, e_goto, e_fall, e_if, e_icmp, e_iret, e_zret, e_lret, e_vret, e_call0_0, e_call0_1, e_call0_2, e_call0_3, e_call0_4, e_call1_0, e_call1_1, e_call1_2, e_call1_3, e_call1_4, e_call2_0, e_call2_1, e_call2_2, e_call2_3, e_call2_4, e_call3_0, e_call3_1, e_call3_2, e_call3_3, e_call3_4, e_call4_0, e_call4_1, e_call4_2, e_call4_3, e_call4_4, e_call5_0, e_call5_1, e_call5_2, e_call5_3, e_call5_4, e_call6_0, e_call6_1, e_call6_2, e_call6_3, e_call6_4, xP, xld, xst1, xst2, xis2, xii, xid, xll, xlv, xls, xlc, xil, xli, xrd, xdup, xdup2, xc1, xpu, c_eq, c_ne, c_lt, c_ge, c_gt, c_le, Option.bind_some, Option.map_some, List.length_nil, List.length_cons, Nat.reduceAdd, Nat.reduceLeDiff, Int.reduceToNat, Bool.and_self, Bool.false_eq_true, if_true, if_false, D66_38, g_text_0, g_text_1, g_text_4, t2, h2, nI_leI, h1, er, n_lit, nI_eq, h32, not_false_eq_true]
    · have h1 : T.1 ≤ p := by omega
      have hb : isB T p = false := by unfold isB; rw [decide_eq_false hlt, Bool.false_and]
      rw [skp_no hb, tx_eta h2]
      simp (maxSteps := 2000000) (disch := omega) only [e_inl, e_goto, e_fall, e_if, e_icmp, e_iret, e_zret, e_lret, e_vret, e_call0_0, e_call0_1, e_call0_2, e_call0_3, e_call0_4, e_call1_0, e_call1_1, e_call1_2, e_call1_3, e_call1_4, e_call2_0, e_call2_1, e_call2_2, e_call2_3, e_call2_4, e_call3_0, e_call3_1, e_call3_2, e_call3_3, e_call3_4, e_call4_0, e_call4_1, e_call4_2, e_call4_3, e_call4_4, e_call5_0, e_call5_1, e_call5_2, e_call5_3, e_call5_4, e_call6_0, e_call6_1, e_call6_2, e_call6_3, e_call6_4, xP, xld, xst1, xst2, xis2, xii, xid, xll, xlv, xls, xlc, xil, xli, xrd, xdup, xdup2, xc1, xpu, c_eq, c_ne, c_lt, c_ge, c_gt, c_le, Option.bind_some, Option.map_some, List.length_nil, List.length_cons, Nat.reduceAdd, Nat.reduceLeDiff, Int.reduceToNat, Bool.and_self, Bool.false_eq_true, if_true, if_false, D66_38, g_text_0, g_text_1, t2, h2, nI_leI, h1]
set_option maxRecDepth 100000 in
theorem c_skipBlanks {T : tx} {p : Nat} (hp1 : p ≤ T.1) (hT : txS T X) (h2 : X.2.1 = nI p) : xcall 66 [.ref 158] (hp q S P A D K X E Z I J V) = some (none, (hp q S P A D K ((X.1, nI (skp T p), X.2.2)) E Z I J V)) := by
  rw [N66 _ _ (o_text ..)]
  exact c_sk_0 (T.1 - p) p X (Nat.le_refl _) hp1 hT h2
set_option maxRecDepth 100000 in
theorem c_isFigure {T : tx} {p : Nat} (hp1 : p ≤ T.1) (hT : txS T X) (h2 : X.2.1 = nI p) : xcall 65 [.ref 158] (hp q S P A D K X E Z I J V) = some (some (.int (zB (isD T p))), (hp q S P A D K X E Z I J V)) := by
  obtain ⟨t1, t2, t3⟩ := hT
  rw [N65 _ _ (o_text ..), D65_0]
  unfold isD
  by_cases hlt : p < T.1
  · have h1 : ¬ T.1 ≤ p := by omega
    obtain ⟨e1, e2⟩ := t3 p hlt
    have er : xiald (hp q S P A D K X E Z I J V) 160 (nI p) = some (.int (nI (T.2 p))) := by rw [r_bytes, if_pos (x_in (by omega) (by omega)), nI_clamp (by omega), e1]
    rw [decide_eq_true hlt, Bool.true_and]
    by_cases h48 : 48 ≤ T.2 p
    · have g1 : ¬ T.2 p < 48 := by omega
      rw [decide_eq_true h48, Bool.true_and]
      by_cases h57 : T.2 p ≤ 57
      · have g2 : ¬ 57 < T.2 p := by omega
        rw [decide_eq_true h57, zB_tt]
        simp (maxSteps := 2000000) (disch := omega) only [e_inl, e_goto, e_fall, e_if, e_icmp, e_iret, e_zret, e_lret, e_vret, e_call0_0, e_call0_1, e_call0_2, e_call0_3, e_call0_4, e_call1_0, e_call1_1, e_call1_2, e_call1_3, e_call1_4, e_call2_0, e_call2_1, e_call2_2, e_call2_3, e_call2_4, e_call3_0, e_call3_1, e_call3_2, e_call3_3, e_call3_4, e_call4_0, e_call4_1, e_call4_2, e_call4_3, e_call4_4, e_call5_0, e_call5_1, e_call5_2, e_call5_3, e_call5_4, e_call6_0, e_call6_1, e_call6_2, e_call6_3, e_call6_4, xP, xld, xst1, xst2, xis2, xii, xid, xll, xlv, xls, xlc, xil, xli, xrd, xdup, xdup2, xc1, xpu, c_eq, c_ne, c_lt, c_ge, c_gt, c_le, Option.bind_some, Option.map_some, List.length_nil, List.length_cons, Nat.reduceAdd, Nat.reduceLeDiff, Int.reduceToNat, Bool.and_self, Bool.false_eq_true, if_true, if_false, D65_44, g_text_0, g_text_1, g_text_4, t2, h2, nI_leI, nI_ltI, h1, er, n_lit, g1, g2, n_1, or_true]
      · have g2 : 57 < T.2 p := by omega
        rw [decide_eq_false h57, zB_ff]
        simp (maxSteps := 2000000) (disch := omega) only [e_inl, e_goto, e_fall, e_if, e_icmp, e_iret, e_zret, e_lret, e_vret, e_call0_0, e_call0_1, e_call0_2, e_call0_3, e_call0_4, e_call1_0, e_call1_1, e_call1_2, e_call1_3, e_call1_4, e_call2_0, e_call2_1, e_call2_2, e_call2_3, e_call2_4, e_call3_0, e_call3_1, e_call3_2, e_call3_3, e_call3_4, e_call4_0, e_call4_1, e_call4_2, e_call4_3, e_call4_4, e_call5_0, e_call5_1, e_call5_2, e_call5_3, e_call5_4, e_call6_0, e_call6_1, e_call6_2, e_call6_3, e_call6_4, xP, xld, xst1, xst2, xis2, xii, xid, xll, xlv, xls, xlc, xil, xli, xrd, xdup, xdup2, xc1, xpu, c_eq, c_ne, c_lt, c_ge, c_gt, c_le, Option.bind_some, Option.map_some, List.length_nil, List.length_cons, Nat.reduceAdd, Nat.reduceLeDiff, Int.reduceToNat, Bool.and_self, Bool.false_eq_true, if_true, if_false, D65_43, D65_44, g_text_0, g_text_1, g_text_4, t2, h2, nI_leI, nI_ltI, h1, er, n_lit, g1, g2, n_0, true_or]
    · have g1 : T.2 p < 48 := by omega
      rw [decide_eq_false h48, Bool.false_and, zB_ff]
      simp (maxSteps := 2000000) (disch := omega) only [e_inl, e_goto, e_fall, e_if, e_icmp, e_iret, e_zret, e_lret, e_vret, e_call0_0, e_call0_1, e_call0_2, e_call0_3, e_call0_4, e_call1_0, e_call1_1, e_call1_2, e_call1_3, e_call1_4, e_call2_0, e_call2_1, e_call2_2, e_call2_3, e_call2_4, e_call3_0, e_call3_1, e_call3_2, e_call3_3, e_call3_4, e_call4_0, e_call4_1, e_call4_2, e_call4_3, e_call4_4, e_call5_0, e_call5_1, e_call5_2, e_call5_3, e_call5_4, e_call6_0, e_call6_1, e_call6_2, e_call6_3, e_call6_4, xP, xld, xst1, xst2, xis2, xii, xid, xll, xlv, xls, xlc, xil, xli, xrd, xdup, xdup2, xc1, xpu, c_eq, c_ne, c_lt, c_ge, c_gt, c_le, Option.bind_some, Option.map_some, List.length_nil, List.length_cons, Nat.reduceAdd, Nat.reduceLeDiff, Int.reduceToNat, Bool.and_self, Bool.false_eq_true, if_true, if_false, D65_43, D65_44, g_text_0, g_text_1, g_text_4, t2, h2, nI_leI, nI_ltI, h1, er, n_lit, g1, n_0, true_or]
  · have h1 : T.1 ≤ p := by omega
    rw [decide_eq_false hlt, Bool.false_and, zB_ff]
    simp (maxSteps := 2000000) (disch := omega) only [e_inl, e_goto, e_fall, e_if, e_icmp, e_iret, e_zret, e_lret, e_vret, e_call0_0, e_call0_1, e_call0_2, e_call0_3, e_call0_4, e_call1_0, e_call1_1, e_call1_2, e_call1_3, e_call1_4, e_call2_0, e_call2_1, e_call2_2, e_call2_3, e_call2_4, e_call3_0, e_call3_1, e_call3_2, e_call3_3, e_call3_4, e_call4_0, e_call4_1, e_call4_2, e_call4_3, e_call4_4, e_call5_0, e_call5_1, e_call5_2, e_call5_3, e_call5_4, e_call6_0, e_call6_1, e_call6_2, e_call6_3, e_call6_4, xP, xld, xst1, xst2, xis2, xii, xid, xll, xlv, xls, xlc, xil, xli, xrd, xdup, xdup2, xc1, xpu, c_eq, c_ne, c_lt, c_ge, c_gt, c_le, Option.bind_some, Option.map_some, List.length_nil, List.length_cons, Nat.reduceAdd, Nat.reduceLeDiff, Int.reduceToNat, Bool.and_self, Bool.false_eq_true, if_true, if_false, D65_43, D65_44, g_text_0, g_text_1, t2, h2, nI_leI, h1, n_lit, n_0, true_or]
set_option maxRecDepth 100000 in
theorem c_rn_sa {T : tx} {k a : Nat} {y v : Int32} (hk : k < 6) (ha : a ≤ T.1) (hT : txS T X) (h2 : X.2.1 = nI a) (hd : isD T a = true) (t : List xI) : xB xcall (den 64) (.inl (.iload 3) :: .inl (.iconst 6) :: .inr (.if_icmp .ge 51) :: .inl (.aload 0) :: .inr (.invokeinterface 65 1) :: .inr (.ifCond .eq 51) :: t) [some (.ref 158), some (.int y), some (.int v), some (.int (nI k))] [] (hp q S P A D K X E Z I J V) = xB xcall (den 64) t [some (.ref 158), some (.int y), some (.int v), some (.int (nI k))] [] (hp q S P A D K X E Z I J V) := by
  have h10 : (nI 1 = nI 0) = False := eq_false (by decide)
  have ef := c_isFigure (q := q) (S := S) (P := P) (A := A) (D := D) (K := K) (X := X) (E := E) (Z := Z) (I := I) (J := J) (V := V) ha hT h2
  rw [hd, zB_tt] at ef
  have h1 : ¬ 6 ≤ k := by omega
  simp (maxSteps := 2000000) (disch := omega) only [e_inl, e_goto, e_fall, e_if, e_icmp, e_iret, e_zret, e_lret, e_vret, e_call0_0, e_call0_1, e_call0_2, e_call0_3, e_call0_4, e_call1_0, e_call1_1, e_call1_2, e_call1_3, e_call1_4, e_call2_0, e_call2_1, e_call2_2, e_call2_3, e_call2_4, e_call3_0, e_call3_1, e_call3_2, e_call3_3, e_call3_4, e_call4_0, e_call4_1, e_call4_2, e_call4_3, e_call4_4, e_call5_0, e_call5_1, e_call5_2, e_call5_3, e_call5_4, e_call6_0, e_call6_1, e_call6_2, e_call6_3, e_call6_4, xP, xld, xst1, xst2, xis2, xii, xid, xll, xlv, xls, xlc, xil, xli, xrd, xdup, xdup2, xc1, xpu, c_eq, c_ne, c_lt, c_ge, c_gt, c_le, Option.bind_some, Option.map_some, List.length_nil, List.length_cons, Nat.reduceAdd, Nat.reduceLeDiff, Int.reduceToNat, Bool.and_self, Bool.false_eq_true, if_true, if_false, n_lit, nI_leI, h1, ef, n_0, h10]
set_option maxRecDepth 100000 in
theorem c_rn_sb {v a c : Nat} {y k : Int32} (ha : a < 150) (hc : 48 ≤ c) (e : X.2.2.2.2 a = nI c) (h2 : X.2.1 = nI a) (t : List xI) : xB xcall (den 64) (.inl (.iload 2) :: .inl (.iconst 10) :: .inl .imul :: .inl (.aload 0) :: .inl (.getfield 228) :: .inl (.aload 0) :: .inl (.getfield 225) :: .inl .iaload :: .inl .iadd :: .inl (.iconst 48) :: .inl .isub :: .inl (.istore 2) :: t) [some (.ref 158), some (.int y), some (.int (nI v)), some (.int k)] [] (hp q S P A D K X E Z I J V) = xB xcall (den 64) t [some (.ref 158), some (.int y), some (.int (nI (10 * v + c - 48))), some (.int k)] [] (hp q S P A D K X E Z I J V) := by
  have er : xiald (hp q S P A D K X E Z I J V) 160 (nI a) = some (.int (nI c)) := by rw [r_bytes, if_pos (x_in (by omega) (by omega)), nI_clamp (by omega), e]
  have hm : v * 10 = 10 * v := Nat.mul_comm _ _
  have hs : 48 ≤ 10 * v + c := by omega
  simp (maxSteps := 2000000) (disch := omega) only [e_inl, e_goto, e_fall, e_if, e_icmp, e_iret, e_zret, e_lret, e_vret, e_call0_0, e_call0_1, e_call0_2, e_call0_3, e_call0_4, e_call1_0, e_call1_1, e_call1_2, e_call1_3, e_call1_4, e_call2_0, e_call2_1, e_call2_2, e_call2_3, e_call2_4, e_call3_0, e_call3_1, e_call3_2, e_call3_3, e_call3_4, e_call4_0, e_call4_1, e_call4_2, e_call4_3, e_call4_4, e_call5_0, e_call5_1, e_call5_2, e_call5_3, e_call5_4, e_call6_0, e_call6_1, e_call6_2, e_call6_3, e_call6_4, xP, xld, xst1, xst2, xis2, xii, xid, xll, xlv, xls, xlc, xil, xli, xrd, xdup, xdup2, xc1, xpu, c_eq, c_ne, c_lt, c_ge, c_gt, c_le, Option.bind_some, Option.map_some, List.length_nil, List.length_cons, Nat.reduceAdd, Nat.reduceLeDiff, Int.reduceToNat, Bool.and_self, Bool.false_eq_true, if_true, if_false, g_text_1, g_text_4, n_lit, n_mul, hm, h2, er, nI_add, n_sub]
set_option maxRecDepth 100000 in
theorem c_rn_sc {k a : Nat} {y v : Int32} (h2 : X.2.1 = nI a) : xB xcall (den 64) [.inl (.aload 0), .inl .dup, .inl (.getfield 225), .inl (.iconst 1), .inl .iadd, .inl (.putfield 225), .inl (.iinc 3 1), .inr (.goto 4)] [some (.ref 158), some (.int y), some (.int v), some (.int (nI k))] [] (hp q S P A D K X E Z I J V) = den 64 4 [some (.ref 158), some (.int y), some (.int v), some (.int (nI (k + 1)))] [] (hp q S P A D K ((X.1, nI (a + 1), X.2.2)) E Z I J V) := by
  simp (maxSteps := 2000000) (disch := omega) only [e_inl, e_goto, e_fall, e_if, e_icmp, e_iret, e_zret, e_lret, e_vret, e_call0_0, e_call0_1, e_call0_2, e_call0_3, e_call0_4, e_call1_0, e_call1_1, e_call1_2, e_call1_3, e_call1_4, e_call2_0, e_call2_1, e_call2_2, e_call2_3, e_call2_4, e_call3_0, e_call3_1, e_call3_2, e_call3_3, e_call3_4, e_call4_0, e_call4_1, e_call4_2, e_call4_3, e_call4_4, e_call5_0, e_call5_1, e_call5_2, e_call5_3, e_call5_4, e_call6_0, e_call6_1, e_call6_2, e_call6_3, e_call6_4, xP, xld, xst1, xst2, xis2, xii, xid, xll, xlv, xls, xlc, xil, xli, xrd, xdup, xdup2, xc1, xpu, c_eq, c_ne, c_lt, c_ge, c_gt, c_le, Option.bind_some, Option.map_some, List.length_nil, List.length_cons, Nat.reduceAdd, Nat.reduceLeDiff, Int.reduceToNat, Bool.and_self, Bool.false_eq_true, if_true, if_false, g_text_1, p_text_1, n_lit, h2, nI_add]
set_option maxRecDepth 100000 in
theorem c_rn_s {T : tx} {k v a : Nat} {y : Int32} (hk : k < 6) (ha : a ≤ T.1) (hT : txS T X) (h2 : X.2.1 = nI a) (hd : isD T a = true) : den 64 4 [some (.ref 158), some (.int y), some (.int (nI v)), some (.int (nI k))] [] (hp q S P A D K X E Z I J V) = den 64 4 [some (.ref 158), some (.int y), some (.int (nI (10 * v + T.2 a - 48))), some (.int (nI (k + 1)))] [] (hp q S P A D K ((X.1, nI (a + 1), X.2.2)) E Z I J V) := by
  obtain ⟨d1, d2, d3⟩ := isD_lt hd
  have t1 := hT.1
  have e1 := (hT.2.2 a d1).1
  rw [D64_4, c_rn_sa hk ha hT h2 hd, c_rn_sb (by omega) d2 e1 h2, c_rn_sc h2]
set_option maxRecDepth 100000 in
theorem c_rn_e {T : tx} {k a : Nat} {y v : Int32} (hk : k ≤ 6) (ha : a ≤ T.1) (hT : txS T X) (h2 : X.2.1 = nI a) (hd : k = 6 ∨ isD T a = false) : den 64 4 [some (.ref 158), some (.int y), some (.int v), some (.int (nI k))] [] (hp q S P A D K X E Z I J V) = den 64 51 [some (.ref 158), some (.int y), some (.int v), some (.int (nI k))] [] (hp q S P A D K X E Z I J V) := by
  rw [D64_4]
  by_cases h6 : k = 6
  · have h1 : 6 ≤ k := by omega
    simp (maxSteps := 2000000) (disch := omega) only [e_inl, e_goto, e_fall, e_if, e_icmp, e_iret, e_zret, e_lret, e_vret, e_call0_0, e_call0_1, e_call0_2, e_call0_3, e_call0_4, e_call1_0, e_call1_1, e_call1_2, e_call1_3, e_call1_4, e_call2_0, e_call2_1, e_call2_2, e_call2_3, e_call2_4, e_call3_0, e_call3_1, e_call3_2, e_call3_3, e_call3_4, e_call4_0, e_call4_1, e_call4_2, e_call4_3, e_call4_4, e_call5_0, e_call5_1, e_call5_2, e_call5_3, e_call5_4, e_call6_0, e_call6_1, e_call6_2, e_call6_3, e_call6_4, xP, xld, xst1, xst2, xis2, xii, xid, xll, xlv, xls, xlc, xil, xli, xrd, xdup, xdup2, xc1, xpu, c_eq, c_ne, c_lt, c_ge, c_gt, c_le, Option.bind_some, Option.map_some, List.length_nil, List.length_cons, Nat.reduceAdd, Nat.reduceLeDiff, Int.reduceToNat, Bool.and_self, Bool.false_eq_true, if_true, if_false, n_lit, nI_leI, h1]
  · have h1 : ¬ 6 ≤ k := by omega
    have hd2 : isD T a = false := hd.resolve_left h6
    have ef := c_isFigure (q := q) (S := S) (P := P) (A := A) (D := D) (K := K) (X := X) (E := E) (Z := Z) (I := I) (J := J) (V := V) ha hT h2
    rw [hd2, zB_ff] at ef
    simp (maxSteps := 2000000) (disch := omega) only [e_inl, e_goto, e_fall, e_if, e_icmp, e_iret, e_zret, e_lret, e_vret, e_call0_0, e_call0_1, e_call0_2, e_call0_3, e_call0_4, e_call1_0, e_call1_1, e_call1_2, e_call1_3, e_call1_4, e_call2_0, e_call2_1, e_call2_2, e_call2_3, e_call2_4, e_call3_0, e_call3_1, e_call3_2, e_call3_3, e_call3_4, e_call4_0, e_call4_1, e_call4_2, e_call4_3, e_call4_4, e_call5_0, e_call5_1, e_call5_2, e_call5_3, e_call5_4, e_call6_0, e_call6_1, e_call6_2, e_call6_3, e_call6_4, xP, xld, xst1, xst2, xis2, xii, xid, xll, xlv, xls, xlc, xil, xli, xrd, xdup, xdup2, xc1, xpu, c_eq, c_ne, c_lt, c_ge, c_gt, c_le, Option.bind_some, Option.map_some, List.length_nil, List.length_cons, Nat.reduceAdd, Nat.reduceLeDiff, Int.reduceToNat, Bool.and_self, Bool.false_eq_true, if_true, if_false, n_lit, nI_leI, h1, ef, n_0]
set_option maxRecDepth 100000 in
theorem c_rn_4 {T : tx} {y : Int32} (j : Nat) : ∀ (k v a : Nat) (X : Int32 × Int32 × Int32 × (Nat → Int32) × (Nat → Int32)), k + j = 6 → a ≤ T.1 → txS T X → X.2.1 = nI a → ∃ n : Nat, den 64 4 [some (.ref 158), some (.int y), some (.int (nI v)), some (.int (nI k))] [] (hp q S P A D K X E Z I J V) = den 64 51 [some (.ref 158), some (.int y), some (.int (nI (dg T j v a).1)), some (.int (nI n))] [] (hp q S P A D K ((X.1, nI (dg T j v a).2, X.2.2)) E Z I J V) ∧ k ≤ n ∧ n ≤ 6 ∧ (0 < j → isD T a = true → k < n) ∧ (isD T a = false → n = k) := by
  induction j with
  | zero =>
    intro k v a X hk ha hT h2
    refine ⟨k, ?_, Nat.le_refl _, by omega, fun h => absurd h (by omega), fun _ => rfl⟩
    rw [dg_0, tx_eta h2]
    exact c_rn_e (by omega) ha hT h2 (Or.inl (by omega))
  | succ j ih =>
    intro k v a X hk ha hT h2
    by_cases hd : isD T a = true
    · obtain ⟨d1, d2, d3⟩ := isD_lt hd
      obtain ⟨n, e, n1, n2, n3, n4⟩ := ih (k + 1) (10 * v + T.2 a - 48) (a + 1) (X.1, nI (a + 1), X.2.2) (by omega) (by omega) hT rfl
      refine ⟨n, ?_, by omega, n2, fun _ _ => by omega, fun h => by rw [hd] at h; cases h⟩
      rw [dg_y j v hd]
      exact (c_rn_s (by omega) ha hT h2 hd).trans e
    · have hd2 := Bool.eq_false_iff.mpr hd
      refine ⟨k, ?_, Nat.le_refl _, by omega, fun _ h => absurd h hd, fun _ => rfl⟩
      rw [dg_n j v hd2, tx_eta h2]
      exact c_rn_e (by omega) ha hT h2 (Or.inr hd2)
set_option maxRecDepth 100000 in
theorem c_rn_51 {T : tx} {i n a w : Nat} (hi : i < 5) (hn : n ≤ 6) (ha : a ≤ T.1) (hT : txS T X) (h2 : X.2.1 = nI a) : den 64 51 [some (.ref 158), some (.int (nI i)), some (.int (nI w)), some (.int (nI n))] [] (hp q S P A D K X E Z I J V) = some (some (.int (zB (decide (0 < n) && !isD T a))), (hp q S P A D K ((X.1, X.2.1, X.2.2.1, upd X.2.2.2.1 i (nI w), X.2.2.2.2)) E Z I J V)) := by
  have h10 : (nI 1 = nI 0) = False := eq_false (by decide)
  have es : xiast (hp q S P A D K X E Z I J V) 159 (nI i) (nI w) = some (hp q S P A D K ((X.1, X.2.1, X.2.2.1, upd X.2.2.2.1 i (nI w), X.2.2.2.2)) E Z I J V) := by rw [s_numbers, if_pos ⟨x_in hi (by omega), by omega⟩, nI_clamp (by omega)]
  have ef := c_isFigure (q := q) (S := S) (P := P) (A := A) (D := D) (K := K) (X := (X.1, X.2.1, X.2.2.1, upd X.2.2.2.1 i (nI w), X.2.2.2.2)) (E := E) (Z := Z) (I := I) (J := J) (V := V) ha hT h2
  rw [D64_51]
  by_cases h0 : 0 < n
  · have h1 : ¬ n ≤ 0 := by omega
    rw [decide_eq_true h0, Bool.true_and]
    by_cases hd : isD T a = true
    · rw [hd, zB_tt] at ef
      rw [hd, Bool.not_true, zB_ff]
      simp (maxSteps := 2000000) (disch := omega) only [e_inl, e_goto, e_fall, e_if, e_icmp, e_iret, e_zret, e_lret, e_vret, e_call0_0, e_call0_1, e_call0_2, e_call0_3, e_call0_4, e_call1_0, e_call1_1, e_call1_2, e_call1_3, e_call1_4, e_call2_0, e_call2_1, e_call2_2, e_call2_3, e_call2_4, e_call3_0, e_call3_1, e_call3_2, e_call3_3, e_call3_4, e_call4_0, e_call4_1, e_call4_2, e_call4_3, e_call4_4, e_call5_0, e_call5_1, e_call5_2, e_call5_3, e_call5_4, e_call6_0, e_call6_1, e_call6_2, e_call6_3, e_call6_4, xP, xld, xst1, xst2, xis2, xii, xid, xll, xlv, xls, xlc, xil, xli, xrd, xdup, xdup2, xc1, xpu, c_eq, c_ne, c_lt, c_ge, c_gt, c_le, Option.bind_some, Option.map_some, List.length_nil, List.length_cons, Nat.reduceAdd, Nat.reduceLeDiff, Int.reduceToNat, Bool.and_self, Bool.false_eq_true, if_true, if_false, D64_73, D64_74, g_text_3, es, n_lit, n_0, nI_leI, h1, ef, h10, not_false_eq_true, true_or]
    · rw [Bool.eq_false_iff.mpr hd, zB_ff] at ef
      rw [Bool.eq_false_iff.mpr hd, Bool.not_false, zB_tt]
      simp (maxSteps := 2000000) (disch := omega) only [e_inl, e_goto, e_fall, e_if, e_icmp, e_iret, e_zret, e_lret, e_vret, e_call0_0, e_call0_1, e_call0_2, e_call0_3, e_call0_4, e_call1_0, e_call1_1, e_call1_2, e_call1_3, e_call1_4, e_call2_0, e_call2_1, e_call2_2, e_call2_3, e_call2_4, e_call3_0, e_call3_1, e_call3_2, e_call3_3, e_call3_4, e_call4_0, e_call4_1, e_call4_2, e_call4_3, e_call4_4, e_call5_0, e_call5_1, e_call5_2, e_call5_3, e_call5_4, e_call6_0, e_call6_1, e_call6_2, e_call6_3, e_call6_4, xP, xld, xst1, xst2, xis2, xii, xid, xll, xlv, xls, xlc, xil, xli, xrd, xdup, xdup2, xc1, xpu, c_eq, c_ne, c_lt, c_ge, c_gt, c_le, Option.bind_some, Option.map_some, List.length_nil, List.length_cons, Nat.reduceAdd, Nat.reduceLeDiff, Int.reduceToNat, Bool.and_self, Bool.false_eq_true, if_true, if_false, D64_74, g_text_3, es, n_lit, n_0, n_1, nI_leI, h1, ef, not_true_eq_false, or_true]
  · have h1 : n ≤ 0 := by omega
    rw [decide_eq_false h0, Bool.false_and, zB_ff]
    simp (maxSteps := 2000000) (disch := omega) only [e_inl, e_goto, e_fall, e_if, e_icmp, e_iret, e_zret, e_lret, e_vret, e_call0_0, e_call0_1, e_call0_2, e_call0_3, e_call0_4, e_call1_0, e_call1_1, e_call1_2, e_call1_3, e_call1_4, e_call2_0, e_call2_1, e_call2_2, e_call2_3, e_call2_4, e_call3_0, e_call3_1, e_call3_2, e_call3_3, e_call3_4, e_call4_0, e_call4_1, e_call4_2, e_call4_3, e_call4_4, e_call5_0, e_call5_1, e_call5_2, e_call5_3, e_call5_4, e_call6_0, e_call6_1, e_call6_2, e_call6_3, e_call6_4, xP, xld, xst1, xst2, xis2, xii, xid, xll, xlv, xls, xlc, xil, xli, xrd, xdup, xdup2, xc1, xpu, c_eq, c_ne, c_lt, c_ge, c_gt, c_le, Option.bind_some, Option.map_some, List.length_nil, List.length_cons, Nat.reduceAdd, Nat.reduceLeDiff, Int.reduceToNat, Bool.and_self, Bool.false_eq_true, if_true, if_false, D64_73, D64_74, g_text_3, es, n_lit, n_0, nI_leI, h1, true_or]
set_option maxRecDepth 100000 in
theorem c_readNumber {T : tx} {i a : Nat} (hi : i < 5) (ha : a ≤ T.1) (hT : txS T X) (h2 : X.2.1 = nI a) : xcall 64 [.ref 158, .int (nI i)] (hp q S P A D K X E Z I J V) = some (some (.int (zB (isD T a && !isD T (dg T 6 0 a).2))), (hp q S P A D K ((X.1, nI (dg T 6 0 a).2, X.2.2.1, upd X.2.2.2.1 i (nI (dg T 6 0 a).1), X.2.2.2.2)) E Z I J V)) := by
  obtain ⟨n, e, n1, n2, n3, n4⟩ := c_rn_4 (q := q) (S := S) (P := P) (A := A) (D := D) (K := K) (E := E) (Z := Z) (I := I) (J := J) (V := V) (T := T) (y := nI i) 6 0 0 a X (by omega) ha hT h2
  obtain ⟨b1, b2, b3⟩ := dg_bd T 6 0 a ha
  have e2 := c_rn_51 (q := q) (S := S) (P := P) (A := A) (D := D) (K := K) (X := (X.1, nI (dg T 6 0 a).2, X.2.2)) (E := E) (Z := Z) (I := I) (J := J) (V := V) (T := T) (w := (dg T 6 0 a).1) hi n2 b2 hT rfl
  have hn : decide (0 < n) = isD T a := by
    cases hd : isD T a
    · exact decide_eq_false (by have := n4 hd; omega)
    · exact decide_eq_true (by have := n3 (by omega) hd; omega)
  rw [hn] at e2
  rw [N64 _ _ _ (o_text ..), D64_0]
  simp (maxSteps := 2000000) (disch := omega) only [e_inl, e_goto, e_fall, e_if, e_icmp, e_iret, e_zret, e_lret, e_vret, e_call0_0, e_call0_1, e_call0_2, e_call0_3, e_call0_4, e_call1_0, e_call1_1, e_call1_2, e_call1_3, e_call1_4, e_call2_0, e_call2_1, e_call2_2, e_call2_3, e_call2_4, e_call3_0, e_call3_1, e_call3_2, e_call3_3, e_call3_4, e_call4_0, e_call4_1, e_call4_2, e_call4_3, e_call4_4, e_call5_0, e_call5_1, e_call5_2, e_call5_3, e_call5_4, e_call6_0, e_call6_1, e_call6_2, e_call6_3, e_call6_4, xP, xld, xst1, xst2, xis2, xii, xid, xll, xlv, xls, xlc, xil, xli, xrd, xdup, xdup2, xc1, xpu, c_eq, c_ne, c_lt, c_ge, c_gt, c_le, Option.bind_some, Option.map_some, List.length_nil, List.length_cons, Nat.reduceAdd, Nat.reduceLeDiff, Int.reduceToNat, Bool.and_self, Bool.false_eq_true, if_true, if_false, n_lit]
  rw [e]
  exact e2
end
