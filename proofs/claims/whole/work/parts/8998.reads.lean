/-! ===== the class: orders of a text done; reads ===== -/
def poT (c : Nat) : Nat := if c = 102 then 112 else if c = 104 then 123 else if c = 115 then 141 else if c = 119 then 161 else if c = 114 then 175 else if c = 120 then 184 else if c = 100 then 192 else 201
theorem sw_po : ∀ c : Nat, c < 128 → (xsw #[(100, 192), (101, 201), (102, 112), (103, 201), (104, 123), (105, 201), (106, 201), (107, 201), (108, 201), (109, 201), (110, 201), (111, 201), (112, 201), (113, 201), (114, 175), (115, 141), (116, 201), (117, 201), (118, 201), (119, 161), (120, 184)].toList 201 (c : Int)).toNat = poT c := by decide +kernel
theorem kn_chg {σ σ' : mS} {s t : xSt} {A : (Nat → Int64) × Int32 × Int32 × (Nat → Int64) × (Nat → Nat → Int64)} (hk : knS σ t A) (e8 : s.1 8 = nI 0 ∨ (s = t ∧ σ' = σ)) : knS σ' s A := by
  rcases e8 with h | ⟨h1, h2⟩
  · exact Or.inl h
  · rw [h2, h1]
    exact hk
section
variable {q : Nat × (Nat → Int32)} {S : Nat → xSt} {P : Int32 × (Nat → Nat)} {A : (Nat → Int64) × Int32 × Int32 × (Nat → Int64) × (Nat → Nat → Int64)} {D : (Nat → Int64) × Int64} {K : Nat → Int64} {X : Int32 × Int32 × Int32 × (Nat → Int32) × (Nat → Int32)} {E Z : Nat → Int32} {I : Nat → Int32} {J : Nat → Int64} {V : Nat → Nat → Int32}
set_option maxRecDepth 100000 in
theorem c_po_0 {c : Nat} (hc : c < 128) (h3 : X.2.2.1 = nI c) : xcall 108 [.ref 2] (hp q S P A D K X E Z I J V) = den 108 (poT c) [some (.ref 2), some (.ref 159)] [] (hp q S P A D K X E Z I J V) := by
  have a1 : ∀ t : List xI, xB xcall (den 108) (.inl (.aload 0) :: .inl (.getfield 261) :: .inl (.getfield 227) :: .inl (.astore 1) :: .inl (.aload 0) :: .inl (.getfield 261) :: .inl (.getfield 226) :: t) [some (.ref 2), none] [] (hp q S P A D K X E Z I J V) = xB xcall (den 108) t [some (.ref 2), some (.ref 159)] [.int (nI c)] (hp q S P A D K X E Z I J V) := by
    intro t
    simp (maxSteps := 2000000) (disch := omega) only [e_inl, e_goto, e_fall, e_if, e_icmp, e_iret, e_zret, e_lret, e_vret, e_call0_0, e_call0_1, e_call0_2, e_call0_3, e_call0_4, e_call1_0, e_call1_1, e_call1_2, e_call1_3, e_call1_4, e_call2_0, e_call2_1, e_call2_2, e_call2_3, e_call2_4, e_call3_0, e_call3_1, e_call3_2, e_call3_3, e_call3_4, e_call4_0, e_call4_1, e_call4_2, e_call4_3, e_call4_4, e_call5_0, e_call5_1, e_call5_2, e_call5_3, e_call5_4, e_call6_0, e_call6_1, e_call6_2, e_call6_3, e_call6_4, xP, xld, xst1, xst2, xis2, xii, xid, xll, xlv, xls, xlc, xil, xli, xrd, xdup, xdup2, xc1, xpu, c_eq, c_ne, c_lt, c_ge, c_gt, c_le, Option.bind_some, Option.map_some, List.length_nil, List.length_cons, Nat.reduceAdd, Nat.reduceLeDiff, Int.reduceToNat, Bool.and_self, Bool.false_eq_true, if_true, if_false, g_x_5, g_text_2, g_text_3, h3]
  rw [N108 _ _ (o_x ..), D108_0, a1, e_sw, nI_toInt (by omega), sw_po c hc]
set_option maxRecDepth 100000 in
theorem c_performOrder {σ : mS} (hw : wf σ) (hs : rpS σ (S 0)) (hk : knS σ (S 0) A) {c : Nat} (hc : c < 128) (hcn : nb c ≠ 0) (h3 : X.2.2.1 = nI c) {v : Nat → Nat} (hv : ∀ i, i < nb c → X.2.2.2.1 i = nI (v i)) : ∃ (u : xSt) (A' : (Nat → Int64) × Int32 × Int32 × (Nat → Int64) × (Nat → Nat → Int64)) (D' : (Nat → Int64) × Int64), xcall 108 [.ref 2] (hp q S P A D K X E Z I J V) = some (some (.int (dO σ c v).1), (hp q (vf_upd S 0 u) P (A') (D') K X E Z I J V)) ∧ rpS (dO σ c v).2 u ∧ knS (dO σ c v).2 u A' := by
  rw [c_po_0 hc h3]
  have er : ∀ i, i < 5 → i < nb c → xiald (hp q S P A D K X E Z I J V) 159 (nI i) = some (.int (nI (v i))) := fun i h5 hi => by rw [r_numbers, if_pos (x_in h5 (by omega)), nI_clamp (by omega), hv i hi]
  unfold dO poT
  by_cases c1 : c = 102
  · have hn : nb c = 2 := by rw [c1]; rfl
    have q0 := er 0 (by omega) (by omega)
    have q1 := er 1 (by omega) (by omega)
    rw [if_pos c1, if_pos c1]
    obtain ⟨s, e2, g1, e8⟩ := c_tryField (q := q) (S := S) (P := P) (A := A) (D := D) (K := K) (X := X) (E := E) (Z := Z) (I := I) (J := J) (V := V) hw hs (nI (v 0)) (nI (v 1))
    refine ⟨s, A, D, ?_, g1, kn_chg hk e8⟩
    rw [D108_112]
    simp (maxSteps := 2000000) (disch := omega) only [e_inl, e_goto, e_fall, e_if, e_icmp, e_iret, e_zret, e_lret, e_vret, e_call0_0, e_call0_1, e_call0_2, e_call0_3, e_call0_4, e_call1_0, e_call1_1, e_call1_2, e_call1_3, e_call1_4, e_call2_0, e_call2_1, e_call2_2, e_call2_3, e_call2_4, e_call3_0, e_call3_1, e_call3_2, e_call3_3, e_call3_4, e_call4_0, e_call4_1, e_call4_2, e_call4_3, e_call4_4, e_call5_0, e_call5_1, e_call5_2, e_call5_3, e_call5_4, e_call6_0, e_call6_1, e_call6_2, e_call6_3, e_call6_4, xP, xld, xst1, xst2, xis2, xii, xid, xll, xlv, xls, xlc, xil, xli, xrd, xdup, xdup2, xc1, xpu, c_eq, c_ne, c_lt, c_ge, c_gt, c_le, Option.bind_some, Option.map_some, List.length_nil, List.length_cons, Nat.reduceAdd, Nat.reduceLeDiff, Int.reduceToNat, Bool.and_self, Bool.false_eq_true, if_true, if_false, n_lit, q0, q1, e2]
  rw [if_neg c1, if_neg c1]
  by_cases c2 : c = 104
  · have hn : nb c = 4 := by rw [c2]; rfl
    have q0 := er 0 (by omega) (by omega)
    have q1 := er 1 (by omega) (by omega)
    have q2 := er 2 (by omega) (by omega)
    have q3 := er 3 (by omega) (by omega)
    rw [if_pos c2, if_pos c2]
    obtain ⟨s, e2, g1, e8⟩ := c_tryRule (q := q) (S := S) (P := P) (A := A) (D := D) (K := K) (X := X) (E := E) (Z := Z) (I := I) (J := J) (V := V) hw hs (nI (v 0)) (nI (v 1)) (nI (v 2)) (nI (v 3)) (Int32.ofInt (-1))
    refine ⟨s, A, D, ?_, g1, kn_chg hk e8⟩
    rw [D108_123]
    simp (maxSteps := 2000000) (disch := omega) only [e_inl, e_goto, e_fall, e_if, e_icmp, e_iret, e_zret, e_lret, e_vret, e_call0_0, e_call0_1, e_call0_2, e_call0_3, e_call0_4, e_call1_0, e_call1_1, e_call1_2, e_call1_3, e_call1_4, e_call2_0, e_call2_1, e_call2_2, e_call2_3, e_call2_4, e_call3_0, e_call3_1, e_call3_2, e_call3_3, e_call3_4, e_call4_0, e_call4_1, e_call4_2, e_call4_3, e_call4_4, e_call5_0, e_call5_1, e_call5_2, e_call5_3, e_call5_4, e_call6_0, e_call6_1, e_call6_2, e_call6_3, e_call6_4, xP, xld, xst1, xst2, xis2, xii, xid, xll, xlv, xls, xlc, xil, xli, xrd, xdup, xdup2, xc1, xpu, c_eq, c_ne, c_lt, c_ge, c_gt, c_le, Option.bind_some, Option.map_some, List.length_nil, List.length_cons, Nat.reduceAdd, Nat.reduceLeDiff, Int.reduceToNat, Bool.and_self, Bool.false_eq_true, if_true, if_false, n_lit, q0, q1, q2, q3, e2]
  rw [if_neg c2, if_neg c2]
  by_cases c3 : c = 115
  · have hn : nb c = 5 := by rw [c3]; rfl
    have q0 := er 0 (by omega) (by omega)
    have q1 := er 1 (by omega) (by omega)
    have q2 := er 2 (by omega) (by omega)
    have q3 := er 3 (by omega) (by omega)
    have q4 := er 4 (by omega) (by omega)
    rw [if_pos c3, if_pos c3]
    obtain ⟨s, e2, g1, e8⟩ := c_tryRule (q := q) (S := S) (P := P) (A := A) (D := D) (K := K) (X := X) (E := E) (Z := Z) (I := I) (J := J) (V := V) hw hs (nI (v 1)) (nI (v 2)) (nI (v 3)) (nI (v 4)) (nI (v 0))
    refine ⟨s, A, D, ?_, g1, kn_chg hk e8⟩
    rw [D108_141]
    simp (maxSteps := 2000000) (disch := omega) only [e_inl, e_goto, e_fall, e_if, e_icmp, e_iret, e_zret, e_lret, e_vret, e_call0_0, e_call0_1, e_call0_2, e_call0_3, e_call0_4, e_call1_0, e_call1_1, e_call1_2, e_call1_3, e_call1_4, e_call2_0, e_call2_1, e_call2_2, e_call2_3, e_call2_4, e_call3_0, e_call3_1, e_call3_2, e_call3_3, e_call3_4, e_call4_0, e_call4_1, e_call4_2, e_call4_3, e_call4_4, e_call5_0, e_call5_1, e_call5_2, e_call5_3, e_call5_4, e_call6_0, e_call6_1, e_call6_2, e_call6_3, e_call6_4, xP, xld, xst1, xst2, xis2, xii, xid, xll, xlv, xls, xlc, xil, xli, xrd, xdup, xdup2, xc1, xpu, c_eq, c_ne, c_lt, c_ge, c_gt, c_le, Option.bind_some, Option.map_some, List.length_nil, List.length_cons, Nat.reduceAdd, Nat.reduceLeDiff, Int.reduceToNat, Bool.and_self, Bool.false_eq_true, if_true, if_false, n_lit, q0, q1, q2, q3, q4, e2]
  rw [if_neg c3, if_neg c3]
  by_cases c4 : c = 119
  · have hn : nb c = 3 := by rw [c4]; rfl
    have q0 := er 0 (by omega) (by omega)
    have q1 := er 1 (by omega) (by omega)
    have q2 := er 2 (by omega) (by omega)
    rw [if_pos c4, if_pos c4]
    obtain ⟨s, e2, g1, e8⟩ := c_tryWeight (q := q) (S := S) (P := P) (A := A) (D := D) (K := K) (X := X) (E := E) (Z := Z) (I := I) (J := J) (V := V) hw hs (nI (v 0)) (nI (v 1)) (nI (v 2))
    refine ⟨s, A, D, ?_, g1, hk.of (dW_L σ _ _ _) e8⟩
    rw [D108_161]
    simp (maxSteps := 2000000) (disch := omega) only [e_inl, e_goto, e_fall, e_if, e_icmp, e_iret, e_zret, e_lret, e_vret, e_call0_0, e_call0_1, e_call0_2, e_call0_3, e_call0_4, e_call1_0, e_call1_1, e_call1_2, e_call1_3, e_call1_4, e_call2_0, e_call2_1, e_call2_2, e_call2_3, e_call2_4, e_call3_0, e_call3_1, e_call3_2, e_call3_3, e_call3_4, e_call4_0, e_call4_1, e_call4_2, e_call4_3, e_call4_4, e_call5_0, e_call5_1, e_call5_2, e_call5_3, e_call5_4, e_call6_0, e_call6_1, e_call6_2, e_call6_3, e_call6_4, xP, xld, xst1, xst2, xis2, xii, xid, xll, xlv, xls, xlc, xil, xli, xrd, xdup, xdup2, xc1, xpu, c_eq, c_ne, c_lt, c_ge, c_gt, c_le, Option.bind_some, Option.map_some, List.length_nil, List.length_cons, Nat.reduceAdd, Nat.reduceLeDiff, Int.reduceToNat, Bool.and_self, Bool.false_eq_true, if_true, if_false, n_lit, q0, q1, q2, e2]
  rw [if_neg c4, if_neg c4]
  have q0 := er 0 (by omega) (by omega)
  by_cases c5 : c = 114
  · rw [if_pos c5, if_pos c5]
    obtain ⟨s, e2, g1, e8⟩ := c_tryRound (q := q) (S := S) (P := P) (A := A) (D := D) (K := K) (X := X) (E := E) (Z := Z) (I := I) (J := J) (V := V) hw hs (nI (v 0)) (nI 1)
    refine ⟨s, A, D, ?_, g1, hk.of (dR_L σ _ _) e8⟩
    rw [D108_175]
    simp (maxSteps := 2000000) (disch := omega) only [e_inl, e_goto, e_fall, e_if, e_icmp, e_iret, e_zret, e_lret, e_vret, e_call0_0, e_call0_1, e_call0_2, e_call0_3, e_call0_4, e_call1_0, e_call1_1, e_call1_2, e_call1_3, e_call1_4, e_call2_0, e_call2_1, e_call2_2, e_call2_3, e_call2_4, e_call3_0, e_call3_1, e_call3_2, e_call3_3, e_call3_4, e_call4_0, e_call4_1, e_call4_2, e_call4_3, e_call4_4, e_call5_0, e_call5_1, e_call5_2, e_call5_3, e_call5_4, e_call6_0, e_call6_1, e_call6_2, e_call6_3, e_call6_4, xP, xld, xst1, xst2, xis2, xii, xid, xll, xlv, xls, xlc, xil, xli, xrd, xdup, xdup2, xc1, xpu, c_eq, c_ne, c_lt, c_ge, c_gt, c_le, Option.bind_some, Option.map_some, List.length_nil, List.length_cons, Nat.reduceAdd, Nat.reduceLeDiff, Int.reduceToNat, Bool.and_self, Bool.false_eq_true, if_true, if_false, n_lit, q0, e2]
  rw [if_neg c5, if_neg c5]
  by_cases c6 : c = 120
  · rw [if_pos c6, if_pos c6]
    obtain ⟨s, e2, g1, e8⟩ := c_tryDrop (q := q) (S := S) (P := P) (A := A) (D := D) (K := K) (X := X) (E := E) (Z := Z) (I := I) (J := J) (V := V) hw hs (nI (v 0))
    refine ⟨s, A, D, ?_, g1, kn_chg hk e8⟩
    rw [D108_184]
    simp (maxSteps := 2000000) (disch := omega) only [e_inl, e_goto, e_fall, e_if, e_icmp, e_iret, e_zret, e_lret, e_vret, e_call0_0, e_call0_1, e_call0_2, e_call0_3, e_call0_4, e_call1_0, e_call1_1, e_call1_2, e_call1_3, e_call1_4, e_call2_0, e_call2_1, e_call2_2, e_call2_3, e_call2_4, e_call3_0, e_call3_1, e_call3_2, e_call3_3, e_call3_4, e_call4_0, e_call4_1, e_call4_2, e_call4_3, e_call4_4, e_call5_0, e_call5_1, e_call5_2, e_call5_3, e_call5_4, e_call6_0, e_call6_1, e_call6_2, e_call6_3, e_call6_4, xP, xld, xst1, xst2, xis2, xii, xid, xll, xlv, xls, xlc, xil, xli, xrd, xdup, xdup2, xc1, xpu, c_eq, c_ne, c_lt, c_ge, c_gt, c_le, Option.bind_some, Option.map_some, List.length_nil, List.length_cons, Nat.reduceAdd, Nat.reduceLeDiff, Int.reduceToNat, Bool.and_self, Bool.false_eq_true, if_true, if_false, n_lit, q0, e2]
  rw [if_neg c6, if_neg c6]
  by_cases c7 : c = 100
  · rw [if_pos c7, if_pos c7]
    obtain ⟨s, A', D', e2, g1, g2⟩ := c_tryDraw (q := q) (S := S) (P := P) (A := A) (D := D) (K := K) (X := X) (E := E) (Z := Z) (I := I) (J := J) (V := V) hw hs hk (nI 0) (nI (v 0))
    refine ⟨s, A', D', ?_, g1, g2⟩
    rw [D108_192]
    simp (maxSteps := 2000000) (disch := omega) only [e_inl, e_goto, e_fall, e_if, e_icmp, e_iret, e_zret, e_lret, e_vret, e_call0_0, e_call0_1, e_call0_2, e_call0_3, e_call0_4, e_call1_0, e_call1_1, e_call1_2, e_call1_3, e_call1_4, e_call2_0, e_call2_1, e_call2_2, e_call2_3, e_call2_4, e_call3_0, e_call3_1, e_call3_2, e_call3_3, e_call3_4, e_call4_0, e_call4_1, e_call4_2, e_call4_3, e_call4_4, e_call5_0, e_call5_1, e_call5_2, e_call5_3, e_call5_4, e_call6_0, e_call6_1, e_call6_2, e_call6_3, e_call6_4, xP, xld, xst1, xst2, xis2, xii, xid, xll, xlv, xls, xlc, xil, xli, xrd, xdup, xdup2, xc1, xpu, c_eq, c_ne, c_lt, c_ge, c_gt, c_le, Option.bind_some, Option.map_some, List.length_nil, List.length_cons, Nat.reduceAdd, Nat.reduceLeDiff, Int.reduceToNat, Bool.and_self, Bool.false_eq_true, if_true, if_false, n_lit, q0, e2]
  · rw [if_neg c7, if_neg c7]
    obtain ⟨s, A', D', e2, g1, g2⟩ := c_tryDraw (q := q) (S := S) (P := P) (A := A) (D := D) (K := K) (X := X) (E := E) (Z := Z) (I := I) (J := J) (V := V) hw hs hk (nI 1) (nI (v 0))
    refine ⟨s, A', D', ?_, g1, g2⟩
    rw [D108_201]
    simp (maxSteps := 2000000) (disch := omega) only [e_inl, e_goto, e_fall, e_if, e_icmp, e_iret, e_zret, e_lret, e_vret, e_call0_0, e_call0_1, e_call0_2, e_call0_3, e_call0_4, e_call1_0, e_call1_1, e_call1_2, e_call1_3, e_call1_4, e_call2_0, e_call2_1, e_call2_2, e_call2_3, e_call2_4, e_call3_0, e_call3_1, e_call3_2, e_call3_3, e_call3_4, e_call4_0, e_call4_1, e_call4_2, e_call4_3, e_call4_4, e_call5_0, e_call5_1, e_call5_2, e_call5_3, e_call5_4, e_call6_0, e_call6_1, e_call6_2, e_call6_3, e_call6_4, xP, xld, xst1, xst2, xis2, xii, xid, xll, xlv, xls, xlc, xil, xli, xrd, xdup, xdup2, xc1, xpu, c_eq, c_ne, c_lt, c_ge, c_gt, c_le, Option.bind_some, Option.map_some, List.length_nil, List.length_cons, Nat.reduceAdd, Nat.reduceLeDiff, Int.reduceToNat, Bool.and_self, Bool.false_eq_true, if_true, if_false, n_lit, q0, e2]
set_option maxRecDepth 100000 in
theorem c_rd_41 {T : tx} {N : Nat} (o1 : N ≤ 50) (o2 : (ord T (op T N)).1 = false) (o3 : ∀ k, k < N → (ord T (op T k)).1 = true) {σ : mS} (hw : wf σ) {y : Int32} (m : Nat) : ∀ (k a : Nat) (S : Nat → xSt) (A : (Nat → Int64) × Int32 × Int32 × (Nat → Int64) × (Nat → Nat → Int64)) (D : (Nat → Int64) × Int64) (X : Int32 × Int32 × Int32 × (Nat → Int32) × (Nat → Int32)), k + m = N → a ≤ T.1 → skp T a = op T k → txS T X → X.2.1 = nI a → rpS (rdS T σ k).1 (S 0) → knS (rdS T σ k).1 (S 0) A → ∃ (u : xSt) (A' : (Nat → Int64) × Int32 × Int32 × (Nat → Int64) × (Nat → Nat → Int64)) (D' : (Nat → Int64) × Int64) (X' : Int32 × Int32 × Int32 × (Nat → Int32) × (Nat → Int32)), den 88 41 [some (.ref 2), some (.int y), some (.int (nI (rdS T σ k).2)), some (.int (nI k))] [] (hp q S P A D K X E Z I J V) = den 88 74 [some (.ref 2), some (.int y), some (.int (nI (rdS T σ N).2)), some (.int (nI N))] [] (hp q (vf_upd S 0 u) P (A') (D') K (X') E Z I J V) ∧ rpS (rdS T σ N).1 u ∧ knS (rdS T σ N).1 u A' ∧ txS T X' := by
  have h10 : (nI 1 = nI 0) = False := eq_false (by decide)
  induction m with
  | zero =>
    intro k a S A D X hk ha hop hT h2 hr hn
    have hkn : k = N := by omega
    subst hkn
    obtain ⟨X', e, g1, g2, g3⟩ := c_readOrder (q := q) (S := S) (P := P) (A := A) (D := D) (K := K) (X := X) (E := E) (Z := Z) (I := I) (J := J) (V := V) ha hT h2 hop
    rw [o2, zB_ff] at e
    refine ⟨S 0, A, D, X', ?_, hr, hn, g1⟩
    have h1 : ¬ 150 ≤ k := by omega
    rw [vu_id, D88_41]
    simp (maxSteps := 2000000) (disch := omega) only [e_inl, e_goto, e_fall, e_if, e_icmp, e_iret, e_zret, e_lret, e_vret, e_call0_0, e_call0_1, e_call0_2, e_call0_3, e_call0_4, e_call1_0, e_call1_1, e_call1_2, e_call1_3, e_call1_4, e_call2_0, e_call2_1, e_call2_2, e_call2_3, e_call2_4, e_call3_0, e_call3_1, e_call3_2, e_call3_3, e_call3_4, e_call4_0, e_call4_1, e_call4_2, e_call4_3, e_call4_4, e_call5_0, e_call5_1, e_call5_2, e_call5_3, e_call5_4, e_call6_0, e_call6_1, e_call6_2, e_call6_3, e_call6_4, xP, xld, xst1, xst2, xis2, xii, xid, xll, xlv, xls, xlc, xil, xli, xrd, xdup, xdup2, xc1, xpu, c_eq, c_ne, c_lt, c_ge, c_gt, c_le, Option.bind_some, Option.map_some, List.length_nil, List.length_cons, Nat.reduceAdd, Nat.reduceLeDiff, Int.reduceToNat, Bool.and_self, Bool.false_eq_true, if_true, if_false, g_x_5, n_lit, n_0, nI_leI, h1, e]
  | succ m ih =>
    intro k a S A D X hk ha hop hT h2 hr hn
    have hok := o3 k (by omega)
    obtain ⟨r1, r2⟩ := rdS_ok (T := T) hw k
    obtain ⟨X1, e, g1, g2, g3⟩ := c_readOrder (q := q) (S := S) (P := P) (A := A) (D := D) (K := K) (X := X) (E := E) (Z := Z) (I := I) (J := J) (V := V) ha hT h2 hop
    rw [hok, zB_tt] at e
    rw [hok, if_pos rfl] at g2
    have hop1 : skp T (ord T (op T k)).2 = op T (k + 1) := rfl
    rw [hop1] at g2
    obtain ⟨l1, l2⟩ := g3 hok
    obtain ⟨n1, n2⟩ := ord_nb hok
    have hc := (hT.2.2 _ n1).2
    obtain ⟨u1, A1, D1, e2, p1, p2⟩ := c_performOrder (q := q) (S := S) (P := P) (A := A) (D := D) (K := K) (X := X1) (E := E) (Z := Z) (I := I) (J := J) (V := V) r1 hr hn hc n2 l1 l2
    obtain ⟨u, A', D', X', e3, p3, p4, p5⟩ := ih (k + 1) (op T (k + 1)) (vf_upd S 0 u1) A1 D1 X1 (by omega) (op_le T (k + 1)) (skp_no (op_nb T (k + 1))) g1 g2 (by rw [vu_s]; exact p1) (by rw [vu_s]; exact p2)
    rw [vu_vu] at e3
    refine ⟨u, A', D', X', Eq.trans ?_ e3, p3, p4, p5⟩
    have h1 : ¬ 150 ≤ k := by omega
    have ed : (rdS T σ (k + 1)).2 = (rdS T σ k).2 + if 0 ≤ (dO (rdS T σ k).1 (T.2 (op T k)) (nv T (op T k + 1))).1 then 1 else 0 := rfl
    rw [ed]
    clear e3 ih ed
    generalize (dO (rdS T σ k).1 (T.2 (op T k)) (nv T (op T k + 1))).1 = w at *
    generalize (rdS T σ k).2 = x at *
    rw [D88_41]
    by_cases h0 : 0 ≤ w
    · have h3 : ¬ w < 0 := Int32.not_lt.mpr h0
      rw [if_pos h0]
      rw [n_0] at h3
      simp (maxSteps := 2000000) (disch := omega) only [e_inl, e_goto, e_fall, e_if, e_icmp, e_iret, e_zret, e_lret, e_vret, e_call0_0, e_call0_1, e_call0_2, e_call0_3, e_call0_4, e_call1_0, e_call1_1, e_call1_2, e_call1_3, e_call1_4, e_call2_0, e_call2_1, e_call2_2, e_call2_3, e_call2_4, e_call3_0, e_call3_1, e_call3_2, e_call3_3, e_call3_4, e_call4_0, e_call4_1, e_call4_2, e_call4_3, e_call4_4, e_call5_0, e_call5_1, e_call5_2, e_call5_3, e_call5_4, e_call6_0, e_call6_1, e_call6_2, e_call6_3, e_call6_4, xP, xld, xst1, xst2, xis2, xii, xid, xll, xlv, xls, xlc, xil, xli, xrd, xdup, xdup2, xc1, xpu, c_eq, c_ne, c_lt, c_ge, c_gt, c_le, Option.bind_some, Option.map_some, List.length_nil, List.length_cons, Nat.reduceAdd, Nat.reduceLeDiff, Int.reduceToNat, Bool.and_self, Bool.false_eq_true, if_true, if_false, D88_68, g_x_5, n_lit, n_0, nI_leI, nI_add, h1, e, h10, e2, h3]
    · have h3 : w < 0 := Int32.not_le.mp h0
      rw [if_neg h0, Nat.add_zero]
      rw [n_0] at h3
      simp (maxSteps := 2000000) (disch := omega) only [e_inl, e_goto, e_fall, e_if, e_icmp, e_iret, e_zret, e_lret, e_vret, e_call0_0, e_call0_1, e_call0_2, e_call0_3, e_call0_4, e_call1_0, e_call1_1, e_call1_2, e_call1_3, e_call1_4, e_call2_0, e_call2_1, e_call2_2, e_call2_3, e_call2_4, e_call3_0, e_call3_1, e_call3_2, e_call3_3, e_call3_4, e_call4_0, e_call4_1, e_call4_2, e_call4_3, e_call4_4, e_call5_0, e_call5_1, e_call5_2, e_call5_3, e_call5_4, e_call6_0, e_call6_1, e_call6_2, e_call6_3, e_call6_4, xP, xld, xst1, xst2, xis2, xii, xid, xll, xlv, xls, xlc, xil, xli, xrd, xdup, xdup2, xc1, xpu, c_eq, c_ne, c_lt, c_ge, c_gt, c_le, Option.bind_some, Option.map_some, List.length_nil, List.length_cons, Nat.reduceAdd, Nat.reduceLeDiff, Int.reduceToNat, Bool.and_self, Bool.false_eq_true, if_true, if_false, D88_68, g_x_5, n_lit, n_0, nI_leI, nI_add, h1, e, h10, e2, h3]
set_option maxRecDepth 100000 in
theorem C_reads {M : mM} (hI : ClsI M S P A X E) : ∃ (S' : Nat → xSt) (P' : Int32 × (Nat → Nat)) (A' : (Nat → Int64) × Int32 × Int32 × (Nat → Int64) × (Nat → Nat → Int64)) (D' : (Nat → Int64) × Int64) (X' : Int32 × Int32 × Int32 × (Nat → Int32) × (Nat → Int32)) (E' : Nat → Int32), xcall 88 [.ref 2] (hp q S P A D K X E Z I J V) = some (some (.int (oReads M).1), (hp q (S') (P') (A') (D') K (X') (E') Z I J V)) ∧ ClsI (oReads M).2 S' P' A' X' E' := by
  have hT := hI.2.2.2.2.2.2.2.1
  obtain ⟨X1, e0, g0⟩ := c_findFault (q := q) (S := S) (P := P) (A := A) (D := D) (K := K) (X := X) (E := E) (Z := Z) (I := I) (J := J) (V := V) hT
  have hI1 : ClsI M S P A X1 E := by
    obtain ⟨i1, i2, i3, i4, i5, i6, i7, i8, i9⟩ := hI
    exact ⟨i1, i2, i3, i4, i5, i6, i7, g0, i9⟩
  rw [N88 _ _ (o_x ..), D88_0]
  cases hf : flt M.2.2.2.1 with
  | some f =>
    rw [oReads_s hf]
    rw [hf] at e0
    have eoi : oI (some f) = nI f := rfl
    rw [eoi] at e0
    have hfl : f ≤ 150 := by
      have t1 := hT.1
      unfold flt at hf
      split at hf
      · have := Option.some.inj hf
        have := (ord_bd (op_le M.2.2.2.1 (oN M.2.2.2.1))).1
        omega
      · split at hf
        · have := Option.some.inj hf
          have := op_le M.2.2.2.1 0
          omega
        · cases hf
    have hne := n_neg (x := f) (by omega)
    refine ⟨S, P, A, D, X1, E, ?_, hI1⟩
    simp (maxSteps := 2000000) (disch := omega) only [e_inl, e_goto, e_fall, e_if, e_icmp, e_iret, e_zret, e_lret, e_vret, e_call0_0, e_call0_1, e_call0_2, e_call0_3, e_call0_4, e_call1_0, e_call1_1, e_call1_2, e_call1_3, e_call1_4, e_call2_0, e_call2_1, e_call2_2, e_call2_3, e_call2_4, e_call3_0, e_call3_1, e_call3_2, e_call3_3, e_call3_4, e_call4_0, e_call4_1, e_call4_2, e_call4_3, e_call4_4, e_call5_0, e_call5_1, e_call5_2, e_call5_3, e_call5_4, e_call6_0, e_call6_1, e_call6_2, e_call6_3, e_call6_4, xP, xld, xst1, xst2, xis2, xii, xid, xll, xlv, xls, xlc, xil, xli, xrd, xdup, xdup2, xc1, xpu, c_eq, c_ne, c_lt, c_ge, c_gt, c_le, Option.bind_some, Option.map_some, List.length_nil, List.length_cons, Nat.reduceAdd, Nat.reduceLeDiff, Int.reduceToNat, Bool.and_self, Bool.false_eq_true, if_true, if_false, g_x_5, e0, hne]
  | none =>
    rw [oReads_n hf]
    dsimp only
    rw [hf] at e0
    have eoi : oI none = Int32.ofInt (-1) := rfl
    rw [eoi] at e0
    obtain ⟨o1, o2, o3⟩ := oN_lt hT.1
    obtain ⟨mk, e1, hm, em⟩ := c_markM (q := q) (S := S) (P := P) (A := A) (D := D) (K := K) (X := X1) (E := E) (Z := Z) (I := I) (J := J) (V := V) hI1
    obtain ⟨u, A', D', X', e2, g1, g2, g3⟩ := c_rd_41 (q := q) (P := P) (K := K) (E := E) (Z := Z) (I := I) (J := J) (V := V) o1 o2 o3 (σ := M.1) hI.1 (y := Int32.ofInt (-1)) (oN M.2.2.2.1) 0 0 (vf_upd S (P.2 M.2.1) mk) A D (X1.1, nI 0, X1.2.2) (by omega) (Nat.zero_le _) rfl g0 rfl (by rw [em]; exact hI.2.1) (by rw [em]; exact hI.2.2.1)
    obtain ⟨r1, r2⟩ := rdS_ok (T := M.2.2.2.1) hI.1 (oN M.2.2.2.1)
    have e20 : (rdS M.2.2.2.1 M.1 0).2 = 0 := rfl
    rw [e20] at e2
    generalize rdS M.2.2.2.1 M.1 (oN M.2.2.2.1) = rr at *
    have hok : okA (nI rr.2) := Or.inr (Or.inr (Or.inr ⟨rr.2, by omega, rfl⟩))
    have e3 := c_settled (q := q) (S := vf_upd (vf_upd S (P.2 M.2.1) mk) 0 u) (P := P) (A := A') (D := D') (K := K) (X := X') (E := E) (Z := Z) (I := I) (J := J) (V := V) hok hI.2.2.2.1 hI.2.2.2.2.1 hI.2.2.2.2.2.1
    have h := clsFin (d := (nI rr.2, rr.1)) hI hm r1 g1 g2 g3
    refine ⟨_, _, _, D', _, _, ?_, h⟩
    simp (maxSteps := 2000000) (disch := omega) only [e_inl, e_goto, e_fall, e_if, e_icmp, e_iret, e_zret, e_lret, e_vret, e_call0_0, e_call0_1, e_call0_2, e_call0_3, e_call0_4, e_call1_0, e_call1_1, e_call1_2, e_call1_3, e_call1_4, e_call2_0, e_call2_1, e_call2_2, e_call2_3, e_call2_4, e_call3_0, e_call3_1, e_call3_2, e_call3_3, e_call3_4, e_call4_0, e_call4_1, e_call4_2, e_call4_3, e_call4_4, e_call5_0, e_call5_1, e_call5_2, e_call5_3, e_call5_4, e_call6_0, e_call6_1, e_call6_2, e_call6_3, e_call6_4, xP, xld, xst1, xst2, xis2, xii, xid, xll, xlv, xls, xlc, xil, xli, xrd, xdup, xdup2, xc1, xpu, c_eq, c_ne, c_lt, c_ge, c_gt, c_le, Option.bind_some, Option.map_some, List.length_nil, List.length_cons, Nat.reduceAdd, Nat.reduceLeDiff, Int.reduceToNat, Bool.and_self, Bool.false_eq_true, if_true, if_false, D88_18, g_x_0, g_x_1, g_x_5, p_text_1, n_lit, e0, not_true_eq_false, e1]
    rw [e2, D88_74]
    simp (maxSteps := 2000000) (disch := omega) only [e_inl, e_goto, e_fall, e_if, e_icmp, e_iret, e_zret, e_lret, e_vret, e_call0_0, e_call0_1, e_call0_2, e_call0_3, e_call0_4, e_call1_0, e_call1_1, e_call1_2, e_call1_3, e_call1_4, e_call2_0, e_call2_1, e_call2_2, e_call2_3, e_call2_4, e_call3_0, e_call3_1, e_call3_2, e_call3_3, e_call3_4, e_call4_0, e_call4_1, e_call4_2, e_call4_3, e_call4_4, e_call5_0, e_call5_1, e_call5_2, e_call5_3, e_call5_4, e_call6_0, e_call6_1, e_call6_2, e_call6_3, e_call6_4, xP, xld, xst1, xst2, xis2, xii, xid, xll, xlv, xls, xlc, xil, xli, xrd, xdup, xdup2, xc1, xpu, c_eq, c_ne, c_lt, c_ge, c_gt, c_le, Option.bind_some, Option.map_some, List.length_nil, List.length_cons, Nat.reduceAdd, Nat.reduceLeDiff, Int.reduceToNat, Bool.and_self, Bool.false_eq_true, if_true, if_false, e3]
end
