/-! ===== public calls of the class (1): orders that leave a state, back ===== -/
theorem knS.of {σ σ' : mS} {s t : xSt} {A : (Nat → Int64) × Int32 × Int32 × (Nat → Int64) × (Nat → Nat → Int64)} (h : knS σ t A) (hL : sameL σ σ') (h8 : s.1 8 = t.1 8) : knS σ' s A := by
  unfold knS at *
  rw [h8]
  exact h.imp id (fun z => ⟨z.1, hL.lawK z.2⟩)
theorem dW_L (σ : mS) (f v w : Int32) : sameL σ (dW σ f v w).2 := by
  unfold dW
  split
  · exact ⟨fun _ _ _ => rfl, rfl, rfl⟩
  · exact sameL.rf σ
theorem dR_L (σ : mS) (f z : Int32) : sameL σ (dR σ f z).2 := by
  unfold dR
  split
  · refine ⟨fun a b hb => ?_, rfl, rfl⟩
    show (if a = f.toNatClampNeg ∧ b = 2 then z.toNatClampNeg else if a = f.toNatClampNeg ∧ b = 3 then 0 else mF σ a b) = _
    rw [if_neg (by omega), if_neg (by omega)]
  · exact sameL.rf σ
theorem dP_L (σ : mS) (f p : Int32) : sameL σ (dP σ f p).2 := by
  unfold dP
  split
  · exact ⟨fun _ _ _ => rfl, rfl, rfl⟩
  · exact sameL.rf σ
section
variable {q : Nat × (Nat → Int32)} {S : Nat → xSt} {P : Int32 × (Nat → Nat)} {A : (Nat → Int64) × Int32 × Int32 × (Nat → Int64) × (Nat → Nat → Int64)} {D : (Nat → Int64) × Int64} {K : Nat → Int64} {X : Int32 × Int32 × Int32 × (Nat → Int32) × (Nat → Int32)} {E Z : Nat → Int32} {I : Nat → Int32} {J : Nat → Int64} {V : Nat → Nat → Int32}
/-! the mark of a call -/
set_option maxRecDepth 100000 in
theorem c_markM {M : mM} (hI : ClsI M S P A X E) : ∃ m : xSt, xcall 19 [.ref 24, .ref 3] (hp q S P A D K X E Z I J V) = some (none, (hp q (vf_upd S (P.2 M.2.1) m) P A D K X E Z I J V)) ∧ rpS M.1 m ∧ vf_upd S (P.2 M.2.1) m 0 = S 0 := by
  obtain ⟨i1, i2, i3, i4, i5, i6, i7, i8, i9⟩ := hI
  have w7 := i1.2.2.2.2.2.2.1
  have w10 := i1.2.2.2.2.2.2.2.2.2.1
  have hp1 := i6.1 M.2.1 (by omega)
  refine ⟨_, c_mark (show M.2.1 < 5 by omega) i5 hp1 w7 w10 i2.2.2.2.2.1 i2.2.2.2.2.2.2.2.2.1, (stB_rp i1 i2 _).1, vu_n _ _ (by omega)⟩
set_option maxRecDepth 100000 in
theorem c_pubM {M : mM} {d : Int32 × mS} (hI : ClsI M S P A X E) {m s : xSt} (hm : rpS M.1 m) (hw : wf d.2) (ha : okA d.1) (hs : rpS d.2 s) (hk : knS d.2 s A) : xcall 92 [.ref 2, .int d.1] (hp q (vf_upd (vf_upd S (P.2 M.2.1) m) 0 s) P A D K X E Z I J V) = some (some (.int d.1), (hp q (vf_upd (vf_upd S (P.2 M.2.1) m) 0 s) (enP P M.2.1 d.1) A D K X (if 0 ≤ d.1 then E else inc E (ec d.1)) Z I J V)) ∧ ClsI (fin M d) (vf_upd (vf_upd S (P.2 M.2.1) m) 0 s) (enP P M.2.1 d.1) A X (if 0 ≤ d.1 then E else inc E (ec d.1)) :=
  ⟨c_settled ha hI.2.2.2.1 hI.2.2.2.2.1 hI.2.2.2.2.2.1, clsFin hI hm hw hs hk hI.2.2.2.2.2.2.2.1⟩
set_option maxRecDepth 100000 in
theorem C_field {M : mM} (hI : ClsI M S P A X E) (lo hi : Int32) : ∃ (S' : Nat → xSt) (P' : Int32 × (Nat → Nat)) (E' : Nat → Int32), xcall 68 [.ref 2, .int lo, .int hi] (hp q S P A D K X E Z I J V) = some (some (.int (dF M.1 lo hi).1), (hp q (S') (P') A D K X (E') Z I J V)) ∧ ClsI (fin M (dF M.1 lo hi)) S' P' A X E' := by
  obtain ⟨m, e1, hm, e0⟩ := c_markM (q := q) (S := S) (P := P) (A := A) (D := D) (K := K) (X := X) (E := E) (Z := Z) (I := I) (J := J) (V := V) hI
  obtain ⟨s, e2, hs, e8⟩ := c_tryField (q := q) (S := vf_upd S (P.2 M.2.1) m) (P := P) (A := A) (D := D) (K := K) (X := X) (E := E) (Z := Z) (I := I) (J := J) (V := V) hI.1 (by rw [e0]; exact hI.2.1) lo hi
  have hk : knS (dF M.1 lo hi).2 s A := by
    rcases e8 with h | ⟨h1, h2⟩
    · exact Or.inl h
    · rw [h2, h1, e0]
      exact hI.2.2.1
  obtain ⟨e3, h⟩ := c_pubM (q := q) (S := S) (P := P) (A := A) (D := D) (K := K) (X := X) (E := E) (Z := Z) (I := I) (J := J) (V := V) hI hm (dF_wf hI.1 lo hi) (dF_ok hI.1 lo hi) hs hk
  refine ⟨_, _, _, ?_, h⟩
  rw [N68 _ _ _ _ (o_x ..)]
  simp (maxSteps := 2000000) (disch := omega) only [e_inl, e_goto, e_fall, e_if, e_icmp, e_iret, e_zret, e_lret, e_vret, e_call0_0, e_call0_1, e_call0_2, e_call0_3, e_call0_4, e_call1_0, e_call1_1, e_call1_2, e_call1_3, e_call1_4, e_call2_0, e_call2_1, e_call2_2, e_call2_3, e_call2_4, e_call3_0, e_call3_1, e_call3_2, e_call3_3, e_call3_4, e_call4_0, e_call4_1, e_call4_2, e_call4_3, e_call4_4, e_call5_0, e_call5_1, e_call5_2, e_call5_3, e_call5_4, e_call6_0, e_call6_1, e_call6_2, e_call6_3, e_call6_4, xP, xld, xst1, xst2, xis2, xii, xid, xll, xlv, xls, xlc, xil, xli, xrd, xdup, xdup2, xc1, xpu, c_eq, c_ne, c_lt, c_ge, c_gt, c_le, Option.bind_some, Option.map_some, List.length_nil, List.length_cons, Nat.reduceAdd, Nat.reduceLeDiff, Int.reduceToNat, Bool.and_self, Bool.false_eq_true, if_true, if_false, D68_0, g_x_0, g_x_1, e1, e2, e3]
set_option maxRecDepth 100000 in
theorem C_range {M : mM} (hI : ClsI M S P A X E) (f lo hi : Int32) : ∃ (S' : Nat → xSt) (P' : Int32 × (Nat → Nat)) (E' : Nat → Int32), xcall 69 [.ref 2, .int f, .int lo, .int hi] (hp q S P A D K X E Z I J V) = some (some (.int (dG M.1 f lo hi).1), (hp q (S') (P') A D K X (E') Z I J V)) ∧ ClsI (fin M (dG M.1 f lo hi)) S' P' A X E' := by
  obtain ⟨m, e1, hm, e0⟩ := c_markM (q := q) (S := S) (P := P) (A := A) (D := D) (K := K) (X := X) (E := E) (Z := Z) (I := I) (J := J) (V := V) hI
  obtain ⟨s, e2, hs, e8⟩ := c_tryRange (q := q) (S := vf_upd S (P.2 M.2.1) m) (P := P) (A := A) (D := D) (K := K) (X := X) (E := E) (Z := Z) (I := I) (J := J) (V := V) hI.1 (by rw [e0]; exact hI.2.1) f lo hi
  have hk : knS (dG M.1 f lo hi).2 s A := by
    rcases e8 with h | ⟨h1, h2⟩
    · exact Or.inl h
    · rw [h2, h1, e0]
      exact hI.2.2.1
  obtain ⟨e3, h⟩ := c_pubM (q := q) (S := S) (P := P) (A := A) (D := D) (K := K) (X := X) (E := E) (Z := Z) (I := I) (J := J) (V := V) hI hm (dG_wf hI.1 f lo hi) (dG_ok f lo hi) hs hk
  refine ⟨_, _, _, ?_, h⟩
  rw [N69 _ _ _ _ _ (o_x ..)]
  simp (maxSteps := 2000000) (disch := omega) only [e_inl, e_goto, e_fall, e_if, e_icmp, e_iret, e_zret, e_lret, e_vret, e_call0_0, e_call0_1, e_call0_2, e_call0_3, e_call0_4, e_call1_0, e_call1_1, e_call1_2, e_call1_3, e_call1_4, e_call2_0, e_call2_1, e_call2_2, e_call2_3, e_call2_4, e_call3_0, e_call3_1, e_call3_2, e_call3_3, e_call3_4, e_call4_0, e_call4_1, e_call4_2, e_call4_3, e_call4_4, e_call5_0, e_call5_1, e_call5_2, e_call5_3, e_call5_4, e_call6_0, e_call6_1, e_call6_2, e_call6_3, e_call6_4, xP, xld, xst1, xst2, xis2, xii, xid, xll, xlv, xls, xlc, xil, xli, xrd, xdup, xdup2, xc1, xpu, c_eq, c_ne, c_lt, c_ge, c_gt, c_le, Option.bind_some, Option.map_some, List.length_nil, List.length_cons, Nat.reduceAdd, Nat.reduceLeDiff, Int.reduceToNat, Bool.and_self, Bool.false_eq_true, if_true, if_false, D69_0, g_x_0, g_x_1, e1, e2, e3]
set_option maxRecDepth 100000 in
theorem C_weighs {M : mM} (hI : ClsI M S P A X E) (f v w : Int32) : ∃ (S' : Nat → xSt) (P' : Int32 × (Nat → Nat)) (E' : Nat → Int32), xcall 70 [.ref 2, .int f, .int v, .int w] (hp q S P A D K X E Z I J V) = some (some (.int (dW M.1 f v w).1), (hp q (S') (P') A D K X (E') Z I J V)) ∧ ClsI (fin M (dW M.1 f v w)) S' P' A X E' := by
  obtain ⟨m, e1, hm, e0⟩ := c_markM (q := q) (S := S) (P := P) (A := A) (D := D) (K := K) (X := X) (E := E) (Z := Z) (I := I) (J := J) (V := V) hI
  obtain ⟨s, e2, hs, e8⟩ := c_tryWeight (q := q) (S := vf_upd S (P.2 M.2.1) m) (P := P) (A := A) (D := D) (K := K) (X := X) (E := E) (Z := Z) (I := I) (J := J) (V := V) hI.1 (by rw [e0]; exact hI.2.1) f v w
  have hk : knS (dW M.1 f v w).2 s A := hI.2.2.1.of (dW_L M.1 f v w) (by rw [e8, e0])
  obtain ⟨e3, h⟩ := c_pubM (q := q) (S := S) (P := P) (A := A) (D := D) (K := K) (X := X) (E := E) (Z := Z) (I := I) (J := J) (V := V) hI hm (dW_wf hI.1 f v w) (dW_ok hI.1 f v w) hs hk
  refine ⟨_, _, _, ?_, h⟩
  rw [N70 _ _ _ _ _ (o_x ..)]
  simp (maxSteps := 2000000) (disch := omega) only [e_inl, e_goto, e_fall, e_if, e_icmp, e_iret, e_zret, e_lret, e_vret, e_call0_0, e_call0_1, e_call0_2, e_call0_3, e_call0_4, e_call1_0, e_call1_1, e_call1_2, e_call1_3, e_call1_4, e_call2_0, e_call2_1, e_call2_2, e_call2_3, e_call2_4, e_call3_0, e_call3_1, e_call3_2, e_call3_3, e_call3_4, e_call4_0, e_call4_1, e_call4_2, e_call4_3, e_call4_4, e_call5_0, e_call5_1, e_call5_2, e_call5_3, e_call5_4, e_call6_0, e_call6_1, e_call6_2, e_call6_3, e_call6_4, xP, xld, xst1, xst2, xis2, xii, xid, xll, xlv, xls, xlc, xil, xli, xrd, xdup, xdup2, xc1, xpu, c_eq, c_ne, c_lt, c_ge, c_gt, c_le, Option.bind_some, Option.map_some, List.length_nil, List.length_cons, Nat.reduceAdd, Nat.reduceLeDiff, Int.reduceToNat, Bool.and_self, Bool.false_eq_true, if_true, if_false, D70_0, g_x_0, g_x_1, e1, e2, e3]
set_option maxRecDepth 100000 in
theorem C_round {M : mM} (hI : ClsI M S P A X E) (f z : Int32) : ∃ (S' : Nat → xSt) (P' : Int32 × (Nat → Nat)) (E' : Nat → Int32), xcall 71 [.ref 2, .int f, .int z] (hp q S P A D K X E Z I J V) = some (some (.int (dR M.1 f z).1), (hp q (S') (P') A D K X (E') Z I J V)) ∧ ClsI (fin M (dR M.1 f z)) S' P' A X E' := by
  obtain ⟨m, e1, hm, e0⟩ := c_markM (q := q) (S := S) (P := P) (A := A) (D := D) (K := K) (X := X) (E := E) (Z := Z) (I := I) (J := J) (V := V) hI
  obtain ⟨s, e2, hs, e8⟩ := c_tryRound (q := q) (S := vf_upd S (P.2 M.2.1) m) (P := P) (A := A) (D := D) (K := K) (X := X) (E := E) (Z := Z) (I := I) (J := J) (V := V) hI.1 (by rw [e0]; exact hI.2.1) f z
  have hk : knS (dR M.1 f z).2 s A := hI.2.2.1.of (dR_L M.1 f z) (by rw [e8, e0])
  obtain ⟨e3, h⟩ := c_pubM (q := q) (S := S) (P := P) (A := A) (D := D) (K := K) (X := X) (E := E) (Z := Z) (I := I) (J := J) (V := V) hI hm (dR_wf hI.1 f z) (dR_ok hI.1 f z) hs hk
  refine ⟨_, _, _, ?_, h⟩
  rw [N71 _ _ _ _ (o_x ..)]
  simp (maxSteps := 2000000) (disch := omega) only [e_inl, e_goto, e_fall, e_if, e_icmp, e_iret, e_zret, e_lret, e_vret, e_call0_0, e_call0_1, e_call0_2, e_call0_3, e_call0_4, e_call1_0, e_call1_1, e_call1_2, e_call1_3, e_call1_4, e_call2_0, e_call2_1, e_call2_2, e_call2_3, e_call2_4, e_call3_0, e_call3_1, e_call3_2, e_call3_3, e_call3_4, e_call4_0, e_call4_1, e_call4_2, e_call4_3, e_call4_4, e_call5_0, e_call5_1, e_call5_2, e_call5_3, e_call5_4, e_call6_0, e_call6_1, e_call6_2, e_call6_3, e_call6_4, xP, xld, xst1, xst2, xis2, xii, xid, xll, xlv, xls, xlc, xil, xli, xrd, xdup, xdup2, xc1, xpu, c_eq, c_ne, c_lt, c_ge, c_gt, c_le, Option.bind_some, Option.map_some, List.length_nil, List.length_cons, Nat.reduceAdd, Nat.reduceLeDiff, Int.reduceToNat, Bool.and_self, Bool.false_eq_true, if_true, if_false, D71_0, g_x_0, g_x_1, e1, e2, e3]
set_option maxRecDepth 100000 in
theorem C_orders {M : mM} (hI : ClsI M S P A X E) (f p : Int32) : ∃ (S' : Nat → xSt) (P' : Int32 × (Nat → Nat)) (E' : Nat → Int32), xcall 72 [.ref 2, .int f, .int p] (hp q S P A D K X E Z I J V) = some (some (.int (dP M.1 f p).1), (hp q (S') (P') A D K X (E') Z I J V)) ∧ ClsI (fin M (dP M.1 f p)) S' P' A X E' := by
  obtain ⟨m, e1, hm, e0⟩ := c_markM (q := q) (S := S) (P := P) (A := A) (D := D) (K := K) (X := X) (E := E) (Z := Z) (I := I) (J := J) (V := V) hI
  obtain ⟨s, e2, hs, e8⟩ := c_tryPlace (q := q) (S := vf_upd S (P.2 M.2.1) m) (P := P) (A := A) (D := D) (K := K) (X := X) (E := E) (Z := Z) (I := I) (J := J) (V := V) hI.1 (by rw [e0]; exact hI.2.1) f p
  have hk : knS (dP M.1 f p).2 s A := hI.2.2.1.of (dP_L M.1 f p) (by rw [e8, e0])
  obtain ⟨e3, h⟩ := c_pubM (q := q) (S := S) (P := P) (A := A) (D := D) (K := K) (X := X) (E := E) (Z := Z) (I := I) (J := J) (V := V) hI hm (dP_wf hI.1 f p) (dP_ok hI.1 f p) hs hk
  refine ⟨_, _, _, ?_, h⟩
  rw [N72 _ _ _ _ (o_x ..)]
  simp (maxSteps := 2000000) (disch := omega) only [e_inl, e_goto, e_fall, e_if, e_icmp, e_iret, e_zret, e_lret, e_vret, e_call0_0, e_call0_1, e_call0_2, e_call0_3, e_call0_4, e_call1_0, e_call1_1, e_call1_2, e_call1_3, e_call1_4, e_call2_0, e_call2_1, e_call2_2, e_call2_3, e_call2_4, e_call3_0, e_call3_1, e_call3_2, e_call3_3, e_call3_4, e_call4_0, e_call4_1, e_call4_2, e_call4_3, e_call4_4, e_call5_0, e_call5_1, e_call5_2, e_call5_3, e_call5_4, e_call6_0, e_call6_1, e_call6_2, e_call6_3, e_call6_4, xP, xld, xst1, xst2, xis2, xii, xid, xll, xlv, xls, xlc, xil, xli, xrd, xdup, xdup2, xc1, xpu, c_eq, c_ne, c_lt, c_ge, c_gt, c_le, Option.bind_some, Option.map_some, List.length_nil, List.length_cons, Nat.reduceAdd, Nat.reduceLeDiff, Int.reduceToNat, Bool.and_self, Bool.false_eq_true, if_true, if_false, D72_0, g_x_0, g_x_1, e1, e2, e3]
set_option maxRecDepth 100000 in
theorem C_rule {M : mM} (hI : ClsI M S P A X E) (kd x y c rk : Int32) : ∃ (S' : Nat → xSt) (P' : Int32 × (Nat → Nat)) (E' : Nat → Int32), xcall 73 [.ref 2, .int kd, .int x, .int y, .int c, .int rk] (hp q S P A D K X E Z I J V) = some (some (.int (dU M.1 kd x y c rk).1), (hp q (S') (P') A D K X (E') Z I J V)) ∧ ClsI (fin M (dU M.1 kd x y c rk)) S' P' A X E' := by
  obtain ⟨m, e1, hm, e0⟩ := c_markM (q := q) (S := S) (P := P) (A := A) (D := D) (K := K) (X := X) (E := E) (Z := Z) (I := I) (J := J) (V := V) hI
  obtain ⟨s, e2, hs, e8⟩ := c_tryRule (q := q) (S := vf_upd S (P.2 M.2.1) m) (P := P) (A := A) (D := D) (K := K) (X := X) (E := E) (Z := Z) (I := I) (J := J) (V := V) hI.1 (by rw [e0]; exact hI.2.1) kd x y c rk
  have hk : knS (dU M.1 kd x y c rk).2 s A := by
    rcases e8 with h | ⟨h1, h2⟩
    · exact Or.inl h
    · rw [h2, h1, e0]
      exact hI.2.2.1
  obtain ⟨e3, h⟩ := c_pubM (q := q) (S := S) (P := P) (A := A) (D := D) (K := K) (X := X) (E := E) (Z := Z) (I := I) (J := J) (V := V) hI hm (dU_wf hI.1 kd x y c rk) (dU_ok hI.1 kd x y c rk) hs hk
  refine ⟨_, _, _, ?_, h⟩
  rw [N73 _ _ _ _ _ _ _ (o_x ..)]
  simp (maxSteps := 2000000) (disch := omega) only [e_inl, e_goto, e_fall, e_if, e_icmp, e_iret, e_zret, e_lret, e_vret, e_call0_0, e_call0_1, e_call0_2, e_call0_3, e_call0_4, e_call1_0, e_call1_1, e_call1_2, e_call1_3, e_call1_4, e_call2_0, e_call2_1, e_call2_2, e_call2_3, e_call2_4, e_call3_0, e_call3_1, e_call3_2, e_call3_3, e_call3_4, e_call4_0, e_call4_1, e_call4_2, e_call4_3, e_call4_4, e_call5_0, e_call5_1, e_call5_2, e_call5_3, e_call5_4, e_call6_0, e_call6_1, e_call6_2, e_call6_3, e_call6_4, xP, xld, xst1, xst2, xis2, xii, xid, xll, xlv, xls, xlc, xil, xli, xrd, xdup, xdup2, xc1, xpu, c_eq, c_ne, c_lt, c_ge, c_gt, c_le, Option.bind_some, Option.map_some, List.length_nil, List.length_cons, Nat.reduceAdd, Nat.reduceLeDiff, Int.reduceToNat, Bool.and_self, Bool.false_eq_true, if_true, if_false, D73_0, g_x_0, g_x_1, e1, e2, e3]
set_option maxRecDepth 100000 in
theorem C_drops {M : mM} (hI : ClsI M S P A X E) (k : Int32) : ∃ (S' : Nat → xSt) (P' : Int32 × (Nat → Nat)) (E' : Nat → Int32), xcall 74 [.ref 2, .int k] (hp q S P A D K X E Z I J V) = some (some (.int (dX M.1 k).1), (hp q (S') (P') A D K X (E') Z I J V)) ∧ ClsI (fin M (dX M.1 k)) S' P' A X E' := by
  obtain ⟨m, e1, hm, e0⟩ := c_markM (q := q) (S := S) (P := P) (A := A) (D := D) (K := K) (X := X) (E := E) (Z := Z) (I := I) (J := J) (V := V) hI
  obtain ⟨s, e2, hs, e8⟩ := c_tryDrop (q := q) (S := vf_upd S (P.2 M.2.1) m) (P := P) (A := A) (D := D) (K := K) (X := X) (E := E) (Z := Z) (I := I) (J := J) (V := V) hI.1 (by rw [e0]; exact hI.2.1) k
  have hk : knS (dX M.1 k).2 s A := by
    rcases e8 with h | ⟨h1, h2⟩
    · exact Or.inl h
    · rw [h2, h1, e0]
      exact hI.2.2.1
  obtain ⟨e3, h⟩ := c_pubM (q := q) (S := S) (P := P) (A := A) (D := D) (K := K) (X := X) (E := E) (Z := Z) (I := I) (J := J) (V := V) hI hm (dX_wf hI.1 k) (dX_ok hI.1 k) hs hk
  refine ⟨_, _, _, ?_, h⟩
  rw [N74 _ _ _ (o_x ..)]
  simp (maxSteps := 2000000) (disch := omega) only [e_inl, e_goto, e_fall, e_if, e_icmp, e_iret, e_zret, e_lret, e_vret, e_call0_0, e_call0_1, e_call0_2, e_call0_3, e_call0_4, e_call1_0, e_call1_1, e_call1_2, e_call1_3, e_call1_4, e_call2_0, e_call2_1, e_call2_2, e_call2_3, e_call2_4, e_call3_0, e_call3_1, e_call3_2, e_call3_3, e_call3_4, e_call4_0, e_call4_1, e_call4_2, e_call4_3, e_call4_4, e_call5_0, e_call5_1, e_call5_2, e_call5_3, e_call5_4, e_call6_0, e_call6_1, e_call6_2, e_call6_3, e_call6_4, xP, xld, xst1, xst2, xis2, xii, xid, xll, xlv, xls, xlc, xil, xli, xrd, xdup, xdup2, xc1, xpu, c_eq, c_ne, c_lt, c_ge, c_gt, c_le, Option.bind_some, Option.map_some, List.length_nil, List.length_cons, Nat.reduceAdd, Nat.reduceLeDiff, Int.reduceToNat, Bool.and_self, Bool.false_eq_true, if_true, if_false, D74_0, g_x_0, g_x_1, e1, e2, e3]
set_option maxRecDepth 100000 in
theorem C_back {M : mM} (hI : ClsI M S P A X E) : ∃ (S' : Nat → xSt) (P' : Int32 × (Nat → Nat)) (E' : Nat → Int32), xcall 89 [.ref 2] (hp q S P A D K X E Z I J V) = some (some (.int (oBack M).1), (hp q (S') (P') A D K X (E') Z I J V)) ∧ ClsI (oBack M).2 S' P' A X E' := by
  have hI' := hI
  obtain ⟨i1, i2, i3, i4, i5, i6, i7, i8, i9⟩ := hI
  rw [N89 _ _ (o_x ..)]
  unfold oBack
  by_cases h0 : M.2.1 = 0
  · rw [if_pos h0]
    have ha : okA (Int32.ofInt (-3)) := Or.inr (Or.inl rfl)
    have ec1 := c_counted (q := q) (S := S) (P := P) (A := A) (D := D) (K := K) (X := X) (E := E) (Z := Z) (I := I) (J := J) (V := V) ha
    have hn : ¬ (0 : Int32) ≤ Int32.ofInt (-3) := by decide
    have e3 : ec (Int32.ofInt (-3)) = 1 := by decide
    rw [if_neg hn, e3] at ec1
    refine ⟨S, P, inc E 1, ?_, clsBad hI' (by omega)⟩
    have er := c_restore_0 (q := q) (S := S) (P := P) (A := A) (D := D) (K := K) (X := X) (E := E) (Z := Z) (I := I) (J := J) (V := V) (by rw [i5, h0])
    simp (maxSteps := 2000000) (disch := omega) only [e_inl, e_goto, e_fall, e_if, e_icmp, e_iret, e_zret, e_lret, e_vret, e_call0_0, e_call0_1, e_call0_2, e_call0_3, e_call0_4, e_call1_0, e_call1_1, e_call1_2, e_call1_3, e_call1_4, e_call2_0, e_call2_1, e_call2_2, e_call2_3, e_call2_4, e_call3_0, e_call3_1, e_call3_2, e_call3_3, e_call3_4, e_call4_0, e_call4_1, e_call4_2, e_call4_3, e_call4_4, e_call5_0, e_call5_1, e_call5_2, e_call5_3, e_call5_4, e_call6_0, e_call6_1, e_call6_2, e_call6_3, e_call6_4, xP, xld, xst1, xst2, xis2, xii, xid, xll, xlv, xls, xlc, xil, xli, xrd, xdup, xdup2, xc1, xpu, c_eq, c_ne, c_lt, c_ge, c_gt, c_le, Option.bind_some, Option.map_some, List.length_nil, List.length_cons, Nat.reduceAdd, Nat.reduceLeDiff, Int.reduceToNat, Bool.and_self, Bool.false_eq_true, if_true, if_false, D89_0, g_x_0, g_x_1, er, ec1]
  · rw [if_neg h0]
    obtain ⟨n, hn⟩ : ∃ n, M.2.1 = n + 1 := ⟨M.2.1 - 1, by omega⟩
    obtain ⟨a, b⟩ := i7 n (by omega)
    have w7 := a.2.2.2.2.2.2.1
    have w10 := a.2.2.2.2.2.2.2.2.2.1
    have er := c_restore (q := q) (S := S) (P := P) (A := A) (D := D) (K := K) (X := X) (E := E) (Z := Z) (I := I) (J := J) (V := V) (c := n) (by omega) (by rw [i5, hn]) (i6.1 n (by omega)) w7 w10 b.2.2.2.2.1 b.2.2.2.2.2.2.2.2.1
    have ha : okA (nI n) := Or.inr (Or.inr (Or.inr ⟨n, by omega, rfl⟩))
    have hp0 : (0 : Int32) ≤ nI n := by rw [n_0]; exact (nI_leI (by omega) (by omega)).mpr (Nat.zero_le _)
    have ec1 := c_counted (q := q) (S := vf_upd S 0 (stB (S 0) (S (P.2 n)) (mK (M.2.2.1 n)) (mu (M.2.2.1 n)))) (P := (nI n, P.2)) (A := A) (D := D) (K := K) (X := X) (E := E) (Z := Z) (I := I) (J := J) (V := V) ha
    rw [if_pos hp0] at ec1
    obtain ⟨s1, s2⟩ := stB_rp a b (S 0)
    rw [hn, Nat.add_sub_cancel]
    refine ⟨vf_upd S 0 (stB (S 0) (S (P.2 n)) (mK (M.2.2.1 n)) (mu (M.2.2.1 n))), (nI n, P.2), E, ?_, a, by rw [vu_s]; exact s1, Or.inl (by rw [vu_s]; exact s2), ?_, rfl, i6, fun j hj => ?_, i8, i9⟩
    · simp (maxSteps := 2000000) (disch := omega) only [e_inl, e_goto, e_fall, e_if, e_icmp, e_iret, e_zret, e_lret, e_vret, e_call0_0, e_call0_1, e_call0_2, e_call0_3, e_call0_4, e_call1_0, e_call1_1, e_call1_2, e_call1_3, e_call1_4, e_call2_0, e_call2_1, e_call2_2, e_call2_3, e_call2_4, e_call3_0, e_call3_1, e_call3_2, e_call3_3, e_call3_4, e_call4_0, e_call4_1, e_call4_2, e_call4_3, e_call4_4, e_call5_0, e_call5_1, e_call5_2, e_call5_3, e_call5_4, e_call6_0, e_call6_1, e_call6_2, e_call6_3, e_call6_4, xP, xld, xst1, xst2, xis2, xii, xid, xll, xlv, xls, xlc, xil, xli, xrd, xdup, xdup2, xc1, xpu, c_eq, c_ne, c_lt, c_ge, c_gt, c_le, Option.bind_some, Option.map_some, List.length_nil, List.length_cons, Nat.reduceAdd, Nat.reduceLeDiff, Int.reduceToNat, Bool.and_self, Bool.false_eq_true, if_true, if_false, D89_0, g_x_0, g_x_1, er, ec1]
    · show n ≤ 4
      omega
    · have hj : j < n := hj
      have h1 := (i6.1 j (by omega)).1
      show wf (M.2.2.1 j) ∧ rpS (M.2.2.1 j) (vf_upd S 0 (stB (S 0) (S (P.2 n)) (mK (M.2.2.1 n)) (mu (M.2.2.1 n))) (P.2 j))
      rw [vu_n _ _ (by omega)]
      exact i7 j (by omega)
end
