/-! ===== public calls of the class (2): text, numbers told ===== -/
section
variable {q : Nat × (Nat → Int32)} {S : Nat → xSt} {P : Int32 × (Nat → Nat)} {A : (Nat → Int64) × Int32 × Int32 × (Nat → Int64) × (Nat → Nat → Int64)} {D : (Nat → Int64) × Int64} {K : Nat → Int64} {X : Int32 × Int32 × Int32 × (Nat → Int32) × (Nat → Int32)} {E Z : Nat → Int32} {I : Nat → Int32} {J : Nat → Int64} {V : Nat → Nat → Int32}
set_option maxRecDepth 100000 in
theorem c_bad (h : xH) (hh : h = (hp q S P A D K X E Z I J V)) : xcall 93 [.ref 2, .int (Int32.ofInt (-2))] h = some (some (.int (Int32.ofInt (-2))), (hp q S P A D K X (inc E 0) Z I J V)) := by
  subst hh
  exact c_cn (by omega) k_22 (by decide) (by decide)
set_option maxRecDepth 100000 in
theorem c_add_full (h1 : X.1 = nI 150) (c : Int32) : xcall 60 [.ref 158, .int c] (hp q S P A D K X E Z I J V) = some (some (.int (Int32.ofInt (-4))), (hp q S P A D K X E Z I J V)) := by
  rw [N60 _ _ _ (o_text ..), D60_0]
  simp (maxSteps := 2000000) (disch := omega) only [e_inl, e_goto, e_fall, e_if, e_icmp, e_iret, e_zret, e_lret, e_vret, e_call0_0, e_call0_1, e_call0_2, e_call0_3, e_call0_4, e_call1_0, e_call1_1, e_call1_2, e_call1_3, e_call1_4, e_call2_0, e_call2_1, e_call2_2, e_call2_3, e_call2_4, e_call3_0, e_call3_1, e_call3_2, e_call3_3, e_call3_4, e_call4_0, e_call4_1, e_call4_2, e_call4_3, e_call4_4, e_call5_0, e_call5_1, e_call5_2, e_call5_3, e_call5_4, e_call6_0, e_call6_1, e_call6_2, e_call6_3, e_call6_4, xP, xld, xst1, xst2, xis2, xii, xid, xll, xlv, xls, xlc, xil, xli, xrd, xdup, xdup2, xc1, xpu, c_eq, c_ne, c_lt, c_ge, c_gt, c_le, Option.bind_some, Option.map_some, List.length_nil, List.length_cons, Nat.reduceAdd, Nat.reduceLeDiff, Int.reduceToNat, Bool.and_self, Bool.false_eq_true, if_true, if_false, g_text_0, h1, n_lit, not_true_eq_false]
set_option maxRecDepth 100000 in
theorem c_add_ok {w : Nat} (h1 : X.1 = nI w) (ht : w < 150) (c : Int32) : xcall 60 [.ref 158, .int c] (hp q S P A D K X E Z I J V) = some (some (.int (nI (w + 1))), (hp q S P A D K ((nI (w + 1), X.2.1, X.2.2.1, X.2.2.2.1, upd X.2.2.2.2 w c)) E Z I J V)) := by
  have hne : ¬ w = 150 := by omega
  have es : xiast (hp q S P A D K X E Z I J V) 160 (nI w) c = some (hp q S P A D K ((X.1, X.2.1, X.2.2.1, X.2.2.2.1, upd X.2.2.2.2 w c)) E Z I J V) := by rw [s_bytes, if_pos ⟨x_in ht (by omega), by omega⟩, nI_clamp (by omega)]
  have a1 : ∀ t : List xI, xB xcall (den 60) (.inl (.aload 0) :: .inl (.getfield 228) :: .inl (.aload 0) :: .inl (.getfield 224) :: .inl (.iload 1) :: .inl .iastore :: t) [some (.ref 158), some (.int c)] [] (hp q S P A D K X E Z I J V) = xB xcall (den 60) t [some (.ref 158), some (.int c)] [] (hp q S P A D K ((X.1, X.2.1, X.2.2.1, X.2.2.2.1, upd X.2.2.2.2 w c)) E Z I J V) := by
    intro t
    simp (maxSteps := 2000000) (disch := omega) only [e_inl, e_goto, e_fall, e_if, e_icmp, e_iret, e_zret, e_lret, e_vret, e_call0_0, e_call0_1, e_call0_2, e_call0_3, e_call0_4, e_call1_0, e_call1_1, e_call1_2, e_call1_3, e_call1_4, e_call2_0, e_call2_1, e_call2_2, e_call2_3, e_call2_4, e_call3_0, e_call3_1, e_call3_2, e_call3_3, e_call3_4, e_call4_0, e_call4_1, e_call4_2, e_call4_3, e_call4_4, e_call5_0, e_call5_1, e_call5_2, e_call5_3, e_call5_4, e_call6_0, e_call6_1, e_call6_2, e_call6_3, e_call6_4, xP, xld, xst1, xst2, xis2, xii, xid, xll, xlv, xls, xlc, xil, xli, xrd, xdup, xdup2, xc1, xpu, c_eq, c_ne, c_lt, c_ge, c_gt, c_le, Option.bind_some, Option.map_some, List.length_nil, List.length_cons, Nat.reduceAdd, Nat.reduceLeDiff, Int.reduceToNat, Bool.and_self, Bool.false_eq_true, if_true, if_false, g_text_0, g_text_4, h1, es]
  have a0 : xcall 60 [.ref 158, .int c] (hp q S P A D K X E Z I J V) = den 60 13 [some (.ref 158), some (.int c)] [] (hp q S P A D K X E Z I J V) := by
    rw [N60 _ _ _ (o_text ..), D60_0]
    simp (maxSteps := 2000000) (disch := omega) only [e_inl, e_goto, e_fall, e_if, e_icmp, e_iret, e_zret, e_lret, e_vret, e_call0_0, e_call0_1, e_call0_2, e_call0_3, e_call0_4, e_call1_0, e_call1_1, e_call1_2, e_call1_3, e_call1_4, e_call2_0, e_call2_1, e_call2_2, e_call2_3, e_call2_4, e_call3_0, e_call3_1, e_call3_2, e_call3_3, e_call3_4, e_call4_0, e_call4_1, e_call4_2, e_call4_3, e_call4_4, e_call5_0, e_call5_1, e_call5_2, e_call5_3, e_call5_4, e_call6_0, e_call6_1, e_call6_2, e_call6_3, e_call6_4, xP, xld, xst1, xst2, xis2, xii, xid, xll, xlv, xls, xlc, xil, xli, xrd, xdup, xdup2, xc1, xpu, c_eq, c_ne, c_lt, c_ge, c_gt, c_le, Option.bind_some, Option.map_some, List.length_nil, List.length_cons, Nat.reduceAdd, Nat.reduceLeDiff, Int.reduceToNat, Bool.and_self, Bool.false_eq_true, if_true, if_false, g_text_0, h1, n_lit, nI_eq, hne, not_false_eq_true]
  rw [a0, D60_13, a1]
  simp (maxSteps := 2000000) (disch := omega) only [e_inl, e_goto, e_fall, e_if, e_icmp, e_iret, e_zret, e_lret, e_vret, e_call0_0, e_call0_1, e_call0_2, e_call0_3, e_call0_4, e_call1_0, e_call1_1, e_call1_2, e_call1_3, e_call1_4, e_call2_0, e_call2_1, e_call2_2, e_call2_3, e_call2_4, e_call3_0, e_call3_1, e_call3_2, e_call3_3, e_call3_4, e_call4_0, e_call4_1, e_call4_2, e_call4_3, e_call4_4, e_call5_0, e_call5_1, e_call5_2, e_call5_3, e_call5_4, e_call6_0, e_call6_1, e_call6_2, e_call6_3, e_call6_4, xP, xld, xst1, xst2, xis2, xii, xid, xll, xlv, xls, xlc, xil, xli, xrd, xdup, xdup2, xc1, xpu, c_eq, c_ne, c_lt, c_ge, c_gt, c_le, Option.bind_some, Option.map_some, List.length_nil, List.length_cons, Nat.reduceAdd, Nat.reduceLeDiff, Int.reduceToNat, Bool.and_self, Bool.false_eq_true, if_true, if_false, g_text_0, p_text_0, h1, n_lit, nI_add]
set_option maxRecDepth 100000 in
theorem C_clear {M : mM} (hI : ClsI M S P A X E) : ∃ (X' : Int32 × Int32 × Int32 × (Nat → Int32) × (Nat → Int32)), xcall 87 [.ref 2] (hp q S P A D K X E Z I J V) = some (some (.int (oClear M).1), (hp q S P A D K (X') E Z I J V)) ∧ ClsI (oClear M).2 S P A X' E := by
  obtain ⟨i1, i2, i3, i4, i5, i6, i7, ⟨t1, t2, t3⟩, i9⟩ := hI
  refine ⟨(nI 0, X.2), ?_, i1, i2, i3, i4, i5, i6, i7, ⟨Nat.zero_le _, rfl, fun i hi => absurd hi (Nat.not_lt_zero i)⟩, i9⟩
  rw [N87 _ _ (o_x ..)]
  simp (maxSteps := 2000000) (disch := omega) only [e_inl, e_goto, e_fall, e_if, e_icmp, e_iret, e_zret, e_lret, e_vret, e_call0_0, e_call0_1, e_call0_2, e_call0_3, e_call0_4, e_call1_0, e_call1_1, e_call1_2, e_call1_3, e_call1_4, e_call2_0, e_call2_1, e_call2_2, e_call2_3, e_call2_4, e_call3_0, e_call3_1, e_call3_2, e_call3_3, e_call3_4, e_call4_0, e_call4_1, e_call4_2, e_call4_3, e_call4_4, e_call5_0, e_call5_1, e_call5_2, e_call5_3, e_call5_4, e_call6_0, e_call6_1, e_call6_2, e_call6_3, e_call6_4, xP, xld, xst1, xst2, xis2, xii, xid, xll, xlv, xls, xlc, xil, xli, xrd, xdup, xdup2, xc1, xpu, c_eq, c_ne, c_lt, c_ge, c_gt, c_le, Option.bind_some, Option.map_some, List.length_nil, List.length_cons, Nat.reduceAdd, Nat.reduceLeDiff, Int.reduceToNat, Bool.and_self, Bool.false_eq_true, if_true, if_false, D87_0, g_x_5, g_text_0, p_text_0, n_lit, t2, oClear]
set_option maxRecDepth 100000 in
theorem C_type {M : mM} (hI : ClsI M S P A X E) (c : Int32) : ∃ (X' : Int32 × Int32 × Int32 × (Nat → Int32) × (Nat → Int32)) (E' : Nat → Int32), xcall 86 [.ref 2, .int c] (hp q S P A D K X E Z I J V) = some (some (.int (oType M c).1), (hp q S P A D K (X') (E') Z I J V)) ∧ ClsI (oType M c).2 S P A X' E' := by
  have hI' := hI
  obtain ⟨i1, i2, i3, i4, i5, i6, i7, ⟨t1, t2, t3⟩, i9⟩ := hI
  rw [N86 _ _ _ (o_x ..), D86_0]
  unfold oType
  by_cases hok : inB c (nI 0) (nI 127) = true
  · rw [if_pos hok]
    obtain ⟨b, hb, rfl⟩ := inB_of (by decide) hok
    have l0 : ¬ nI b < nI 0 := by rw [nI_ltI (by omega) (by omega)]; omega
    have l1 : nI b ≤ nI 127 := (nI_leI (by omega) (by omega)).mpr hb
    have l2 : ¬ nI 127 < nI b := Int32.not_lt.mpr l1
    rw [nI_clamp (n := b) (by omega)]
    by_cases h150 : M.2.2.2.1.1 = 150
    · rw [if_pos h150]
      rw [h150] at t2
      have ec1 := c_cn (q := q) (S := S) (P := P) (A := A) (D := D) (K := K) (X := X) (E := E) (Z := Z) (I := I) (J := J) (V := V) (a := Int32.ofInt (-4)) (k := 2) (by omega) k_24 (by decide) (by decide)
      have ef := c_add_full (q := q) (S := S) (P := P) (A := A) (D := D) (K := K) (X := X) (E := E) (Z := Z) (I := I) (J := J) (V := V) t2 (nI b)
      refine ⟨X, inc E 2, ?_, clsBad hI' (by omega)⟩
      simp (maxSteps := 2000000) (disch := omega) only [e_inl, e_goto, e_fall, e_if, e_icmp, e_iret, e_zret, e_lret, e_vret, e_call0_0, e_call0_1, e_call0_2, e_call0_3, e_call0_4, e_call1_0, e_call1_1, e_call1_2, e_call1_3, e_call1_4, e_call2_0, e_call2_1, e_call2_2, e_call2_3, e_call2_4, e_call3_0, e_call3_1, e_call3_2, e_call3_3, e_call3_4, e_call4_0, e_call4_1, e_call4_2, e_call4_3, e_call4_4, e_call5_0, e_call5_1, e_call5_2, e_call5_3, e_call5_4, e_call6_0, e_call6_1, e_call6_2, e_call6_3, e_call6_4, xP, xld, xst1, xst2, xis2, xii, xid, xll, xlv, xls, xlc, xil, xli, xrd, xdup, xdup2, xc1, xpu, c_eq, c_ne, c_lt, c_ge, c_gt, c_le, Option.bind_some, Option.map_some, List.length_nil, List.length_cons, Nat.reduceAdd, Nat.reduceLeDiff, Int.reduceToNat, Bool.and_self, Bool.false_eq_true, if_true, if_false, D86_17, g_x_5, n_lit, n_0, l0, l1, l2, ef, ec1]
    · rw [if_neg h150]
      generalize hT : M.2.2.2.1 = T at *
      have ef := c_add_ok (q := q) (S := S) (P := P) (A := A) (D := D) (K := K) (X := X) (E := E) (Z := Z) (I := I) (J := J) (V := V) t2 (show T.1 < 150 by omega) (nI b)
      have hp0 : Int32.ofInt (-2) < nI (T.1 + 1) := by
        rw [Int32.lt_iff_toInt_lt, nI_toInt (by omega), fb_ofI (by omega) (by omega)]
        omega
      have ec1 := c_cn_p (q := q) (S := S) (P := P) (A := A) (D := D) (K := K) (X := (nI (T.1 + 1), X.2.1, X.2.2.1, X.2.2.2.1, upd X.2.2.2.2 T.1 (nI b))) (E := E) (Z := Z) (I := I) (J := J) (V := V) hp0
      refine ⟨(nI (T.1 + 1), X.2.1, X.2.2.1, X.2.2.2.1, upd X.2.2.2.2 T.1 (nI b)), E, ?_, i1, i2, i3, i4, i5, i6, i7, ⟨?_, rfl, fun i hi => ?_⟩, i9⟩
      · simp (maxSteps := 2000000) (disch := omega) only [e_inl, e_goto, e_fall, e_if, e_icmp, e_iret, e_zret, e_lret, e_vret, e_call0_0, e_call0_1, e_call0_2, e_call0_3, e_call0_4, e_call1_0, e_call1_1, e_call1_2, e_call1_3, e_call1_4, e_call2_0, e_call2_1, e_call2_2, e_call2_3, e_call2_4, e_call3_0, e_call3_1, e_call3_2, e_call3_3, e_call3_4, e_call4_0, e_call4_1, e_call4_2, e_call4_3, e_call4_4, e_call5_0, e_call5_1, e_call5_2, e_call5_3, e_call5_4, e_call6_0, e_call6_1, e_call6_2, e_call6_3, e_call6_4, xP, xld, xst1, xst2, xis2, xii, xid, xll, xlv, xls, xlc, xil, xli, xrd, xdup, xdup2, xc1, xpu, c_eq, c_ne, c_lt, c_ge, c_gt, c_le, Option.bind_some, Option.map_some, List.length_nil, List.length_cons, Nat.reduceAdd, Nat.reduceLeDiff, Int.reduceToNat, Bool.and_self, Bool.false_eq_true, if_true, if_false, D86_17, g_x_5, n_lit, n_0, l0, l1, l2, ef, ec1]
      · show T.1 + 1 ≤ 150
        omega
      · have hi : i < T.1 + 1 := hi
        show upd X.2.2.2.2 T.1 (nI b) i = nI (if i = T.1 then b else T.2 i) ∧ (if i = T.1 then b else T.2 i) < 128
        by_cases e : i = T.1
        · subst e
          rw [u_s, if_pos rfl]
          exact ⟨rfl, by omega⟩
        · rw [u_n _ _ e, if_neg e]
          exact t3 i (by omega)
  · rw [if_neg hok]
    have eb := c_bad (q := q) (S := S) (P := P) (A := A) (D := D) (K := K) (X := X) (E := E) (Z := Z) (I := I) (J := J) (V := V) _ rfl
    refine ⟨X, inc E 0, ?_, clsBad hI' (by omega)⟩
    rw [inB_le] at hok
    by_cases h3 : c < nI 0
    · simp (maxSteps := 2000000) (disch := omega) only [e_inl, e_goto, e_fall, e_if, e_icmp, e_iret, e_zret, e_lret, e_vret, e_call0_0, e_call0_1, e_call0_2, e_call0_3, e_call0_4, e_call1_0, e_call1_1, e_call1_2, e_call1_3, e_call1_4, e_call2_0, e_call2_1, e_call2_2, e_call2_3, e_call2_4, e_call3_0, e_call3_1, e_call3_2, e_call3_3, e_call3_4, e_call4_0, e_call4_1, e_call4_2, e_call4_3, e_call4_4, e_call5_0, e_call5_1, e_call5_2, e_call5_3, e_call5_4, e_call6_0, e_call6_1, e_call6_2, e_call6_3, e_call6_4, xP, xld, xst1, xst2, xis2, xii, xid, xll, xlv, xls, xlc, xil, xli, xrd, xdup, xdup2, xc1, xpu, c_eq, c_ne, c_lt, c_ge, c_gt, c_le, Option.bind_some, Option.map_some, List.length_nil, List.length_cons, Nat.reduceAdd, Nat.reduceLeDiff, Int.reduceToNat, Bool.and_self, Bool.false_eq_true, if_true, if_false, D86_10, n_lit, n_0, h3, eb]
    · have h4 : ¬ c ≤ nI 127 := by
        intro h4
        exact hok (by rw [decide_eq_true h3, decide_eq_true h4]; rfl)
      simp (maxSteps := 2000000) (disch := omega) only [e_inl, e_goto, e_fall, e_if, e_icmp, e_iret, e_zret, e_lret, e_vret, e_call0_0, e_call0_1, e_call0_2, e_call0_3, e_call0_4, e_call1_0, e_call1_1, e_call1_2, e_call1_3, e_call1_4, e_call2_0, e_call2_1, e_call2_2, e_call2_3, e_call2_4, e_call3_0, e_call3_1, e_call3_2, e_call3_3, e_call3_4, e_call4_0, e_call4_1, e_call4_2, e_call4_3, e_call4_4, e_call5_0, e_call5_1, e_call5_2, e_call5_3, e_call5_4, e_call6_0, e_call6_1, e_call6_2, e_call6_3, e_call6_4, xP, xld, xst1, xst2, xis2, xii, xid, xll, xlv, xls, xlc, xil, xli, xrd, xdup, xdup2, xc1, xpu, c_eq, c_ne, c_lt, c_ge, c_gt, c_le, Option.bind_some, Option.map_some, List.length_nil, List.length_cons, Nat.reduceAdd, Nat.reduceLeDiff, Int.reduceToNat, Bool.and_self, Bool.false_eq_true, if_true, if_false, D86_10, n_lit, n_0, h3, h4, eb]
theorem sw_6 {w : Nat} (hw : w ≤ 6) : (xsw #[(0, 40), (1, 40), (2, 40), (3, 47), (4, 55), (5, 63)].toList 71 (w : Int)).toNat = if w < 3 then 40 else if w = 3 then 47 else if w = 4 then 55 else if w = 5 then 63 else 71 := by
  match w, hw with
  | 0, _ => rfl
  | 1, _ => rfl
  | 2, _ => rfl
  | 3, _ => rfl
  | 4, _ => rfl
  | 5, _ => rfl
  | 6, _ => rfl
set_option maxRecDepth 100000 in
theorem c_factOfAll {M : mM} (hI : ClsI M S P A X E) {w : Nat} (hw : w ≤ 6) : xcall 94 [.ref 2, .int (nI w)] (hp q S P A D K X E Z I J V) = some (some (.int (tdI M w)), (hp q S P A D K X E Z I J V)) := by
  obtain ⟨i1, i2, i3, i4, i5, i6, i7, ⟨t1, t2, t3⟩, i9⟩ := hI
  have r0 := i2.1
  have r3 := i2.2.2.2.2.1
  rw [N94 _ _ _ (o_x ..), D94_0, e_inl]
  simp only [xP, xld, Option.bind_some]
  rw [e_sw, nI_toInt (by omega), sw_6 hw]
  unfold tdI
  by_cases h3 : w < 3
  · rw [if_pos h3, if_pos h3, D94_40]
    have er : xiald (hp q S P A D K X E Z I J V) 161 (nI w) = some (.int (E w)) := by rw [r_refusals, if_pos (x_in h3 (by omega)), nI_clamp (by omega)]
    rw [← i9 w h3]
    simp (maxSteps := 2000000) (disch := omega) only [e_inl, e_goto, e_fall, e_if, e_icmp, e_iret, e_zret, e_lret, e_vret, e_call0_0, e_call0_1, e_call0_2, e_call0_3, e_call0_4, e_call1_0, e_call1_1, e_call1_2, e_call1_3, e_call1_4, e_call2_0, e_call2_1, e_call2_2, e_call2_3, e_call2_4, e_call3_0, e_call3_1, e_call3_2, e_call3_3, e_call3_4, e_call4_0, e_call4_1, e_call4_2, e_call4_3, e_call4_4, e_call5_0, e_call5_1, e_call5_2, e_call5_3, e_call5_4, e_call6_0, e_call6_1, e_call6_2, e_call6_3, e_call6_4, xP, xld, xst1, xst2, xis2, xii, xid, xll, xlv, xls, xlc, xil, xli, xrd, xdup, xdup2, xc1, xpu, c_eq, c_ne, c_lt, c_ge, c_gt, c_le, Option.bind_some, Option.map_some, List.length_nil, List.length_cons, Nat.reduceAdd, Nat.reduceLeDiff, Int.reduceToNat, Bool.and_self, Bool.false_eq_true, if_true, if_false, g_x_6, er]
  · rw [if_neg h3, if_neg h3]
    by_cases e3 : w = 3
    · rw [if_pos e3, if_pos e3, D94_47]
      simp (maxSteps := 2000000) (disch := omega) only [e_inl, e_goto, e_fall, e_if, e_icmp, e_iret, e_zret, e_lret, e_vret, e_call0_0, e_call0_1, e_call0_2, e_call0_3, e_call0_4, e_call1_0, e_call1_1, e_call1_2, e_call1_3, e_call1_4, e_call2_0, e_call2_1, e_call2_2, e_call2_3, e_call2_4, e_call3_0, e_call3_1, e_call3_2, e_call3_3, e_call3_4, e_call4_0, e_call4_1, e_call4_2, e_call4_3, e_call4_4, e_call5_0, e_call5_1, e_call5_2, e_call5_3, e_call5_4, e_call6_0, e_call6_1, e_call6_2, e_call6_3, e_call6_4, xP, xld, xst1, xst2, xis2, xii, xid, xll, xlv, xls, xlc, xil, xli, xrd, xdup, xdup2, xc1, xpu, c_eq, c_ne, c_lt, c_ge, c_gt, c_le, Option.bind_some, Option.map_some, List.length_nil, List.length_cons, Nat.reduceAdd, Nat.reduceLeDiff, Int.reduceToNat, Bool.and_self, Bool.false_eq_true, if_true, if_false, g_x_5, g_text_0, t2]
    · rw [if_neg e3, if_neg e3]
      by_cases e4 : w = 4
      · rw [if_pos e4, if_pos e4, D94_55]
        simp (maxSteps := 2000000) (disch := omega) only [e_inl, e_goto, e_fall, e_if, e_icmp, e_iret, e_zret, e_lret, e_vret, e_call0_0, e_call0_1, e_call0_2, e_call0_3, e_call0_4, e_call1_0, e_call1_1, e_call1_2, e_call1_3, e_call1_4, e_call2_0, e_call2_1, e_call2_2, e_call2_3, e_call2_4, e_call3_0, e_call3_1, e_call3_2, e_call3_3, e_call3_4, e_call4_0, e_call4_1, e_call4_2, e_call4_3, e_call4_4, e_call5_0, e_call5_1, e_call5_2, e_call5_3, e_call5_4, e_call6_0, e_call6_1, e_call6_2, e_call6_3, e_call6_4, xP, xld, xst1, xst2, xis2, xii, xid, xll, xlv, xls, xlc, xil, xli, xrd, xdup, xdup2, xc1, xpu, c_eq, c_ne, c_lt, c_ge, c_gt, c_le, Option.bind_some, Option.map_some, List.length_nil, List.length_cons, Nat.reduceAdd, Nat.reduceLeDiff, Int.reduceToNat, Bool.and_self, Bool.false_eq_true, if_true, if_false, g_x_0, g_S_0, r0]
      · rw [if_neg e4, if_neg e4]
        by_cases e5 : w = 5
        · rw [if_pos e5, if_pos e5, D94_63]
          simp (maxSteps := 2000000) (disch := omega) only [e_inl, e_goto, e_fall, e_if, e_icmp, e_iret, e_zret, e_lret, e_vret, e_call0_0, e_call0_1, e_call0_2, e_call0_3, e_call0_4, e_call1_0, e_call1_1, e_call1_2, e_call1_3, e_call1_4, e_call2_0, e_call2_1, e_call2_2, e_call2_3, e_call2_4, e_call3_0, e_call3_1, e_call3_2, e_call3_3, e_call3_4, e_call4_0, e_call4_1, e_call4_2, e_call4_3, e_call4_4, e_call5_0, e_call5_1, e_call5_2, e_call5_3, e_call5_4, e_call6_0, e_call6_1, e_call6_2, e_call6_3, e_call6_4, xP, xld, xst1, xst2, xis2, xii, xid, xll, xlv, xls, xlc, xil, xli, xrd, xdup, xdup2, xc1, xpu, c_eq, c_ne, c_lt, c_ge, c_gt, c_le, Option.bind_some, Option.map_some, List.length_nil, List.length_cons, Nat.reduceAdd, Nat.reduceLeDiff, Int.reduceToNat, Bool.and_self, Bool.false_eq_true, if_true, if_false, g_x_0, g_S_3, r3]
        · rw [if_neg e5, if_neg e5, D94_71]
          simp (maxSteps := 2000000) (disch := omega) only [e_inl, e_goto, e_fall, e_if, e_icmp, e_iret, e_zret, e_lret, e_vret, e_call0_0, e_call0_1, e_call0_2, e_call0_3, e_call0_4, e_call1_0, e_call1_1, e_call1_2, e_call1_3, e_call1_4, e_call2_0, e_call2_1, e_call2_2, e_call2_3, e_call2_4, e_call3_0, e_call3_1, e_call3_2, e_call3_3, e_call3_4, e_call4_0, e_call4_1, e_call4_2, e_call4_3, e_call4_4, e_call5_0, e_call5_1, e_call5_2, e_call5_3, e_call5_4, e_call6_0, e_call6_1, e_call6_2, e_call6_3, e_call6_4, xP, xld, xst1, xst2, xis2, xii, xid, xll, xlv, xls, xlc, xil, xli, xrd, xdup, xdup2, xc1, xpu, c_eq, c_ne, c_lt, c_ge, c_gt, c_le, Option.bind_some, Option.map_some, List.length_nil, List.length_cons, Nat.reduceAdd, Nat.reduceLeDiff, Int.reduceToNat, Bool.and_self, Bool.false_eq_true, if_true, if_false, g_x_1, g_past_0, i5]
set_option maxRecDepth 100000 in
theorem C_told {M : mM} (hI : ClsI M S P A X E) (w : Int32) : ∃ (E' : Nat → Int32), xcall 90 [.ref 2, .int w] (hp q S P A D K X E Z I J V) = some (some (.int (oTold M w).1), (hp q S P A D K X (E') Z I J V)) ∧ ClsI (oTold M w).2 S P A X E' := by
  rw [N90 _ _ _ (o_x ..), D90_0]
  unfold oTold
  by_cases hok : inB w (nI 0) (nI 6) = true
  · rw [if_pos hok]
    obtain ⟨b, hb, rfl⟩ := inB_of (by decide) hok
    have l0 : ¬ nI b < nI 0 := by rw [nI_ltI (by omega) (by omega)]; omega
    have l1 : nI b ≤ nI 6 := (nI_leI (by omega) (by omega)).mpr hb
    rw [nI_clamp (n := b) (by omega)]
    refine ⟨E, ?_, hI⟩
    simp (maxSteps := 2000000) (disch := omega) only [e_inl, e_goto, e_fall, e_if, e_icmp, e_iret, e_zret, e_lret, e_vret, e_call0_0, e_call0_1, e_call0_2, e_call0_3, e_call0_4, e_call1_0, e_call1_1, e_call1_2, e_call1_3, e_call1_4, e_call2_0, e_call2_1, e_call2_2, e_call2_3, e_call2_4, e_call3_0, e_call3_1, e_call3_2, e_call3_3, e_call3_4, e_call4_0, e_call4_1, e_call4_2, e_call4_3, e_call4_4, e_call5_0, e_call5_1, e_call5_2, e_call5_3, e_call5_4, e_call6_0, e_call6_1, e_call6_2, e_call6_3, e_call6_4, xP, xld, xst1, xst2, xis2, xii, xid, xll, xlv, xls, xlc, xil, xli, xrd, xdup, xdup2, xc1, xpu, c_eq, c_ne, c_lt, c_ge, c_gt, c_le, Option.bind_some, Option.map_some, List.length_nil, List.length_cons, Nat.reduceAdd, Nat.reduceLeDiff, Int.reduceToNat, Bool.and_self, Bool.false_eq_true, if_true, if_false, D90_17, n_lit, n_0, l0, l1, c_factOfAll hI hb]
  · rw [if_neg hok]
    have eb := c_bad (q := q) (S := S) (P := P) (A := A) (D := D) (K := K) (X := X) (E := E) (Z := Z) (I := I) (J := J) (V := V) _ rfl
    refine ⟨inc E 0, ?_, clsBad hI (by omega)⟩
    rw [inB_le] at hok
    by_cases h3 : w < nI 0
    · simp (maxSteps := 2000000) (disch := omega) only [e_inl, e_goto, e_fall, e_if, e_icmp, e_iret, e_zret, e_lret, e_vret, e_call0_0, e_call0_1, e_call0_2, e_call0_3, e_call0_4, e_call1_0, e_call1_1, e_call1_2, e_call1_3, e_call1_4, e_call2_0, e_call2_1, e_call2_2, e_call2_3, e_call2_4, e_call3_0, e_call3_1, e_call3_2, e_call3_3, e_call3_4, e_call4_0, e_call4_1, e_call4_2, e_call4_3, e_call4_4, e_call5_0, e_call5_1, e_call5_2, e_call5_3, e_call5_4, e_call6_0, e_call6_1, e_call6_2, e_call6_3, e_call6_4, xP, xld, xst1, xst2, xis2, xii, xid, xll, xlv, xls, xlc, xil, xli, xrd, xdup, xdup2, xc1, xpu, c_eq, c_ne, c_lt, c_ge, c_gt, c_le, Option.bind_some, Option.map_some, List.length_nil, List.length_cons, Nat.reduceAdd, Nat.reduceLeDiff, Int.reduceToNat, Bool.and_self, Bool.false_eq_true, if_true, if_false, D90_10, n_lit, n_0, h3, eb]
    · have h4 : ¬ w ≤ nI 6 := by
        intro h4
        exact hok (by rw [decide_eq_true h3, decide_eq_true h4]; rfl)
      simp (maxSteps := 2000000) (disch := omega) only [e_inl, e_goto, e_fall, e_if, e_icmp, e_iret, e_zret, e_lret, e_vret, e_call0_0, e_call0_1, e_call0_2, e_call0_3, e_call0_4, e_call1_0, e_call1_1, e_call1_2, e_call1_3, e_call1_4, e_call2_0, e_call2_1, e_call2_2, e_call2_3, e_call2_4, e_call3_0, e_call3_1, e_call3_2, e_call3_3, e_call3_4, e_call4_0, e_call4_1, e_call4_2, e_call4_3, e_call4_4, e_call5_0, e_call5_1, e_call5_2, e_call5_3, e_call5_4, e_call6_0, e_call6_1, e_call6_2, e_call6_3, e_call6_4, xP, xld, xst1, xst2, xis2, xii, xid, xll, xlv, xls, xlc, xil, xli, xrd, xdup, xdup2, xc1, xpu, c_eq, c_ne, c_lt, c_ge, c_gt, c_le, Option.bind_some, Option.map_some, List.length_nil, List.length_cons, Nat.reduceAdd, Nat.reduceLeDiff, Int.reduceToNat, Bool.and_self, Bool.false_eq_true, if_true, if_false, D90_10, n_lit, n_0, h3, h4, eb]
end
