/-! ===== the class draws ===== -/
section
variable {q : Nat × (Nat → Int32)} {S : Nat → xSt} {P : Int32 × (Nat → Nat)} {A : (Nat → Int64) × Int32 × Int32 × (Nat → Int64) × (Nat → Nat → Int64)} {D : (Nat → Int64) × Int64} {K : Nat → Int64} {X : Int32 × Int32 × Int32 × (Nat → Int32) × (Nat → Int32)} {E Z : Nat → Int32} {I : Nat → Int32} {J : Nat → Int64} {V : Nat → Nat → Int32}
set_option maxRecDepth 100000 in
theorem c_drBegin {s : Nat} (hs : s < 2 ^ 31) : xcall 1 [.ref 153, .ref 132, .int (nI s)] (hp q S P A D K X E Z I J V) = some (none, (hp q S P A ((va_cpy A.1 D.1 0 0 64, lN s)) K X E Z I J V)) := by
  rw [N1 _ _ _ _ (o_drawer ..)]
  simp (maxSteps := 2000000) (disch := omega) only [e_inl, e_goto, e_fall, e_if, e_icmp, e_iret, e_zret, e_lret, e_vret, e_call0_0, e_call0_1, e_call0_2, e_call0_3, e_call0_4, e_call1_0, e_call1_1, e_call1_2, e_call1_3, e_call1_4, e_call2_0, e_call2_1, e_call2_2, e_call2_3, e_call2_4, e_call3_0, e_call3_1, e_call3_2, e_call3_3, e_call3_4, e_call4_0, e_call4_1, e_call4_2, e_call4_3, e_call4_4, e_call5_0, e_call5_1, e_call5_2, e_call5_3, e_call5_4, e_call6_0, e_call6_1, e_call6_2, e_call6_3, e_call6_4, xP, xld, xst1, xst2, xis2, xii, xid, xll, xlv, xls, xlc, xil, xli, xrd, xdup, xdup2, xc1, xpu, c_eq, c_ne, c_lt, c_ge, c_gt, c_le, Option.bind_some, Option.map_some, List.length_nil, List.length_cons, Nat.reduceAdd, Nat.reduceLeDiff, Int.reduceToNat, Bool.and_self, Bool.false_eq_true, if_true, if_false, D1_0, g_drawer_0, p_drawer_1, c_beM_L, m_i2l]
set_option maxRecDepth 100000 in
theorem c_td_94 {σ τ : mS} {x : Nat} {how : Int32} {s : Nat} (hw : wf τ) (hs : rpS τ (S 0)) (hx : x < 4096) (hA : LawK σ A) {z : Option Value} : ∃ u : xSt, den 107 94 [some (.ref 2), some (.int how), some (.int (nI s)), z] [.int (nI x)] (hp q S P A D K X E Z I J V) = some (some (.int (nI (fb_ct (lawB σ) x))), (hp q (vf_upd S 0 u) P A D K X E Z I J V)) ∧ rpS (ndS τ x) u ∧ u.1 8 = (S 0).1 8 := by
  obtain ⟨u, e1, h1, h2⟩ := c_noteDraw (q := q) (S := S) (P := P) (A := A) (D := D) (K := K) (X := X) (E := E) (Z := Z) (I := I) (J := J) (V := V) hw hs hx
  refine ⟨u, ?_, h1, h2⟩
  have e2 := c_countAhead (c := x) (isLawful (q := q) (S := vf_upd S 0 u) (P := P) (A := A) (D := D) (K := K) (X := X) (E := E) (Z := Z) (I := I) (J := J) (V := V)) hA.1 hx
  have e2' : xcall 37 [.ref 132, .int (nI x)] (hp q (vf_upd S 0 u) P A D K X E Z I J V) = some (some (.int (nI (fb_ct (lawB σ) x))), (hp q (vf_upd S 0 u) P A D K X E Z I J V)) := e2
  rw [D107_94]
  simp (maxSteps := 2000000) (disch := omega) only [e_inl, e_goto, e_fall, e_if, e_icmp, e_iret, e_zret, e_lret, e_vret, e_call0_0, e_call0_1, e_call0_2, e_call0_3, e_call0_4, e_call1_0, e_call1_1, e_call1_2, e_call1_3, e_call1_4, e_call2_0, e_call2_1, e_call2_2, e_call2_3, e_call2_4, e_call3_0, e_call3_1, e_call3_2, e_call3_3, e_call3_4, e_call4_0, e_call4_1, e_call4_2, e_call4_3, e_call4_4, e_call5_0, e_call5_1, e_call5_2, e_call5_3, e_call5_4, e_call6_0, e_call6_1, e_call6_2, e_call6_3, e_call6_4, xP, xld, xst1, xst2, xis2, xii, xid, xll, xlv, xls, xlc, xil, xli, xrd, xdup, xdup2, xc1, xpu, c_eq, c_ne, c_lt, c_ge, c_gt, c_le, Option.bind_some, Option.map_some, List.length_nil, List.length_cons, Nat.reduceAdd, Nat.reduceLeDiff, Int.reduceToNat, Bool.and_self, Bool.false_eq_true, if_true, if_false, g_x_0, g_x_2, g_law_0, e1, e2']
set_option maxRecDepth 100000 in
theorem c_tryDraw {σ : mS} (hw : wf σ) (hs : rpS σ (S 0)) (hk : knS σ (S 0) A) (how from_ : Int32) : ∃ (u : xSt) (A' : (Nat → Int64) × Int32 × Int32 × (Nat → Int64) × (Nat → Nat → Int64)) (D' : (Nat → Int64) × Int64), xcall 107 [.ref 2, .int how, .int from_] (hp q S P A D K X E Z I J V) = some (some (.int (dD σ how from_).1), (hp q (vf_upd S 0 u) P (A') (D') K X E Z I J V)) ∧ rpS (dD σ how from_).2 u ∧ knS (dD σ how from_).2 u A' := by
  have hwf := dD_wf hw how from_
  have h10 : (nI 1 = nI 0) = False := eq_false (by decide)
  rw [N107 _ _ _ _ (o_x ..), D107_0]
  unfold dD okD at hwf ⊢
  by_cases ha : inB how (nI 0) (nI 1) = true
  · by_cases hb : inB from_ (nI 0) (nI 999999) = true
    · rw [ha, hb, Bool.and_self, if_pos rfl] at hwf ⊢
      obtain ⟨w, hwl, rfl⟩ := inB_of (by decide) ha
      obtain ⟨s, hsl, rfl⟩ := inB_of (by decide) hb
      rw [nI_clamp (n := s) (by omega)] at hwf ⊢
      have a0 : ¬ nI w < nI 0 := by rw [nI_ltI (by omega) (by omega)]; omega
      have a1 : ¬ nI 1 < nI w := by rw [nI_ltI (by omega) (by omega)]; omega
      have b0 : ¬ nI s < nI 0 := by rw [nI_ltI (by omega) (by omega)]; omega
      have b1 : nI s ≤ nI 999999 := (nI_leI (by omega) (by omega)).mpr hsl
      obtain ⟨s1, A', e1, hs1, h8, hA⟩ := c_look (q := q) (S := S) (P := P) (A := A) (D := D) (K := K) (X := X) (E := E) (Z := Z) (I := I) (J := J) (V := V) hw hs hk
      have ee := c_isEmpty (isLawful (q := q) (S := vf_upd S 0 s1) (P := P) (A := A') (D := D) (K := K) (X := X) (E := E) (Z := Z) (I := I) (J := J) (V := V)) hA.1
      have ee' : xcall 31 [.ref 132] (hp q (vf_upd S 0 s1) P (A') D K X E Z I J V) = some (some (.int (zB (decide (lwN σ = 0)))), (hp q (vf_upd S 0 s1) P (A') D K X E Z I J V)) := ee
      have hs1' : rpS σ (vf_upd S 0 s1 0) := by rw [vu_s]; exact hs1
      by_cases hz : lwN σ = 0
      · rw [if_pos hz]
        rw [decide_eq_true hz, zB_tt] at ee'
        refine ⟨s1, A', D, ?_, hs1, Or.inr ⟨h8, hA⟩⟩
        simp (maxSteps := 2000000) (disch := omega) only [e_inl, e_goto, e_fall, e_if, e_icmp, e_iret, e_zret, e_lret, e_vret, e_call0_0, e_call0_1, e_call0_2, e_call0_3, e_call0_4, e_call1_0, e_call1_1, e_call1_2, e_call1_3, e_call1_4, e_call2_0, e_call2_1, e_call2_2, e_call2_3, e_call2_4, e_call3_0, e_call3_1, e_call3_2, e_call3_3, e_call3_4, e_call4_0, e_call4_1, e_call4_2, e_call4_3, e_call4_4, e_call5_0, e_call5_1, e_call5_2, e_call5_3, e_call5_4, e_call6_0, e_call6_1, e_call6_2, e_call6_3, e_call6_4, xP, xld, xst1, xst2, xis2, xii, xid, xll, xlv, xls, xlc, xil, xli, xrd, xdup, xdup2, xc1, xpu, c_eq, c_ne, c_lt, c_ge, c_gt, c_le, Option.bind_some, Option.map_some, List.length_nil, List.length_cons, Nat.reduceAdd, Nat.reduceLeDiff, Int.reduceToNat, Bool.and_self, Bool.false_eq_true, if_true, if_false, D107_23, n_lit, a0, a1, b0, b1, g_x_0, g_x_2, g_law_0, e1, ee', n_0, h10]
      · rw [if_neg hz] at hwf ⊢
        rw [decide_eq_false hz, zB_ff] at ee'
        have hm := lw_some hz
        have eb := c_drBegin (q := q) (S := vf_upd S 0 s1) (P := P) (A := A') (D := D) (K := K) (X := X) (E := E) (Z := Z) (I := I) (J := J) (V := V) (s := s) (by omega)
        by_cases hw0 : w = 0
        · subst hw0
          rw [if_pos rfl] at hwf ⊢
          obtain ⟨u1, D1, e2, hu1, hu8⟩ := c_drawTogether (q := q) (S := vf_upd S 0 s1) (P := P) (A := A') (D := (va_cpy A'.1 D.1 0 0 64, lN s)) (K := K) (X := X) (E := E) (Z := Z) (I := I) (J := J) (V := V) hw hs1' hm hA.1.cpy (s := s) (by omega) rfl
          obtain ⟨k1, k2, k3, k4⟩ := ttS_ok hw hm (mn σ)
          have hx := (tgX_ok hw hm s).1
          obtain ⟨u, e3, hu, hu82⟩ := c_td_94 (q := q) (S := vf_upd (vf_upd S 0 s1) 0 u1) (P := P) (A := A') (D := D1) (K := K) (X := X) (E := E) (Z := Z) (I := I) (J := J) (V := V) (how := nI 0) (s := s) k1 (by rw [vu_s]; exact hu1) hx hA (z := none)
          rw [vu_s] at hu8 hu82
          refine ⟨u, A', D1, ?_, hu, Or.inr ⟨by rw [hu82, hu8]; exact h8, hwf.2.lawK hA⟩⟩
          rw [vu_vu, vu_vu] at e3
          rw [vu_vu] at e2
          simp (maxSteps := 2000000) (disch := omega) only [e_inl, e_goto, e_fall, e_if, e_icmp, e_iret, e_zret, e_lret, e_vret, e_call0_0, e_call0_1, e_call0_2, e_call0_3, e_call0_4, e_call1_0, e_call1_1, e_call1_2, e_call1_3, e_call1_4, e_call2_0, e_call2_1, e_call2_2, e_call2_3, e_call2_4, e_call3_0, e_call3_1, e_call3_2, e_call3_3, e_call3_4, e_call4_0, e_call4_1, e_call4_2, e_call4_3, e_call4_4, e_call5_0, e_call5_1, e_call5_2, e_call5_3, e_call5_4, e_call6_0, e_call6_1, e_call6_2, e_call6_3, e_call6_4, xP, xld, xst1, xst2, xis2, xii, xid, xll, xlv, xls, xlc, xil, xli, xrd, xdup, xdup2, xc1, xpu, c_eq, c_ne, c_lt, c_ge, c_gt, c_le, Option.bind_some, Option.map_some, List.length_nil, List.length_cons, Nat.reduceAdd, Nat.reduceLeDiff, Int.reduceToNat, Bool.and_self, Bool.false_eq_true, if_true, if_false, D107_23, n_lit, a0, a1, b0, b1, D107_50, g_x_0, g_x_2, g_x_3, g_law_0, e1, ee', n_0, eb, not_true_eq_false, e2, e3]
        · have hne : ¬ nI w = nI 0 := by rw [nI_eq (by omega) (by omega)]; exact hw0
          rw [if_neg hne] at hwf ⊢
          obtain ⟨u1, D1, e2, hu1, hu8⟩ := c_drawInOrder (q := q) (S := vf_upd S 0 s1) (P := P) (A := A') (D := (va_cpy A'.1 D.1 0 0 64, lN s)) (K := K) (X := X) (E := E) (Z := Z) (I := I) (J := J) (V := V) hw hs1' hm hA.1.cpy (s := s) (by omega) rfl
          obtain ⟨k1, k2, k3, k4, k5⟩ := ioS_ok hw hm (s := s) (by omega) (mn σ)
          have hx := (ioX_ok hw hm (s := s) (by omega)).1
          obtain ⟨u, e3, hu, hu82⟩ := c_td_94 (q := q) (S := vf_upd (vf_upd S 0 s1) 0 u1) (P := P) (A := A') (D := D1) (K := K) (X := X) (E := E) (Z := Z) (I := I) (J := J) (V := V) (how := nI w) (s := s) k1 (by rw [vu_s]; exact hu1) hx hA (z := none)
          rw [vu_s] at hu8 hu82
          refine ⟨u, A', D1, ?_, hu, Or.inr ⟨by rw [hu82, hu8]; exact h8, hwf.2.lawK hA⟩⟩
          rw [vu_vu, vu_vu] at e3
          rw [vu_vu] at e2
          simp (maxSteps := 2000000) (disch := omega) only [e_inl, e_goto, e_fall, e_if, e_icmp, e_iret, e_zret, e_lret, e_vret, e_call0_0, e_call0_1, e_call0_2, e_call0_3, e_call0_4, e_call1_0, e_call1_1, e_call1_2, e_call1_3, e_call1_4, e_call2_0, e_call2_1, e_call2_2, e_call2_3, e_call2_4, e_call3_0, e_call3_1, e_call3_2, e_call3_3, e_call3_4, e_call4_0, e_call4_1, e_call4_2, e_call4_3, e_call4_4, e_call5_0, e_call5_1, e_call5_2, e_call5_3, e_call5_4, e_call6_0, e_call6_1, e_call6_2, e_call6_3, e_call6_4, xP, xld, xst1, xst2, xis2, xii, xid, xll, xlv, xls, xlc, xil, xli, xrd, xdup, xdup2, xc1, xpu, c_eq, c_ne, c_lt, c_ge, c_gt, c_le, Option.bind_some, Option.map_some, List.length_nil, List.length_cons, Nat.reduceAdd, Nat.reduceLeDiff, Int.reduceToNat, Bool.and_self, Bool.false_eq_true, if_true, if_false, D107_23, n_lit, a0, a1, b0, b1, D107_50, D107_83, g_x_0, g_x_2, g_x_3, g_law_0, e1, ee', n_0, eb, hne, not_false_eq_true, e2, e3]
    · rw [Bool.eq_false_iff.mpr hb, Bool.and_false, if_neg (by decide)] at hwf ⊢
      refine ⟨S 0, A, D, ?_, hs, hk⟩
      obtain ⟨w, hwl, rfl⟩ := inB_of (by decide) ha
      have a0 : ¬ nI w < nI 0 := by rw [nI_ltI (by omega) (by omega)]; omega
      have a1 : ¬ nI 1 < nI w := by rw [nI_ltI (by omega) (by omega)]; omega
      rw [inB_le] at hb
      rw [vu_id]
      by_cases b0 : from_ < nI 0
      · simp (maxSteps := 2000000) (disch := omega) only [e_inl, e_goto, e_fall, e_if, e_icmp, e_iret, e_zret, e_lret, e_vret, e_call0_0, e_call0_1, e_call0_2, e_call0_3, e_call0_4, e_call1_0, e_call1_1, e_call1_2, e_call1_3, e_call1_4, e_call2_0, e_call2_1, e_call2_2, e_call2_3, e_call2_4, e_call3_0, e_call3_1, e_call3_2, e_call3_3, e_call3_4, e_call4_0, e_call4_1, e_call4_2, e_call4_3, e_call4_4, e_call5_0, e_call5_1, e_call5_2, e_call5_3, e_call5_4, e_call6_0, e_call6_1, e_call6_2, e_call6_3, e_call6_4, xP, xld, xst1, xst2, xis2, xii, xid, xll, xlv, xls, xlc, xil, xli, xrd, xdup, xdup2, xc1, xpu, c_eq, c_ne, c_lt, c_ge, c_gt, c_le, Option.bind_some, Option.map_some, List.length_nil, List.length_cons, Nat.reduceAdd, Nat.reduceLeDiff, Int.reduceToNat, Bool.and_self, Bool.false_eq_true, if_true, if_false, D107_20, n_lit, n_0, a0, a1, b0]
      · have b1 : ¬ from_ ≤ nI 999999 := fun h => hb (by rw [decide_eq_true b0, decide_eq_true h]; rfl)
        simp (maxSteps := 2000000) (disch := omega) only [e_inl, e_goto, e_fall, e_if, e_icmp, e_iret, e_zret, e_lret, e_vret, e_call0_0, e_call0_1, e_call0_2, e_call0_3, e_call0_4, e_call1_0, e_call1_1, e_call1_2, e_call1_3, e_call1_4, e_call2_0, e_call2_1, e_call2_2, e_call2_3, e_call2_4, e_call3_0, e_call3_1, e_call3_2, e_call3_3, e_call3_4, e_call4_0, e_call4_1, e_call4_2, e_call4_3, e_call4_4, e_call5_0, e_call5_1, e_call5_2, e_call5_3, e_call5_4, e_call6_0, e_call6_1, e_call6_2, e_call6_3, e_call6_4, xP, xld, xst1, xst2, xis2, xii, xid, xll, xlv, xls, xlc, xil, xli, xrd, xdup, xdup2, xc1, xpu, c_eq, c_ne, c_lt, c_ge, c_gt, c_le, Option.bind_some, Option.map_some, List.length_nil, List.length_cons, Nat.reduceAdd, Nat.reduceLeDiff, Int.reduceToNat, Bool.and_self, Bool.false_eq_true, if_true, if_false, D107_20, n_lit, n_0, a0, a1, b0, b1]
  · rw [Bool.eq_false_iff.mpr ha, Bool.false_and, if_neg (by decide)] at hwf ⊢
    refine ⟨S 0, A, D, ?_, hs, hk⟩
    rw [inB_le] at ha
    rw [vu_id]
    by_cases a0 : how < nI 0
    · simp (maxSteps := 2000000) (disch := omega) only [e_inl, e_goto, e_fall, e_if, e_icmp, e_iret, e_zret, e_lret, e_vret, e_call0_0, e_call0_1, e_call0_2, e_call0_3, e_call0_4, e_call1_0, e_call1_1, e_call1_2, e_call1_3, e_call1_4, e_call2_0, e_call2_1, e_call2_2, e_call2_3, e_call2_4, e_call3_0, e_call3_1, e_call3_2, e_call3_3, e_call3_4, e_call4_0, e_call4_1, e_call4_2, e_call4_3, e_call4_4, e_call5_0, e_call5_1, e_call5_2, e_call5_3, e_call5_4, e_call6_0, e_call6_1, e_call6_2, e_call6_3, e_call6_4, xP, xld, xst1, xst2, xis2, xii, xid, xll, xlv, xls, xlc, xil, xli, xrd, xdup, xdup2, xc1, xpu, c_eq, c_ne, c_lt, c_ge, c_gt, c_le, Option.bind_some, Option.map_some, List.length_nil, List.length_cons, Nat.reduceAdd, Nat.reduceLeDiff, Int.reduceToNat, Bool.and_self, Bool.false_eq_true, if_true, if_false, D107_20, n_lit, n_0, a0]
    · have a1 : nI 1 < how := Int32.not_le.mp (fun h => ha (by rw [decide_eq_true a0, decide_eq_true h]; rfl))
      simp (maxSteps := 2000000) (disch := omega) only [e_inl, e_goto, e_fall, e_if, e_icmp, e_iret, e_zret, e_lret, e_vret, e_call0_0, e_call0_1, e_call0_2, e_call0_3, e_call0_4, e_call1_0, e_call1_1, e_call1_2, e_call1_3, e_call1_4, e_call2_0, e_call2_1, e_call2_2, e_call2_3, e_call2_4, e_call3_0, e_call3_1, e_call3_2, e_call3_3, e_call3_4, e_call4_0, e_call4_1, e_call4_2, e_call4_3, e_call4_4, e_call5_0, e_call5_1, e_call5_2, e_call5_3, e_call5_4, e_call6_0, e_call6_1, e_call6_2, e_call6_3, e_call6_4, xP, xld, xst1, xst2, xis2, xii, xid, xll, xlv, xls, xlc, xil, xli, xrd, xdup, xdup2, xc1, xpu, c_eq, c_ne, c_lt, c_ge, c_gt, c_le, Option.bind_some, Option.map_some, List.length_nil, List.length_cons, Nat.reduceAdd, Nat.reduceLeDiff, Int.reduceToNat, Bool.and_self, Bool.false_eq_true, if_true, if_false, D107_20, n_lit, n_0, a0, a1]
set_option maxRecDepth 100000 in
theorem C_draws {M : mM} (hI : ClsI M S P A X E) (how from_ : Int32) : ∃ (S' : Nat → xSt) (P' : Int32 × (Nat → Nat)) (A' : (Nat → Int64) × Int32 × Int32 × (Nat → Int64) × (Nat → Nat → Int64)) (D' : (Nat → Int64) × Int64) (E' : Nat → Int32), xcall 84 [.ref 2, .int how, .int from_] (hp q S P A D K X E Z I J V) = some (some (.int (dD M.1 how from_).1), (hp q (S') (P') (A') (D') K X (E') Z I J V)) ∧ ClsI (fin M (dD M.1 how from_)) S' P' A' X E' := by
  obtain ⟨m, e1, hm, e0⟩ := c_markM (q := q) (S := S) (P := P) (A := A) (D := D) (K := K) (X := X) (E := E) (Z := Z) (I := I) (J := J) (V := V) hI
  obtain ⟨s, A', D', e2, hs, hk⟩ := c_tryDraw (q := q) (S := vf_upd S (P.2 M.2.1) m) (P := P) (A := A) (D := D) (K := K) (X := X) (E := E) (Z := Z) (I := I) (J := J) (V := V) hI.1 (by rw [e0]; exact hI.2.1) (by rw [e0]; exact hI.2.2.1) how from_
  have e3 := c_settled (q := q) (S := vf_upd (vf_upd S (P.2 M.2.1) m) 0 s) (P := P) (A := A') (D := D') (K := K) (X := X) (E := E) (Z := Z) (I := I) (J := J) (V := V) (dD_ok (σ := M.1) how from_) hI.2.2.2.1 hI.2.2.2.2.1 hI.2.2.2.2.2.1
  have h := clsFin hI hm (dD_wf hI.1 how from_).1 hs hk hI.2.2.2.2.2.2.2.1
  refine ⟨_, _, _, D', _, ?_, h⟩
  rw [N84 _ _ _ _ (o_x ..)]
  simp (maxSteps := 2000000) (disch := omega) only [e_inl, e_goto, e_fall, e_if, e_icmp, e_iret, e_zret, e_lret, e_vret, e_call0_0, e_call0_1, e_call0_2, e_call0_3, e_call0_4, e_call1_0, e_call1_1, e_call1_2, e_call1_3, e_call1_4, e_call2_0, e_call2_1, e_call2_2, e_call2_3, e_call2_4, e_call3_0, e_call3_1, e_call3_2, e_call3_3, e_call3_4, e_call4_0, e_call4_1, e_call4_2, e_call4_3, e_call4_4, e_call5_0, e_call5_1, e_call5_2, e_call5_3, e_call5_4, e_call6_0, e_call6_1, e_call6_2, e_call6_3, e_call6_4, xP, xld, xst1, xst2, xis2, xii, xid, xll, xlv, xls, xlc, xil, xli, xrd, xdup, xdup2, xc1, xpu, c_eq, c_ne, c_lt, c_ge, c_gt, c_le, Option.bind_some, Option.map_some, List.length_nil, List.length_cons, Nat.reduceAdd, Nat.reduceLeDiff, Int.reduceToNat, Bool.and_self, Bool.false_eq_true, if_true, if_false, D84_0, g_x_0, g_x_1, e1, e2, e3]
end
