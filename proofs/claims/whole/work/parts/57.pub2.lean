/-! ===== public calls of the reference (2): what is asked ===== -/
def oOf (M : mM) (f w : Int32) : Int32 × mM := if (isF (mn M.1) f && inB w (nI 0) (nI 5)) = true then (aOf M.1 f.toNatClampNeg w.toNatClampNeg, M) else (Int32.ofInt (-2), bad M 0)
def oAbout (M : mM) (k w : Int32) : Int32 × mM := if (isF (mK M.1) k && inB w (nI 0) (nI 5)) = true then (aAb M.1 k.toNatClampNeg w.toNatClampNeg, M) else (Int32.ofInt (-2), bad M 0)
def oRow (M : mM) (i f : Int32) : Int32 × mM := if (decide (nI 0 ≤ i) && isF (mn M.1) f) = true then (if i.toNatClampNeg < lwN M.1 then nI (vl (lw M.1 i.toNatClampNeg) f.toNatClampNeg) else Int32.ofInt (-5), M) else (Int32.ofInt (-2), bad M 0)
def oHeavy (M : mM) (f v : Int32) : Int32 × mM := if (if f = Int32.ofInt (-1) then decide (v = nI 0) else isF (mn M.1) f && inB v (nI 0) (nI 7)) = true then (nI (hvN M.1 (if f = Int32.ofInt (-1) then (fun _ => true) else (fun x => decide (vl x f.toNatClampNeg = v.toNatClampNeg)))), M) else (Int32.ofInt (-2), bad M 0)
def oSums (M : mM) (s : Int32) : Int32 × mM := if nI 0 ≤ s then (nI (smN M.1 s.toNatClampNeg), M) else (Int32.ofInt (-2), bad M 0)
def oSum (M : mM) (i : Int32) : Int32 × mM := if nI 0 ≤ i then (kth (fun s => decide (0 < smN M.1 s)) 29 i.toNatClampNeg, M) else (Int32.ofInt (-2), bad M 0)
def oSoft (M : mM) (i : Int32) : Int32 × mM := if nI 0 ≤ i then (if i.toNatClampNeg < (sfL M.1 10).length then nI ((sfL M.1 10).getD i.toNatClampNeg 0) else Int32.ofInt (-5), M) else (Int32.ofInt (-2), bad M 0)
def oDrawn (M : mM) (i f : Int32) : Int32 × mM := if (if i = Int32.ofInt (-1) then decide (f = nI 0) else decide (nI 0 ≤ i) && isF (mn M.1) f) = true then (if i = Int32.ofInt (-1) then nI (mu M.1) else if i.toNatClampNeg < mu M.1 then nI (vl (mU M.1 i.toNatClampNeg) f.toNatClampNeg) else Int32.ofInt (-5), M) else (Int32.ofInt (-2), bad M 0)
def oType (M : mM) (c : Int32) : Int32 × mM := if inB c (nI 0) (nI 127) = true then (if M.2.2.2.1.1 = 150 then (Int32.ofInt (-4), bad M 2) else (nI (M.2.2.2.1.1 + 1), (M.1, M.2.1, M.2.2.1, (M.2.2.2.1.1 + 1, fun i => if i = M.2.2.2.1.1 then c.toNatClampNeg else M.2.2.2.1.2 i), M.2.2.2.2))) else (Int32.ofInt (-2), bad M 0)
def oClear (M : mM) : Int32 × mM := (nI M.2.2.2.1.1, (M.1, M.2.1, M.2.2.1, (0, M.2.2.2.1.2), M.2.2.2.2))
def tdI (M : mM) (w : Nat) : Int32 := if w < 3 then M.2.2.2.2 w else if w = 3 then nI M.2.2.2.1.1 else if w = 4 then nI (mn M.1) else if w = 5 then nI (mK M.1) else nI M.2.1
def oTold (M : mM) (w : Int32) : Int32 × mM := if inB w (nI 0) (nI 6) = true then (tdI M w.toNatClampNeg, M) else (Int32.ofInt (-2), bad M 0)
theorem nn_of {x : Int32} (h : nI 0 ≤ x) : ∃ k, k < 2 ^ 31 ∧ x = nI k := by
  have h1 := fb_rng x
  rw [Int32.le_iff_toInt_le, nI_toInt (by omega)] at h
  refine ⟨x.toInt.toNat, by omega, ?_⟩
  apply Int32.toInt_inj.mp
  rw [nI_toInt (by omega)]
  omega
theorem RefI.kept {M : mM} {I I' : Nat → Int32} {V V' : Nat → Nat → Int32} (hI : RefI M I V) (hL : LayI M.1 I' V') (hK : Kept I I' V V') : RefI M I' V' := by
  obtain ⟨i1, i2, i3, i4, i5, i6, i7, i8⟩ := hI
  refine ⟨i1, by rw [hK.2 0 (by omega) (by omega) (by omega)]; exact i2, hL, i4, by rw [hK.1 3 (by omega) (by omega) (by omega) (by omega)]; exact i5, by rw [hK.2 2 (by omega) (by omega) (by omega)]; exact i6, i7.of (hK.1 15 (by omega) (by omega) (by omega) (by omega)) (hK.2 14 (by omega) (by omega) (by omega)), by rw [hK.2 4 (by omega) (by omega) (by omega)]; exact i8⟩
section
variable {q : Nat × (Nat → Int32)} {S : Nat → xSt} {P : Int32 × (Nat → Nat)} {A : (Nat → Int64) × Int32 × Int32 × (Nat → Int64) × (Nat → Nat → Int64)} {D : (Nat → Int64) × Int64} {K : Nat → Int64} {X : Int32 × Int32 × Int32 × (Nat → Int32) × (Nat → Int32)} {E Z : Nat → Int32} {I : Nat → Int32} {J : Nat → Int64} {V : Nat → Nat → Int32}
set_option maxRecDepth 100000 in
theorem R_of {M : mM} (hI : RefI M I V) (f w : Int32) : ∃ (I' : Nat → Int32) (V' : Nat → Nat → Int32) (J' : Nat → Int64), xcall 151 [.ref 163, .int f, .int w] (hp q S P A D K X E Z I J V) = some (some (.int (oOf M f w).1), (hp q S P A D K X E Z (I') (J') (V'))) ∧ RefI (oOf M f w).2 I' V' := by
  have w1 := hI.1.1
  unfold oOf
  by_cases hok : (isF (mn M.1) f && inB w (nI 0) (nI 5)) = true
  · rw [if_pos hok]
    rw [Bool.and_eq_true] at hok
    obtain ⟨g, hg, rfl⟩ := isF_of (by omega) hok.1
    obtain ⟨u, hu, rfl⟩ := inB_of (by decide) hok.2
    rw [nI_clamp (n := g) (by omega), nI_clamp (n := u) (by omega)]
    exact ⟨I, V, J, t_of_ok hI.1 hI.2.1 hg hu, hI⟩
  · rw [if_neg hok]
    exact ⟨I, _, J, t_of_bad hI.2.1 (Bool.eq_false_iff.mpr hok), refBad hI (by omega)⟩
set_option maxRecDepth 100000 in
theorem R_about {M : mM} (hI : RefI M I V) (f w : Int32) : ∃ (I' : Nat → Int32) (V' : Nat → Nat → Int32) (J' : Nat → Int64), xcall 153 [.ref 163, .int f, .int w] (hp q S P A D K X E Z I J V) = some (some (.int (oAbout M f w).1), (hp q S P A D K X E Z (I') (J') (V'))) ∧ RefI (oAbout M f w).2 I' V' := by
  have w7 := hI.1.2.2.2.2.2.2.1
  unfold oAbout
  by_cases hok : (isF (mK M.1) f && inB w (nI 0) (nI 5)) = true
  · rw [if_pos hok]
    rw [Bool.and_eq_true] at hok
    obtain ⟨g, hg, rfl⟩ := isF_of (by omega) hok.1
    obtain ⟨u, hu, rfl⟩ := inB_of (by decide) hok.2
    rw [nI_clamp (n := g) (by omega), nI_clamp (n := u) (by omega)]
    obtain ⟨I', V', e, g1, g2⟩ := t_about_ok (q := q) (S := S) (P := P) (A := A) (D := D) (K := K) (X := X) (E := E) (Z := Z) (J := J) hI.1 hI.2.1 hI.2.2.1 hg hu
    exact ⟨I', V', J, e, hI.kept g1 g2⟩
  · rw [if_neg hok]
    exact ⟨I, _, J, t_about_bad hI.2.1 (Bool.eq_false_iff.mpr hok), refBad hI (by omega)⟩
set_option maxRecDepth 100000 in
theorem R_rows {M : mM} (hI : RefI M I V) : ∃ (I' : Nat → Int32) (V' : Nat → Nat → Int32) (J' : Nat → Int64), xcall 154 [.ref 163] (hp q S P A D K X E Z I J V) = some (some (.int (nI (lwN M.1))), (hp q S P A D K X E Z (I') (J') (V'))) ∧ RefI M I' V' := by
  obtain ⟨I', V', e, g1, g2⟩ := t_rows (q := q) (S := S) (P := P) (A := A) (D := D) (K := K) (X := X) (E := E) (Z := Z) (J := J) hI.1 hI.2.1 hI.2.2.1
  exact ⟨I', V', J, e, hI.kept g1 g2⟩
set_option maxRecDepth 100000 in
theorem R_row {M : mM} (hI : RefI M I V) (i f : Int32) : ∃ (I' : Nat → Int32) (V' : Nat → Nat → Int32) (J' : Nat → Int64), xcall 155 [.ref 163, .int i, .int f] (hp q S P A D K X E Z I J V) = some (some (.int (oRow M i f).1), (hp q S P A D K X E Z (I') (J') (V'))) ∧ RefI (oRow M i f).2 I' V' := by
  have w1 := hI.1.1
  unfold oRow
  by_cases hok : (decide (nI 0 ≤ i) && isF (mn M.1) f) = true
  · rw [if_pos hok]
    rw [Bool.and_eq_true, decide_eq_true_eq] at hok
    obtain ⟨k, hk, rfl⟩ := nn_of hok.1
    obtain ⟨g, hg, rfl⟩ := isF_of (by omega) hok.2
    rw [nI_clamp (n := g) (by omega), nI_clamp (n := k) (by omega)]
    obtain ⟨I', V', e, g1, g2⟩ := t_row_ok (q := q) (S := S) (P := P) (A := A) (D := D) (K := K) (X := X) (E := E) (Z := Z) (J := J) hI.1 hI.2.1 hI.2.2.1 hk hg
    exact ⟨I', V', J, e, hI.kept g1 g2⟩
  · rw [if_neg hok]
    exact ⟨I, _, J, t_row_bad hI.2.1 (Bool.eq_false_iff.mpr hok), refBad hI (by omega)⟩
set_option maxRecDepth 100000 in
theorem R_heavy {M : mM} (hI : RefI M I V) (f v : Int32) : ∃ (I' : Nat → Int32) (V' : Nat → Nat → Int32) (J' : Nat → Int64), xcall 157 [.ref 163, .int f, .int v] (hp q S P A D K X E Z I J V) = some (some (.int (oHeavy M f v).1), (hp q S P A D K X E Z (I') (J') (V'))) ∧ RefI (oHeavy M f v).2 I' V' := by
  have w1 := hI.1.1
  unfold oHeavy
  by_cases hok : (if f = Int32.ofInt (-1) then decide (v = nI 0) else isF (mn M.1) f && inB v (nI 0) (nI 7)) = true
  · rw [if_pos hok]
    by_cases hf : f = Int32.ofInt (-1)
    · rw [if_pos hf] at hok ⊢
      have hv := of_decide_eq_true hok
      subst hf
      subst hv
      obtain ⟨I', V', e, g1, g2⟩ := t_heavy_all (q := q) (S := S) (P := P) (A := A) (D := D) (K := K) (X := X) (E := E) (Z := Z) (J := J) hI.1 hI.2.1 hI.2.2.1
      exact ⟨I', V', J, e, hI.kept g1 g2⟩
    · rw [if_neg hf] at hok ⊢
      rw [Bool.and_eq_true] at hok
      obtain ⟨g, hg, rfl⟩ := isF_of (by omega) hok.1
      obtain ⟨u, hu, rfl⟩ := inB_of (by decide) hok.2
      rw [nI_clamp (n := g) (by omega), nI_clamp (n := u) (by omega)]
      obtain ⟨I', V', e, g1, g2⟩ := t_heavy_ok (q := q) (S := S) (P := P) (A := A) (D := D) (K := K) (X := X) (E := E) (Z := Z) (J := J) hI.1 hI.2.1 hI.2.2.1 hg hu
      exact ⟨I', V', J, e, hI.kept g1 g2⟩
  · rw [if_neg hok]
    exact ⟨I, _, J, t_heavy_bad hI.2.1 (Bool.eq_false_iff.mpr hok), refBad hI (by omega)⟩
set_option maxRecDepth 100000 in
theorem R_sums {M : mM} (hI : RefI M I V) (s : Int32) : ∃ (I' : Nat → Int32) (V' : Nat → Nat → Int32) (J' : Nat → Int64), xcall 159 [.ref 163, .int s] (hp q S P A D K X E Z I J V) = some (some (.int (oSums M s).1), (hp q S P A D K X E Z (I') (J') (V'))) ∧ RefI (oSums M s).2 I' V' := by
  unfold oSums
  by_cases hok : nI 0 ≤ s
  · rw [if_pos hok]
    obtain ⟨k, hk, rfl⟩ := nn_of hok
    rw [nI_clamp (n := k) (by omega)]
    obtain ⟨I', V', e, g1, g2⟩ := t_sums_ok (q := q) (S := S) (P := P) (A := A) (D := D) (K := K) (X := X) (E := E) (Z := Z) (J := J) hI.1 hI.2.1 hI.2.2.1 hk
    exact ⟨I', V', J, e, hI.kept g1 g2⟩
  · rw [if_neg hok]
    exact ⟨I, _, J, t_sums_bad (Int32.not_le.mp hok), refBad hI (by omega)⟩
set_option maxRecDepth 100000 in
theorem R_sum {M : mM} (hI : RefI M I V) (s : Int32) : ∃ (I' : Nat → Int32) (V' : Nat → Nat → Int32) (J' : Nat → Int64), xcall 160 [.ref 163, .int s] (hp q S P A D K X E Z I J V) = some (some (.int (oSum M s).1), (hp q S P A D K X E Z (I') (J') (V'))) ∧ RefI (oSum M s).2 I' V' := by
  unfold oSum
  by_cases hok : nI 0 ≤ s
  · rw [if_pos hok]
    obtain ⟨k, hk, rfl⟩ := nn_of hok
    rw [nI_clamp (n := k) (by omega)]
    obtain ⟨I', V', e, g1, g2⟩ := t_sum_ok (q := q) (S := S) (P := P) (A := A) (D := D) (K := K) (X := X) (E := E) (Z := Z) (J := J) hI.1 hI.2.1 hI.2.2.1 hk
    exact ⟨I', V', J, e, hI.kept g1 g2⟩
  · rw [if_neg hok]
    exact ⟨I, _, J, t_sum_bad (Int32.not_le.mp hok), refBad hI (by omega)⟩
set_option maxRecDepth 100000 in
theorem R_soft {M : mM} (hI : RefI M I V) (s : Int32) : ∃ (I' : Nat → Int32) (V' : Nat → Nat → Int32) (J' : Nat → Int64), xcall 161 [.ref 163, .int s] (hp q S P A D K X E Z I J V) = some (some (.int (oSoft M s).1), (hp q S P A D K X E Z (I') (J') (V'))) ∧ RefI (oSoft M s).2 I' V' := by
  unfold oSoft
  by_cases hok : nI 0 ≤ s
  · rw [if_pos hok]
    obtain ⟨k, hk, rfl⟩ := nn_of hok
    rw [nI_clamp (n := k) (by omega)]
    obtain ⟨I', V', e, g1, g2⟩ := t_soft_ok (q := q) (S := S) (P := P) (A := A) (D := D) (K := K) (X := X) (E := E) (Z := Z) (J := J) hI.1 hI.2.1 hI.2.2.1 hk
    exact ⟨I', V', J, e, hI.kept g1 g2⟩
  · rw [if_neg hok]
    exact ⟨I, _, J, t_soft_bad (Int32.not_le.mp hok), refBad hI (by omega)⟩
set_option maxRecDepth 100000 in
theorem R_core {M : mM} (hI : RefI M I V) : ∃ (I' : Nat → Int32) (V' : Nat → Nat → Int32) (J' : Nat → Int64), xcall 162 [.ref 163] (hp q S P A D K X E Z I J V) = some (some (.int (nI (coreN M.1))), (hp q S P A D K X E Z (I') (J') (V'))) ∧ RefI M I' V' := by
  obtain ⟨I', V', e, g1, g2⟩ := t_core (q := q) (S := S) (P := P) (A := A) (D := D) (K := K) (X := X) (E := E) (Z := Z) (J := J) hI.1 hI.2.1 hI.2.2.1
  exact ⟨I', V', J, e, hI.kept g1 g2⟩
theorem m1_nn {x : Int32} (h1 : ¬ x = Int32.ofInt (-1)) : (x < Int32.ofInt (-1)) = ¬ nI 0 ≤ x := by
  apply propext
  rw [Int32.lt_iff_toInt_lt, Int32.le_iff_toInt_le, nI_toInt (by omega), fb_ofI (by omega) (by omega)]
  have h2 : x.toInt ≠ -1 := fun e => h1 (by apply Int32.toInt_inj.mp; rw [e]; decide)
  omega
set_option maxRecDepth 100000 in
theorem R_drawn {M : mM} (hI : RefI M I V) (i f : Int32) : ∃ (I' : Nat → Int32) (V' : Nat → Nat → Int32) (J' : Nat → Int64), xcall 171 [.ref 163, .int i, .int f] (hp q S P A D K X E Z I J V) = some (some (.int (oDrawn M i f).1), (hp q S P A D K X E Z (I') (J') (V'))) ∧ RefI (oDrawn M i f).2 I' V' := by
  have w1 := hI.1.1
  have w10 := hI.1.2.2.2.2.2.2.2.2.2.1
  have r0 := hI.2.1.1
  have r9 := hI.2.1.2.2.2.2.2.2.2.2.1
  have r10 := hI.2.1.2.2.2.2.2.2.2.2.2
  have hl1 : (Int32.ofInt (-1) < Int32.ofInt (-1)) = False := by decide
  rw [N171 _ _ _ _ (o_m ..), D171_0]
  unfold oDrawn
  by_cases hi : i = Int32.ofInt (-1)
  · subst hi
    rw [if_pos rfl]
    by_cases hf : f = nI 0
    · subst hf
      refine ⟨I, V, J, ?_, by simpa using hI⟩
      simp (maxSteps := 2000000) (disch := omega) only [e_inl, e_goto, e_fall, e_if, e_icmp, e_iret, e_zret, e_lret, e_vret, e_call0_0, e_call0_1, e_call0_2, e_call0_3, e_call0_4, e_call1_0, e_call1_1, e_call1_2, e_call1_3, e_call1_4, e_call2_0, e_call2_1, e_call2_2, e_call2_3, e_call2_4, e_call3_0, e_call3_1, e_call3_2, e_call3_3, e_call3_4, e_call4_0, e_call4_1, e_call4_2, e_call4_3, e_call4_4, e_call5_0, e_call5_1, e_call5_2, e_call5_3, e_call5_4, e_call6_0, e_call6_1, e_call6_2, e_call6_3, e_call6_4, xP, xld, xst1, xst2, xis2, xii, xid, xll, xlv, xls, xlc, xil, xli, xrd, xdup, xdup2, xc1, xpu, c_eq, c_ne, c_lt, c_ge, c_gt, c_le, Option.bind_some, Option.map_some, List.length_nil, List.length_cons, Nat.reduceAdd, Nat.reduceLeDiff, Int.reduceToNat, Bool.and_self, Bool.false_eq_true, if_true, if_false, D171_32, D171_77, o_m, g_m_0, g_m_1, g_m_2, g_m_3, g_m_4, g_m_5, g_m_6, g_m_7, g_m_8, g_m_9, g_m_10, g_m_11, g_m_12, g_m_13, g_m_14, g_m_15, g_m_16, g_m_17, g_m_18, g_m_19, g_m_20, g_m_21, p_m_3, p_m_7, p_m_8, p_m_11, p_m_13, p_m_15, p_m_16, p_m_17, p_m_18, p_m_21, p_m_5_0, p_m_5_1, r_m0, s_m0, r_m1, s_m1, r_m2, s_m2, r_m4, s_m4, r_m6, s_m6, r_m9, s_m9, r_m10, s_m10, r_m12, s_m12, r_m14, s_m14, r_m19, s_m19, r_m20, s_m20, Nat.reduceEqDiff, decide_true, decide_false, Bool.true_and, Bool.false_and, Bool.and_true, Bool.and_false, zB_tt, zB_ff, not_false_eq_true, not_true_eq_false, n_lit, n_mul, nI_add, n_sub, x_in, nI_clamp, nI_ltI, nI_leI, nI_eq, and_self, true_and, and_true, hl1, n_0, r9]
    · refine ⟨I, vf_upd V 4 (upd (V 4) 0 (V 4 0 + nI 1)), J, ?_, ?_⟩
      · simp (maxSteps := 2000000) (disch := omega) only [e_inl, e_goto, e_fall, e_if, e_icmp, e_iret, e_zret, e_lret, e_vret, e_call0_0, e_call0_1, e_call0_2, e_call0_3, e_call0_4, e_call1_0, e_call1_1, e_call1_2, e_call1_3, e_call1_4, e_call2_0, e_call2_1, e_call2_2, e_call2_3, e_call2_4, e_call3_0, e_call3_1, e_call3_2, e_call3_3, e_call3_4, e_call4_0, e_call4_1, e_call4_2, e_call4_3, e_call4_4, e_call5_0, e_call5_1, e_call5_2, e_call5_3, e_call5_4, e_call6_0, e_call6_1, e_call6_2, e_call6_3, e_call6_4, xP, xld, xst1, xst2, xis2, xii, xid, xll, xlv, xls, xlc, xil, xli, xrd, xdup, xdup2, xc1, xpu, c_eq, c_ne, c_lt, c_ge, c_gt, c_le, Option.bind_some, Option.map_some, List.length_nil, List.length_cons, Nat.reduceAdd, Nat.reduceLeDiff, Int.reduceToNat, Bool.and_self, Bool.false_eq_true, if_true, if_false, D171_25, o_m, g_m_0, g_m_1, g_m_2, g_m_3, g_m_4, g_m_5, g_m_6, g_m_7, g_m_8, g_m_9, g_m_10, g_m_11, g_m_12, g_m_13, g_m_14, g_m_15, g_m_16, g_m_17, g_m_18, g_m_19, g_m_20, g_m_21, p_m_3, p_m_7, p_m_8, p_m_11, p_m_13, p_m_15, p_m_16, p_m_17, p_m_18, p_m_21, p_m_5_0, p_m_5_1, r_m0, s_m0, r_m1, s_m1, r_m2, s_m2, r_m4, s_m4, r_m6, s_m6, r_m9, s_m9, r_m10, s_m10, r_m12, s_m12, r_m14, s_m14, r_m19, s_m19, r_m20, s_m20, Nat.reduceEqDiff, decide_true, decide_false, Bool.true_and, Bool.false_and, Bool.and_true, Bool.and_false, zB_tt, zB_ff, not_false_eq_true, not_true_eq_false, n_lit, n_mul, nI_add, n_sub, x_in, nI_clamp, nI_ltI, nI_leI, nI_eq, and_self, true_and, and_true, hl1, n_0, hf, t_ref2]
      · rw [decide_eq_false hf]
        exact refBad hI (by omega)
  · have hlt := m1_nn hi
    rw [if_neg hi]
    by_cases h0 : nI 0 ≤ i
    · have hlt2 : ¬ i < Int32.ofInt (-1) := by rw [hlt]; exact fun q => q h0
      obtain ⟨k, hk, rfl⟩ := nn_of h0
      rw [decide_eq_true h0, Bool.true_and, nI_clamp (n := k) (by omega)]
      by_cases hf : isF (mn M.1) f = true
      · have hf' := hf
        obtain ⟨g, hg, rfl⟩ := isF_of (by omega) hf
        rw [if_pos hf', nI_clamp (n := g) (by omega)]
        by_cases hb : k < mu M.1
        · have h3 : ¬ mu M.1 ≤ k := by omega
          have e10 := r10 k hb
          have hU := hI.1.2.2.2.2.2.2.2.2.2.2 k hb
          refine ⟨I, V, J, ?_, hI⟩
          rw [if_neg hi, if_pos hb]
          simp (maxSteps := 2000000) (disch := omega) only [e_inl, e_goto, e_fall, e_if, e_icmp, e_iret, e_zret, e_lret, e_vret, e_call0_0, e_call0_1, e_call0_2, e_call0_3, e_call0_4, e_call1_0, e_call1_1, e_call1_2, e_call1_3, e_call1_4, e_call2_0, e_call2_1, e_call2_2, e_call2_3, e_call2_4, e_call3_0, e_call3_1, e_call3_2, e_call3_3, e_call3_4, e_call4_0, e_call4_1, e_call4_2, e_call4_3, e_call4_4, e_call5_0, e_call5_1, e_call5_2, e_call5_3, e_call5_4, e_call6_0, e_call6_1, e_call6_2, e_call6_3, e_call6_4, xP, xld, xst1, xst2, xis2, xii, xid, xll, xlv, xls, xlc, xil, xli, xrd, xdup, xdup2, xc1, xpu, c_eq, c_ne, c_lt, c_ge, c_gt, c_le, Option.bind_some, Option.map_some, List.length_nil, List.length_cons, Nat.reduceAdd, Nat.reduceLeDiff, Int.reduceToNat, Bool.and_self, Bool.false_eq_true, if_true, if_false, D171_17, D171_32, D171_47, D171_77, o_m, g_m_0, g_m_1, g_m_2, g_m_3, g_m_4, g_m_5, g_m_6, g_m_7, g_m_8, g_m_9, g_m_10, g_m_11, g_m_12, g_m_13, g_m_14, g_m_15, g_m_16, g_m_17, g_m_18, g_m_19, g_m_20, g_m_21, p_m_3, p_m_7, p_m_8, p_m_11, p_m_13, p_m_15, p_m_16, p_m_17, p_m_18, p_m_21, p_m_5_0, p_m_5_1, r_m0, s_m0, r_m1, s_m1, r_m2, s_m2, r_m4, s_m4, r_m6, s_m6, r_m9, s_m9, r_m10, s_m10, r_m12, s_m12, r_m14, s_m14, r_m19, s_m19, r_m20, s_m20, Nat.reduceEqDiff, decide_true, decide_false, Bool.true_and, Bool.false_and, Bool.and_true, Bool.and_false, zB_tt, zB_ff, not_false_eq_true, not_true_eq_false, n_lit, n_mul, nI_add, n_sub, x_in, nI_clamp, nI_ltI, nI_leI, nI_eq, and_self, true_and, and_true, hlt2, hi, t_isF r0, hf', n_0, Nat.one_ne_zero, r9, h3, e10, t_valueOf]
        · have h3 : mu M.1 ≤ k := by omega
          refine ⟨I, V, J, ?_, hI⟩
          rw [if_neg hi, if_neg hb]
          simp (maxSteps := 2000000) (disch := omega) only [e_inl, e_goto, e_fall, e_if, e_icmp, e_iret, e_zret, e_lret, e_vret, e_call0_0, e_call0_1, e_call0_2, e_call0_3, e_call0_4, e_call1_0, e_call1_1, e_call1_2, e_call1_3, e_call1_4, e_call2_0, e_call2_1, e_call2_2, e_call2_3, e_call2_4, e_call3_0, e_call3_1, e_call3_2, e_call3_3, e_call3_4, e_call4_0, e_call4_1, e_call4_2, e_call4_3, e_call4_4, e_call5_0, e_call5_1, e_call5_2, e_call5_3, e_call5_4, e_call6_0, e_call6_1, e_call6_2, e_call6_3, e_call6_4, xP, xld, xst1, xst2, xis2, xii, xid, xll, xlv, xls, xlc, xil, xli, xrd, xdup, xdup2, xc1, xpu, c_eq, c_ne, c_lt, c_ge, c_gt, c_le, Option.bind_some, Option.map_some, List.length_nil, List.length_cons, Nat.reduceAdd, Nat.reduceLeDiff, Int.reduceToNat, Bool.and_self, Bool.false_eq_true, if_true, if_false, D171_17, D171_32, D171_47, D171_75, D171_77, o_m, g_m_0, g_m_1, g_m_2, g_m_3, g_m_4, g_m_5, g_m_6, g_m_7, g_m_8, g_m_9, g_m_10, g_m_11, g_m_12, g_m_13, g_m_14, g_m_15, g_m_16, g_m_17, g_m_18, g_m_19, g_m_20, g_m_21, p_m_3, p_m_7, p_m_8, p_m_11, p_m_13, p_m_15, p_m_16, p_m_17, p_m_18, p_m_21, p_m_5_0, p_m_5_1, r_m0, s_m0, r_m1, s_m1, r_m2, s_m2, r_m4, s_m4, r_m6, s_m6, r_m9, s_m9, r_m10, s_m10, r_m12, s_m12, r_m14, s_m14, r_m19, s_m19, r_m20, s_m20, Nat.reduceEqDiff, decide_true, decide_false, Bool.true_and, Bool.false_and, Bool.and_true, Bool.and_false, zB_tt, zB_ff, not_false_eq_true, not_true_eq_false, n_lit, n_mul, nI_add, n_sub, x_in, nI_clamp, nI_ltI, nI_leI, nI_eq, and_self, true_and, and_true, hlt2, hi, t_isF r0, hf', n_0, Nat.one_ne_zero, r9, h3]
      · rw [if_neg hf]
        refine ⟨I, vf_upd V 4 (upd (V 4) 0 (V 4 0 + nI 1)), J, ?_, refBad hI (by omega)⟩
        have hf' := Bool.eq_false_iff.mpr hf
        simp (maxSteps := 2000000) (disch := omega) only [e_inl, e_goto, e_fall, e_if, e_icmp, e_iret, e_zret, e_lret, e_vret, e_call0_0, e_call0_1, e_call0_2, e_call0_3, e_call0_4, e_call1_0, e_call1_1, e_call1_2, e_call1_3, e_call1_4, e_call2_0, e_call2_1, e_call2_2, e_call2_3, e_call2_4, e_call3_0, e_call3_1, e_call3_2, e_call3_3, e_call3_4, e_call4_0, e_call4_1, e_call4_2, e_call4_3, e_call4_4, e_call5_0, e_call5_1, e_call5_2, e_call5_3, e_call5_4, e_call6_0, e_call6_1, e_call6_2, e_call6_3, e_call6_4, xP, xld, xst1, xst2, xis2, xii, xid, xll, xlv, xls, xlc, xil, xli, xrd, xdup, xdup2, xc1, xpu, c_eq, c_ne, c_lt, c_ge, c_gt, c_le, Option.bind_some, Option.map_some, List.length_nil, List.length_cons, Nat.reduceAdd, Nat.reduceLeDiff, Int.reduceToNat, Bool.and_self, Bool.false_eq_true, if_true, if_false, D171_17, D171_25, o_m, g_m_0, g_m_1, g_m_2, g_m_3, g_m_4, g_m_5, g_m_6, g_m_7, g_m_8, g_m_9, g_m_10, g_m_11, g_m_12, g_m_13, g_m_14, g_m_15, g_m_16, g_m_17, g_m_18, g_m_19, g_m_20, g_m_21, p_m_3, p_m_7, p_m_8, p_m_11, p_m_13, p_m_15, p_m_16, p_m_17, p_m_18, p_m_21, p_m_5_0, p_m_5_1, r_m0, s_m0, r_m1, s_m1, r_m2, s_m2, r_m4, s_m4, r_m6, s_m6, r_m9, s_m9, r_m10, s_m10, r_m12, s_m12, r_m14, s_m14, r_m19, s_m19, r_m20, s_m20, Nat.reduceEqDiff, decide_true, decide_false, Bool.true_and, Bool.false_and, Bool.and_true, Bool.and_false, zB_tt, zB_ff, not_false_eq_true, not_true_eq_false, n_lit, n_mul, nI_add, n_sub, x_in, nI_clamp, nI_ltI, nI_leI, nI_eq, and_self, true_and, and_true, hlt2, hi, t_isF r0, hf', n_0, t_ref2]
    · have hlt2 : i < Int32.ofInt (-1) := by rw [hlt]; exact h0
      rw [decide_eq_false h0, Bool.false_and, if_neg (by decide)]
      refine ⟨I, vf_upd V 4 (upd (V 4) 0 (V 4 0 + nI 1)), J, ?_, refBad hI (by omega)⟩
      simp (maxSteps := 2000000) (disch := omega) only [e_inl, e_goto, e_fall, e_if, e_icmp, e_iret, e_zret, e_lret, e_vret, e_call0_0, e_call0_1, e_call0_2, e_call0_3, e_call0_4, e_call1_0, e_call1_1, e_call1_2, e_call1_3, e_call1_4, e_call2_0, e_call2_1, e_call2_2, e_call2_3, e_call2_4, e_call3_0, e_call3_1, e_call3_2, e_call3_3, e_call3_4, e_call4_0, e_call4_1, e_call4_2, e_call4_3, e_call4_4, e_call5_0, e_call5_1, e_call5_2, e_call5_3, e_call5_4, e_call6_0, e_call6_1, e_call6_2, e_call6_3, e_call6_4, xP, xld, xst1, xst2, xis2, xii, xid, xll, xlv, xls, xlc, xil, xli, xrd, xdup, xdup2, xc1, xpu, c_eq, c_ne, c_lt, c_ge, c_gt, c_le, Option.bind_some, Option.map_some, List.length_nil, List.length_cons, Nat.reduceAdd, Nat.reduceLeDiff, Int.reduceToNat, Bool.and_self, Bool.false_eq_true, if_true, if_false, D171_25, o_m, g_m_0, g_m_1, g_m_2, g_m_3, g_m_4, g_m_5, g_m_6, g_m_7, g_m_8, g_m_9, g_m_10, g_m_11, g_m_12, g_m_13, g_m_14, g_m_15, g_m_16, g_m_17, g_m_18, g_m_19, g_m_20, g_m_21, p_m_3, p_m_7, p_m_8, p_m_11, p_m_13, p_m_15, p_m_16, p_m_17, p_m_18, p_m_21, p_m_5_0, p_m_5_1, r_m0, s_m0, r_m1, s_m1, r_m2, s_m2, r_m4, s_m4, r_m6, s_m6, r_m9, s_m9, r_m10, s_m10, r_m12, s_m12, r_m14, s_m14, r_m19, s_m19, r_m20, s_m20, Nat.reduceEqDiff, decide_true, decide_false, Bool.true_and, Bool.false_and, Bool.and_true, Bool.and_false, zB_tt, zB_ff, not_false_eq_true, not_true_eq_false, n_lit, n_mul, nI_add, n_sub, x_in, nI_clamp, nI_ltI, nI_leI, nI_eq, and_self, true_and, and_true, hlt2, t_ref2]
set_option maxRecDepth 100000 in
theorem R_type {M : mM} (hI : RefI M I V) (c : Int32) : ∃ (I' : Nat → Int32) (V' : Nat → Nat → Int32) (J' : Nat → Int64), xcall 172 [.ref 163, .int c] (hp q S P A D K X E Z I J V) = some (some (.int (oType M c).1), (hp q S P A D K X E Z (I') (J') (V'))) ∧ RefI (oType M c).2 I' V' := by
  have hI' := hI
  obtain ⟨i1, i2, i3, i4, i5, i6, ⟨t1, t2, t3⟩, i8⟩ := hI
  rw [N172 _ _ _ (o_m ..), D172_0]
  unfold oType
  by_cases hok : inB c (nI 0) (nI 127) = true
  · have hok' := hok
    obtain ⟨b, hb, rfl⟩ := inB_of (by decide) hok
    rw [if_pos hok', nI_clamp (n := b) (by omega)]
    by_cases h150 : M.2.2.2.1.1 = 150
    · rw [if_pos h150]
      refine ⟨I, vf_upd V 4 (upd (V 4) 2 (V 4 2 + nI 1)), J, ?_, refBad hI' (by omega)⟩
      rw [h150] at t2
      simp (maxSteps := 2000000) (disch := omega) only [e_inl, e_goto, e_fall, e_if, e_icmp, e_iret, e_zret, e_lret, e_vret, e_call0_0, e_call0_1, e_call0_2, e_call0_3, e_call0_4, e_call1_0, e_call1_1, e_call1_2, e_call1_3, e_call1_4, e_call2_0, e_call2_1, e_call2_2, e_call2_3, e_call2_4, e_call3_0, e_call3_1, e_call3_2, e_call3_3, e_call3_4, e_call4_0, e_call4_1, e_call4_2, e_call4_3, e_call4_4, e_call5_0, e_call5_1, e_call5_2, e_call5_3, e_call5_4, e_call6_0, e_call6_1, e_call6_2, e_call6_3, e_call6_4, xP, xld, xst1, xst2, xis2, xii, xid, xll, xlv, xls, xlc, xil, xli, xrd, xdup, xdup2, xc1, xpu, c_eq, c_ne, c_lt, c_ge, c_gt, c_le, Option.bind_some, Option.map_some, List.length_nil, List.length_cons, Nat.reduceAdd, Nat.reduceLeDiff, Int.reduceToNat, Bool.and_self, Bool.false_eq_true, if_true, if_false, D172_17, o_m, g_m_0, g_m_1, g_m_2, g_m_3, g_m_4, g_m_5, g_m_6, g_m_7, g_m_8, g_m_9, g_m_10, g_m_11, g_m_12, g_m_13, g_m_14, g_m_15, g_m_16, g_m_17, g_m_18, g_m_19, g_m_20, g_m_21, p_m_3, p_m_7, p_m_8, p_m_11, p_m_13, p_m_15, p_m_16, p_m_17, p_m_18, p_m_21, p_m_5_0, p_m_5_1, r_m0, s_m0, r_m1, s_m1, r_m2, s_m2, r_m4, s_m4, r_m6, s_m6, r_m9, s_m9, r_m10, s_m10, r_m12, s_m12, r_m14, s_m14, r_m19, s_m19, r_m20, s_m20, Nat.reduceEqDiff, decide_true, decide_false, Bool.true_and, Bool.false_and, Bool.and_true, Bool.and_false, zB_tt, zB_ff, not_false_eq_true, not_true_eq_false, n_lit, n_mul, nI_add, n_sub, x_in, nI_clamp, nI_ltI, nI_leI, nI_eq, and_self, true_and, and_true, t_inB, hok', n_0, Nat.one_ne_zero, t2, t_ref4]
    · rw [if_neg h150]
      generalize hT : M.2.2.2.1 = T at *
      refine ⟨upd I 15 (nI (T.1 + 1)), vf_upd V 14 (upd (V 14) T.1 (nI b)), J, ?_, i1, by rw [vu_n _ _ (by omega)]; exact i2, i3.of (fun k hk => u_n _ _ (by omega)) (fun k hk => vu_n _ _ (by omega)), i4, by rw [u_n _ _ (by omega)]; exact i5, by rw [vu_n _ _ (by omega)]; exact i6, ⟨?_, u_s _ _ _, fun i hi => ?_⟩, by rw [vu_n _ _ (by omega)]; exact i8⟩
      · simp (maxSteps := 2000000) (disch := omega) only [e_inl, e_goto, e_fall, e_if, e_icmp, e_iret, e_zret, e_lret, e_vret, e_call0_0, e_call0_1, e_call0_2, e_call0_3, e_call0_4, e_call1_0, e_call1_1, e_call1_2, e_call1_3, e_call1_4, e_call2_0, e_call2_1, e_call2_2, e_call2_3, e_call2_4, e_call3_0, e_call3_1, e_call3_2, e_call3_3, e_call3_4, e_call4_0, e_call4_1, e_call4_2, e_call4_3, e_call4_4, e_call5_0, e_call5_1, e_call5_2, e_call5_3, e_call5_4, e_call6_0, e_call6_1, e_call6_2, e_call6_3, e_call6_4, xP, xld, xst1, xst2, xis2, xii, xid, xll, xlv, xls, xlc, xil, xli, xrd, xdup, xdup2, xc1, xpu, c_eq, c_ne, c_lt, c_ge, c_gt, c_le, Option.bind_some, Option.map_some, List.length_nil, List.length_cons, Nat.reduceAdd, Nat.reduceLeDiff, Int.reduceToNat, Bool.and_self, Bool.false_eq_true, if_true, if_false, D172_17, D172_34, o_m, g_m_0, g_m_1, g_m_2, g_m_3, g_m_4, g_m_5, g_m_6, g_m_7, g_m_8, g_m_9, g_m_10, g_m_11, g_m_12, g_m_13, g_m_14, g_m_15, g_m_16, g_m_17, g_m_18, g_m_19, g_m_20, g_m_21, p_m_3, p_m_7, p_m_8, p_m_11, p_m_13, p_m_15, p_m_16, p_m_17, p_m_18, p_m_21, p_m_5_0, p_m_5_1, r_m0, s_m0, r_m1, s_m1, r_m2, s_m2, r_m4, s_m4, r_m6, s_m6, r_m9, s_m9, r_m10, s_m10, r_m12, s_m12, r_m14, s_m14, r_m19, s_m19, r_m20, s_m20, Nat.reduceEqDiff, decide_true, decide_false, Bool.true_and, Bool.false_and, Bool.and_true, Bool.and_false, zB_tt, zB_ff, not_false_eq_true, not_true_eq_false, n_lit, n_mul, nI_add, n_sub, x_in, nI_clamp, nI_ltI, nI_leI, nI_eq, and_self, true_and, and_true, t_inB, hok', n_0, Nat.one_ne_zero, t2, h150, u_s]
      · show T.1 + 1 ≤ 150
        omega
      · have hi : i < T.1 + 1 := hi
        rw [vu_s]
        show upd (V 14) T.1 (nI b) i = nI (if i = T.1 then b else T.2 i) ∧ (if i = T.1 then b else T.2 i) < 128
        by_cases e : i = T.1
        · subst e
          rw [u_s, if_pos rfl]
          exact ⟨rfl, by omega⟩
        · rw [u_n _ _ e, if_neg e]
          exact t3 i (by omega)
  · rw [if_neg hok]
    have hok' := Bool.eq_false_iff.mpr hok
    refine ⟨I, vf_upd V 4 (upd (V 4) 0 (V 4 0 + nI 1)), J, ?_, refBad hI' (by omega)⟩
    simp (maxSteps := 2000000) (disch := omega) only [e_inl, e_goto, e_fall, e_if, e_icmp, e_iret, e_zret, e_lret, e_vret, e_call0_0, e_call0_1, e_call0_2, e_call0_3, e_call0_4, e_call1_0, e_call1_1, e_call1_2, e_call1_3, e_call1_4, e_call2_0, e_call2_1, e_call2_2, e_call2_3, e_call2_4, e_call3_0, e_call3_1, e_call3_2, e_call3_3, e_call3_4, e_call4_0, e_call4_1, e_call4_2, e_call4_3, e_call4_4, e_call5_0, e_call5_1, e_call5_2, e_call5_3, e_call5_4, e_call6_0, e_call6_1, e_call6_2, e_call6_3, e_call6_4, xP, xld, xst1, xst2, xis2, xii, xid, xll, xlv, xls, xlc, xil, xli, xrd, xdup, xdup2, xc1, xpu, c_eq, c_ne, c_lt, c_ge, c_gt, c_le, Option.bind_some, Option.map_some, List.length_nil, List.length_cons, Nat.reduceAdd, Nat.reduceLeDiff, Int.reduceToNat, Bool.and_self, Bool.false_eq_true, if_true, if_false, o_m, g_m_0, g_m_1, g_m_2, g_m_3, g_m_4, g_m_5, g_m_6, g_m_7, g_m_8, g_m_9, g_m_10, g_m_11, g_m_12, g_m_13, g_m_14, g_m_15, g_m_16, g_m_17, g_m_18, g_m_19, g_m_20, g_m_21, p_m_3, p_m_7, p_m_8, p_m_11, p_m_13, p_m_15, p_m_16, p_m_17, p_m_18, p_m_21, p_m_5_0, p_m_5_1, r_m0, s_m0, r_m1, s_m1, r_m2, s_m2, r_m4, s_m4, r_m6, s_m6, r_m9, s_m9, r_m10, s_m10, r_m12, s_m12, r_m14, s_m14, r_m19, s_m19, r_m20, s_m20, Nat.reduceEqDiff, decide_true, decide_false, Bool.true_and, Bool.false_and, Bool.and_true, Bool.and_false, zB_tt, zB_ff, not_false_eq_true, not_true_eq_false, n_lit, n_mul, nI_add, n_sub, x_in, nI_clamp, nI_ltI, nI_leI, nI_eq, and_self, true_and, and_true, t_inB, hok', n_0, t_ref2]
set_option maxRecDepth 100000 in
theorem R_clear {M : mM} (hI : RefI M I V) : ∃ (I' : Nat → Int32) (V' : Nat → Nat → Int32) (J' : Nat → Int64), xcall 173 [.ref 163] (hp q S P A D K X E Z I J V) = some (some (.int (oClear M).1), (hp q S P A D K X E Z (I') (J') (V'))) ∧ RefI (oClear M).2 I' V' := by
  obtain ⟨i1, i2, i3, i4, i5, i6, ⟨t1, t2, t3⟩, i8⟩ := hI
  refine ⟨upd I 15 (nI 0), V, J, ?_, i1, i2, i3.of (fun k hk => u_n _ _ (by omega)) (fun k hk => rfl), i4, by rw [u_n _ _ (by omega)]; exact i5, i6, ⟨Nat.zero_le _, u_s _ _ _, fun i hi => absurd hi (Nat.not_lt_zero i)⟩, i8⟩
  rw [N173 _ _ (o_m ..)]
  simp (maxSteps := 2000000) (disch := omega) only [e_inl, e_goto, e_fall, e_if, e_icmp, e_iret, e_zret, e_lret, e_vret, e_call0_0, e_call0_1, e_call0_2, e_call0_3, e_call0_4, e_call1_0, e_call1_1, e_call1_2, e_call1_3, e_call1_4, e_call2_0, e_call2_1, e_call2_2, e_call2_3, e_call2_4, e_call3_0, e_call3_1, e_call3_2, e_call3_3, e_call3_4, e_call4_0, e_call4_1, e_call4_2, e_call4_3, e_call4_4, e_call5_0, e_call5_1, e_call5_2, e_call5_3, e_call5_4, e_call6_0, e_call6_1, e_call6_2, e_call6_3, e_call6_4, xP, xld, xst1, xst2, xis2, xii, xid, xll, xlv, xls, xlc, xil, xli, xrd, xdup, xdup2, xc1, xpu, c_eq, c_ne, c_lt, c_ge, c_gt, c_le, Option.bind_some, Option.map_some, List.length_nil, List.length_cons, Nat.reduceAdd, Nat.reduceLeDiff, Int.reduceToNat, Bool.and_self, Bool.false_eq_true, if_true, if_false, D173_0, o_m, g_m_0, g_m_1, g_m_2, g_m_3, g_m_4, g_m_5, g_m_6, g_m_7, g_m_8, g_m_9, g_m_10, g_m_11, g_m_12, g_m_13, g_m_14, g_m_15, g_m_16, g_m_17, g_m_18, g_m_19, g_m_20, g_m_21, p_m_3, p_m_7, p_m_8, p_m_11, p_m_13, p_m_15, p_m_16, p_m_17, p_m_18, p_m_21, p_m_5_0, p_m_5_1, r_m0, s_m0, r_m1, s_m1, r_m2, s_m2, r_m4, s_m4, r_m6, s_m6, r_m9, s_m9, r_m10, s_m10, r_m12, s_m12, r_m14, s_m14, r_m19, s_m19, r_m20, s_m20, Nat.reduceEqDiff, decide_true, decide_false, Bool.true_and, Bool.false_and, Bool.and_true, Bool.and_false, zB_tt, zB_ff, not_false_eq_true, not_true_eq_false, n_lit, n_mul, nI_add, n_sub, x_in, nI_clamp, nI_ltI, nI_leI, nI_eq, and_self, true_and, and_true, t2, oClear]
set_option maxRecDepth 100000 in
theorem t_toldOf {M : mM} (hI : RefI M I V) {w : Nat} (hw : w ≤ 6) : xcall 182 [.ref 163, .int (nI w)] (hp q S P A D K X E Z I J V) = some (some (.int (tdI M w)), (hp q S P A D K X E Z I J V)) := by
  obtain ⟨i1, i2, i3, i4, i5, i6, ⟨t1, t2, t3⟩, i8⟩ := hI
  have r0 := i2.1
  have r57 := i2.2.2.2.2.2.1
  rw [N182 _ _ _ (o_m ..), D182_0]
  unfold tdI
  by_cases h3 : w < 3
  · have h4 : ¬ 3 ≤ w := by omega
    have e4 := i8 w h3
    rw [if_pos h3]
    simp (maxSteps := 2000000) (disch := omega) only [e_inl, e_goto, e_fall, e_if, e_icmp, e_iret, e_zret, e_lret, e_vret, e_call0_0, e_call0_1, e_call0_2, e_call0_3, e_call0_4, e_call1_0, e_call1_1, e_call1_2, e_call1_3, e_call1_4, e_call2_0, e_call2_1, e_call2_2, e_call2_3, e_call2_4, e_call3_0, e_call3_1, e_call3_2, e_call3_3, e_call3_4, e_call4_0, e_call4_1, e_call4_2, e_call4_3, e_call4_4, e_call5_0, e_call5_1, e_call5_2, e_call5_3, e_call5_4, e_call6_0, e_call6_1, e_call6_2, e_call6_3, e_call6_4, xP, xld, xst1, xst2, xis2, xii, xid, xll, xlv, xls, xlc, xil, xli, xrd, xdup, xdup2, xc1, xpu, c_eq, c_ne, c_lt, c_ge, c_gt, c_le, Option.bind_some, Option.map_some, List.length_nil, List.length_cons, Nat.reduceAdd, Nat.reduceLeDiff, Int.reduceToNat, Bool.and_self, Bool.false_eq_true, if_true, if_false, D182_59, o_m, g_m_0, g_m_1, g_m_2, g_m_3, g_m_4, g_m_5, g_m_6, g_m_7, g_m_8, g_m_9, g_m_10, g_m_11, g_m_12, g_m_13, g_m_14, g_m_15, g_m_16, g_m_17, g_m_18, g_m_19, g_m_20, g_m_21, p_m_3, p_m_7, p_m_8, p_m_11, p_m_13, p_m_15, p_m_16, p_m_17, p_m_18, p_m_21, p_m_5_0, p_m_5_1, r_m0, s_m0, r_m1, s_m1, r_m2, s_m2, r_m4, s_m4, r_m6, s_m6, r_m9, s_m9, r_m10, s_m10, r_m12, s_m12, r_m14, s_m14, r_m19, s_m19, r_m20, s_m20, Nat.reduceEqDiff, decide_true, decide_false, Bool.true_and, Bool.false_and, Bool.and_true, Bool.and_false, zB_tt, zB_ff, not_false_eq_true, not_true_eq_false, n_lit, n_mul, nI_add, n_sub, x_in, nI_clamp, nI_ltI, nI_leI, nI_eq, and_self, true_and, and_true, h4, e4]
  · have h4 : 3 ≤ w := by omega
    rw [if_neg h3]
    by_cases e3 : w = 3
    · rw [if_pos e3]
      simp (maxSteps := 2000000) (disch := omega) only [e_inl, e_goto, e_fall, e_if, e_icmp, e_iret, e_zret, e_lret, e_vret, e_call0_0, e_call0_1, e_call0_2, e_call0_3, e_call0_4, e_call1_0, e_call1_1, e_call1_2, e_call1_3, e_call1_4, e_call2_0, e_call2_1, e_call2_2, e_call2_3, e_call2_4, e_call3_0, e_call3_1, e_call3_2, e_call3_3, e_call3_4, e_call4_0, e_call4_1, e_call4_2, e_call4_3, e_call4_4, e_call5_0, e_call5_1, e_call5_2, e_call5_3, e_call5_4, e_call6_0, e_call6_1, e_call6_2, e_call6_3, e_call6_4, xP, xld, xst1, xst2, xis2, xii, xid, xll, xlv, xls, xlc, xil, xli, xrd, xdup, xdup2, xc1, xpu, c_eq, c_ne, c_lt, c_ge, c_gt, c_le, Option.bind_some, Option.map_some, List.length_nil, List.length_cons, Nat.reduceAdd, Nat.reduceLeDiff, Int.reduceToNat, Bool.and_self, Bool.false_eq_true, if_true, if_false, D182_14, D182_59, o_m, g_m_0, g_m_1, g_m_2, g_m_3, g_m_4, g_m_5, g_m_6, g_m_7, g_m_8, g_m_9, g_m_10, g_m_11, g_m_12, g_m_13, g_m_14, g_m_15, g_m_16, g_m_17, g_m_18, g_m_19, g_m_20, g_m_21, p_m_3, p_m_7, p_m_8, p_m_11, p_m_13, p_m_15, p_m_16, p_m_17, p_m_18, p_m_21, p_m_5_0, p_m_5_1, r_m0, s_m0, r_m1, s_m1, r_m2, s_m2, r_m4, s_m4, r_m6, s_m6, r_m9, s_m9, r_m10, s_m10, r_m12, s_m12, r_m14, s_m14, r_m19, s_m19, r_m20, s_m20, Nat.reduceEqDiff, decide_true, decide_false, Bool.true_and, Bool.false_and, Bool.and_true, Bool.and_false, zB_tt, zB_ff, not_false_eq_true, not_true_eq_false, n_lit, n_mul, nI_add, n_sub, x_in, nI_clamp, nI_ltI, nI_leI, nI_eq, and_self, true_and, and_true, h4, e3, t2]
    · rw [if_neg e3]
      by_cases e4 : w = 4
      · rw [if_pos e4]
        simp (maxSteps := 2000000) (disch := omega) only [e_inl, e_goto, e_fall, e_if, e_icmp, e_iret, e_zret, e_lret, e_vret, e_call0_0, e_call0_1, e_call0_2, e_call0_3, e_call0_4, e_call1_0, e_call1_1, e_call1_2, e_call1_3, e_call1_4, e_call2_0, e_call2_1, e_call2_2, e_call2_3, e_call2_4, e_call3_0, e_call3_1, e_call3_2, e_call3_3, e_call3_4, e_call4_0, e_call4_1, e_call4_2, e_call4_3, e_call4_4, e_call5_0, e_call5_1, e_call5_2, e_call5_3, e_call5_4, e_call6_0, e_call6_1, e_call6_2, e_call6_3, e_call6_4, xP, xld, xst1, xst2, xis2, xii, xid, xll, xlv, xls, xlc, xil, xli, xrd, xdup, xdup2, xc1, xpu, c_eq, c_ne, c_lt, c_ge, c_gt, c_le, Option.bind_some, Option.map_some, List.length_nil, List.length_cons, Nat.reduceAdd, Nat.reduceLeDiff, Int.reduceToNat, Bool.and_self, Bool.false_eq_true, if_true, if_false, D182_14, D182_26, D182_59, o_m, g_m_0, g_m_1, g_m_2, g_m_3, g_m_4, g_m_5, g_m_6, g_m_7, g_m_8, g_m_9, g_m_10, g_m_11, g_m_12, g_m_13, g_m_14, g_m_15, g_m_16, g_m_17, g_m_18, g_m_19, g_m_20, g_m_21, p_m_3, p_m_7, p_m_8, p_m_11, p_m_13, p_m_15, p_m_16, p_m_17, p_m_18, p_m_21, p_m_5_0, p_m_5_1, r_m0, s_m0, r_m1, s_m1, r_m2, s_m2, r_m4, s_m4, r_m6, s_m6, r_m9, s_m9, r_m10, s_m10, r_m12, s_m12, r_m14, s_m14, r_m19, s_m19, r_m20, s_m20, Nat.reduceEqDiff, decide_true, decide_false, Bool.true_and, Bool.false_and, Bool.and_true, Bool.and_false, zB_tt, zB_ff, not_false_eq_true, not_true_eq_false, n_lit, n_mul, nI_add, n_sub, x_in, nI_clamp, nI_ltI, nI_leI, nI_eq, and_self, true_and, and_true, h4, e3, e4, r0]
      · rw [if_neg e4]
        by_cases e5 : w = 5
        · rw [if_pos e5]
          simp (maxSteps := 2000000) (disch := omega) only [e_inl, e_goto, e_fall, e_if, e_icmp, e_iret, e_zret, e_lret, e_vret, e_call0_0, e_call0_1, e_call0_2, e_call0_3, e_call0_4, e_call1_0, e_call1_1, e_call1_2, e_call1_3, e_call1_4, e_call2_0, e_call2_1, e_call2_2, e_call2_3, e_call2_4, e_call3_0, e_call3_1, e_call3_2, e_call3_3, e_call3_4, e_call4_0, e_call4_1, e_call4_2, e_call4_3, e_call4_4, e_call5_0, e_call5_1, e_call5_2, e_call5_3, e_call5_4, e_call6_0, e_call6_1, e_call6_2, e_call6_3, e_call6_4, xP, xld, xst1, xst2, xis2, xii, xid, xll, xlv, xls, xlc, xil, xli, xrd, xdup, xdup2, xc1, xpu, c_eq, c_ne, c_lt, c_ge, c_gt, c_le, Option.bind_some, Option.map_some, List.length_nil, List.length_cons, Nat.reduceAdd, Nat.reduceLeDiff, Int.reduceToNat, Bool.and_self, Bool.false_eq_true, if_true, if_false, D182_14, D182_26, D182_40, D182_59, o_m, g_m_0, g_m_1, g_m_2, g_m_3, g_m_4, g_m_5, g_m_6, g_m_7, g_m_8, g_m_9, g_m_10, g_m_11, g_m_12, g_m_13, g_m_14, g_m_15, g_m_16, g_m_17, g_m_18, g_m_19, g_m_20, g_m_21, p_m_3, p_m_7, p_m_8, p_m_11, p_m_13, p_m_15, p_m_16, p_m_17, p_m_18, p_m_21, p_m_5_0, p_m_5_1, r_m0, s_m0, r_m1, s_m1, r_m2, s_m2, r_m4, s_m4, r_m6, s_m6, r_m9, s_m9, r_m10, s_m10, r_m12, s_m12, r_m14, s_m14, r_m19, s_m19, r_m20, s_m20, Nat.reduceEqDiff, decide_true, decide_false, Bool.true_and, Bool.false_and, Bool.and_true, Bool.and_false, zB_tt, zB_ff, not_false_eq_true, not_true_eq_false, n_lit, n_mul, nI_add, n_sub, x_in, nI_clamp, nI_ltI, nI_leI, nI_eq, and_self, true_and, and_true, h4, e3, e4, e5, r57]
        · rw [if_neg e5]
          simp (maxSteps := 2000000) (disch := omega) only [e_inl, e_goto, e_fall, e_if, e_icmp, e_iret, e_zret, e_lret, e_vret, e_call0_0, e_call0_1, e_call0_2, e_call0_3, e_call0_4, e_call1_0, e_call1_1, e_call1_2, e_call1_3, e_call1_4, e_call2_0, e_call2_1, e_call2_2, e_call2_3, e_call2_4, e_call3_0, e_call3_1, e_call3_2, e_call3_3, e_call3_4, e_call4_0, e_call4_1, e_call4_2, e_call4_3, e_call4_4, e_call5_0, e_call5_1, e_call5_2, e_call5_3, e_call5_4, e_call6_0, e_call6_1, e_call6_2, e_call6_3, e_call6_4, xP, xld, xst1, xst2, xis2, xii, xid, xll, xlv, xls, xlc, xil, xli, xrd, xdup, xdup2, xc1, xpu, c_eq, c_ne, c_lt, c_ge, c_gt, c_le, Option.bind_some, Option.map_some, List.length_nil, List.length_cons, Nat.reduceAdd, Nat.reduceLeDiff, Int.reduceToNat, Bool.and_self, Bool.false_eq_true, if_true, if_false, D182_14, D182_26, D182_40, D182_55, D182_59, o_m, g_m_0, g_m_1, g_m_2, g_m_3, g_m_4, g_m_5, g_m_6, g_m_7, g_m_8, g_m_9, g_m_10, g_m_11, g_m_12, g_m_13, g_m_14, g_m_15, g_m_16, g_m_17, g_m_18, g_m_19, g_m_20, g_m_21, p_m_3, p_m_7, p_m_8, p_m_11, p_m_13, p_m_15, p_m_16, p_m_17, p_m_18, p_m_21, p_m_5_0, p_m_5_1, r_m0, s_m0, r_m1, s_m1, r_m2, s_m2, r_m4, s_m4, r_m6, s_m6, r_m9, s_m9, r_m10, s_m10, r_m12, s_m12, r_m14, s_m14, r_m19, s_m19, r_m20, s_m20, Nat.reduceEqDiff, decide_true, decide_false, Bool.true_and, Bool.false_and, Bool.and_true, Bool.and_false, zB_tt, zB_ff, not_false_eq_true, not_true_eq_false, n_lit, n_mul, nI_add, n_sub, x_in, nI_clamp, nI_ltI, nI_leI, nI_eq, and_self, true_and, and_true, h4, e3, e4, e5, i5]
set_option maxRecDepth 100000 in
theorem R_told {M : mM} (hI : RefI M I V) (w : Int32) : ∃ (I' : Nat → Int32) (V' : Nat → Nat → Int32) (J' : Nat → Int64), xcall 183 [.ref 163, .int w] (hp q S P A D K X E Z I J V) = some (some (.int (oTold M w).1), (hp q S P A D K X E Z (I') (J') (V'))) ∧ RefI (oTold M w).2 I' V' := by
  rw [N183 _ _ _ (o_m ..), D183_0]
  unfold oTold
  by_cases hok : inB w (nI 0) (nI 6) = true
  · have hok' := hok
    obtain ⟨b, hb, rfl⟩ := inB_of (by decide) hok
    rw [if_pos hok', nI_clamp (n := b) (by omega)]
    refine ⟨I, V, J, ?_, hI⟩
    simp (maxSteps := 2000000) (disch := omega) only [e_inl, e_goto, e_fall, e_if, e_icmp, e_iret, e_zret, e_lret, e_vret, e_call0_0, e_call0_1, e_call0_2, e_call0_3, e_call0_4, e_call1_0, e_call1_1, e_call1_2, e_call1_3, e_call1_4, e_call2_0, e_call2_1, e_call2_2, e_call2_3, e_call2_4, e_call3_0, e_call3_1, e_call3_2, e_call3_3, e_call3_4, e_call4_0, e_call4_1, e_call4_2, e_call4_3, e_call4_4, e_call5_0, e_call5_1, e_call5_2, e_call5_3, e_call5_4, e_call6_0, e_call6_1, e_call6_2, e_call6_3, e_call6_4, xP, xld, xst1, xst2, xis2, xii, xid, xll, xlv, xls, xlc, xil, xli, xrd, xdup, xdup2, xc1, xpu, c_eq, c_ne, c_lt, c_ge, c_gt, c_le, Option.bind_some, Option.map_some, List.length_nil, List.length_cons, Nat.reduceAdd, Nat.reduceLeDiff, Int.reduceToNat, Bool.and_self, Bool.false_eq_true, if_true, if_false, D183_24, o_m, g_m_0, g_m_1, g_m_2, g_m_3, g_m_4, g_m_5, g_m_6, g_m_7, g_m_8, g_m_9, g_m_10, g_m_11, g_m_12, g_m_13, g_m_14, g_m_15, g_m_16, g_m_17, g_m_18, g_m_19, g_m_20, g_m_21, p_m_3, p_m_7, p_m_8, p_m_11, p_m_13, p_m_15, p_m_16, p_m_17, p_m_18, p_m_21, p_m_5_0, p_m_5_1, r_m0, s_m0, r_m1, s_m1, r_m2, s_m2, r_m4, s_m4, r_m6, s_m6, r_m9, s_m9, r_m10, s_m10, r_m12, s_m12, r_m14, s_m14, r_m19, s_m19, r_m20, s_m20, Nat.reduceEqDiff, decide_true, decide_false, Bool.true_and, Bool.false_and, Bool.and_true, Bool.and_false, zB_tt, zB_ff, not_false_eq_true, not_true_eq_false, n_lit, n_mul, nI_add, n_sub, x_in, nI_clamp, nI_ltI, nI_leI, nI_eq, and_self, true_and, and_true, t_inB, hok', n_0, Nat.one_ne_zero, t_toldOf hI hb]
  · rw [if_neg hok]
    have hok' := Bool.eq_false_iff.mpr hok
    refine ⟨I, vf_upd V 4 (upd (V 4) 0 (V 4 0 + nI 1)), J, ?_, refBad hI (by omega)⟩
    simp (maxSteps := 2000000) (disch := omega) only [e_inl, e_goto, e_fall, e_if, e_icmp, e_iret, e_zret, e_lret, e_vret, e_call0_0, e_call0_1, e_call0_2, e_call0_3, e_call0_4, e_call1_0, e_call1_1, e_call1_2, e_call1_3, e_call1_4, e_call2_0, e_call2_1, e_call2_2, e_call2_3, e_call2_4, e_call3_0, e_call3_1, e_call3_2, e_call3_3, e_call3_4, e_call4_0, e_call4_1, e_call4_2, e_call4_3, e_call4_4, e_call5_0, e_call5_1, e_call5_2, e_call5_3, e_call5_4, e_call6_0, e_call6_1, e_call6_2, e_call6_3, e_call6_4, xP, xld, xst1, xst2, xis2, xii, xid, xll, xlv, xls, xlc, xil, xli, xrd, xdup, xdup2, xc1, xpu, c_eq, c_ne, c_lt, c_ge, c_gt, c_le, Option.bind_some, Option.map_some, List.length_nil, List.length_cons, Nat.reduceAdd, Nat.reduceLeDiff, Int.reduceToNat, Bool.and_self, Bool.false_eq_true, if_true, if_false, D183_18, D183_24, o_m, g_m_0, g_m_1, g_m_2, g_m_3, g_m_4, g_m_5, g_m_6, g_m_7, g_m_8, g_m_9, g_m_10, g_m_11, g_m_12, g_m_13, g_m_14, g_m_15, g_m_16, g_m_17, g_m_18, g_m_19, g_m_20, g_m_21, p_m_3, p_m_7, p_m_8, p_m_11, p_m_13, p_m_15, p_m_16, p_m_17, p_m_18, p_m_21, p_m_5_0, p_m_5_1, r_m0, s_m0, r_m1, s_m1, r_m2, s_m2, r_m4, s_m4, r_m6, s_m6, r_m9, s_m9, r_m10, s_m10, r_m12, s_m12, r_m14, s_m14, r_m19, s_m19, r_m20, s_m20, Nat.reduceEqDiff, decide_true, decide_false, Bool.true_and, Bool.false_and, Bool.and_true, Bool.and_false, zB_tt, zB_ff, not_false_eq_true, not_true_eq_false, n_lit, n_mul, nI_add, n_sub, x_in, nI_clamp, nI_ltI, nI_leI, nI_eq, and_self, true_and, and_true, t_inB, hok', n_0, t_ref2]
end
