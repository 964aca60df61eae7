/-! ===== public calls of the reference (1): orders, back ===== -/
/-- the order with the field at place w brought to place p -/
def ixO (w p j : Nat) : Nat := if j = p then w else if w ≤ p then (if w ≤ j ∧ j < p then j + 1 else j) else (if p < j ∧ j ≤ w then j - 1 else j)
def orS (σ : mS) (f p : Nat) : mS := (mn σ, mF σ, mW σ, fun j => mO σ (ixO (plc σ f) p j), σ.2.2.2.2)
theorem ixO_lt {w p j n : Nat} (hw : w < n) (hp1 : p < n) (hj : j < n) : ixO w p j < n := by
  unfold ixO
  split
  · exact hw
  · split
    · split <;> omega
    · split <;> omega
theorem ixO_ne {w p i j : Nat} (h : i ≠ j) : ixO w p i ≠ ixO w p j := by
  unfold ixO
  repeat' split
  all_goals omega
theorem orS_wf {σ : mS} (hw : wf σ) {f p : Nat} (hf : f < mn σ) (hp1 : p < mn σ) : wf (orS σ f p) := by
  obtain ⟨q1, -, -⟩ := plc_lt hw hf
  obtain ⟨w1, w2, w3, w4, w5, w6, w7⟩ := hw
  refine ⟨w1, w2, w3, w4, fun j hj => w5 _ (ixO_lt q1 hp1 hj), fun i j hij hj => ?_, w7⟩
  have hj : j < mn σ := hj
  have hi : i < mn σ := by omega
  have h1 := ixO_lt (j := i) q1 hp1 hi
  have h2 := ixO_lt (j := j) q1 hp1 hj
  have hne := ixO_ne (w := plc σ f) (p := p) (show i ≠ j by omega)
  show mO σ (ixO (plc σ f) p i) ≠ mO σ (ixO (plc σ f) p j)
  rcases Nat.lt_or_gt_of_ne hne with h | h
  · exact w6 _ _ h h2
  · exact (w6 _ _ h h1).symm
def dP (σ : mS) (f p : Int32) : Int32 × mS := if (isF (mn σ) f && isF (mn σ) p) = true then (nI (plc σ f.toNatClampNeg), orS σ f.toNatClampNeg p.toNatClampNeg) else (Int32.ofInt (-2), σ)
theorem dP_wf {σ : mS} (hw : wf σ) (f p : Int32) : wf (dP σ f p).2 := by
  have := hw.1
  unfold dP
  split
  · rename_i hok
    rw [Bool.and_eq_true] at hok
    obtain ⟨g, hg, rfl⟩ := isF_of (by omega) hok.1
    obtain ⟨u, hu, rfl⟩ := isF_of (by omega) hok.2
    rw [nI_clamp (by omega), nI_clamp (by omega)]
    exact orS_wf hw hg hu
  · exact hw
theorem dP_ok {σ : mS} (hw : wf σ) (f p : Int32) : okA (dP σ f p).1 := by
  have := hw.1
  unfold dP
  split
  · rename_i hok
    rw [Bool.and_eq_true] at hok
    obtain ⟨g, hg, rfl⟩ := isF_of (by omega) hok.1
    refine Or.inr (Or.inr (Or.inr ⟨_, ?_, rfl⟩))
    rw [nI_clamp (by omega)]
    have := (plc_lt hw hg).1
    omega
  · exact Or.inl rfl
theorem or_rp {σ : mS} (hw : wf σ) {a : Nat → Int32} (hr : rpA σ a) {f p : Nat} (hf : f < mn σ) (hp1 : p < mn σ) : rpA (orS σ f p) (ordA a (plc σ f) p (nI f)) := by
  have w1 := hw.1
  have w7 := hw.2.2.2.2.2.2.1
  obtain ⟨q1, q2, -⟩ := plc_lt hw hf
  obtain ⟨r0, r1, r2, r3, r5, r6, r7, r8, r9, r10⟩ := hr
  have hu : ∀ j, j < 53 ∨ 57 ≤ j → ordA a (plc σ f) p (nI f) j = a j := by
    intro j hj
    unfold ordA
    rw [u_n _ _ (by omega)]
    split
    · exact if_neg (by omega)
    · exact if_neg (by omega)
  refine ⟨?_, fun g j hg hj => ?_, fun g hg => ?_, fun g v hg hv => ?_, fun j hj => ?_, ?_, fun k i hk hi => ?_, fun k hk => ?_, ?_, fun i hi => ?_⟩
  · rw [hu _ (by omega)]; exact r0
  · have hg : g < mn σ := hg
    rw [hu _ (by omega)]; exact r1 g j hg hj
  · have hg : g < mn σ := hg
    rw [hu _ (by omega)]; exact r2 g hg
  · have hg : g < mn σ := hg
    rw [hu _ (by omega)]; exact r3 g v hg hv
  · have hj : j < mn σ := hj
    show _ = nI (mO σ (ixO (plc σ f) p j))
    unfold ordA ixO
    by_cases e : j = p
    · subst e
      rw [u_s, if_pos rfl, q2]
    · rw [u_n _ _ (by omega), if_neg e]
      by_cases e1 : plc σ f ≤ p
      · rw [if_pos e1, if_pos e1]
        unfold upA
        by_cases e2 : plc σ f ≤ j ∧ j < p
        · rw [if_pos (by omega), if_pos e2, Nat.add_assoc]
          exact r5 (j + 1) (by omega)
        · rw [if_neg (by omega), if_neg e2]
          exact r5 j hj
      · rw [if_neg e1, if_neg e1]
        unfold dnA
        by_cases e2 : p < j ∧ j ≤ plc σ f
        · rw [if_pos (by omega), if_pos e2, show 53 + j - 1 = 53 + (j - 1) by omega]
          exact r5 (j - 1) (by omega)
        · rw [if_neg (by omega), if_neg e2]
          exact r5 j hj
  · rw [hu _ (by omega)]; exact r6
  · rw [hu _ (by omega)]; exact r7 k i hk hi
  · rw [hu _ (by omega)]; exact r8 k hk
  · rw [hu _ (by omega)]; exact r9
  · rw [hu _ (by omega)]; exact r10 i hi
theorem held_rp {σ : mS} (hw : wf σ) {V : Nat → Nat → Int32} (hr : rpA σ (V 0)) : rpA σ (fa_fill (V 0) (V 1) 115) := rpA_cong hw (fun j hj => fa_fill_in hj) hr
section
variable {q : Nat × (Nat → Int32)} {S : Nat → xSt} {P : Int32 × (Nat → Nat)} {A : (Nat → Int64) × Int32 × Int32 × (Nat → Int64) × (Nat → Nat → Int64)} {D : (Nat → Int64) × Int64} {K : Nat → Int64} {X : Int32 × Int32 × Int32 × (Nat → Int32) × (Nat → Int32)} {E Z : Nat → Int32} {I : Nat → Int32} {J : Nat → Int64} {V : Nat → Nat → Int32}
/-! a call of an order: what follows of the order alone -/
set_option maxRecDepth 100000 in
theorem t_pub {M : mM} {d : Int32 × mS} (hI : RefI M I V) (hw : wf d.2) (ha : okA d.1) {I1 : Nat → Int32} {J1 : Nat → Int64} {V1 : Nat → Nat → Int32} (hr : rpA d.2 (V1 0)) (hL : LayI d.2 I1 V1) (hD : DF I I1 (vf_upd V 1 (fa_fill (V 0) (V 1) 115)) V1) : ∃ (I' : Nat → Int32) (V' : Nat → Nat → Int32), xcall 115 [.ref 163, .int d.1] (hp q S P A D K X E Z (I1) (J1) (V1)) = some (some (.int d.1), (hp q S P A D K X E Z (I') (J1) (V'))) ∧ RefI (fin M d) I' V' := by
  have hI' := hI
  obtain ⟨i1, i2, i3, i4, i5, i6, i7, i8⟩ := hI
  have v2 : V1 2 = V 2 := by rw [hD.2 2 (by omega) (by omega) (by omega) (by omega) (by omega)]; exact vu_n _ _ (by omega)
  have v1 : V1 1 = fa_fill (V 0) (V 1) 115 := by rw [hD.2 1 (by omega) (by omega) (by omega) (by omega) (by omega)]; exact vu_s _ _ _
  obtain ⟨I', V', e, g1, g2, g3, g4, g5⟩ := t_endsA (q := q) (S := S) (P := P) (A := A) (D := D) (K := K) (X := X) (E := E) (Z := Z) (J := J1) (I := I1) (V := V1) (pp := M.2.2.1) (σ := M.1) ha i4 (by rw [hD.1 3 (by omega) (by omega) (by omega) (by omega)]; exact i5) (by rw [v2]; exact i6) i1 (by rw [v1]; exact held_rp i1 i2)
  exact ⟨I', V', e, refFin hI' hw hr hL hD g1 g2 g3 g4 g5⟩
set_option maxRecDepth 100000 in
theorem R_field {M : mM} (hI : RefI M I V) (lo hi : Int32) : ∃ (I' : Nat → Int32) (V' : Nat → Nat → Int32) (J' : Nat → Int64), xcall 131 [.ref 163, .int lo, .int hi] (hp q S P A D K X E Z I J V) = some (some (.int (dF M.1 lo hi).1), (hp q S P A D K X E Z (I') (J') (V'))) ∧ RefI (fin M (dF M.1 lo hi)) I' V' := by
  obtain ⟨I1, V1, J1, e1, g1, g2, g3⟩ := t_doField (q := q) (S := S) (P := P) (A := A) (D := D) (K := K) (X := X) (E := E) (Z := Z) (J := J) (I := I) (V := vf_upd V 1 (fa_fill (V 0) (V 1) 115)) hI.1 (by rw [vu_n _ _ (by omega)]; exact hI.2.1) (hI.2.2.1.of (fun _ _ => rfl) (fun k hk => vu_n _ _ (by omega))) lo hi
  obtain ⟨I', V', e2, h⟩ := t_pub (q := q) (S := S) (P := P) (A := A) (D := D) (K := K) (X := X) (E := E) (Z := Z) (J1 := J1) hI (dF_wf hI.1 lo hi) (dF_ok hI.1 lo hi) g1 g2 g3
  refine ⟨I', V', J1, ?_, h⟩
  rw [N131 _ _ _ _ (o_m ..)]
  simp (maxSteps := 2000000) (disch := omega) only [e_inl, e_goto, e_fall, e_if, e_icmp, e_iret, e_zret, e_lret, e_vret, e_call0_0, e_call0_1, e_call0_2, e_call0_3, e_call0_4, e_call1_0, e_call1_1, e_call1_2, e_call1_3, e_call1_4, e_call2_0, e_call2_1, e_call2_2, e_call2_3, e_call2_4, e_call3_0, e_call3_1, e_call3_2, e_call3_3, e_call3_4, e_call4_0, e_call4_1, e_call4_2, e_call4_3, e_call4_4, e_call5_0, e_call5_1, e_call5_2, e_call5_3, e_call5_4, e_call6_0, e_call6_1, e_call6_2, e_call6_3, e_call6_4, xP, xld, xst1, xst2, xis2, xii, xid, xll, xlv, xls, xlc, xil, xli, xrd, xdup, xdup2, xc1, xpu, c_eq, c_ne, c_lt, c_ge, c_gt, c_le, Option.bind_some, Option.map_some, List.length_nil, List.length_cons, Nat.reduceAdd, Nat.reduceLeDiff, Int.reduceToNat, Bool.and_self, Bool.false_eq_true, if_true, if_false, D131_0, o_m, g_m_0, g_m_1, g_m_2, g_m_3, g_m_4, g_m_5, g_m_6, g_m_7, g_m_8, g_m_9, g_m_10, g_m_11, g_m_12, g_m_13, g_m_14, g_m_15, g_m_16, g_m_17, g_m_18, g_m_19, g_m_20, g_m_21, p_m_3, p_m_7, p_m_8, p_m_11, p_m_13, p_m_15, p_m_16, p_m_17, p_m_18, p_m_21, p_m_5_0, p_m_5_1, r_m0, s_m0, r_m1, s_m1, r_m2, s_m2, r_m4, s_m4, r_m6, s_m6, r_m9, s_m9, r_m10, s_m10, r_m12, s_m12, r_m14, s_m14, r_m19, s_m19, r_m20, s_m20, Nat.reduceEqDiff, decide_true, decide_false, Bool.true_and, Bool.false_and, Bool.and_true, Bool.and_false, zB_tt, zB_ff, not_false_eq_true, not_true_eq_false, n_lit, n_mul, nI_add, n_sub, x_in, nI_clamp, nI_ltI, nI_leI, nI_eq, and_self, true_and, and_true, t_hold, e1, e2]
set_option maxRecDepth 100000 in
theorem R_range {M : mM} (hI : RefI M I V) (f lo hi : Int32) : ∃ (I' : Nat → Int32) (V' : Nat → Nat → Int32) (J' : Nat → Int64), xcall 132 [.ref 163, .int f, .int lo, .int hi] (hp q S P A D K X E Z I J V) = some (some (.int (dG M.1 f lo hi).1), (hp q S P A D K X E Z (I') (J') (V'))) ∧ RefI (fin M (dG M.1 f lo hi)) I' V' := by
  obtain ⟨I1, V1, J1, e1, g1, g2, g3⟩ := t_doRange (q := q) (S := S) (P := P) (A := A) (D := D) (K := K) (X := X) (E := E) (Z := Z) (J := J) (I := I) (V := vf_upd V 1 (fa_fill (V 0) (V 1) 115)) hI.1 (by rw [vu_n _ _ (by omega)]; exact hI.2.1) (hI.2.2.1.of (fun _ _ => rfl) (fun k hk => vu_n _ _ (by omega))) f lo hi
  obtain ⟨I', V', e2, h⟩ := t_pub (q := q) (S := S) (P := P) (A := A) (D := D) (K := K) (X := X) (E := E) (Z := Z) (J1 := J1) hI (dG_wf hI.1 f lo hi) (dG_ok f lo hi) g1 g2 g3
  refine ⟨I', V', J1, ?_, h⟩
  rw [N132 _ _ _ _ _ (o_m ..)]
  simp (maxSteps := 2000000) (disch := omega) only [e_inl, e_goto, e_fall, e_if, e_icmp, e_iret, e_zret, e_lret, e_vret, e_call0_0, e_call0_1, e_call0_2, e_call0_3, e_call0_4, e_call1_0, e_call1_1, e_call1_2, e_call1_3, e_call1_4, e_call2_0, e_call2_1, e_call2_2, e_call2_3, e_call2_4, e_call3_0, e_call3_1, e_call3_2, e_call3_3, e_call3_4, e_call4_0, e_call4_1, e_call4_2, e_call4_3, e_call4_4, e_call5_0, e_call5_1, e_call5_2, e_call5_3, e_call5_4, e_call6_0, e_call6_1, e_call6_2, e_call6_3, e_call6_4, xP, xld, xst1, xst2, xis2, xii, xid, xll, xlv, xls, xlc, xil, xli, xrd, xdup, xdup2, xc1, xpu, c_eq, c_ne, c_lt, c_ge, c_gt, c_le, Option.bind_some, Option.map_some, List.length_nil, List.length_cons, Nat.reduceAdd, Nat.reduceLeDiff, Int.reduceToNat, Bool.and_self, Bool.false_eq_true, if_true, if_false, D132_0, o_m, g_m_0, g_m_1, g_m_2, g_m_3, g_m_4, g_m_5, g_m_6, g_m_7, g_m_8, g_m_9, g_m_10, g_m_11, g_m_12, g_m_13, g_m_14, g_m_15, g_m_16, g_m_17, g_m_18, g_m_19, g_m_20, g_m_21, p_m_3, p_m_7, p_m_8, p_m_11, p_m_13, p_m_15, p_m_16, p_m_17, p_m_18, p_m_21, p_m_5_0, p_m_5_1, r_m0, s_m0, r_m1, s_m1, r_m2, s_m2, r_m4, s_m4, r_m6, s_m6, r_m9, s_m9, r_m10, s_m10, r_m12, s_m12, r_m14, s_m14, r_m19, s_m19, r_m20, s_m20, Nat.reduceEqDiff, decide_true, decide_false, Bool.true_and, Bool.false_and, Bool.and_true, Bool.and_false, zB_tt, zB_ff, not_false_eq_true, not_true_eq_false, n_lit, n_mul, nI_add, n_sub, x_in, nI_clamp, nI_ltI, nI_leI, nI_eq, and_self, true_and, and_true, t_hold, e1, e2]
set_option maxRecDepth 100000 in
theorem R_weighs {M : mM} (hI : RefI M I V) (f v w : Int32) : ∃ (I' : Nat → Int32) (V' : Nat → Nat → Int32) (J' : Nat → Int64), xcall 133 [.ref 163, .int f, .int v, .int w] (hp q S P A D K X E Z I J V) = some (some (.int (dW M.1 f v w).1), (hp q S P A D K X E Z (I') (J') (V'))) ∧ RefI (fin M (dW M.1 f v w)) I' V' := by
  obtain ⟨I1, V1, J1, e1, g1, g2, g3⟩ := t_doWeighs (q := q) (S := S) (P := P) (A := A) (D := D) (K := K) (X := X) (E := E) (Z := Z) (J := J) (I := I) (V := vf_upd V 1 (fa_fill (V 0) (V 1) 115)) hI.1 (by rw [vu_n _ _ (by omega)]; exact hI.2.1) (hI.2.2.1.of (fun _ _ => rfl) (fun k hk => vu_n _ _ (by omega))) f v w
  obtain ⟨I', V', e2, h⟩ := t_pub (q := q) (S := S) (P := P) (A := A) (D := D) (K := K) (X := X) (E := E) (Z := Z) (J1 := J1) hI (dW_wf hI.1 f v w) (dW_ok hI.1 f v w) g1 g2 g3
  refine ⟨I', V', J1, ?_, h⟩
  rw [N133 _ _ _ _ _ (o_m ..)]
  simp (maxSteps := 2000000) (disch := omega) only [e_inl, e_goto, e_fall, e_if, e_icmp, e_iret, e_zret, e_lret, e_vret, e_call0_0, e_call0_1, e_call0_2, e_call0_3, e_call0_4, e_call1_0, e_call1_1, e_call1_2, e_call1_3, e_call1_4, e_call2_0, e_call2_1, e_call2_2, e_call2_3, e_call2_4, e_call3_0, e_call3_1, e_call3_2, e_call3_3, e_call3_4, e_call4_0, e_call4_1, e_call4_2, e_call4_3, e_call4_4, e_call5_0, e_call5_1, e_call5_2, e_call5_3, e_call5_4, e_call6_0, e_call6_1, e_call6_2, e_call6_3, e_call6_4, xP, xld, xst1, xst2, xis2, xii, xid, xll, xlv, xls, xlc, xil, xli, xrd, xdup, xdup2, xc1, xpu, c_eq, c_ne, c_lt, c_ge, c_gt, c_le, Option.bind_some, Option.map_some, List.length_nil, List.length_cons, Nat.reduceAdd, Nat.reduceLeDiff, Int.reduceToNat, Bool.and_self, Bool.false_eq_true, if_true, if_false, D133_0, o_m, g_m_0, g_m_1, g_m_2, g_m_3, g_m_4, g_m_5, g_m_6, g_m_7, g_m_8, g_m_9, g_m_10, g_m_11, g_m_12, g_m_13, g_m_14, g_m_15, g_m_16, g_m_17, g_m_18, g_m_19, g_m_20, g_m_21, p_m_3, p_m_7, p_m_8, p_m_11, p_m_13, p_m_15, p_m_16, p_m_17, p_m_18, p_m_21, p_m_5_0, p_m_5_1, r_m0, s_m0, r_m1, s_m1, r_m2, s_m2, r_m4, s_m4, r_m6, s_m6, r_m9, s_m9, r_m10, s_m10, r_m12, s_m12, r_m14, s_m14, r_m19, s_m19, r_m20, s_m20, Nat.reduceEqDiff, decide_true, decide_false, Bool.true_and, Bool.false_and, Bool.and_true, Bool.and_false, zB_tt, zB_ff, not_false_eq_true, not_true_eq_false, n_lit, n_mul, nI_add, n_sub, x_in, nI_clamp, nI_ltI, nI_leI, nI_eq, and_self, true_and, and_true, t_hold, e1, e2]
set_option maxRecDepth 100000 in
theorem R_round {M : mM} (hI : RefI M I V) (f z : Int32) : ∃ (I' : Nat → Int32) (V' : Nat → Nat → Int32) (J' : Nat → Int64), xcall 134 [.ref 163, .int f, .int z] (hp q S P A D K X E Z I J V) = some (some (.int (dR M.1 f z).1), (hp q S P A D K X E Z (I') (J') (V'))) ∧ RefI (fin M (dR M.1 f z)) I' V' := by
  obtain ⟨I1, V1, J1, e1, g1, g2, g3⟩ := t_doRound (q := q) (S := S) (P := P) (A := A) (D := D) (K := K) (X := X) (E := E) (Z := Z) (J := J) (I := I) (V := vf_upd V 1 (fa_fill (V 0) (V 1) 115)) hI.1 (by rw [vu_n _ _ (by omega)]; exact hI.2.1) (hI.2.2.1.of (fun _ _ => rfl) (fun k hk => vu_n _ _ (by omega))) f z
  obtain ⟨I', V', e2, h⟩ := t_pub (q := q) (S := S) (P := P) (A := A) (D := D) (K := K) (X := X) (E := E) (Z := Z) (J1 := J1) hI (dR_wf hI.1 f z) (dR_ok hI.1 f z) g1 g2 g3
  refine ⟨I', V', J1, ?_, h⟩
  rw [N134 _ _ _ _ (o_m ..)]
  simp (maxSteps := 2000000) (disch := omega) only [e_inl, e_goto, e_fall, e_if, e_icmp, e_iret, e_zret, e_lret, e_vret, e_call0_0, e_call0_1, e_call0_2, e_call0_3, e_call0_4, e_call1_0, e_call1_1, e_call1_2, e_call1_3, e_call1_4, e_call2_0, e_call2_1, e_call2_2, e_call2_3, e_call2_4, e_call3_0, e_call3_1, e_call3_2, e_call3_3, e_call3_4, e_call4_0, e_call4_1, e_call4_2, e_call4_3, e_call4_4, e_call5_0, e_call5_1, e_call5_2, e_call5_3, e_call5_4, e_call6_0, e_call6_1, e_call6_2, e_call6_3, e_call6_4, xP, xld, xst1, xst2, xis2, xii, xid, xll, xlv, xls, xlc, xil, xli, xrd, xdup, xdup2, xc1, xpu, c_eq, c_ne, c_lt, c_ge, c_gt, c_le, Option.bind_some, Option.map_some, List.length_nil, List.length_cons, Nat.reduceAdd, Nat.reduceLeDiff, Int.reduceToNat, Bool.and_self, Bool.false_eq_true, if_true, if_false, D134_0, o_m, g_m_0, g_m_1, g_m_2, g_m_3, g_m_4, g_m_5, g_m_6, g_m_7, g_m_8, g_m_9, g_m_10, g_m_11, g_m_12, g_m_13, g_m_14, g_m_15, g_m_16, g_m_17, g_m_18, g_m_19, g_m_20, g_m_21, p_m_3, p_m_7, p_m_8, p_m_11, p_m_13, p_m_15, p_m_16, p_m_17, p_m_18, p_m_21, p_m_5_0, p_m_5_1, r_m0, s_m0, r_m1, s_m1, r_m2, s_m2, r_m4, s_m4, r_m6, s_m6, r_m9, s_m9, r_m10, s_m10, r_m12, s_m12, r_m14, s_m14, r_m19, s_m19, r_m20, s_m20, Nat.reduceEqDiff, decide_true, decide_false, Bool.true_and, Bool.false_and, Bool.and_true, Bool.and_false, zB_tt, zB_ff, not_false_eq_true, not_true_eq_false, n_lit, n_mul, nI_add, n_sub, x_in, nI_clamp, nI_ltI, nI_leI, nI_eq, and_self, true_and, and_true, t_hold, e1, e2]
set_option maxRecDepth 100000 in
theorem R_rule {M : mM} (hI : RefI M I V) (kd x y c rk : Int32) : ∃ (I' : Nat → Int32) (V' : Nat → Nat → Int32) (J' : Nat → Int64), xcall 137 [.ref 163, .int kd, .int x, .int y, .int c, .int rk] (hp q S P A D K X E Z I J V) = some (some (.int (dU M.1 kd x y c rk).1), (hp q S P A D K X E Z (I') (J') (V'))) ∧ RefI (fin M (dU M.1 kd x y c rk)) I' V' := by
  obtain ⟨I1, V1, J1, e1, g1, g2, g3⟩ := t_doRule (q := q) (S := S) (P := P) (A := A) (D := D) (K := K) (X := X) (E := E) (Z := Z) (J := J) (I := I) (V := vf_upd V 1 (fa_fill (V 0) (V 1) 115)) hI.1 (by rw [vu_n _ _ (by omega)]; exact hI.2.1) (hI.2.2.1.of (fun _ _ => rfl) (fun k hk => vu_n _ _ (by omega))) kd x y c rk
  obtain ⟨I', V', e2, h⟩ := t_pub (q := q) (S := S) (P := P) (A := A) (D := D) (K := K) (X := X) (E := E) (Z := Z) (J1 := J1) hI (dU_wf hI.1 kd x y c rk) (dU_ok hI.1 kd x y c rk) g1 g2 g3
  refine ⟨I', V', J1, ?_, h⟩
  rw [N137 _ _ _ _ _ _ _ (o_m ..)]
  simp (maxSteps := 2000000) (disch := omega) only [e_inl, e_goto, e_fall, e_if, e_icmp, e_iret, e_zret, e_lret, e_vret, e_call0_0, e_call0_1, e_call0_2, e_call0_3, e_call0_4, e_call1_0, e_call1_1, e_call1_2, e_call1_3, e_call1_4, e_call2_0, e_call2_1, e_call2_2, e_call2_3, e_call2_4, e_call3_0, e_call3_1, e_call3_2, e_call3_3, e_call3_4, e_call4_0, e_call4_1, e_call4_2, e_call4_3, e_call4_4, e_call5_0, e_call5_1, e_call5_2, e_call5_3, e_call5_4, e_call6_0, e_call6_1, e_call6_2, e_call6_3, e_call6_4, xP, xld, xst1, xst2, xis2, xii, xid, xll, xlv, xls, xlc, xil, xli, xrd, xdup, xdup2, xc1, xpu, c_eq, c_ne, c_lt, c_ge, c_gt, c_le, Option.bind_some, Option.map_some, List.length_nil, List.length_cons, Nat.reduceAdd, Nat.reduceLeDiff, Int.reduceToNat, Bool.and_self, Bool.false_eq_true, if_true, if_false, D137_0, o_m, g_m_0, g_m_1, g_m_2, g_m_3, g_m_4, g_m_5, g_m_6, g_m_7, g_m_8, g_m_9, g_m_10, g_m_11, g_m_12, g_m_13, g_m_14, g_m_15, g_m_16, g_m_17, g_m_18, g_m_19, g_m_20, g_m_21, p_m_3, p_m_7, p_m_8, p_m_11, p_m_13, p_m_15, p_m_16, p_m_17, p_m_18, p_m_21, p_m_5_0, p_m_5_1, r_m0, s_m0, r_m1, s_m1, r_m2, s_m2, r_m4, s_m4, r_m6, s_m6, r_m9, s_m9, r_m10, s_m10, r_m12, s_m12, r_m14, s_m14, r_m19, s_m19, r_m20, s_m20, Nat.reduceEqDiff, decide_true, decide_false, Bool.true_and, Bool.false_and, Bool.and_true, Bool.and_false, zB_tt, zB_ff, not_false_eq_true, not_true_eq_false, n_lit, n_mul, nI_add, n_sub, x_in, nI_clamp, nI_ltI, nI_leI, nI_eq, and_self, true_and, and_true, t_hold, e1, e2]
set_option maxRecDepth 100000 in
theorem R_drops {M : mM} (hI : RefI M I V) (k : Int32) : ∃ (I' : Nat → Int32) (V' : Nat → Nat → Int32) (J' : Nat → Int64), xcall 138 [.ref 163, .int k] (hp q S P A D K X E Z I J V) = some (some (.int (dX M.1 k).1), (hp q S P A D K X E Z (I') (J') (V'))) ∧ RefI (fin M (dX M.1 k)) I' V' := by
  obtain ⟨I1, V1, J1, e1, g1, g2, g3⟩ := t_doDrops (q := q) (S := S) (P := P) (A := A) (D := D) (K := K) (X := X) (E := E) (Z := Z) (J := J) (I := I) (V := vf_upd V 1 (fa_fill (V 0) (V 1) 115)) hI.1 (by rw [vu_n _ _ (by omega)]; exact hI.2.1) (hI.2.2.1.of (fun _ _ => rfl) (fun k hk => vu_n _ _ (by omega))) k
  obtain ⟨I', V', e2, h⟩ := t_pub (q := q) (S := S) (P := P) (A := A) (D := D) (K := K) (X := X) (E := E) (Z := Z) (J1 := J1) hI (dX_wf hI.1 k) (dX_ok hI.1 k) g1 g2 g3
  refine ⟨I', V', J1, ?_, h⟩
  rw [N138 _ _ _ (o_m ..)]
  simp (maxSteps := 2000000) (disch := omega) only [e_inl, e_goto, e_fall, e_if, e_icmp, e_iret, e_zret, e_lret, e_vret, e_call0_0, e_call0_1, e_call0_2, e_call0_3, e_call0_4, e_call1_0, e_call1_1, e_call1_2, e_call1_3, e_call1_4, e_call2_0, e_call2_1, e_call2_2, e_call2_3, e_call2_4, e_call3_0, e_call3_1, e_call3_2, e_call3_3, e_call3_4, e_call4_0, e_call4_1, e_call4_2, e_call4_3, e_call4_4, e_call5_0, e_call5_1, e_call5_2, e_call5_3, e_call5_4, e_call6_0, e_call6_1, e_call6_2, e_call6_3, e_call6_4, xP, xld, xst1, xst2, xis2, xii, xid, xll, xlv, xls, xlc, xil, xli, xrd, xdup, xdup2, xc1, xpu, c_eq, c_ne, c_lt, c_ge, c_gt, c_le, Option.bind_some, Option.map_some, List.length_nil, List.length_cons, Nat.reduceAdd, Nat.reduceLeDiff, Int.reduceToNat, Bool.and_self, Bool.false_eq_true, if_true, if_false, D138_0, o_m, g_m_0, g_m_1, g_m_2, g_m_3, g_m_4, g_m_5, g_m_6, g_m_7, g_m_8, g_m_9, g_m_10, g_m_11, g_m_12, g_m_13, g_m_14, g_m_15, g_m_16, g_m_17, g_m_18, g_m_19, g_m_20, g_m_21, p_m_3, p_m_7, p_m_8, p_m_11, p_m_13, p_m_15, p_m_16, p_m_17, p_m_18, p_m_21, p_m_5_0, p_m_5_1, r_m0, s_m0, r_m1, s_m1, r_m2, s_m2, r_m4, s_m4, r_m6, s_m6, r_m9, s_m9, r_m10, s_m10, r_m12, s_m12, r_m14, s_m14, r_m19, s_m19, r_m20, s_m20, Nat.reduceEqDiff, decide_true, decide_false, Bool.true_and, Bool.false_and, Bool.and_true, Bool.and_false, zB_tt, zB_ff, not_false_eq_true, not_true_eq_false, n_lit, n_mul, nI_add, n_sub, x_in, nI_clamp, nI_ltI, nI_leI, nI_eq, and_self, true_and, and_true, t_hold, e1, e2]
set_option maxRecDepth 100000 in
theorem R_draws {M : mM} (hI : RefI M I V) (how s : Int32) : ∃ (I' : Nat → Int32) (V' : Nat → Nat → Int32) (J' : Nat → Int64), xcall 170 [.ref 163, .int how, .int s] (hp q S P A D K X E Z I J V) = some (some (.int (dD M.1 how s).1), (hp q S P A D K X E Z (I') (J') (V'))) ∧ RefI (fin M (dD M.1 how s)) I' V' := by
  obtain ⟨I1, V1, J1, e1, g1, g2, g3⟩ := t_doDraws (q := q) (S := S) (P := P) (A := A) (D := D) (K := K) (X := X) (E := E) (Z := Z) (J := J) (I := I) (V := vf_upd V 1 (fa_fill (V 0) (V 1) 115)) hI.1 (by rw [vu_n _ _ (by omega)]; exact hI.2.1) (hI.2.2.1.of (fun _ _ => rfl) (fun k hk => vu_n _ _ (by omega))) how s
  obtain ⟨I', V', e2, h⟩ := t_pub (q := q) (S := S) (P := P) (A := A) (D := D) (K := K) (X := X) (E := E) (Z := Z) (J1 := J1) hI (dD_wf hI.1 how s).1 (dD_ok how s) g1 g2 g3
  refine ⟨I', V', J1, ?_, h⟩
  rw [N170 _ _ _ _ (o_m ..)]
  simp (maxSteps := 2000000) (disch := omega) only [e_inl, e_goto, e_fall, e_if, e_icmp, e_iret, e_zret, e_lret, e_vret, e_call0_0, e_call0_1, e_call0_2, e_call0_3, e_call0_4, e_call1_0, e_call1_1, e_call1_2, e_call1_3, e_call1_4, e_call2_0, e_call2_1, e_call2_2, e_call2_3, e_call2_4, e_call3_0, e_call3_1, e_call3_2, e_call3_3, e_call3_4, e_call4_0, e_call4_1, e_call4_2, e_call4_3, e_call4_4, e_call5_0, e_call5_1, e_call5_2, e_call5_3, e_call5_4, e_call6_0, e_call6_1, e_call6_2, e_call6_3, e_call6_4, xP, xld, xst1, xst2, xis2, xii, xid, xll, xlv, xls, xlc, xil, xli, xrd, xdup, xdup2, xc1, xpu, c_eq, c_ne, c_lt, c_ge, c_gt, c_le, Option.bind_some, Option.map_some, List.length_nil, List.length_cons, Nat.reduceAdd, Nat.reduceLeDiff, Int.reduceToNat, Bool.and_self, Bool.false_eq_true, if_true, if_false, D170_0, o_m, g_m_0, g_m_1, g_m_2, g_m_3, g_m_4, g_m_5, g_m_6, g_m_7, g_m_8, g_m_9, g_m_10, g_m_11, g_m_12, g_m_13, g_m_14, g_m_15, g_m_16, g_m_17, g_m_18, g_m_19, g_m_20, g_m_21, p_m_3, p_m_7, p_m_8, p_m_11, p_m_13, p_m_15, p_m_16, p_m_17, p_m_18, p_m_21, p_m_5_0, p_m_5_1, r_m0, s_m0, r_m1, s_m1, r_m2, s_m2, r_m4, s_m4, r_m6, s_m6, r_m9, s_m9, r_m10, s_m10, r_m12, s_m12, r_m14, s_m14, r_m19, s_m19, r_m20, s_m20, Nat.reduceEqDiff, decide_true, decide_false, Bool.true_and, Bool.false_and, Bool.and_true, Bool.and_false, zB_tt, zB_ff, not_false_eq_true, not_true_eq_false, n_lit, n_mul, nI_add, n_sub, x_in, nI_clamp, nI_ltI, nI_leI, nI_eq, and_self, true_and, and_true, t_hold, e1, e2]
set_option maxRecDepth 100000 in
theorem R_orders {M : mM} (hI : RefI M I V) (f p : Int32) : ∃ (I' : Nat → Int32) (V' : Nat → Nat → Int32) (J' : Nat → Int64), xcall 136 [.ref 163, .int f, .int p] (hp q S P A D K X E Z I J V) = some (some (.int (dP M.1 f p).1), (hp q S P A D K X E Z (I') (J') (V'))) ∧ RefI (fin M (dP M.1 f p)) I' V' := by
  have hI' := hI
  obtain ⟨i1, i2, i3, i4, i5, i6, i7, i8⟩ := hI
  have w1 := i1.1
  by_cases hok : (isF (mn M.1) f && isF (mn M.1) p) = true
  · have ed : dP M.1 f p = (nI (plc M.1 f.toNatClampNeg), orS M.1 f.toNatClampNeg p.toNatClampNeg) := if_pos hok
    have hwf := dP_wf i1 f p
    rw [ed] at hwf ⊢
    rw [Bool.and_eq_true] at hok
    obtain ⟨g, hg, rfl⟩ := isF_of (by omega) hok.1
    obtain ⟨u, hu, rfl⟩ := isF_of (by omega) hok.2
    rw [nI_clamp (n := g) (by omega), nI_clamp (n := u) (by omega)] at hwf ⊢
    obtain ⟨q1, q2, q3⟩ := plc_lt i1 hg
    have r5 := i2.2.2.2.2.1
    have hw0 : V 0 (53 + plc M.1 g) = nI g := by rw [r5 _ q1, q2]
    have hne : ∀ j, j < plc M.1 g → V 0 (53 + j) ≠ nI g := by
      intro j hj
      rw [r5 j (by omega)]
      intro h
      rw [nI_eq (by have := i1.2.2.2.2.1 j (by omega); omega) (by omega)] at h
      exact q3 j hj h
    have em := t_orders_mid (q := q) (S := S) (P := P) (A := A) (D := D) (K := K) (X := X) (E := E) (Z := Z) (I := I) (J := J) (V := V) i2.1 w1 hg hu q1 hw0 hne
    have hrp := or_rp i1 i2 hg hu
    unfold ordA at hrp
    generalize hY : (if plc M.1 g ≤ u then upA (V 0) (plc M.1 g) u else dnA (V 0) (plc M.1 g) u) = Y at em hrp
    have h1 : (vf_upd (vf_upd V 1 (fa_fill (V 0) (V 1) 115)) 0 (upd Y (53 + u) (nI g))) 1 = fa_fill (V 0) (V 1) 115 := by rw [vu_n _ _ (by omega), vu_s]
    have h2 : (vf_upd (vf_upd V 1 (fa_fill (V 0) (V 1) 115)) 0 (upd Y (53 + u) (nI g))) 2 = V 2 := by rw [vu_n _ _ (by omega), vu_n _ _ (by omega)]
    obtain ⟨I', V', ep, g1, g2, g3, g4⟩ := t_pushA (q := q) (S := S) (P := P) (A := A) (D := D) (K := K) (X := X) (E := E) (Z := Z) (J := J) (I := I) (V := vf_upd (vf_upd V 1 (fa_fill (V 0) (V 1) 115)) 0 (upd Y (53 + u) (nI g))) (pp := M.2.2.1) (σ := M.1) i4 i5 (by rw [h2]; exact i6) i1 (by rw [h1]; exact held_rp i1 i2)
    refine ⟨I', V', J, ?_, ?_⟩
    · rw [em, D136_107]
      simp (maxSteps := 2000000) (disch := omega) only [e_inl, e_goto, e_fall, e_if, e_icmp, e_iret, e_zret, e_lret, e_vret, e_call0_0, e_call0_1, e_call0_2, e_call0_3, e_call0_4, e_call1_0, e_call1_1, e_call1_2, e_call1_3, e_call1_4, e_call2_0, e_call2_1, e_call2_2, e_call2_3, e_call2_4, e_call3_0, e_call3_1, e_call3_2, e_call3_3, e_call3_4, e_call4_0, e_call4_1, e_call4_2, e_call4_3, e_call4_4, e_call5_0, e_call5_1, e_call5_2, e_call5_3, e_call5_4, e_call6_0, e_call6_1, e_call6_2, e_call6_3, e_call6_4, xP, xld, xst1, xst2, xis2, xii, xid, xll, xlv, xls, xlc, xil, xli, xrd, xdup, xdup2, xc1, xpu, c_eq, c_ne, c_lt, c_ge, c_gt, c_le, Option.bind_some, Option.map_some, List.length_nil, List.length_cons, Nat.reduceAdd, Nat.reduceLeDiff, Int.reduceToNat, Bool.and_self, Bool.false_eq_true, if_true, if_false, o_m, g_m_0, g_m_1, g_m_2, g_m_3, g_m_4, g_m_5, g_m_6, g_m_7, g_m_8, g_m_9, g_m_10, g_m_11, g_m_12, g_m_13, g_m_14, g_m_15, g_m_16, g_m_17, g_m_18, g_m_19, g_m_20, g_m_21, p_m_3, p_m_7, p_m_8, p_m_11, p_m_13, p_m_15, p_m_16, p_m_17, p_m_18, p_m_21, p_m_5_0, p_m_5_1, r_m0, s_m0, r_m1, s_m1, r_m2, s_m2, r_m4, s_m4, r_m6, s_m6, r_m9, s_m9, r_m10, s_m10, r_m12, s_m12, r_m14, s_m14, r_m19, s_m19, r_m20, s_m20, Nat.reduceEqDiff, decide_true, decide_false, Bool.true_and, Bool.false_and, Bool.and_true, Bool.and_false, zB_tt, zB_ff, not_false_eq_true, not_true_eq_false, n_lit, n_mul, nI_add, n_sub, x_in, nI_clamp, nI_ltI, nI_leI, nI_eq, and_self, true_and, and_true, vu_s, vu_vu, ep]
    · have h0 : (0 : Int32) ≤ nI (plc M.1 g) := by rw [n_0]; exact (nI_leI (by omega) (by omega)).mpr (Nat.zero_le _)
      have hs : sameL M.1 (orS M.1 g u) := ⟨fun _ _ _ => rfl, rfl, rfl⟩
      refine refFin (I1 := I) (V1 := vf_upd (vf_upd V 1 (fa_fill (V 0) (V 1) 115)) 0 (upd Y (53 + u) (nI g))) (d := (nI (plc M.1 g), orS M.1 g u)) hI' hwf (by rw [vu_s]; exact hrp) (hs.lay (i3.of (fun _ _ => rfl) (fun k hk => by rw [vu_n _ _ (by omega), vu_n _ _ (by omega)]))) (DF.u0 _) ?_ ?_ g3 (fun k a _ => g4 k a) ?_
      · simp only [if_pos h0]; exact g1
      · simp only [if_pos h0]; exact g2
      · simp only [if_pos h0]; exact g4 4 (by omega)
  · have ed : dP M.1 f p = (Int32.ofInt (-2), M.1) := if_neg hok
    rw [ed]
    refine ⟨I, _, J, t_orders_bad i2.1 (Bool.eq_false_iff.mpr hok), ?_⟩
    have e : fin M (Int32.ofInt (-2), M.1) = bad M 0 := by
      unfold fin bad
      have h2 : ¬ (0 : Int32) ≤ Int32.ofInt (-2) := by decide
      rw [if_neg (show ¬ (0 : Int32) ≤ (Int32.ofInt (-2), M.1).1 from h2)]
      rfl
    rw [e]
    exact refBad hI' (by omega)
/-! back -/
def oBack (M : mM) : Int32 × mM := if M.2.1 = 0 then (Int32.ofInt (-3), bad M 1) else (nI (M.2.1 - 1), (M.2.2.1 (M.2.1 - 1), M.2.1 - 1, M.2.2))
set_option maxRecDepth 100000 in
theorem R_back {M : mM} (hI : RefI M I V) : ∃ (I' : Nat → Int32) (V' : Nat → Nat → Int32) (J' : Nat → Int64), xcall 116 [.ref 163] (hp q S P A D K X E Z I J V) = some (some (.int (oBack M).1), (hp q S P A D K X E Z (I') (J') (V'))) ∧ RefI (oBack M).2 I' V' := by
  have hI' := hI
  obtain ⟨i1, i2, i3, i4, i5, i6, i7, i8⟩ := hI
  unfold oBack
  by_cases h0 : M.2.1 = 0
  · rw [if_pos h0]
    exact ⟨I, _, J, t_back_0 (by rw [i5, h0]), refBad hI' (by omega)⟩
  · rw [if_neg h0]
    obtain ⟨n, hn⟩ : ∃ n, M.2.1 = n + 1 := ⟨M.2.1 - 1, by omega⟩
    obtain ⟨a, b⟩ := i6 n (by omega)
    rw [hn, Nat.add_sub_cancel]
    refine ⟨_, _, J, t_back (by rw [i5, hn]) (by omega), a, ?_, Or.inl (u_s _ _ _), ?_, ?_, fun j hj => ?_, ?_, fun k hk => ?_⟩
    · rw [vu_s]
      exact rpA_cong a (fun j hj => fa_fill_in hj) b
    · show n ≤ 4
      omega
    · rw [u_n _ _ (by omega), u_s]
    · have hj : j < n := hj
      rw [vu_n _ _ (by omega)]
      exact i6 j (by omega)
    · exact i7.of (by rw [u_n _ _ (by omega), u_n _ _ (by omega)]) (vu_n _ _ (by omega))
    · rw [vu_n _ _ (by omega)]
      exact i8 k hk
end
