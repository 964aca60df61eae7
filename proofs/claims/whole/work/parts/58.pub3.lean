/-! ===== public calls of the reference (3): reads, digest ===== -/
def oReads (M : mM) : Int32 × mM := match flt M.2.2.2.1 with
  | some f => (Int32.ofInt (-10) - nI f, M)
  | none => (nI (rdS M.2.2.2.1 M.1 (oN M.2.2.2.1)).2, fin M (nI (rdS M.2.2.2.1 M.1 (oN M.2.2.2.1)).2, (rdS M.2.2.2.1 M.1 (oN M.2.2.2.1)).1))
theorem oReads_n {M : mM} (h : flt M.2.2.2.1 = none) : oReads M = (nI (rdS M.2.2.2.1 M.1 (oN M.2.2.2.1)).2, fin M (nI (rdS M.2.2.2.1 M.1 (oN M.2.2.2.1)).2, (rdS M.2.2.2.1 M.1 (oN M.2.2.2.1)).1)) := by
  unfold oReads
  rw [h]
theorem oReads_s {M : mM} {f : Nat} (h : flt M.2.2.2.1 = some f) : oReads M = (Int32.ofInt (-10) - nI f, M) := by
  unfold oReads
  rw [h]
/-- the orders read so far, as the reference holds them -/
def prK (T : tx) (k : Nat) (V : Nat → Nat → Int32) : Prop := ∀ i, i < k → V 19 i = nI (T.2 (op T i)) ∧ ∀ j, j < nb (T.2 (op T i)) → V 20 (5 * i + j) = nI (nv T (op T i + 1) j)
theorem ord_nb {T : tx} {p : Nat} (h : (ord T p).1 = true) : p < T.1 ∧ nb (T.2 p) ≠ 0 := by
  unfold ord at h
  split at h
  · rename_i h1
    rw [Bool.and_eq_true, decide_eq_true_eq, decide_eq_true_eq] at h1
    exact h1
  · exact Bool.noConfusion h
section
variable {q : Nat × (Nat → Int32)} {S : Nat → xSt} {P : Int32 × (Nat → Nat)} {A : (Nat → Int64) × Int32 × Int32 × (Nat → Int64) × (Nat → Nat → Int64)} {D : (Nat → Int64) × Int64} {K : Nat → Int64} {X : Int32 × Int32 × Int32 × (Nat → Int32) × (Nat → Int32)} {E Z : Nat → Int32} {I : Nat → Int32} {J : Nat → Int64} {V : Nat → Nat → Int32}
set_option maxRecDepth 100000 in
theorem t_rd_32 {T : tx} {N : Nat} (o1 : N ≤ 50) (o2 : (ord T (op T N)).1 = false) (o3 : ∀ k, k < N → (ord T (op T k)).1 = true) (m : Nat) : ∀ (k a : Nat) (I : Nat → Int32) (V : Nat → Nat → Int32), k + m = N → a ≤ T.1 → skp T a = op T k → rpT T I V → I 16 = nI a → I 17 = Int32.ofInt (-1) → I 18 = nI k → prK T k V → ∃ (I' : Nat → Int32) (V' : Nat → Nat → Int32), den 181 32 [some (.ref 163), none, none] [] (hp q S P A D K X E Z I J V) = den 181 55 [some (.ref 163), none, none] [] (hp q S P A D K X E Z (I') J (V')) ∧ I' 17 = (if op T (N) < T.1 then nI (ord T (op T (N))).2 else Int32.ofInt (-1)) ∧ (I' 17 = Int32.ofInt (-1) → I' 18 = nI (N) ∧ prK T (N) V') ∧ (∀ i, i ≠ 16 → i ≠ 17 → i ≠ 18 → I' i = I i) ∧ ∀ i, i ≠ 19 → i ≠ 20 → V' i = V i := by
  have stop : ∀ (I : Nat → Int32) (V : Nat → Nat → Int32), I 17 ≠ Int32.ofInt (-1) → den 181 32 [some (.ref 163), none, none] [] (hp q S P A D K X E Z I J V) = den 181 55 [some (.ref 163), none, none] [] (hp q S P A D K X E Z I J V) := by
    intro I V h17
    rw [D181_32]
    simp (maxSteps := 2000000) (disch := omega) only [e_inl, e_goto, e_fall, e_if, e_icmp, e_iret, e_zret, e_lret, e_vret, e_call0_0, e_call0_1, e_call0_2, e_call0_3, e_call0_4, e_call1_0, e_call1_1, e_call1_2, e_call1_3, e_call1_4, e_call2_0, e_call2_1, e_call2_2, e_call2_3, e_call2_4, e_call3_0, e_call3_1, e_call3_2, e_call3_3, e_call3_4, e_call4_0, e_call4_1, e_call4_2, e_call4_3, e_call4_4, e_call5_0, e_call5_1, e_call5_2, e_call5_3, e_call5_4, e_call6_0, e_call6_1, e_call6_2, e_call6_3, e_call6_4, xP, xld, xst1, xst2, xis2, xii, xid, xll, xlv, xls, xlc, xil, xli, xrd, xdup, xdup2, xc1, xpu, c_eq, c_ne, c_lt, c_ge, c_gt, c_le, Option.bind_some, Option.map_some, List.length_nil, List.length_cons, Nat.reduceAdd, Nat.reduceLeDiff, Int.reduceToNat, Bool.and_self, Bool.false_eq_true, if_true, if_false, o_m, g_m_0, g_m_1, g_m_2, g_m_3, g_m_4, g_m_5, g_m_6, g_m_7, g_m_8, g_m_9, g_m_10, g_m_11, g_m_12, g_m_13, g_m_14, g_m_15, g_m_16, g_m_17, g_m_18, g_m_19, g_m_20, g_m_21, p_m_3, p_m_7, p_m_8, p_m_11, p_m_13, p_m_15, p_m_16, p_m_17, p_m_18, p_m_21, p_m_5_0, p_m_5_1, r_m0, s_m0, r_m1, s_m1, r_m2, s_m2, r_m4, s_m4, r_m6, s_m6, r_m9, s_m9, r_m10, s_m10, r_m12, s_m12, r_m14, s_m14, r_m19, s_m19, r_m20, s_m20, Nat.reduceEqDiff, decide_true, decide_false, Bool.true_and, Bool.false_and, Bool.and_true, Bool.and_false, zB_tt, zB_ff, not_false_eq_true, not_true_eq_false, n_lit, n_mul, nI_add, n_sub, x_in, nI_clamp, nI_ltI, nI_leI, nI_eq, and_self, true_and, and_true, h17]
  have atEnd : ∀ (k a : Nat) (I : Nat → Int32) (V : Nat → Nat → Int32), a ≤ T.1 → skp T a = op T k → rpT T I V → I 16 = nI a → I 17 = Int32.ofInt (-1) → ¬ op T k < T.1 → den 181 32 [some (.ref 163), none, none] [] (hp q S P A D K X E Z I J V) = den 181 55 [some (.ref 163), none, none] [] (hp q S P A D K X E Z (upd I 16 (nI (op T k))) J V) := by
    intro k a I V ha hs hT h16 h17 hop
    have t1 := hT.1
    have eh := t_here (q := q) (S := S) (P := P) (A := A) (D := D) (K := K) (X := X) (E := E) (Z := Z) (J := J) (V := V) (T := T) _ a I (Nat.le_refl _) (by omega) hT h16
    rw [hs] at eh
    have e1 : hrI T (op T k) = Int32.ofInt (-1) := if_neg hop
    rw [e1] at eh
    rw [D181_32]
    simp (maxSteps := 2000000) (disch := omega) only [e_inl, e_goto, e_fall, e_if, e_icmp, e_iret, e_zret, e_lret, e_vret, e_call0_0, e_call0_1, e_call0_2, e_call0_3, e_call0_4, e_call1_0, e_call1_1, e_call1_2, e_call1_3, e_call1_4, e_call2_0, e_call2_1, e_call2_2, e_call2_3, e_call2_4, e_call3_0, e_call3_1, e_call3_2, e_call3_3, e_call3_4, e_call4_0, e_call4_1, e_call4_2, e_call4_3, e_call4_4, e_call5_0, e_call5_1, e_call5_2, e_call5_3, e_call5_4, e_call6_0, e_call6_1, e_call6_2, e_call6_3, e_call6_4, xP, xld, xst1, xst2, xis2, xii, xid, xll, xlv, xls, xlc, xil, xli, xrd, xdup, xdup2, xc1, xpu, c_eq, c_ne, c_lt, c_ge, c_gt, c_le, Option.bind_some, Option.map_some, List.length_nil, List.length_cons, Nat.reduceAdd, Nat.reduceLeDiff, Int.reduceToNat, Bool.and_self, Bool.false_eq_true, if_true, if_false, o_m, g_m_0, g_m_1, g_m_2, g_m_3, g_m_4, g_m_5, g_m_6, g_m_7, g_m_8, g_m_9, g_m_10, g_m_11, g_m_12, g_m_13, g_m_14, g_m_15, g_m_16, g_m_17, g_m_18, g_m_19, g_m_20, g_m_21, p_m_3, p_m_7, p_m_8, p_m_11, p_m_13, p_m_15, p_m_16, p_m_17, p_m_18, p_m_21, p_m_5_0, p_m_5_1, r_m0, s_m0, r_m1, s_m1, r_m2, s_m2, r_m4, s_m4, r_m6, s_m6, r_m9, s_m9, r_m10, s_m10, r_m12, s_m12, r_m14, s_m14, r_m19, s_m19, r_m20, s_m20, Nat.reduceEqDiff, decide_true, decide_false, Bool.true_and, Bool.false_and, Bool.and_true, Bool.and_false, zB_tt, zB_ff, not_false_eq_true, not_true_eq_false, n_lit, n_mul, nI_add, n_sub, x_in, nI_clamp, nI_ltI, nI_leI, nI_eq, and_self, true_and, and_true, h17, eh]
  have atOrd : ∀ (k a : Nat) (I : Nat → Int32) (V : Nat → Nat → Int32), k ≤ 50 → a ≤ T.1 → skp T a = op T k → rpT T I V → I 16 = nI a → I 17 = Int32.ofInt (-1) → I 18 = nI k → op T k < T.1 → ∃ (I' : Nat → Int32) (V' : Nat → Nat → Int32), den 181 32 [some (.ref 163), none, none] [] (hp q S P A D K X E Z I J V) = den 181 32 [some (.ref 163), none, none] [] (hp q S P A D K X E Z (I') J (V')) ∧ roK T (op T k) k (upd I 16 (nI (op T k))) I' V V' := by
    intro k a I V hk ha hs hT h16 h17 h18 hop
    have t1 := hT.1
    have eh := t_here (q := q) (S := S) (P := P) (A := A) (D := D) (K := K) (X := X) (E := E) (Z := Z) (J := J) (V := V) (T := T) _ a I (Nat.le_refl _) (by omega) hT h16
    rw [hs] at eh
    have hne : ¬ hrI T (op T k) = Int32.ofInt (-1) := by
      rw [hrI_no (fun i hi => (hT.2.2 i hi).2)]
      exact fun q => q hop
    obtain ⟨I', V', er, g⟩ := t_readOrder (q := q) (S := S) (P := P) (A := A) (D := D) (K := K) (X := X) (E := E) (Z := Z) (J := J) (V := V) (I := upd I 16 (nI (op T k))) (T := T) (p := op T k) (o := k) hk (hT.of (u_n _ _ (by omega)) rfl) hop (op_nb T k) (u_s _ _ _) (by rw [u_n _ _ (by omega)]; exact h17) (by rw [u_n _ _ (by omega)]; exact h18)
    refine ⟨I', V', ?_, g⟩
    rw [D181_32]
    simp (maxSteps := 2000000) (disch := omega) only [e_inl, e_goto, e_fall, e_if, e_icmp, e_iret, e_zret, e_lret, e_vret, e_call0_0, e_call0_1, e_call0_2, e_call0_3, e_call0_4, e_call1_0, e_call1_1, e_call1_2, e_call1_3, e_call1_4, e_call2_0, e_call2_1, e_call2_2, e_call2_3, e_call2_4, e_call3_0, e_call3_1, e_call3_2, e_call3_3, e_call3_4, e_call4_0, e_call4_1, e_call4_2, e_call4_3, e_call4_4, e_call5_0, e_call5_1, e_call5_2, e_call5_3, e_call5_4, e_call6_0, e_call6_1, e_call6_2, e_call6_3, e_call6_4, xP, xld, xst1, xst2, xis2, xii, xid, xll, xlv, xls, xlc, xil, xli, xrd, xdup, xdup2, xc1, xpu, c_eq, c_ne, c_lt, c_ge, c_gt, c_le, Option.bind_some, Option.map_some, List.length_nil, List.length_cons, Nat.reduceAdd, Nat.reduceLeDiff, Int.reduceToNat, Bool.and_self, Bool.false_eq_true, if_true, if_false, o_m, g_m_0, g_m_1, g_m_2, g_m_3, g_m_4, g_m_5, g_m_6, g_m_7, g_m_8, g_m_9, g_m_10, g_m_11, g_m_12, g_m_13, g_m_14, g_m_15, g_m_16, g_m_17, g_m_18, g_m_19, g_m_20, g_m_21, p_m_3, p_m_7, p_m_8, p_m_11, p_m_13, p_m_15, p_m_16, p_m_17, p_m_18, p_m_21, p_m_5_0, p_m_5_1, r_m0, s_m0, r_m1, s_m1, r_m2, s_m2, r_m4, s_m4, r_m6, s_m6, r_m9, s_m9, r_m10, s_m10, r_m12, s_m12, r_m14, s_m14, r_m19, s_m19, r_m20, s_m20, Nat.reduceEqDiff, decide_true, decide_false, Bool.true_and, Bool.false_and, Bool.and_true, Bool.and_false, zB_tt, zB_ff, not_false_eq_true, not_true_eq_false, n_lit, n_mul, nI_add, n_sub, x_in, nI_clamp, nI_ltI, nI_leI, nI_eq, and_self, true_and, and_true, h17, eh, hne, er]
  induction m with
  | zero =>
    intro k a I V hk ha hs hT h16 h17 h18 hP
    have t1 := hT.1
    have hk : N = k := by omega
    subst hk
    by_cases hop : op T (N) < T.1
    · obtain ⟨I', V', e, g1, g2, g3, g4, g5, g6, g7⟩ := atOrd _ a I V o1 ha hs hT h16 h17 h18 hop
      rw [if_neg (by rw [o2]; decide)] at g4
      have hb := (ord_bd (op_le T (N))).1
      have hne : I' 17 ≠ Int32.ofInt (-1) := by
        rw [g4]
        intro q
        rw [n_neg (by omega)] at q
        exact q
      refine ⟨I', V', e.trans (stop I' V' hne), by rw [if_pos hop]; exact g4, fun q => absurd q hne, fun i a1 b c => by rw [g1 i a1 b c, u_n _ _ a1], g2⟩
    · refine ⟨_, V, atEnd _ a I V ha hs hT h16 h17 hop, by rw [if_neg hop, u_n _ _ (by omega)]; exact h17, fun _ => ⟨by rw [u_n _ _ (by omega)]; exact h18, hP⟩, fun i a1 b c => u_n _ _ a1, fun _ _ _ => rfl⟩
  | succ m ih =>
    intro k a I V hk ha hs hT h16 h17 h18 hP
    have t1 := hT.1
    have hok := o3 k (by omega)
    obtain ⟨hop, hnb⟩ := ord_nb hok
    obtain ⟨I1, V1, e, g1, g2, g3, g4, g5, g6, g7⟩ := atOrd k a I V (by omega) ha hs hT h16 h17 h18 hop
    rw [if_pos hok] at g4
    obtain ⟨g51, g52, g53⟩ := g5 hok
    have hn : ∀ i, i ≠ 16 → i ≠ 17 → i ≠ 18 → I1 i = I i := fun i a1 b c => by rw [g1 i a1 b c, u_n _ _ a1]
    obtain ⟨I', V', e2, k1, k2, k3, k4⟩ := ih (k + 1) (ord T (op T k)).2 I1 V1 (by omega) (ord_bd (op_le T k)).1 rfl (hT.of (hn 15 (by omega) (by omega) (by omega)) (g2 14 (by omega) (by omega))) g51 g4 g3 (fun i hi => by
      by_cases ei : i = k
      · subst ei
        exact ⟨g52, g53⟩
      · obtain ⟨p1, p2⟩ := hP i (by omega)
        refine ⟨by rw [g6 i ei]; exact p1, fun j hj => ?_⟩
        have := nb_le (T.2 (op T i))
        rw [g7 _ (by omega)]
        exact p2 j hj)
    exact ⟨I', V', e.trans e2, k1, k2, fun i a1 b c => (k3 i a1 b c).trans (hn i a1 b c), fun i a1 b => (k4 i a1 b).trans (g2 i a1 b)⟩
set_option maxRecDepth 100000 in
theorem t_rd_79 {T : tx} {N : Nat} (o1 : N ≤ 50) (o3 : ∀ k, k < N → (ord T (op T k)).1 = true) {σ : mS} (hw : wf σ) (hT1 : T.1 ≤ 150) (hTb : ∀ i, i < T.1 → T.2 i < 128) (m : Nat) : ∀ (k : Nat) (I : Nat → Int32) (V : Nat → Nat → Int32) (J : Nat → Int64), k + m = N → rpA (rdS T σ k).1 (V 0) → LayI (rdS T σ k).1 I V → I 18 = nI (N) → prK T (N) V → ∃ (I' : Nat → Int32) (V' : Nat → Nat → Int32) (J' : Nat → Int64), den 181 79 [some (.ref 163), some (.int (nI (rdS T σ k).2)), some (.int (nI k))] [] (hp q S P A D K X E Z I J V) = den 181 109 [some (.ref 163), some (.int (nI (rdS T σ (N)).2)), some (.int (nI (N)))] [] (hp q S P A D K X E Z (I') (J') (V')) ∧ rpA (rdS T σ (N)).1 (V' 0) ∧ LayI (rdS T σ (N)).1 I' V' ∧ DF I I' V V' := by
  induction m with
  | zero =>
    intro k I V J hk hr hL h18 hP
    have hk : N = k := by omega
    subst hk
    refine ⟨I, V, J, ?_, hr, hL, DF.rf I V⟩
    rw [D181_79]
    simp (maxSteps := 2000000) (disch := omega) only [e_inl, e_goto, e_fall, e_if, e_icmp, e_iret, e_zret, e_lret, e_vret, e_call0_0, e_call0_1, e_call0_2, e_call0_3, e_call0_4, e_call1_0, e_call1_1, e_call1_2, e_call1_3, e_call1_4, e_call2_0, e_call2_1, e_call2_2, e_call2_3, e_call2_4, e_call3_0, e_call3_1, e_call3_2, e_call3_3, e_call3_4, e_call4_0, e_call4_1, e_call4_2, e_call4_3, e_call4_4, e_call5_0, e_call5_1, e_call5_2, e_call5_3, e_call5_4, e_call6_0, e_call6_1, e_call6_2, e_call6_3, e_call6_4, xP, xld, xst1, xst2, xis2, xii, xid, xll, xlv, xls, xlc, xil, xli, xrd, xdup, xdup2, xc1, xpu, c_eq, c_ne, c_lt, c_ge, c_gt, c_le, Option.bind_some, Option.map_some, List.length_nil, List.length_cons, Nat.reduceAdd, Nat.reduceLeDiff, Int.reduceToNat, Bool.and_self, Bool.false_eq_true, if_true, if_false, o_m, g_m_0, g_m_1, g_m_2, g_m_3, g_m_4, g_m_5, g_m_6, g_m_7, g_m_8, g_m_9, g_m_10, g_m_11, g_m_12, g_m_13, g_m_14, g_m_15, g_m_16, g_m_17, g_m_18, g_m_19, g_m_20, g_m_21, p_m_3, p_m_7, p_m_8, p_m_11, p_m_13, p_m_15, p_m_16, p_m_17, p_m_18, p_m_21, p_m_5_0, p_m_5_1, r_m0, s_m0, r_m1, s_m1, r_m2, s_m2, r_m4, s_m4, r_m6, s_m6, r_m9, s_m9, r_m10, s_m10, r_m12, s_m12, r_m14, s_m14, r_m19, s_m19, r_m20, s_m20, Nat.reduceEqDiff, decide_true, decide_false, Bool.true_and, Bool.false_and, Bool.and_true, Bool.and_false, zB_tt, zB_ff, not_false_eq_true, not_true_eq_false, n_lit, n_mul, nI_add, n_sub, x_in, nI_clamp, nI_ltI, nI_leI, nI_eq, and_self, true_and, and_true, h18, Nat.le_refl]
  | succ m ih =>
    intro k I V J hk hr hL h18 hP
    obtain ⟨hop, hnb⟩ := ord_nb (o3 k (by omega))
    obtain ⟨p1, p2⟩ := hP k (by omega)
    obtain ⟨q1, q2⟩ := rdS_ok (T := T) hw k
    obtain ⟨I1, V1, J1, e1, g1, g2, g3⟩ := t_doOrder (q := q) (S := S) (P := P) (A := A) (D := D) (K := K) (X := X) (E := E) (Z := Z) (J := J) q1 hr hL (show k < 60 by omega) (hTb _ hop) p1 hnb p2
    have hP1 : prK T (N) V1 := by
      unfold prK
      rw [g3.2 19 (by omega) (by omega) (by omega) (by omega) (by omega), g3.2 20 (by omega) (by omega) (by omega) (by omega) (by omega)]
      exact hP
    obtain ⟨I', V', J', e2, k1, k2, k3⟩ := ih (k + 1) I1 V1 J1 (by omega) g1 g2 (by rw [g3.1 18 (by omega) (by omega) (by omega) (by omega)]; exact h18) hP1
    refine ⟨I', V', J', Eq.trans ?_ e2, k1, k2, g3.tr k3⟩
    have hkn : ¬ N ≤ k := by omega
    have es : (rdS T σ (k + 1)).2 = (rdS T σ k).2 + if 0 ≤ (dO (rdS T σ k).1 (T.2 (op T k)) (nv T (op T k + 1))).1 then 1 else 0 := rfl
    rw [es, D181_79]
    generalize (rdS T σ k).2 = u at *
    generalize (dO (rdS T σ k).1 (T.2 (op T k)) (nv T (op T k + 1))).1 = a at *
    by_cases ha : 0 ≤ a
    · have ha2 : ¬ a < 0 := Int32.not_lt.mpr ha
      simp (maxSteps := 2000000) (disch := omega) only [e_inl, e_goto, e_fall, e_if, e_icmp, e_iret, e_zret, e_lret, e_vret, e_call0_0, e_call0_1, e_call0_2, e_call0_3, e_call0_4, e_call1_0, e_call1_1, e_call1_2, e_call1_3, e_call1_4, e_call2_0, e_call2_1, e_call2_2, e_call2_3, e_call2_4, e_call3_0, e_call3_1, e_call3_2, e_call3_3, e_call3_4, e_call4_0, e_call4_1, e_call4_2, e_call4_3, e_call4_4, e_call5_0, e_call5_1, e_call5_2, e_call5_3, e_call5_4, e_call6_0, e_call6_1, e_call6_2, e_call6_3, e_call6_4, xP, xld, xst1, xst2, xis2, xii, xid, xll, xlv, xls, xlc, xil, xli, xrd, xdup, xdup2, xc1, xpu, c_eq, c_ne, c_lt, c_ge, c_gt, c_le, Option.bind_some, Option.map_some, List.length_nil, List.length_cons, Nat.reduceAdd, Nat.reduceLeDiff, Int.reduceToNat, Bool.and_self, Bool.false_eq_true, if_true, if_false, D181_101, o_m, g_m_0, g_m_1, g_m_2, g_m_3, g_m_4, g_m_5, g_m_6, g_m_7, g_m_8, g_m_9, g_m_10, g_m_11, g_m_12, g_m_13, g_m_14, g_m_15, g_m_16, g_m_17, g_m_18, g_m_19, g_m_20, g_m_21, p_m_3, p_m_7, p_m_8, p_m_11, p_m_13, p_m_15, p_m_16, p_m_17, p_m_18, p_m_21, p_m_5_0, p_m_5_1, r_m0, s_m0, r_m1, s_m1, r_m2, s_m2, r_m4, s_m4, r_m6, s_m6, r_m9, s_m9, r_m10, s_m10, r_m12, s_m12, r_m14, s_m14, r_m19, s_m19, r_m20, s_m20, Nat.reduceEqDiff, decide_true, decide_false, Bool.true_and, Bool.false_and, Bool.and_true, Bool.and_false, zB_tt, zB_ff, not_false_eq_true, not_true_eq_false, n_lit, n_mul, nI_add, n_sub, x_in, nI_clamp, nI_ltI, nI_leI, nI_eq, and_self, true_and, and_true, h18, hkn, e1, ha, ha2]
    · have ha2 : a < 0 := Int32.not_le.mp ha
      simp (maxSteps := 2000000) (disch := omega) only [e_inl, e_goto, e_fall, e_if, e_icmp, e_iret, e_zret, e_lret, e_vret, e_call0_0, e_call0_1, e_call0_2, e_call0_3, e_call0_4, e_call1_0, e_call1_1, e_call1_2, e_call1_3, e_call1_4, e_call2_0, e_call2_1, e_call2_2, e_call2_3, e_call2_4, e_call3_0, e_call3_1, e_call3_2, e_call3_3, e_call3_4, e_call4_0, e_call4_1, e_call4_2, e_call4_3, e_call4_4, e_call5_0, e_call5_1, e_call5_2, e_call5_3, e_call5_4, e_call6_0, e_call6_1, e_call6_2, e_call6_3, e_call6_4, xP, xld, xst1, xst2, xis2, xii, xid, xll, xlv, xls, xlc, xil, xli, xrd, xdup, xdup2, xc1, xpu, c_eq, c_ne, c_lt, c_ge, c_gt, c_le, Option.bind_some, Option.map_some, List.length_nil, List.length_cons, Nat.reduceAdd, Nat.reduceLeDiff, Int.reduceToNat, Bool.and_self, Bool.false_eq_true, if_true, if_false, D181_100, D181_101, o_m, g_m_0, g_m_1, g_m_2, g_m_3, g_m_4, g_m_5, g_m_6, g_m_7, g_m_8, g_m_9, g_m_10, g_m_11, g_m_12, g_m_13, g_m_14, g_m_15, g_m_16, g_m_17, g_m_18, g_m_19, g_m_20, g_m_21, p_m_3, p_m_7, p_m_8, p_m_11, p_m_13, p_m_15, p_m_16, p_m_17, p_m_18, p_m_21, p_m_5_0, p_m_5_1, r_m0, s_m0, r_m1, s_m1, r_m2, s_m2, r_m4, s_m4, r_m6, s_m6, r_m9, s_m9, r_m10, s_m10, r_m12, s_m12, r_m14, s_m14, r_m19, s_m19, r_m20, s_m20, Nat.reduceEqDiff, decide_true, decide_false, Bool.true_and, Bool.false_and, Bool.and_true, Bool.and_false, zB_tt, zB_ff, not_false_eq_true, not_true_eq_false, n_lit, n_mul, nI_add, n_sub, x_in, nI_clamp, nI_ltI, nI_leI, nI_eq, and_self, true_and, and_true, h18, hkn, e1, ha, ha2]
theorem RefI.txt {M : mM} {I I' : Nat → Int32} {V V' : Nat → Nat → Int32} (hI : RefI M I V) (h1 : ∀ i, i ≠ 16 → i ≠ 17 → i ≠ 18 → I' i = I i) (h2 : ∀ i, i ≠ 19 → i ≠ 20 → V' i = V i) : RefI M I' V' := by
  obtain ⟨i1, i2, i3, i4, i5, i6, i7, i8⟩ := hI
  exact ⟨i1, by rw [h2 0 (by omega) (by omega)]; exact i2, i3.of (fun k hk => h1 k (by omega) (by omega) (by omega)) (fun k hk => h2 k (by omega) (by omega)), i4, by rw [h1 3 (by omega) (by omega) (by omega)]; exact i5, by rw [h2 2 (by omega) (by omega)]; exact i6, i7.of (h1 15 (by omega) (by omega) (by omega)) (h2 14 (by omega) (by omega)), by rw [h2 4 (by omega) (by omega)]; exact i8⟩
set_option maxRecDepth 100000 in
theorem t_rd_0 {M : mM} (hI : RefI M I V) : ∃ (I' : Nat → Int32) (V' : Nat → Nat → Int32), xcall 181 [.ref 163] (hp q S P A D K X E Z I J V) = den 181 55 [some (.ref 163), none, none] [] (hp q S P A D K X E Z (I') J (V')) ∧ I' 17 = oI (flt M.2.2.2.1) ∧ (flt M.2.2.2.1 = none → I' 18 = nI (oN M.2.2.2.1) ∧ prK M.2.2.2.1 (oN M.2.2.2.1) V') ∧ RefI M I' V' := by
  have hT := hI.2.2.2.2.2.2.1
  generalize hTT : M.2.2.2.1 = T at *
  have t1 := hT.1
  obtain ⟨o1, o2, o3⟩ := oN_lt t1
  rw [N181 _ _ (o_m ..)]
  have hs0 : skp T 0 = op T 0 := rfl
  have hle := op_le T 0
  generalize hI0 : upd (upd (upd I 16 (nI 0)) 17 (Int32.ofInt (-1))) 18 (nI 0) = I0
  have j16 : I0 16 = nI 0 := by rw [← hI0, u_n _ _ (by omega), u_n _ _ (by omega), u_s]
  have j17 : I0 17 = Int32.ofInt (-1) := by rw [← hI0, u_n _ _ (by omega), u_s]
  have j18 : I0 18 = nI 0 := by rw [← hI0, u_s]
  have jn : ∀ i, i ≠ 16 → i ≠ 17 → i ≠ 18 → I0 i = I i := fun i a b c => by rw [← hI0, u_n _ _ c, u_n _ _ b, u_n _ _ a]
  have hT0 : rpT T I0 V := hT.of (jn 15 (by omega) (by omega) (by omega)) rfl
  have eh := t_here (q := q) (S := S) (P := P) (A := A) (D := D) (K := K) (X := X) (E := E) (Z := Z) (J := J) (V := V) (T := T) _ 0 I0 (Nat.le_refl _) (by omega) hT0 j16
  rw [hs0] at eh
  generalize hI1 : upd I0 16 (nI (op T 0)) = I1 at eh
  have k16 : I1 16 = nI (op T 0) := by rw [← hI1, u_s]
  have k17 : I1 17 = Int32.ofInt (-1) := by rw [← hI1, u_n _ _ (by omega)]; exact j17
  have kn : ∀ i, i ≠ 16 → I1 i = I0 i := fun i a => by rw [← hI1, u_n _ _ a]
  have em := fun b => t_must (q := q) (S := S) (P := P) (A := A) (D := D) (K := K) (X := X) (E := E) (Z := Z) (J := J) (V := V) (I := I1) b k16 k17
  have e1 : ∀ t : List xI, xB xcall (den 181) (.inl (.aload 0) :: .inl (.iconst 0) :: .inl (.putfield 304) :: .inl (.aload 0) :: .inl (.iconst (-1)) :: .inl (.putfield 305) :: .inl (.aload 0) :: .inl (.iconst 0) :: .inl (.putfield 306) :: t) [some (.ref 163), none, none] [] (hp q S P A D K X E Z I J V) = xB xcall (den 181) t [some (.ref 163), none, none] [] (hp q S P A D K X E Z (I0) J V) := by
    intro t
    rw [← hI0]
    simp (maxSteps := 2000000) (disch := omega) only [e_inl, e_goto, e_fall, e_if, e_icmp, e_iret, e_zret, e_lret, e_vret, e_call0_0, e_call0_1, e_call0_2, e_call0_3, e_call0_4, e_call1_0, e_call1_1, e_call1_2, e_call1_3, e_call1_4, e_call2_0, e_call2_1, e_call2_2, e_call2_3, e_call2_4, e_call3_0, e_call3_1, e_call3_2, e_call3_3, e_call3_4, e_call4_0, e_call4_1, e_call4_2, e_call4_3, e_call4_4, e_call5_0, e_call5_1, e_call5_2, e_call5_3, e_call5_4, e_call6_0, e_call6_1, e_call6_2, e_call6_3, e_call6_4, xP, xld, xst1, xst2, xis2, xii, xid, xll, xlv, xls, xlc, xil, xli, xrd, xdup, xdup2, xc1, xpu, c_eq, c_ne, c_lt, c_ge, c_gt, c_le, Option.bind_some, Option.map_some, List.length_nil, List.length_cons, Nat.reduceAdd, Nat.reduceLeDiff, Int.reduceToNat, Bool.and_self, Bool.false_eq_true, if_true, if_false, o_m, g_m_0, g_m_1, g_m_2, g_m_3, g_m_4, g_m_5, g_m_6, g_m_7, g_m_8, g_m_9, g_m_10, g_m_11, g_m_12, g_m_13, g_m_14, g_m_15, g_m_16, g_m_17, g_m_18, g_m_19, g_m_20, g_m_21, p_m_3, p_m_7, p_m_8, p_m_11, p_m_13, p_m_15, p_m_16, p_m_17, p_m_18, p_m_21, p_m_5_0, p_m_5_1, r_m0, s_m0, r_m1, s_m1, r_m2, s_m2, r_m4, s_m4, r_m6, s_m6, r_m9, s_m9, r_m10, s_m10, r_m12, s_m12, r_m14, s_m14, r_m19, s_m19, r_m20, s_m20, Nat.reduceEqDiff, decide_true, decide_false, Bool.true_and, Bool.false_and, Bool.and_true, Bool.and_false, zB_tt, zB_ff, not_false_eq_true, not_true_eq_false, n_lit, n_mul, nI_add, n_sub, x_in, nI_clamp, nI_ltI, nI_leI, nI_eq, and_self, true_and, and_true]
  have hno := hrI_no (T := T) (a := op T 0) (fun i hi => (hT.2.2 i hi).2)
  by_cases hop : op T 0 < T.1
  · have h1 : ¬ hrI T (op T 0) = Int32.ofInt (-1) := by rw [hno]; exact fun q => q hop
    have em1 := em true
    rw [zB_tt, if_neg (fun q => Bool.noConfusion q.2), fa_upd_same k17] at em1
    obtain ⟨I', V', e2, g1, g2, g3, g4⟩ := t_rd_32 (q := q) (S := S) (P := P) (A := A) (D := D) (K := K) (X := X) (E := E) (Z := Z) (J := J) (T := T) o1 o2 o3 (oN T) 0 (op T 0) I1 V (by omega) hle (skp_no (op_nb T 0)) (hT0.of (kn 15 (by omega)) rfl) k16 k17 (by rw [kn 18 (by omega)]; exact j18) (fun i hi => absurd hi (Nat.not_lt_zero i))
    have hN0 : ¬ op T (oN T) < T.1 → oN T ≠ 0 := fun h1 h2 => by rw [h2] at h1; exact h1 hop
    refine ⟨I', V', ?_, ?_, fun hf => ?_, hI.txt (fun i a b c => by rw [g3 i a b c, kn i a, jn i a b c]) g4⟩
    · rw [D181_0, e1, ← e2]
      simp (maxSteps := 2000000) (disch := omega) only [e_inl, e_goto, e_fall, e_if, e_icmp, e_iret, e_zret, e_lret, e_vret, e_call0_0, e_call0_1, e_call0_2, e_call0_3, e_call0_4, e_call1_0, e_call1_1, e_call1_2, e_call1_3, e_call1_4, e_call2_0, e_call2_1, e_call2_2, e_call2_3, e_call2_4, e_call3_0, e_call3_1, e_call3_2, e_call3_3, e_call3_4, e_call4_0, e_call4_1, e_call4_2, e_call4_3, e_call4_4, e_call5_0, e_call5_1, e_call5_2, e_call5_3, e_call5_4, e_call6_0, e_call6_1, e_call6_2, e_call6_3, e_call6_4, xP, xld, xst1, xst2, xis2, xii, xid, xll, xlv, xls, xlc, xil, xli, xrd, xdup, xdup2, xc1, xpu, c_eq, c_ne, c_lt, c_ge, c_gt, c_le, Option.bind_some, Option.map_some, List.length_nil, List.length_cons, Nat.reduceAdd, Nat.reduceLeDiff, Int.reduceToNat, Bool.and_self, Bool.false_eq_true, if_true, if_false, D181_29, o_m, g_m_0, g_m_1, g_m_2, g_m_3, g_m_4, g_m_5, g_m_6, g_m_7, g_m_8, g_m_9, g_m_10, g_m_11, g_m_12, g_m_13, g_m_14, g_m_15, g_m_16, g_m_17, g_m_18, g_m_19, g_m_20, g_m_21, p_m_3, p_m_7, p_m_8, p_m_11, p_m_13, p_m_15, p_m_16, p_m_17, p_m_18, p_m_21, p_m_5_0, p_m_5_1, r_m0, s_m0, r_m1, s_m1, r_m2, s_m2, r_m4, s_m4, r_m6, s_m6, r_m9, s_m9, r_m10, s_m10, r_m12, s_m12, r_m14, s_m14, r_m19, s_m19, r_m20, s_m20, Nat.reduceEqDiff, decide_true, decide_false, Bool.true_and, Bool.false_and, Bool.and_true, Bool.and_false, zB_tt, zB_ff, not_false_eq_true, not_true_eq_false, n_lit, n_mul, nI_add, n_sub, x_in, nI_clamp, nI_ltI, nI_leI, nI_eq, and_self, true_and, and_true, eh, h1, em1]
    · rw [g1]
      unfold flt
      by_cases h2 : op T (oN T) < T.1
      · rw [if_pos h2, if_pos h2]; rfl
      · rw [if_neg h2, if_neg h2, if_neg (hN0 h2)]; rfl
    · refine g2 ?_
      rw [g1]
      unfold flt at hf
      by_cases h2 : op T (oN T) < T.1
      · rw [if_pos h2] at hf; cases hf
      · rw [if_neg h2]
  · have h1 : hrI T (op T 0) = Int32.ofInt (-1) := by rw [hno]; exact hop
    have em1 := em false
    rw [zB_ff, if_pos ⟨rfl, rfl⟩] at em1
    have hN0 : oN T = 0 := by
      apply Classical.byContradiction
      intro h
      exact hop (ord_nb (o3 0 (by omega))).1
    have hf : flt T = some (op T 0) := by
      unfold flt
      rw [hN0, if_neg hop, if_pos rfl]
    have hne := n_neg (x := op T 0) (by omega)
    refine ⟨upd I1 17 (nI (op T 0)), V, ?_, ?_, (fun h => by rw [hf] at h; cases h), hI.txt (fun i a b c => by rw [u_n _ _ b, kn i a, jn i a b c]) (fun _ _ _ => rfl)⟩
    · rw [h1] at eh
      have h17 : upd I1 17 (nI (op T 0)) 17 = nI (op T 0) := u_s _ _ _
      rw [D181_0, e1]
      simp (maxSteps := 2000000) (disch := omega) only [e_inl, e_goto, e_fall, e_if, e_icmp, e_iret, e_zret, e_lret, e_vret, e_call0_0, e_call0_1, e_call0_2, e_call0_3, e_call0_4, e_call1_0, e_call1_1, e_call1_2, e_call1_3, e_call1_4, e_call2_0, e_call2_1, e_call2_2, e_call2_3, e_call2_4, e_call3_0, e_call3_1, e_call3_2, e_call3_3, e_call3_4, e_call4_0, e_call4_1, e_call4_2, e_call4_3, e_call4_4, e_call5_0, e_call5_1, e_call5_2, e_call5_3, e_call5_4, e_call6_0, e_call6_1, e_call6_2, e_call6_3, e_call6_4, xP, xld, xst1, xst2, xis2, xii, xid, xll, xlv, xls, xlc, xil, xli, xrd, xdup, xdup2, xc1, xpu, c_eq, c_ne, c_lt, c_ge, c_gt, c_le, Option.bind_some, Option.map_some, List.length_nil, List.length_cons, Nat.reduceAdd, Nat.reduceLeDiff, Int.reduceToNat, Bool.and_self, Bool.false_eq_true, if_true, if_false, D181_28, D181_29, o_m, g_m_0, g_m_1, g_m_2, g_m_3, g_m_4, g_m_5, g_m_6, g_m_7, g_m_8, g_m_9, g_m_10, g_m_11, g_m_12, g_m_13, g_m_14, g_m_15, g_m_16, g_m_17, g_m_18, g_m_19, g_m_20, g_m_21, p_m_3, p_m_7, p_m_8, p_m_11, p_m_13, p_m_15, p_m_16, p_m_17, p_m_18, p_m_21, p_m_5_0, p_m_5_1, r_m0, s_m0, r_m1, s_m1, r_m2, s_m2, r_m4, s_m4, r_m6, s_m6, r_m9, s_m9, r_m10, s_m10, r_m12, s_m12, r_m14, s_m14, r_m19, s_m19, r_m20, s_m20, Nat.reduceEqDiff, decide_true, decide_false, Bool.true_and, Bool.false_and, Bool.and_true, Bool.and_false, zB_tt, zB_ff, not_false_eq_true, not_true_eq_false, n_lit, n_mul, nI_add, n_sub, x_in, nI_clamp, nI_ltI, nI_leI, nI_eq, and_self, true_and, and_true, eh, em1]
      rw [D181_32]
      simp (maxSteps := 2000000) (disch := omega) only [e_inl, e_goto, e_fall, e_if, e_icmp, e_iret, e_zret, e_lret, e_vret, e_call0_0, e_call0_1, e_call0_2, e_call0_3, e_call0_4, e_call1_0, e_call1_1, e_call1_2, e_call1_3, e_call1_4, e_call2_0, e_call2_1, e_call2_2, e_call2_3, e_call2_4, e_call3_0, e_call3_1, e_call3_2, e_call3_3, e_call3_4, e_call4_0, e_call4_1, e_call4_2, e_call4_3, e_call4_4, e_call5_0, e_call5_1, e_call5_2, e_call5_3, e_call5_4, e_call6_0, e_call6_1, e_call6_2, e_call6_3, e_call6_4, xP, xld, xst1, xst2, xis2, xii, xid, xll, xlv, xls, xlc, xil, xli, xrd, xdup, xdup2, xc1, xpu, c_eq, c_ne, c_lt, c_ge, c_gt, c_le, Option.bind_some, Option.map_some, List.length_nil, List.length_cons, Nat.reduceAdd, Nat.reduceLeDiff, Int.reduceToNat, Bool.and_self, Bool.false_eq_true, if_true, if_false, o_m, g_m_0, g_m_1, g_m_2, g_m_3, g_m_4, g_m_5, g_m_6, g_m_7, g_m_8, g_m_9, g_m_10, g_m_11, g_m_12, g_m_13, g_m_14, g_m_15, g_m_16, g_m_17, g_m_18, g_m_19, g_m_20, g_m_21, p_m_3, p_m_7, p_m_8, p_m_11, p_m_13, p_m_15, p_m_16, p_m_17, p_m_18, p_m_21, p_m_5_0, p_m_5_1, r_m0, s_m0, r_m1, s_m1, r_m2, s_m2, r_m4, s_m4, r_m6, s_m6, r_m9, s_m9, r_m10, s_m10, r_m12, s_m12, r_m14, s_m14, r_m19, s_m19, r_m20, s_m20, Nat.reduceEqDiff, decide_true, decide_false, Bool.true_and, Bool.false_and, Bool.and_true, Bool.and_false, zB_tt, zB_ff, not_false_eq_true, not_true_eq_false, n_lit, n_mul, nI_add, n_sub, x_in, nI_clamp, nI_ltI, nI_leI, nI_eq, and_self, true_and, and_true, h17, hne]
    · rw [u_s, hf]; rfl
set_option maxRecDepth 100000 in
theorem R_reads {M : mM} (hI : RefI M I V) : ∃ (I' : Nat → Int32) (V' : Nat → Nat → Int32) (J' : Nat → Int64), xcall 181 [.ref 163] (hp q S P A D K X E Z I J V) = some (some (.int (oReads M).1), (hp q S P A D K X E Z (I') (J') (V'))) ∧ RefI (oReads M).2 I' V' := by
  obtain ⟨I1, V1, e0, g1, g2, hI1⟩ := t_rd_0 (q := q) (S := S) (P := P) (A := A) (D := D) (K := K) (X := X) (E := E) (Z := Z) (J := J) hI
  have hT := hI1.2.2.2.2.2.2.1
  rw [e0, D181_55]
  clear e0
  cases hf : flt M.2.2.2.1 with
  | some f =>
    rw [oReads_s hf]
    dsimp only
    rw [hf] at g1
    generalize hTT : M.2.2.2.1 = T at *
    have t1 := hT.1
    have hfl : f ≤ 150 := by
      unfold flt at hf
      have hb := (ord_bd (op_le T (oN T))).1
      have hb2 := op_le T 0
      split at hf
      · have := Option.some.inj hf
        omega
      · split at hf
        · have := Option.some.inj hf
          omega
        · cases hf
    have hne := n_neg (x := f) (by omega)
    have g1 : I1 17 = nI f := g1
    refine ⟨I1, V1, J, ?_, hI1⟩
    simp (maxSteps := 2000000) (disch := omega) only [e_inl, e_goto, e_fall, e_if, e_icmp, e_iret, e_zret, e_lret, e_vret, e_call0_0, e_call0_1, e_call0_2, e_call0_3, e_call0_4, e_call1_0, e_call1_1, e_call1_2, e_call1_3, e_call1_4, e_call2_0, e_call2_1, e_call2_2, e_call2_3, e_call2_4, e_call3_0, e_call3_1, e_call3_2, e_call3_3, e_call3_4, e_call4_0, e_call4_1, e_call4_2, e_call4_3, e_call4_4, e_call5_0, e_call5_1, e_call5_2, e_call5_3, e_call5_4, e_call6_0, e_call6_1, e_call6_2, e_call6_3, e_call6_4, xP, xld, xst1, xst2, xis2, xii, xid, xll, xlv, xls, xlc, xil, xli, xrd, xdup, xdup2, xc1, xpu, c_eq, c_ne, c_lt, c_ge, c_gt, c_le, Option.bind_some, Option.map_some, List.length_nil, List.length_cons, Nat.reduceAdd, Nat.reduceLeDiff, Int.reduceToNat, Bool.and_self, Bool.false_eq_true, if_true, if_false, o_m, g_m_0, g_m_1, g_m_2, g_m_3, g_m_4, g_m_5, g_m_6, g_m_7, g_m_8, g_m_9, g_m_10, g_m_11, g_m_12, g_m_13, g_m_14, g_m_15, g_m_16, g_m_17, g_m_18, g_m_19, g_m_20, g_m_21, p_m_3, p_m_7, p_m_8, p_m_11, p_m_13, p_m_15, p_m_16, p_m_17, p_m_18, p_m_21, p_m_5_0, p_m_5_1, r_m0, s_m0, r_m1, s_m1, r_m2, s_m2, r_m4, s_m4, r_m6, s_m6, r_m9, s_m9, r_m10, s_m10, r_m12, s_m12, r_m14, s_m14, r_m19, s_m19, r_m20, s_m20, Nat.reduceEqDiff, decide_true, decide_false, Bool.true_and, Bool.false_and, Bool.and_true, Bool.and_false, zB_tt, zB_ff, not_false_eq_true, not_true_eq_false, n_lit, n_mul, nI_add, n_sub, x_in, nI_clamp, nI_ltI, nI_leI, nI_eq, and_self, true_and, and_true, g1, hne]
  | none =>
    rw [oReads_n hf]
    dsimp only
    rw [hf] at g1
    generalize hTT : M.2.2.2.1 = T at *
    have t1 := hT.1
    obtain ⟨o1, o2, o3⟩ := oN_lt t1
    have g1 : I1 17 = Int32.ofInt (-1) := g1
    obtain ⟨q1, q2⟩ := g2 hf
    have hI1' := hI1
    obtain ⟨i1, i2, i3, i4, i5, i6, i7, i8⟩ := hI1
    obtain ⟨I2, V2, J2, e2, k1, k2, k3⟩ := t_rd_79 (q := q) (S := S) (P := P) (A := A) (D := D) (K := K) (X := X) (E := E) (Z := Z) (T := T) o1 o3 (σ := M.1) i1 t1 (fun i hi => (hT.2.2 i hi).2) (oN T) 0 I1 (vf_upd V1 1 (fa_fill (V1 0) (V1 1) 115)) J (by omega) (by rw [vu_n _ _ (by omega)]; exact i2) (i3.of (fun _ _ => rfl) (fun k hk => vu_n _ _ (by omega))) q1 (by unfold prK; rw [vu_n _ _ (by omega), vu_n _ _ (by omega)]; exact q2)
    have e20 : (rdS T M.1 0).2 = 0 := rfl
    rw [e20] at e2
    obtain ⟨r1, r2⟩ := rdS_ok (T := T) i1 (oN T)
    generalize rdS T M.1 (oN T) = rr at *
    have v2 : V2 2 = V1 2 := by rw [k3.2 2 (by omega) (by omega) (by omega) (by omega) (by omega)]; exact vu_n _ _ (by omega)
    have v1 : V2 1 = fa_fill (V1 0) (V1 1) 115 := by rw [k3.2 1 (by omega) (by omega) (by omega) (by omega) (by omega)]; exact vu_s _ _ _
    obtain ⟨I', V', ep, l1, l2, l3, l4⟩ := t_pushA (q := q) (S := S) (P := P) (A := A) (D := D) (K := K) (X := X) (E := E) (Z := Z) (J := J2) (I := I2) (V := V2) (pp := M.2.2.1) (σ := M.1) i4 (by rw [k3.1 3 (by omega) (by omega) (by omega) (by omega)]; exact i5) (by rw [v2]; exact i6) i1 (by rw [v1]; exact held_rp i1 i2)
    have h0 : (0 : Int32) ≤ nI rr.2 := by rw [n_0]; exact (nI_leI (by omega) (by omega)).mpr (Nat.zero_le _)
    have a1 : I' 3 = nI (if 0 ≤ nI rr.2 then psN M.2.1 else M.2.1) := by rw [if_pos h0]; exact l1
    have a2 : ∀ j, j < (if 0 ≤ nI rr.2 then psN M.2.1 else M.2.1) → wf ((if 0 ≤ nI rr.2 then psP M.2.1 M.2.2.1 M.1 else M.2.2.1) j) ∧ rpA ((if 0 ≤ nI rr.2 then psP M.2.1 M.2.2.1 M.1 else M.2.2.1) j) (fun k => V' 2 (115 * j + k)) := by rw [if_pos h0, if_pos h0]; exact l2
    have a3 : V' 4 = if 0 ≤ nI rr.2 then V2 4 else inc (V2 4) (ec (nI rr.2)) := by rw [if_pos h0]; exact l4 4 (by omega)
    have hfin : RefI (fin M (nI rr.2, rr.1)) I' V' := refFin (M := M) (d := (nI rr.2, rr.1)) (I := I1) (V := V1) (I1 := I2) (V1 := V2) (I2 := I') (V2 := V') hI1' r1 k1 k2 k3 a1 a2 l3 (fun k a _ => l4 k a) a3
    refine ⟨I', V', J2, ?_, hfin⟩
    simp (maxSteps := 2000000) (disch := omega) only [e_inl, e_goto, e_fall, e_if, e_icmp, e_iret, e_zret, e_lret, e_vret, e_call0_0, e_call0_1, e_call0_2, e_call0_3, e_call0_4, e_call1_0, e_call1_1, e_call1_2, e_call1_3, e_call1_4, e_call2_0, e_call2_1, e_call2_2, e_call2_3, e_call2_4, e_call3_0, e_call3_1, e_call3_2, e_call3_3, e_call3_4, e_call4_0, e_call4_1, e_call4_2, e_call4_3, e_call4_4, e_call5_0, e_call5_1, e_call5_2, e_call5_3, e_call5_4, e_call6_0, e_call6_1, e_call6_2, e_call6_3, e_call6_4, xP, xld, xst1, xst2, xis2, xii, xid, xll, xlv, xls, xlc, xil, xli, xrd, xdup, xdup2, xc1, xpu, c_eq, c_ne, c_lt, c_ge, c_gt, c_le, Option.bind_some, Option.map_some, List.length_nil, List.length_cons, Nat.reduceAdd, Nat.reduceLeDiff, Int.reduceToNat, Bool.and_self, Bool.false_eq_true, if_true, if_false, o_m, g_m_0, g_m_1, g_m_2, g_m_3, g_m_4, g_m_5, g_m_6, g_m_7, g_m_8, g_m_9, g_m_10, g_m_11, g_m_12, g_m_13, g_m_14, g_m_15, g_m_16, g_m_17, g_m_18, g_m_19, g_m_20, g_m_21, p_m_3, p_m_7, p_m_8, p_m_11, p_m_13, p_m_15, p_m_16, p_m_17, p_m_18, p_m_21, p_m_5_0, p_m_5_1, r_m0, s_m0, r_m1, s_m1, r_m2, s_m2, r_m4, s_m4, r_m6, s_m6, r_m9, s_m9, r_m10, s_m10, r_m12, s_m12, r_m14, s_m14, r_m19, s_m19, r_m20, s_m20, Nat.reduceEqDiff, decide_true, decide_false, Bool.true_and, Bool.false_and, Bool.and_true, Bool.and_false, zB_tt, zB_ff, not_false_eq_true, not_true_eq_false, n_lit, n_mul, nI_add, n_sub, x_in, nI_clamp, nI_ltI, nI_leI, nI_eq, and_self, true_and, and_true, g1, D181_71, t_hold]
    rw [e2, D181_109]
    simp (maxSteps := 2000000) (disch := omega) only [e_inl, e_goto, e_fall, e_if, e_icmp, e_iret, e_zret, e_lret, e_vret, e_call0_0, e_call0_1, e_call0_2, e_call0_3, e_call0_4, e_call1_0, e_call1_1, e_call1_2, e_call1_3, e_call1_4, e_call2_0, e_call2_1, e_call2_2, e_call2_3, e_call2_4, e_call3_0, e_call3_1, e_call3_2, e_call3_3, e_call3_4, e_call4_0, e_call4_1, e_call4_2, e_call4_3, e_call4_4, e_call5_0, e_call5_1, e_call5_2, e_call5_3, e_call5_4, e_call6_0, e_call6_1, e_call6_2, e_call6_3, e_call6_4, xP, xld, xst1, xst2, xis2, xii, xid, xll, xlv, xls, xlc, xil, xli, xrd, xdup, xdup2, xc1, xpu, c_eq, c_ne, c_lt, c_ge, c_gt, c_le, Option.bind_some, Option.map_some, List.length_nil, List.length_cons, Nat.reduceAdd, Nat.reduceLeDiff, Int.reduceToNat, Bool.and_self, Bool.false_eq_true, if_true, if_false, ep]
end
