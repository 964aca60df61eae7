/-! ===== the class: an order read; the fault of a text ===== -/
section
variable {q : Nat × (Nat → Int32)} {S : Nat → xSt} {P : Int32 × (Nat → Nat)} {A : (Nat → Int64) × Int32 × Int32 × (Nat → Int64) × (Nat → Nat → Int64)} {D : (Nat → Int64) × Int64} {K : Nat → Int64} {X : Int32 × Int32 × Int32 × (Nat → Int32) × (Nat → Int32)} {E Z : Nat → Int32} {I : Nat → Int32} {J : Nat → Int64} {V : Nat → Nat → Int32}
set_option maxRecDepth 100000 in
theorem c_or_63 {T : tx} {n p : Nat} (hn : n ≤ 5) (hp1 : p ≤ T.1) (j : Nat) : ∀ (k : Nat) (X : Int32 × Int32 × Int32 × (Nat → Int32) × (Nat → Int32)), k + j = n → (rK T p k).2 = true → txS T X → X.2.1 = nI (rK T p k).1 → (∀ i, i < k → X.2.2.2.1 i = nI (nv T p i)) → ∃ X' : Int32 × Int32 × Int32 × (Nat → Int32) × (Nat → Int32), den 62 63 [some (.ref 158), some (.int (nI n)), some (.int (nI k))] [] (hp q S P A D K X E Z I J V) = (if (rK T p n).2 = true then den 62 88 [some (.ref 158), some (.int (nI n)), some (.int (nI n))] [] (hp q S P A D K (X') E Z I J V) else some (some (.int (nI 0)), (hp q S P A D K (X') E Z I J V))) ∧ txS T X' ∧ X'.2.1 = nI (rK T p n).1 ∧ X'.2.2.1 = X.2.2.1 ∧ ((rK T p n).2 = true → ∀ i, i < n → X'.2.2.2.1 i = nI (nv T p i)) := by
  induction j with
  | zero =>
    intro k X hk hok hT h2 hv
    have hkn : k = n := by omega
    subst hkn
    refine ⟨X, ?_, hT, h2, rfl, fun _ => hv⟩
    rw [if_pos hok, D62_63]
    simp (maxSteps := 2000000) (disch := omega) only [e_inl, e_goto, e_fall, e_if, e_icmp, e_iret, e_zret, e_lret, e_vret, e_call0_0, e_call0_1, e_call0_2, e_call0_3, e_call0_4, e_call1_0, e_call1_1, e_call1_2, e_call1_3, e_call1_4, e_call2_0, e_call2_1, e_call2_2, e_call2_3, e_call2_4, e_call3_0, e_call3_1, e_call3_2, e_call3_3, e_call3_4, e_call4_0, e_call4_1, e_call4_2, e_call4_3, e_call4_4, e_call5_0, e_call5_1, e_call5_2, e_call5_3, e_call5_4, e_call6_0, e_call6_1, e_call6_2, e_call6_3, e_call6_4, xP, xld, xst1, xst2, xis2, xii, xid, xll, xlv, xls, xlc, xil, xli, xrd, xdup, xdup2, xc1, xpu, c_eq, c_ne, c_lt, c_ge, c_gt, c_le, Option.bind_some, Option.map_some, List.length_nil, List.length_cons, Nat.reduceAdd, Nat.reduceLeDiff, Int.reduceToNat, Bool.and_self, Bool.false_eq_true, if_true, if_false, nI_leI, Nat.le_refl]
  | succ j ih =>
    intro k X hk hok hT h2 hv
    have h10 : (nI 1 = nI 0) = False := eq_false (by decide)
    have h1 : ¬ n ≤ k := by omega
    obtain ⟨b1, b2, b3⟩ := rK_bd hp1 k
    have es := c_skipBlanks (q := q) (S := S) (P := P) (A := A) (D := D) (K := K) (X := X) (E := E) (Z := Z) (I := I) (J := J) (V := V) b2 hT h2
    have er := c_readNumber (q := q) (S := S) (P := P) (A := A) (D := D) (K := K) (X := (X.1, nI (skp T (rK T p k).1), X.2.2)) (E := E) (Z := Z) (I := I) (J := J) (V := V) (T := T) (i := k) (a := skp T (rK T p k).1) (by omega) (skp_le b2) hT rfl
    have e1 : (isD T (skp T (rK T p k).1) && !isD T (dg T 6 0 (skp T (rK T p k).1)).2) = (rN T (rK T p k).1).2.2 := rfl
    have e2 : (dg T 6 0 (skp T (rK T p k).1)).2 = (rN T (rK T p k).1).2.1 := rfl
    have e3 : (dg T 6 0 (skp T (rK T p k).1)).1 = nv T p k := rfl
    rw [e1, e2, e3] at er
    have hrk : rK T p (k + 1) = (rN T (rK T p k).1).2 := by rw [rK, if_pos hok]
    have hv2 : ∀ i, i < k + 1 → upd X.2.2.2.1 k (nI (nv T p k)) i = nI (nv T p i) := fun i hi => by
      by_cases e : i = k
      · rw [e, u_s]
      · rw [u_n _ _ e]
        exact hv i (by omega)
    clear e1 e2 e3
    rw [D62_63]
    by_cases hr : (rN T (rK T p k).1).2.2 = true
    · have hok2 : (rK T p (k + 1)).2 = true := by rw [hrk]; exact hr
      obtain ⟨X', e, g1, g2, g3, g4⟩ := ih (k + 1) (X.1, nI (rK T p (k + 1)).1, X.2.2.1, upd X.2.2.2.1 k (nI (nv T p k)), X.2.2.2.2) (by omega) hok2 hT rfl hv2
      refine ⟨X', Eq.trans ?_ e, g1, g2, g3, g4⟩
      rw [hr, zB_tt] at er
      rw [hrk]
      generalize nv T p k = y at *
      generalize (rN T (rK T p k).1).2.1 = a at *
      simp (maxSteps := 2000000) (disch := omega) only [e_inl, e_goto, e_fall, e_if, e_icmp, e_iret, e_zret, e_lret, e_vret, e_call0_0, e_call0_1, e_call0_2, e_call0_3, e_call0_4, e_call1_0, e_call1_1, e_call1_2, e_call1_3, e_call1_4, e_call2_0, e_call2_1, e_call2_2, e_call2_3, e_call2_4, e_call3_0, e_call3_1, e_call3_2, e_call3_3, e_call3_4, e_call4_0, e_call4_1, e_call4_2, e_call4_3, e_call4_4, e_call5_0, e_call5_1, e_call5_2, e_call5_3, e_call5_4, e_call6_0, e_call6_1, e_call6_2, e_call6_3, e_call6_4, xP, xld, xst1, xst2, xis2, xii, xid, xll, xlv, xls, xlc, xil, xli, xrd, xdup, xdup2, xc1, xpu, c_eq, c_ne, c_lt, c_ge, c_gt, c_le, Option.bind_some, Option.map_some, List.length_nil, List.length_cons, Nat.reduceAdd, Nat.reduceLeDiff, Int.reduceToNat, Bool.and_self, Bool.false_eq_true, if_true, if_false, D62_82, nI_leI, nI_add, n_lit, n_0, h1, es, er, h10, not_false_eq_true]
    · have hf := Bool.eq_false_iff.mpr hr
      have hok2 : (rK T p (k + 1)).2 = false := by rw [hrk]; exact hf
      have hn2 : rK T p n = rK T p (k + 1) := by
        have := rK_no hok2 j
        rw [show k + 1 + j = n by omega] at this
        exact this
      refine ⟨(X.1, nI (rN T (rK T p k).1).2.1, X.2.2.1, upd X.2.2.2.1 k (nI (nv T p k)), X.2.2.2.2), ?_, hT, by rw [hn2, hrk], rfl, fun h => by rw [hn2, hok2] at h; cases h⟩
      rw [hn2, hok2, if_neg (by decide)]
      rw [hf, zB_ff] at er
      generalize nv T p k = y at *
      generalize (rN T (rK T p k).1).2.1 = a at *
      simp (maxSteps := 2000000) (disch := omega) only [e_inl, e_goto, e_fall, e_if, e_icmp, e_iret, e_zret, e_lret, e_vret, e_call0_0, e_call0_1, e_call0_2, e_call0_3, e_call0_4, e_call1_0, e_call1_1, e_call1_2, e_call1_3, e_call1_4, e_call2_0, e_call2_1, e_call2_2, e_call2_3, e_call2_4, e_call3_0, e_call3_1, e_call3_2, e_call3_3, e_call3_4, e_call4_0, e_call4_1, e_call4_2, e_call4_3, e_call4_4, e_call5_0, e_call5_1, e_call5_2, e_call5_3, e_call5_4, e_call6_0, e_call6_1, e_call6_2, e_call6_3, e_call6_4, xP, xld, xst1, xst2, xis2, xii, xid, xll, xlv, xls, xlc, xil, xli, xrd, xdup, xdup2, xc1, xpu, c_eq, c_ne, c_lt, c_ge, c_gt, c_le, Option.bind_some, Option.map_some, List.length_nil, List.length_cons, Nat.reduceAdd, Nat.reduceLeDiff, Int.reduceToNat, Bool.and_self, Bool.false_eq_true, if_true, if_false, nI_leI, n_lit, n_0, h1, es, er, not_true_eq_false, true_or]
set_option maxRecDepth 100000 in
theorem c_or_88 {T : tx} {a : Nat} {z1 z2 : Option Value} (ha : a ≤ T.1) (hT : txS T X) (h2 : X.2.1 = nI a) : den 62 88 [some (.ref 158), z1, z2] [] (hp q S P A D K X E Z I J V) = if (decide (skp T a < T.1) && decide (T.2 (skp T a) = 59)) = true then some (some (.int (nI 1)), (hp q S P A D K ((X.1, nI (skp T (skp T a + 1)), X.2.2)) E Z I J V)) else some (some (.int (nI 0)), (hp q S P A D K ((X.1, nI (skp T a), X.2.2)) E Z I J V)) := by
  have es := c_skipBlanks (q := q) (S := S) (P := P) (A := A) (D := D) (K := K) (X := X) (E := E) (Z := Z) (I := I) (J := J) (V := V) ha hT h2
  have hle := skp_le ha
  have hT' := hT
  obtain ⟨t1, t2, t3⟩ := hT
  rw [D62_88]
  by_cases hlt : skp T a < T.1
  · have h1 : ¬ X.1 ≤ nI (skp T a) := by rw [t2, nI_leI (by omega) (by omega)]; omega
    obtain ⟨e1, e2⟩ := t3 _ hlt
    have er : xiald (hp q S P A D K ((X.1, nI (skp T a), X.2.2)) E Z I J V) 160 (nI (skp T a)) = some (.int (nI (T.2 (skp T a)))) := by rw [r_bytes, if_pos (x_in (by omega) (by omega)), nI_clamp (by omega), e1]
    rw [decide_eq_true hlt, Bool.true_and]
    by_cases h59 : T.2 (skp T a) = 59
    · rw [if_pos (decide_eq_true h59)]
      rw [h59] at er
      have es2 := c_skipBlanks (q := q) (S := S) (P := P) (A := A) (D := D) (K := K) (X := (X.1, nI (skp T a + 1), X.2.2)) (E := E) (Z := Z) (I := I) (J := J) (V := V) (T := T) (p := skp T a + 1) (by omega) hT' rfl
      generalize skp T (skp T a + 1) = y at *
      generalize skp T a = b at *
      simp (maxSteps := 2000000) (disch := omega) only [e_inl, e_goto, e_fall, e_if, e_icmp, e_iret, e_zret, e_lret, e_vret, e_call0_0, e_call0_1, e_call0_2, e_call0_3, e_call0_4, e_call1_0, e_call1_1, e_call1_2, e_call1_3, e_call1_4, e_call2_0, e_call2_1, e_call2_2, e_call2_3, e_call2_4, e_call3_0, e_call3_1, e_call3_2, e_call3_3, e_call3_4, e_call4_0, e_call4_1, e_call4_2, e_call4_3, e_call4_4, e_call5_0, e_call5_1, e_call5_2, e_call5_3, e_call5_4, e_call6_0, e_call6_1, e_call6_2, e_call6_3, e_call6_4, xP, xld, xst1, xst2, xis2, xii, xid, xll, xlv, xls, xlc, xil, xli, xrd, xdup, xdup2, xc1, xpu, c_eq, c_ne, c_lt, c_ge, c_gt, c_le, Option.bind_some, Option.map_some, List.length_nil, List.length_cons, Nat.reduceAdd, Nat.reduceLeDiff, Int.reduceToNat, Bool.and_self, Bool.false_eq_true, if_true, if_false, D62_119, g_text_0, g_text_1, g_text_4, p_text_1, n_lit, n_1, es, h1, er, nI_add, es2, or_true]
    · rw [if_neg (by rw [decide_eq_true_eq]; exact h59)]
      generalize skp T a = b at *
      simp (maxSteps := 2000000) (disch := omega) only [e_inl, e_goto, e_fall, e_if, e_icmp, e_iret, e_zret, e_lret, e_vret, e_call0_0, e_call0_1, e_call0_2, e_call0_3, e_call0_4, e_call1_0, e_call1_1, e_call1_2, e_call1_3, e_call1_4, e_call2_0, e_call2_1, e_call2_2, e_call2_3, e_call2_4, e_call3_0, e_call3_1, e_call3_2, e_call3_3, e_call3_4, e_call4_0, e_call4_1, e_call4_2, e_call4_3, e_call4_4, e_call5_0, e_call5_1, e_call5_2, e_call5_3, e_call5_4, e_call6_0, e_call6_1, e_call6_2, e_call6_3, e_call6_4, xP, xld, xst1, xst2, xis2, xii, xid, xll, xlv, xls, xlc, xil, xli, xrd, xdup, xdup2, xc1, xpu, c_eq, c_ne, c_lt, c_ge, c_gt, c_le, Option.bind_some, Option.map_some, List.length_nil, List.length_cons, Nat.reduceAdd, Nat.reduceLeDiff, Int.reduceToNat, Bool.and_self, Bool.false_eq_true, if_true, if_false, D62_117, g_text_0, g_text_1, g_text_4, n_lit, n_0, es, h1, er, nI_eq, h59, true_or]
  · have h1 : X.1 ≤ nI (skp T a) := by rw [t2, nI_leI (by omega) (by omega)]; omega
    rw [decide_eq_false hlt, Bool.false_and, if_neg (by decide)]
    generalize skp T a = b at *
    simp (maxSteps := 2000000) (disch := omega) only [e_inl, e_goto, e_fall, e_if, e_icmp, e_iret, e_zret, e_lret, e_vret, e_call0_0, e_call0_1, e_call0_2, e_call0_3, e_call0_4, e_call1_0, e_call1_1, e_call1_2, e_call1_3, e_call1_4, e_call2_0, e_call2_1, e_call2_2, e_call2_3, e_call2_4, e_call3_0, e_call3_1, e_call3_2, e_call3_3, e_call3_4, e_call4_0, e_call4_1, e_call4_2, e_call4_3, e_call4_4, e_call5_0, e_call5_1, e_call5_2, e_call5_3, e_call5_4, e_call6_0, e_call6_1, e_call6_2, e_call6_3, e_call6_4, xP, xld, xst1, xst2, xis2, xii, xid, xll, xlv, xls, xlc, xil, xli, xrd, xdup, xdup2, xc1, xpu, c_eq, c_ne, c_lt, c_ge, c_gt, c_le, Option.bind_some, Option.map_some, List.length_nil, List.length_cons, Nat.reduceAdd, Nat.reduceLeDiff, Int.reduceToNat, Bool.and_self, Bool.false_eq_true, if_true, if_false, D62_117, g_text_0, g_text_1, n_lit, n_0, es, h1, true_or]
set_option maxRecDepth 100000 in
theorem c_or_0 {T : tx} {a : Nat} (ha : a ≤ T.1) (hT : txS T X) (h2 : X.2.1 = nI a) : xcall 62 [.ref 158] (hp q S P A D K X E Z I J V) = if skp T a < T.1 ∧ nb (T.2 (skp T a)) ≠ 0 then den 62 63 [some (.ref 158), some (.int (nI (nb (T.2 (skp T a))))), some (.int (nI 0))] [] (hp q S P A D K ((X.1, nI (skp T a + 1), nI (T.2 (skp T a)), X.2.2.2)) E Z I J V) else some (some (.int (nI 0)), (hp q S P A D K ((X.1, nI (skp T a), X.2.2)) E Z I J V)) := by
  have es := c_skipBlanks (q := q) (S := S) (P := P) (A := A) (D := D) (K := K) (X := X) (E := E) (Z := Z) (I := I) (J := J) (V := V) ha hT h2
  have hle := skp_le ha
  obtain ⟨t1, t2, t3⟩ := hT
  rw [N62 _ _ (o_text ..), D62_0]
  by_cases hlt : skp T a < T.1
  · have h1 : ¬ X.1 ≤ nI (skp T a) := by rw [t2, nI_leI (by omega) (by omega)]; omega
    obtain ⟨e1, e2⟩ := t3 _ hlt
    have er : xiald (hp q S P A D K ((X.1, nI (skp T a), X.2.2)) E Z I J V) 160 (nI (skp T a)) = some (.int (nI (T.2 (skp T a)))) := by rw [r_bytes, if_pos (x_in (by omega) (by omega)), nI_clamp (by omega), e1]
    have en := c_numbersBehind e2 (hp q S P A D K ((X.1, nI (skp T a), X.2.2)) E Z I J V)
    have hn5 := nb_le (T.2 (skp T a))
    by_cases h0 : nb (T.2 (skp T a)) = 0
    · rw [if_neg (fun z => z.2 h0)]
      rw [h0] at en
      generalize T.2 (skp T a) = c at *
      generalize skp T a = b at *
      simp (maxSteps := 2000000) (disch := omega) only [e_inl, e_goto, e_fall, e_if, e_icmp, e_iret, e_zret, e_lret, e_vret, e_call0_0, e_call0_1, e_call0_2, e_call0_3, e_call0_4, e_call1_0, e_call1_1, e_call1_2, e_call1_3, e_call1_4, e_call2_0, e_call2_1, e_call2_2, e_call2_3, e_call2_4, e_call3_0, e_call3_1, e_call3_2, e_call3_3, e_call3_4, e_call4_0, e_call4_1, e_call4_2, e_call4_3, e_call4_4, e_call5_0, e_call5_1, e_call5_2, e_call5_3, e_call5_4, e_call6_0, e_call6_1, e_call6_2, e_call6_3, e_call6_4, xP, xld, xst1, xst2, xis2, xii, xid, xll, xlv, xls, xlc, xil, xli, xrd, xdup, xdup2, xc1, xpu, c_eq, c_ne, c_lt, c_ge, c_gt, c_le, Option.bind_some, Option.map_some, List.length_nil, List.length_cons, Nat.reduceAdd, Nat.reduceLeDiff, Int.reduceToNat, Bool.and_self, Bool.false_eq_true, if_true, if_false, D62_31, g_text_0, g_text_1, g_text_4, n_lit, n_0, es, h1, er, en, not_true_eq_false, true_or]
    · rw [if_pos ⟨hlt, h0⟩]
      have a1 : ∀ (L : xL) (t : List xI), xld L 0 = some (.ref 158) → xB xcall (den 62) (.inl (.aload 0) :: .inl (.aload 0) :: .inl (.getfield 228) :: .inl (.aload 0) :: .inl (.getfield 225) :: .inl .iaload :: .inl (.putfield 226) :: t) L [] (hp q S P A D K ((X.1, nI (skp T a), X.2.2)) E Z I J V) = xB xcall (den 62) t L [] (hp q S P A D K ((X.1, nI (skp T a), nI (T.2 (skp T a)), X.2.2.2)) E Z I J V) := by
        intro L t l0
        generalize T.2 (skp T a) = c at *
        generalize skp T a = b at *
        simp (maxSteps := 2000000) (disch := omega) only [e_inl, e_goto, e_fall, e_if, e_icmp, e_iret, e_zret, e_lret, e_vret, e_call0_0, e_call0_1, e_call0_2, e_call0_3, e_call0_4, e_call1_0, e_call1_1, e_call1_2, e_call1_3, e_call1_4, e_call2_0, e_call2_1, e_call2_2, e_call2_3, e_call2_4, e_call3_0, e_call3_1, e_call3_2, e_call3_3, e_call3_4, e_call4_0, e_call4_1, e_call4_2, e_call4_3, e_call4_4, e_call5_0, e_call5_1, e_call5_2, e_call5_3, e_call5_4, e_call6_0, e_call6_1, e_call6_2, e_call6_3, e_call6_4, xP, xld, xst1, xst2, xis2, xii, xid, xll, xlv, xls, xlc, xil, xli, xrd, xdup, xdup2, xc1, xpu, c_eq, c_ne, c_lt, c_ge, c_gt, c_le, Option.bind_some, Option.map_some, List.length_nil, List.length_cons, Nat.reduceAdd, Nat.reduceLeDiff, Int.reduceToNat, Bool.and_self, Bool.false_eq_true, if_true, if_false, g_text_1, g_text_4, p_text_2, l0, er]
      have a2 : xB xcall (den 62) [.inl (.aload 0), .inl .dup, .inl (.getfield 225), .inl (.iconst 1), .inl .iadd, .inl (.putfield 225), .inl (.iconst 0), .inl (.istore 2), xto 63] [some (.ref 158), some (.int (nI (nb (T.2 (skp T a))))), none] [] (hp q S P A D K ((X.1, nI (skp T a), nI (T.2 (skp T a)), X.2.2.2)) E Z I J V) = den 62 63 [some (.ref 158), some (.int (nI (nb (T.2 (skp T a))))), some (.int (nI 0))] [] (hp q S P A D K ((X.1, nI (skp T a + 1), nI (T.2 (skp T a)), X.2.2.2)) E Z I J V) := by
        generalize nb (T.2 (skp T a)) = n at *
        generalize T.2 (skp T a) = c at *
        generalize skp T a = b at *
        simp (maxSteps := 2000000) (disch := omega) only [e_inl, e_goto, e_fall, e_if, e_icmp, e_iret, e_zret, e_lret, e_vret, e_call0_0, e_call0_1, e_call0_2, e_call0_3, e_call0_4, e_call1_0, e_call1_1, e_call1_2, e_call1_3, e_call1_4, e_call2_0, e_call2_1, e_call2_2, e_call2_3, e_call2_4, e_call3_0, e_call3_1, e_call3_2, e_call3_3, e_call3_4, e_call4_0, e_call4_1, e_call4_2, e_call4_3, e_call4_4, e_call5_0, e_call5_1, e_call5_2, e_call5_3, e_call5_4, e_call6_0, e_call6_1, e_call6_2, e_call6_3, e_call6_4, xP, xld, xst1, xst2, xis2, xii, xid, xll, xlv, xls, xlc, xil, xli, xrd, xdup, xdup2, xc1, xpu, c_eq, c_ne, c_lt, c_ge, c_gt, c_le, Option.bind_some, Option.map_some, List.length_nil, List.length_cons, Nat.reduceAdd, Nat.reduceLeDiff, Int.reduceToNat, Bool.and_self, Bool.false_eq_true, if_true, if_false, g_text_1, p_text_1, n_lit, nI_add]
      generalize hnn : nb (T.2 (skp T a)) = n at *
      generalize T.2 (skp T a) = c at *
      generalize skp T a = b at *
      simp (maxSteps := 2000000) (disch := omega) only [e_inl, e_goto, e_fall, e_if, e_icmp, e_iret, e_zret, e_lret, e_vret, e_call0_0, e_call0_1, e_call0_2, e_call0_3, e_call0_4, e_call1_0, e_call1_1, e_call1_2, e_call1_3, e_call1_4, e_call2_0, e_call2_1, e_call2_2, e_call2_3, e_call2_4, e_call3_0, e_call3_1, e_call3_2, e_call3_3, e_call3_4, e_call4_0, e_call4_1, e_call4_2, e_call4_3, e_call4_4, e_call5_0, e_call5_1, e_call5_2, e_call5_3, e_call5_4, e_call6_0, e_call6_1, e_call6_2, e_call6_3, e_call6_4, xP, xld, xst1, xst2, xis2, xii, xid, xll, xlv, xls, xlc, xil, xli, xrd, xdup, xdup2, xc1, xpu, c_eq, c_ne, c_lt, c_ge, c_gt, c_le, Option.bind_some, Option.map_some, List.length_nil, List.length_cons, Nat.reduceAdd, Nat.reduceLeDiff, Int.reduceToNat, Bool.and_self, Bool.false_eq_true, if_true, if_false, D62_31, g_text_0, g_text_1, g_text_4, n_lit, n_0, es, h1, er, en, nI_eq, h0, not_false_eq_true]
      rw [D62_38, a1 _ _ rfl, a2]
  · have h1 : X.1 ≤ nI (skp T a) := by rw [t2, nI_leI (by omega) (by omega)]; omega
    rw [if_neg (fun z => hlt z.1)]
    generalize skp T a = b at *
    simp (maxSteps := 2000000) (disch := omega) only [e_inl, e_goto, e_fall, e_if, e_icmp, e_iret, e_zret, e_lret, e_vret, e_call0_0, e_call0_1, e_call0_2, e_call0_3, e_call0_4, e_call1_0, e_call1_1, e_call1_2, e_call1_3, e_call1_4, e_call2_0, e_call2_1, e_call2_2, e_call2_3, e_call2_4, e_call3_0, e_call3_1, e_call3_2, e_call3_3, e_call3_4, e_call4_0, e_call4_1, e_call4_2, e_call4_3, e_call4_4, e_call5_0, e_call5_1, e_call5_2, e_call5_3, e_call5_4, e_call6_0, e_call6_1, e_call6_2, e_call6_3, e_call6_4, xP, xld, xst1, xst2, xis2, xii, xid, xll, xlv, xls, xlc, xil, xli, xrd, xdup, xdup2, xc1, xpu, c_eq, c_ne, c_lt, c_ge, c_gt, c_le, Option.bind_some, Option.map_some, List.length_nil, List.length_cons, Nat.reduceAdd, Nat.reduceLeDiff, Int.reduceToNat, Bool.and_self, Bool.false_eq_true, if_true, if_false, D62_30, D62_31, g_text_0, g_text_1, n_lit, n_0, es, h1, not_true_eq_false, true_or]
set_option maxRecDepth 100000 in
theorem c_readOrder {T : tx} {a p : Nat} (ha : a ≤ T.1) (hT : txS T X) (h2 : X.2.1 = nI a) (hp1 : skp T a = p) : ∃ X' : Int32 × Int32 × Int32 × (Nat → Int32) × (Nat → Int32), xcall 62 [.ref 158] (hp q S P A D K X E Z I J V) = some (some (.int (zB (ord T p).1)), (hp q S P A D K (X') E Z I J V)) ∧ txS T X' ∧ X'.2.1 = nI (if (ord T p).1 = true then skp T (ord T p).2 else (ord T p).2) ∧ ((ord T p).1 = true → X'.2.2.1 = nI (T.2 p) ∧ ∀ i, i < nb (T.2 p) → X'.2.2.2.1 i = nI (nv T (p + 1) i)) := by
  have e0 := c_or_0 (q := q) (S := S) (P := P) (A := A) (D := D) (K := K) (X := X) (E := E) (Z := Z) (I := I) (J := J) (V := V) ha hT h2
  rw [hp1] at e0
  by_cases hc : p < T.1 ∧ nb (T.2 p) ≠ 0
  · rw [if_pos hc] at e0
    obtain ⟨c1, c2⟩ := hc
    obtain ⟨b1, b2, b3⟩ := rK_bd (T := T) (p := p + 1) (by omega) (nb (T.2 p))
    obtain ⟨X1, e1, g1, g2, g3, g4⟩ := c_or_63 (q := q) (S := S) (P := P) (A := A) (D := D) (K := K) (E := E) (Z := Z) (I := I) (J := J) (V := V) (T := T) (nb_le (T.2 p)) (show p + 1 ≤ T.1 by omega) (nb (T.2 p)) 0 (X.1, nI (p + 1), nI (T.2 p), X.2.2.2) (by omega) rfl hT rfl (fun i hi => absurd hi (Nat.not_lt_zero i))
    by_cases h3 : (rK T (p + 1) (nb (T.2 p))).2 = true
    · rw [if_pos h3] at e1
      have e88 := c_or_88 (q := q) (S := S) (P := P) (A := A) (D := D) (K := K) (X := X1) (E := E) (Z := Z) (I := I) (J := J) (V := V) (z1 := some (.int (nI (nb (T.2 p))))) (z2 := some (.int (nI (nb (T.2 p))))) b2 g1 g2
      by_cases h4 : (decide (skp T (rK T (p + 1) (nb (T.2 p))).1 < T.1) && decide (T.2 (skp T (rK T (p + 1) (nb (T.2 p))).1) = 59)) = true
      · rw [if_pos h4] at e88
        have eo := ord_2 c1 c2 h3 h4
        rw [eo]
        refine ⟨(X1.1, nI (skp T (skp T (rK T (p + 1) (nb (T.2 p))).1 + 1)), X1.2.2), ?_, g1, ?_, fun _ => ⟨g3, g4 h3⟩⟩
        · rw [e0, e1, e88]
          rfl
        · rfl
      · rw [if_neg h4] at e88
        have eo := ord_3 c1 c2 h3 (Bool.eq_false_iff.mpr h4)
        rw [eo]
        refine ⟨(X1.1, nI (skp T (rK T (p + 1) (nb (T.2 p))).1), X1.2.2), ?_, g1, rfl, fun h => Bool.noConfusion h⟩
        rw [e0, e1, e88]
        rfl
    · rw [if_neg h3] at e1
      have eo := ord_1 c1 c2 (Bool.eq_false_iff.mpr h3)
      rw [eo]
      refine ⟨X1, ?_, g1, g2, fun h => Bool.noConfusion h⟩
      rw [e0, e1]
      rfl
  · rw [if_neg hc] at e0
    have eo := ord_0 (T := T) (p := p) (fun h => by
      by_cases h0 : nb (T.2 p) = 0
      · exact h0
      · exact absurd ⟨h, h0⟩ hc)
    rw [eo]
    refine ⟨(X.1, nI p, X.2.2), ?_, hT, rfl, fun h => Bool.noConfusion h⟩
    rw [e0]
    rfl
set_option maxRecDepth 100000 in
theorem c_ff_7 {T : tx} {N : Nat} (o1 : N ≤ 50) (o2 : (ord T (op T N)).1 = false) (o3 : ∀ k, k < N → (ord T (op T k)).1 = true) (oN1 : oN T = N) (m : Nat) : ∀ (k a : Nat) (X : Int32 × Int32 × Int32 × (Nat → Int32) × (Nat → Int32)), k + m = N → a ≤ T.1 → skp T a = op T k → (k = 0 ∨ op T k < T.1) → txS T X → X.2.1 = nI a → ∃ X' : Int32 × Int32 × Int32 × (Nat → Int32) × (Nat → Int32), den 61 7 [some (.ref 158), some (.int (nI k))] [] (hp q S P A D K X E Z I J V) = some (some (.int (oI (flt T))), (hp q S P A D K (X') E Z I J V)) ∧ txS T X' := by
  have h10 : (nI 1 = nI 0) = False := eq_false (by decide)
  induction m with
  | zero =>
    intro k a X hk ha hop hz hT h2
    have hkn : k = N := by omega
    subst hkn
    obtain ⟨X', e, g1, g2, g3⟩ := c_readOrder (q := q) (S := S) (P := P) (A := A) (D := D) (K := K) (X := X) (E := E) (Z := Z) (I := I) (J := J) (V := V) ha hT h2 hop
    rw [o2, zB_ff] at e
    rw [o2, if_neg (by decide)] at g2
    refine ⟨X', ?_, g1⟩
    have h1 : ¬ 150 < k := by omega
    have hfl : flt T = some (ord T (op T k)).2 := by
      unfold flt
      rw [oN1]
      by_cases hlt : op T k < T.1
      · rw [if_pos hlt]
      · have hk0 : k = 0 := by omega
        rw [if_neg hlt, if_pos hk0, ord_0 (fun h => absurd h hlt), hk0]
    rw [hfl, D61_7]
    have eoi : oI (some (ord T (op T k)).2) = nI (ord T (op T k)).2 := rfl
    rw [eoi]
    generalize (ord T (op T k)).2 = y at *
    simp (maxSteps := 2000000) (disch := omega) only [e_inl, e_goto, e_fall, e_if, e_icmp, e_iret, e_zret, e_lret, e_vret, e_call0_0, e_call0_1, e_call0_2, e_call0_3, e_call0_4, e_call1_0, e_call1_1, e_call1_2, e_call1_3, e_call1_4, e_call2_0, e_call2_1, e_call2_2, e_call2_3, e_call2_4, e_call3_0, e_call3_1, e_call3_2, e_call3_3, e_call3_4, e_call4_0, e_call4_1, e_call4_2, e_call4_3, e_call4_4, e_call5_0, e_call5_1, e_call5_2, e_call5_3, e_call5_4, e_call6_0, e_call6_1, e_call6_2, e_call6_3, e_call6_4, xP, xld, xst1, xst2, xis2, xii, xid, xll, xlv, xls, xlc, xil, xli, xrd, xdup, xdup2, xc1, xpu, c_eq, c_ne, c_lt, c_ge, c_gt, c_le, Option.bind_some, Option.map_some, List.length_nil, List.length_cons, Nat.reduceAdd, Nat.reduceLeDiff, Int.reduceToNat, Bool.and_self, Bool.false_eq_true, if_true, if_false, g_text_1, n_lit, n_0, nI_ltI, h1, e, g2, not_true_eq_false]
  | succ m ih =>
    intro k a X hk ha hop hz hT h2
    have hok := o3 k (by omega)
    obtain ⟨X', e, g1, g2, g3⟩ := c_readOrder (q := q) (S := S) (P := P) (A := A) (D := D) (K := K) (X := X) (E := E) (Z := Z) (I := I) (J := J) (V := V) ha hT h2 hop
    rw [hok, zB_tt] at e
    rw [hok, if_pos rfl] at g2
    have hop1 : skp T (ord T (op T k)).2 = op T (k + 1) := rfl
    rw [hop1] at g2
    have hle := op_le T (k + 1)
    have h1 : ¬ 150 < k := by omega
    have t1 := g1.1
    have t2 := g1.2.1
    rw [D61_7]
    by_cases hend : op T (k + 1) = T.1
    · refine ⟨X', ?_, g1⟩
      have hnok : (ord T (op T (k + 1))).1 = false := by
        rw [ord_0 (fun h => absurd h (by omega))]
      have hN : k + 1 = N := by
        apply Nat.le_antisymm (by omega)
        apply Nat.le_of_not_lt
        intro hlt
        have := o3 (k + 1) hlt
        rw [hnok] at this
        cases this
      have hfl : flt T = none := by
        unfold flt
        rw [oN1, ← hN, if_neg (by omega), if_neg (by omega)]
      rw [hfl]
      have eoi : oI none = Int32.ofInt (-1) := rfl
      rw [eoi]
      rw [hend] at g2
      simp (maxSteps := 2000000) (disch := omega) only [e_inl, e_goto, e_fall, e_if, e_icmp, e_iret, e_zret, e_lret, e_vret, e_call0_0, e_call0_1, e_call0_2, e_call0_3, e_call0_4, e_call1_0, e_call1_1, e_call1_2, e_call1_3, e_call1_4, e_call2_0, e_call2_1, e_call2_2, e_call2_3, e_call2_4, e_call3_0, e_call3_1, e_call3_2, e_call3_3, e_call3_4, e_call4_0, e_call4_1, e_call4_2, e_call4_3, e_call4_4, e_call5_0, e_call5_1, e_call5_2, e_call5_3, e_call5_4, e_call6_0, e_call6_1, e_call6_2, e_call6_3, e_call6_4, xP, xld, xst1, xst2, xis2, xii, xid, xll, xlv, xls, xlc, xil, xli, xrd, xdup, xdup2, xc1, xpu, c_eq, c_ne, c_lt, c_ge, c_gt, c_le, Option.bind_some, Option.map_some, List.length_nil, List.length_cons, Nat.reduceAdd, Nat.reduceLeDiff, Int.reduceToNat, Bool.and_self, Bool.false_eq_true, if_true, if_false, D61_26, g_text_0, g_text_1, n_lit, n_0, nI_ltI, h1, e, h10, g2, t2, not_false_eq_true, not_true_eq_false]
    · obtain ⟨X2, e2, g4⟩ := ih (k + 1) (op T (k + 1)) X' (by omega) hle (skp_no (op_nb T (k + 1))) (Or.inr (by omega)) g1 g2
      refine ⟨X2, Eq.trans ?_ e2, g4⟩
      simp (maxSteps := 2000000) (disch := omega) only [e_inl, e_goto, e_fall, e_if, e_icmp, e_iret, e_zret, e_lret, e_vret, e_call0_0, e_call0_1, e_call0_2, e_call0_3, e_call0_4, e_call1_0, e_call1_1, e_call1_2, e_call1_3, e_call1_4, e_call2_0, e_call2_1, e_call2_2, e_call2_3, e_call2_4, e_call3_0, e_call3_1, e_call3_2, e_call3_3, e_call3_4, e_call4_0, e_call4_1, e_call4_2, e_call4_3, e_call4_4, e_call5_0, e_call5_1, e_call5_2, e_call5_3, e_call5_4, e_call6_0, e_call6_1, e_call6_2, e_call6_3, e_call6_4, xP, xld, xst1, xst2, xis2, xii, xid, xll, xlv, xls, xlc, xil, xli, xrd, xdup, xdup2, xc1, xpu, c_eq, c_ne, c_lt, c_ge, c_gt, c_le, Option.bind_some, Option.map_some, List.length_nil, List.length_cons, Nat.reduceAdd, Nat.reduceLeDiff, Int.reduceToNat, Bool.and_self, Bool.false_eq_true, if_true, if_false, D61_26, D61_39, g_text_0, g_text_1, n_lit, n_0, nI_ltI, nI_eq, nI_add, h1, e, h10, g2, t2, hend, not_false_eq_true]
set_option maxRecDepth 100000 in
theorem c_findFault {T : tx} (hT : txS T X) : ∃ X' : Int32 × Int32 × Int32 × (Nat → Int32) × (Nat → Int32), xcall 61 [.ref 158] (hp q S P A D K X E Z I J V) = some (some (.int (oI (flt T))), (hp q S P A D K (X') E Z I J V)) ∧ txS T X' := by
  obtain ⟨o1, o2, o3⟩ := oN_lt hT.1
  obtain ⟨X', e, g⟩ := c_ff_7 (q := q) (S := S) (P := P) (A := A) (D := D) (K := K) (E := E) (Z := Z) (I := I) (J := J) (V := V) (T := T) o1 o2 o3 rfl (oN T) 0 0 (X.1, nI 0, X.2.2) (by omega) (Nat.zero_le _) rfl (Or.inl rfl) hT rfl
  refine ⟨X', ?_, g⟩
  rw [N61 _ _ (o_text ..), D61_0]
  generalize oI (flt T) = y at *
  simp (maxSteps := 2000000) (disch := omega) only [e_inl, e_goto, e_fall, e_if, e_icmp, e_iret, e_zret, e_lret, e_vret, e_call0_0, e_call0_1, e_call0_2, e_call0_3, e_call0_4, e_call1_0, e_call1_1, e_call1_2, e_call1_3, e_call1_4, e_call2_0, e_call2_1, e_call2_2, e_call2_3, e_call2_4, e_call3_0, e_call3_1, e_call3_2, e_call3_3, e_call3_4, e_call4_0, e_call4_1, e_call4_2, e_call4_3, e_call4_4, e_call5_0, e_call5_1, e_call5_2, e_call5_3, e_call5_4, e_call6_0, e_call6_1, e_call6_2, e_call6_3, e_call6_4, xP, xld, xst1, xst2, xis2, xii, xid, xll, xlv, xls, xlc, xil, xli, xrd, xdup, xdup2, xc1, xpu, c_eq, c_ne, c_lt, c_ge, c_gt, c_le, Option.bind_some, Option.map_some, List.length_nil, List.length_cons, Nat.reduceAdd, Nat.reduceLeDiff, Int.reduceToNat, Bool.and_self, Bool.false_eq_true, if_true, if_false, p_text_1, n_lit, e]
end
