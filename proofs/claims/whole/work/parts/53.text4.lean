/-! ===== the reference reads an order (2), does it, reads all ===== -/
theorem ord_1 {T : tx} {p : Nat} (h1 : p < T.1) (h2 : nb (T.2 p) ≠ 0) (h3 : (rK T (p + 1) (nb (T.2 p))).2 = false) : ord T p = (false, (rK T (p + 1) (nb (T.2 p))).1) := by
  unfold ord
  rw [if_pos (by simp [h1, h2]), if_neg (by rw [h3]; decide)]
theorem ord_2 {T : tx} {p : Nat} (h1 : p < T.1) (h2 : nb (T.2 p) ≠ 0) (h3 : (rK T (p + 1) (nb (T.2 p))).2 = true) (h4 : (decide (skp T (rK T (p + 1) (nb (T.2 p))).1 < T.1) && decide (T.2 (skp T (rK T (p + 1) (nb (T.2 p))).1) = 59)) = true) : ord T p = (true, skp T (rK T (p + 1) (nb (T.2 p))).1 + 1) := by
  unfold ord
  rw [if_pos (by simp [h1, h2]), if_pos h3, if_pos h4]
theorem ord_3 {T : tx} {p : Nat} (h1 : p < T.1) (h2 : nb (T.2 p) ≠ 0) (h3 : (rK T (p + 1) (nb (T.2 p))).2 = true) (h4 : (decide (skp T (rK T (p + 1) (nb (T.2 p))).1 < T.1) && decide (T.2 (skp T (rK T (p + 1) (nb (T.2 p))).1) = 59)) = false) : ord T p = (false, skp T (rK T (p + 1) (nb (T.2 p))).1) := by
  unfold ord
  rw [if_pos (by simp [h1, h2]), if_pos h3, if_neg (by rw [h4]; decide)]
theorem ord_0 {T : tx} {p : Nat} (h2 : p < T.1 → nb (T.2 p) = 0) : ord T p = (false, p) := by
  unfold ord
  by_cases h1 : p < T.1
  · rw [if_neg (by simp [h1, h2 h1])]
  · rw [if_neg (by simp [h1])]
theorem hrI_59 {T : tx} {a : Nat} (h : ∀ i, i < T.1 → T.2 i < 128) : (hrI T a = nI 59) = ((decide (a < T.1) && decide (T.2 a = 59)) = true) := by
  unfold hrI
  by_cases h1 : a < T.1
  · have := h a h1
    rw [if_pos h1, nI_eq (by omega) (by omega)]
    simp [h1]
  · rw [if_neg h1]
    simp only [h1, decide_false, Bool.false_and, Bool.false_eq_true, eq_iff_iff, iff_false]
    decide
theorem hrI_no {T : tx} {a : Nat} (h : ∀ i, i < T.1 → T.2 i < 128) : (hrI T a = Int32.ofInt (-1)) = ¬ a < T.1 := by
  unfold hrI
  by_cases h1 : a < T.1
  · have := h a h1
    rw [if_pos h1, n_neg (by omega)]
    simp [h1]
  · rw [if_neg h1]
    simp [h1]
section
variable {q : Nat × (Nat → Int32)} {S : Nat → xSt} {P : Int32 × (Nat → Nat)} {A : (Nat → Int64) × Int32 × Int32 × (Nat → Int64) × (Nat → Nat → Int64)} {D : (Nat → Int64) × Int64} {K : Nat → Int64} {X : Int32 × Int32 × Int32 × (Nat → Int32) × (Nat → Int32)} {E Z : Nat → Int32} {I : Nat → Int32} {J : Nat → Int64} {V : Nat → Nat → Int32}

def roK (T : tx) (p o : Nat) (I I' : Nat → Int32) (V V' : Nat → Nat → Int32) : Prop := (∀ k, k ≠ 16 → k ≠ 17 → k ≠ 18 → I' k = I k) ∧ (∀ k, k ≠ 19 → k ≠ 20 → V' k = V k) ∧ I' 18 = nI (o + 1) ∧ I' 17 = (if (ord T p).1 = true then Int32.ofInt (-1) else nI (ord T p).2) ∧ ((ord T p).1 = true → I' 16 = nI (ord T p).2 ∧ V' 19 o = nI (T.2 p) ∧ ∀ k, k < nb (T.2 p) → V' 20 (5 * o + k) = nI (nv T (p + 1) k)) ∧ (∀ i, i ≠ o → V' 19 i = V 19 i) ∧ ∀ i, i < 5 * o → V' 20 i = V 20 i
set_option maxRecDepth 100000 in
theorem t_ro_21 {p : Nat} {L L' : xL} (b : Bool) {g : Int32} (h0 : xld L 0 = some (.ref 163)) (h3 : xst1 L 3 (.int (nI 0)) = some L') (h16 : I 16 = nI p) (h17 : I 17 = Int32.ofInt (-1)) : den 179 21 L [.int (zB b), .ref 163] (hp q S P A D K X E Z I J V) = den 179 36 L' [] (hp q S P A D K X E Z (upd (upd I 17 (if b = true then Int32.ofInt (-1) else nI p)) 16 (nI (p + 1))) J V) := by
  have em := t_must (q := q) (S := S) (P := P) (A := A) (D := D) (K := K) (X := X) (E := E) (Z := Z) (J := J) (V := V) b h16 h17
  have e9 : (if Int32.ofInt (-1) = Int32.ofInt (-1) ∧ b = false then nI p else Int32.ofInt (-1)) = (if b = true then Int32.ofInt (-1) else nI p) := by cases b <;> simp
  rw [e9] at em
  generalize hI2 : upd I 17 (if b = true then Int32.ofInt (-1) else nI p) = I2 at em ⊢
  have i16 : I2 16 = nI p := by rw [← hI2, u_n _ _ (by omega)]; exact h16
  rw [D179_21]
  simp (maxSteps := 2000000) (disch := omega) only [e_inl, e_goto, e_fall, e_if, e_icmp, e_iret, e_zret, e_lret, e_vret, e_call0_0, e_call0_1, e_call0_2, e_call0_3, e_call0_4, e_call1_0, e_call1_1, e_call1_2, e_call1_3, e_call1_4, e_call2_0, e_call2_1, e_call2_2, e_call2_3, e_call2_4, e_call3_0, e_call3_1, e_call3_2, e_call3_3, e_call3_4, e_call4_0, e_call4_1, e_call4_2, e_call4_3, e_call4_4, e_call5_0, e_call5_1, e_call5_2, e_call5_3, e_call5_4, e_call6_0, e_call6_1, e_call6_2, e_call6_3, e_call6_4, xP, xld, xst1, xst2, xis2, xii, xid, xll, xlv, xls, xlc, xil, xli, xrd, xdup, xdup2, xc1, xpu, c_eq, c_ne, c_lt, c_ge, c_gt, c_le, Option.bind_some, Option.map_some, List.length_nil, List.length_cons, Nat.reduceAdd, Nat.reduceLeDiff, Int.reduceToNat, Bool.and_self, Bool.false_eq_true, if_true, if_false, o_m, g_m_0, g_m_1, g_m_2, g_m_3, g_m_4, g_m_5, g_m_6, g_m_7, g_m_8, g_m_9, g_m_10, g_m_11, g_m_12, g_m_13, g_m_14, g_m_15, g_m_16, g_m_17, g_m_18, g_m_19, g_m_20, g_m_21, p_m_3, p_m_7, p_m_8, p_m_11, p_m_13, p_m_15, p_m_16, p_m_17, p_m_18, p_m_21, p_m_5_0, p_m_5_1, r_m0, s_m0, r_m1, s_m1, r_m2, s_m2, r_m4, s_m4, r_m6, s_m6, r_m9, s_m9, r_m10, s_m10, r_m12, s_m12, r_m14, s_m14, r_m19, s_m19, r_m20, s_m20, Nat.reduceEqDiff, decide_true, decide_false, Bool.true_and, Bool.false_and, Bool.and_true, Bool.and_false, zB_tt, zB_ff, not_false_eq_true, not_true_eq_false, n_lit, n_mul, nI_add, n_sub, x_in, nI_clamp, nI_ltI, nI_leI, nI_eq, and_self, true_and, and_true, h0, em, i16, h3]
set_option maxRecDepth 100000 in
theorem t_ro_0 {T : tx} {p : Nat} (hT : rpT T I V) (hp1 : p < T.1) (hb : isB T p = false) (h16 : I 16 = nI p) (h17 : I 17 = Int32.ofInt (-1)) : xcall 179 [.ref 163] (hp q S P A D K X E Z I J V) = den 179 36 [some (.ref 163), some (.int (nI (T.2 p))), some (.int (nbI (T.2 p))), some (.int (nI 0))] [] (hp q S P A D K X E Z (upd (upd I 17 (if nb (T.2 p) ≠ 0 then Int32.ofInt (-1) else nI p)) 16 (nI (p + 1))) J V) := by
  rw [N179 _ _ (o_m ..), D179_0]
  have eh := t_here (q := q) (S := S) (P := P) (A := A) (D := D) (K := K) (X := X) (E := E) (Z := Z) (J := J) (V := V) (T := T) _ p I (Nat.le_refl _) (by have := hT.1; omega) hT h16
  rw [skp_no hb, fa_upd_same h16] at eh
  obtain ⟨t1, t2, t3⟩ := hT
  have hc := (t3 p hp1).2
  have ec : hrI T p = nI (T.2 p) := if_pos hp1
  rw [ec] at eh
  have en := t_numbersOf hc (hp q S P A D K X E Z I J V)
  by_cases h0 : nb (T.2 p) = 0
  · have e1 : nbI (T.2 p) = Int32.ofInt (-1) := if_pos h0
    have e21 := t_ro_21 (q := q) (S := S) (P := P) (A := A) (D := D) (K := K) (X := X) (E := E) (Z := Z) (J := J) (V := V) (I := I) (L := [some (.ref 163), some (.int (nI (T.2 p))), some (.int (Int32.ofInt (-1))), none]) (L' := [some (.ref 163), some (.int (nI (T.2 p))), some (.int (Int32.ofInt (-1))), some (.int (nI 0))]) false (g := nI 0) rfl rfl h16 h17
    rw [zB_ff] at e21
    rw [e1] at en ⊢
    rw [if_neg (fun q => q h0)]
    simp (maxSteps := 2000000) (disch := omega) only [e_inl, e_goto, e_fall, e_if, e_icmp, e_iret, e_zret, e_lret, e_vret, e_call0_0, e_call0_1, e_call0_2, e_call0_3, e_call0_4, e_call1_0, e_call1_1, e_call1_2, e_call1_3, e_call1_4, e_call2_0, e_call2_1, e_call2_2, e_call2_3, e_call2_4, e_call3_0, e_call3_1, e_call3_2, e_call3_3, e_call3_4, e_call4_0, e_call4_1, e_call4_2, e_call4_3, e_call4_4, e_call5_0, e_call5_1, e_call5_2, e_call5_3, e_call5_4, e_call6_0, e_call6_1, e_call6_2, e_call6_3, e_call6_4, xP, xld, xst1, xst2, xis2, xii, xid, xll, xlv, xls, xlc, xil, xli, xrd, xdup, xdup2, xc1, xpu, c_eq, c_ne, c_lt, c_ge, c_gt, c_le, Option.bind_some, Option.map_some, List.length_nil, List.length_cons, Nat.reduceAdd, Nat.reduceLeDiff, Int.reduceToNat, Bool.and_self, Bool.false_eq_true, if_true, if_false, D179_20, o_m, g_m_0, g_m_1, g_m_2, g_m_3, g_m_4, g_m_5, g_m_6, g_m_7, g_m_8, g_m_9, g_m_10, g_m_11, g_m_12, g_m_13, g_m_14, g_m_15, g_m_16, g_m_17, g_m_18, g_m_19, g_m_20, g_m_21, p_m_3, p_m_7, p_m_8, p_m_11, p_m_13, p_m_15, p_m_16, p_m_17, p_m_18, p_m_21, p_m_5_0, p_m_5_1, r_m0, s_m0, r_m1, s_m1, r_m2, s_m2, r_m4, s_m4, r_m6, s_m6, r_m9, s_m9, r_m10, s_m10, r_m12, s_m12, r_m14, s_m14, r_m19, s_m19, r_m20, s_m20, Nat.reduceEqDiff, decide_true, decide_false, Bool.true_and, Bool.false_and, Bool.and_true, Bool.and_false, zB_tt, zB_ff, not_false_eq_true, not_true_eq_false, n_lit, n_mul, nI_add, n_sub, x_in, nI_clamp, nI_ltI, nI_leI, nI_eq, and_self, true_and, and_true, eh, en, e21]
  · have e1 : nbI (T.2 p) = nI (nb (T.2 p)) := if_neg h0
    have h5 := nb_le (T.2 p)
    have hne := n_neg (x := nb (T.2 p)) (by omega)
    have e21 := t_ro_21 (q := q) (S := S) (P := P) (A := A) (D := D) (K := K) (X := X) (E := E) (Z := Z) (J := J) (V := V) (I := I) (L := [some (.ref 163), some (.int (nI (T.2 p))), some (.int (nI (nb (T.2 p)))), none]) (L' := [some (.ref 163), some (.int (nI (T.2 p))), some (.int (nI (nb (T.2 p)))), some (.int (nI 0))]) true (g := nI 0) rfl rfl h16 h17
    rw [zB_tt] at e21
    rw [e1] at en ⊢
    rw [if_pos h0]
    simp (maxSteps := 2000000) (disch := omega) only [e_inl, e_goto, e_fall, e_if, e_icmp, e_iret, e_zret, e_lret, e_vret, e_call0_0, e_call0_1, e_call0_2, e_call0_3, e_call0_4, e_call1_0, e_call1_1, e_call1_2, e_call1_3, e_call1_4, e_call2_0, e_call2_1, e_call2_2, e_call2_3, e_call2_4, e_call3_0, e_call3_1, e_call3_2, e_call3_3, e_call3_4, e_call4_0, e_call4_1, e_call4_2, e_call4_3, e_call4_4, e_call5_0, e_call5_1, e_call5_2, e_call5_3, e_call5_4, e_call6_0, e_call6_1, e_call6_2, e_call6_3, e_call6_4, xP, xld, xst1, xst2, xis2, xii, xid, xll, xlv, xls, xlc, xil, xli, xrd, xdup, xdup2, xc1, xpu, c_eq, c_ne, c_lt, c_ge, c_gt, c_le, Option.bind_some, Option.map_some, List.length_nil, List.length_cons, Nat.reduceAdd, Nat.reduceLeDiff, Int.reduceToNat, Bool.and_self, Bool.false_eq_true, if_true, if_false, o_m, g_m_0, g_m_1, g_m_2, g_m_3, g_m_4, g_m_5, g_m_6, g_m_7, g_m_8, g_m_9, g_m_10, g_m_11, g_m_12, g_m_13, g_m_14, g_m_15, g_m_16, g_m_17, g_m_18, g_m_19, g_m_20, g_m_21, p_m_3, p_m_7, p_m_8, p_m_11, p_m_13, p_m_15, p_m_16, p_m_17, p_m_18, p_m_21, p_m_5_0, p_m_5_1, r_m0, s_m0, r_m1, s_m1, r_m2, s_m2, r_m4, s_m4, r_m6, s_m6, r_m9, s_m9, r_m10, s_m10, r_m12, s_m12, r_m14, s_m14, r_m19, s_m19, r_m20, s_m20, Nat.reduceEqDiff, decide_true, decide_false, Bool.true_and, Bool.false_and, Bool.and_true, Bool.and_false, zB_tt, zB_ff, not_false_eq_true, not_true_eq_false, n_lit, n_mul, nI_add, n_sub, x_in, nI_clamp, nI_ltI, nI_leI, nI_eq, and_self, true_and, and_true, eh, en, hne, e21, if_true]
set_option maxRecDepth 100000 in
theorem t_readOrder {T : tx} {p o : Nat} (ho : o ≤ 50) (hT : rpT T I V) (hp1 : p < T.1) (hb : isB T p = false) (h16 : I 16 = nI p) (h17 : I 17 = Int32.ofInt (-1)) (h18 : I 18 = nI o) : ∃ (I' : Nat → Int32) (V' : Nat → Nat → Int32), xcall 179 [.ref 163] (hp q S P A D K X E Z I J V) = some (none, (hp q S P A D K X E Z (I') J (V'))) ∧ roK T p o I I' V V' := by
  have e0 := t_ro_0 (q := q) (S := S) (P := P) (A := A) (D := D) (K := K) (X := X) (E := E) (Z := Z) (J := J) hT hp1 hb h16 h17
  have t1 := hT.1
  have t3 := hT.2.2
  have h5 := nb_le (T.2 p)
  by_cases hn0 : nb (T.2 p) = 0
  · have eo := ord_0 (T := T) (p := p) (fun _ => hn0)
    have e1 : nbI (T.2 p) = Int32.ofInt (-1) := if_pos hn0
    rw [if_neg (fun q => q hn0), e1] at e0
    generalize hI2 : upd (upd I 17 (nI p)) 16 (nI (p + 1)) = I2 at e0
    have i16 : I2 16 = nI (p + 1) := by rw [← hI2, u_s]
    have i17 : I2 17 = nI p := by rw [← hI2, u_n _ _ (by omega), u_s]
    have i18 : I2 18 = nI o := by rw [← hI2, u_n _ _ (by omega), u_n _ _ (by omega)]; exact h18
    have hne := n_neg (x := p) (by omega)
    have e102 := t_ro_102 (q := q) (S := S) (P := P) (A := A) (D := D) (K := K) (X := X) (E := E) (Z := Z) (J := J) (V := V) (I := I2) (L := [some (.ref 163), some (.int (nI (T.2 p))), some (.int (Int32.ofInt (-1))), some (.int (nI 59))]) (c := nI (T.2 p)) true ho rfl rfl i16 i17 i18
    rw [zB_tt] at e102
    have hge : (Int32.ofInt (-1) ≤ nI 0) = True := by decide
    have e36 : den 179 36 [some (.ref 163), some (.int (nI (T.2 p))), some (.int (Int32.ofInt (-1))), some (.int (nI 0))] [] (hp q S P A D K X E Z (I2) J V) = den 179 102 [some (.ref 163), some (.int (nI (T.2 p))), some (.int (Int32.ofInt (-1))), some (.int (nI 59))] [.int (nI 1), .ref 163] (hp q S P A D K X E Z (I2) J V) := by
      rw [D179_36]
      simp (maxSteps := 2000000) (disch := omega) only [e_inl, e_goto, e_fall, e_if, e_icmp, e_iret, e_zret, e_lret, e_vret, e_call0_0, e_call0_1, e_call0_2, e_call0_3, e_call0_4, e_call1_0, e_call1_1, e_call1_2, e_call1_3, e_call1_4, e_call2_0, e_call2_1, e_call2_2, e_call2_3, e_call2_4, e_call3_0, e_call3_1, e_call3_2, e_call3_3, e_call3_4, e_call4_0, e_call4_1, e_call4_2, e_call4_3, e_call4_4, e_call5_0, e_call5_1, e_call5_2, e_call5_3, e_call5_4, e_call6_0, e_call6_1, e_call6_2, e_call6_3, e_call6_4, xP, xld, xst1, xst2, xis2, xii, xid, xll, xlv, xls, xlc, xil, xli, xrd, xdup, xdup2, xc1, xpu, c_eq, c_ne, c_lt, c_ge, c_gt, c_le, Option.bind_some, Option.map_some, List.length_nil, List.length_cons, Nat.reduceAdd, Nat.reduceLeDiff, Int.reduceToNat, Bool.and_self, Bool.false_eq_true, if_true, if_false, D179_72, D179_87, D179_89, o_m, g_m_0, g_m_1, g_m_2, g_m_3, g_m_4, g_m_5, g_m_6, g_m_7, g_m_8, g_m_9, g_m_10, g_m_11, g_m_12, g_m_13, g_m_14, g_m_15, g_m_16, g_m_17, g_m_18, g_m_19, g_m_20, g_m_21, p_m_3, p_m_7, p_m_8, p_m_11, p_m_13, p_m_15, p_m_16, p_m_17, p_m_18, p_m_21, p_m_5_0, p_m_5_1, r_m0, s_m0, r_m1, s_m1, r_m2, s_m2, r_m4, s_m4, r_m6, s_m6, r_m9, s_m9, r_m10, s_m10, r_m12, s_m12, r_m14, s_m14, r_m19, s_m19, r_m20, s_m20, Nat.reduceEqDiff, decide_true, decide_false, Bool.true_and, Bool.false_and, Bool.and_true, Bool.and_false, zB_tt, zB_ff, not_false_eq_true, not_true_eq_false, n_lit, n_mul, nI_add, n_sub, x_in, nI_clamp, nI_ltI, nI_leI, nI_eq, and_self, true_and, and_true, hge, i17, hne]
    refine ⟨_, _, e0.trans (e36.trans e102), fun k a b c => ?_, fun k a b => vu_n _ _ a, u_s _ _ _, ?_, ?_, fun i hi => by rw [vu_s, u_n _ _ hi], fun i _ => by rw [vu_n _ _ (by omega)]⟩
    · rw [u_n _ _ c, u_n _ _ a, u_n _ _ b, ← hI2, u_n _ _ a, u_n _ _ b]
    · rw [u_n _ _ (by omega), u_n _ _ (by omega), u_s, if_neg (fun q => Bool.noConfusion q.2), eo]
      exact (if_neg (fun q => Bool.noConfusion q)).symm
    · rw [eo]
      exact fun q => Bool.noConfusion q
  · have e1 : nbI (T.2 p) = nI (nb (T.2 p)) := if_neg hn0
    rw [if_pos hn0, e1] at e0
    generalize hI2 : upd (upd I 17 (Int32.ofInt (-1))) 16 (nI (p + 1)) = I2 at e0
    have i16 : I2 16 = nI (rK T (p + 1) 0).1 := by rw [← hI2, u_s]; rfl
    have i17 : I2 17 = Int32.ofInt (-1) := by rw [← hI2, u_n _ _ (by omega), u_s]
    have inn : ∀ i, i ≠ 16 → i ≠ 17 → I2 i = I i := fun i a b => by rw [← hI2, u_n _ _ a, u_n _ _ b]
    have i18 : I2 18 = nI o := by rw [inn 18 (by omega) (by omega)]; exact h18
    have hT2 : rpT T I2 V := hT.of (inn 15 (by omega) (by omega)) rfl
    obtain ⟨I3, V3, z, e36, g1, g2, g3, g4, g5, g6⟩ := t_ro_36 (q := q) (S := S) (P := P) (A := A) (D := D) (K := K) (X := X) (E := E) (Z := Z) (J := J) (c := nI (T.2 p)) ho h5 (show p + 1 ≤ T.1 by omega) (nb (T.2 p)) 0 I2 V (by omega) rfl hT2 i16 i17 i18
    have hbd := (rK_bd (show p + 1 ≤ T.1 by omega) (nb (T.2 p))).2.1
    have j18 : I3 18 = nI o := by rw [g3 18 (by omega) (by omega)]; exact i18
    have e0' := e0.trans e36
    clear e0 e36
    by_cases hok : (rK T (p + 1) (nb (T.2 p))).2 = true
    · rw [if_pos hok] at g2
      have hT3 : rpT T I3 V3 := hT2.of (g3 15 (by omega) (by omega)) (g4 14 (by omega))
      have hq := skp_le hbd
      have eh := t_here (q := q) (S := S) (P := P) (A := A) (D := D) (K := K) (X := X) (E := E) (Z := Z) (J := J) (V := V3) (T := T) _ (rK T (p + 1) (nb (T.2 p))).1 I3 (Nat.le_refl _) (by omega) hT3 g1
      have h59 := hrI_59 (T := T) (a := skp T (rK T (p + 1) (nb (T.2 p))).1) (fun i hi => (t3 i hi).2)
      generalize hr : rK T (p + 1) (nb (T.2 p)) = r at *
      have k16 : upd I3 16 (nI (skp T r.1)) 16 = nI (skp T r.1) := u_s _ _ _
      have k17 : upd I3 16 (nI (skp T r.1)) 17 = Int32.ofInt (-1) := by rw [u_n _ _ (by omega)]; exact g2
      have k18 : upd I3 16 (nI (skp T r.1)) 18 = nI o := by rw [u_n _ _ (by omega)]; exact j18
      generalize hb2 : (decide (skp T r.1 < T.1) && decide (T.2 (skp T r.1) = 59)) = b at *
      have e102 := t_ro_102 (q := q) (S := S) (P := P) (A := A) (D := D) (K := K) (X := X) (E := E) (Z := Z) (J := J) (V := V3) (I := upd I3 16 (nI (skp T r.1))) (L := [some (.ref 163), some (.int (nI (T.2 p))), some (.int (nI (nb (T.2 p)))), some (.int (hrI T (skp T r.1)))]) (c := nI (T.2 p)) b ho rfl rfl k16 k17 k18
      have e72 : den 179 72 [some (.ref 163), some (.int (nI (T.2 p))), some (.int (nI (nb (T.2 p)))), some (.int z)] [] (hp q S P A D K X E Z (I3) J (V3)) = den 179 102 [some (.ref 163), some (.int (nI (T.2 p))), some (.int (nI (nb (T.2 p)))), some (.int (hrI T (skp T r.1)))] [.int (zB b), .ref 163] (hp q S P A D K X E Z (upd I3 16 (nI (skp T r.1))) J (V3)) := by
        rw [D179_72]
        by_cases hbt : b = true
        · have h59' : hrI T (skp T r.1) = nI 59 := by rw [h59]; exact hbt
          rw [hbt]
          rw [h59'] at eh ⊢
          simp (maxSteps := 2000000) (disch := omega) only [e_inl, e_goto, e_fall, e_if, e_icmp, e_iret, e_zret, e_lret, e_vret, e_call0_0, e_call0_1, e_call0_2, e_call0_3, e_call0_4, e_call1_0, e_call1_1, e_call1_2, e_call1_3, e_call1_4, e_call2_0, e_call2_1, e_call2_2, e_call2_3, e_call2_4, e_call3_0, e_call3_1, e_call3_2, e_call3_3, e_call3_4, e_call4_0, e_call4_1, e_call4_2, e_call4_3, e_call4_4, e_call5_0, e_call5_1, e_call5_2, e_call5_3, e_call5_4, e_call6_0, e_call6_1, e_call6_2, e_call6_3, e_call6_4, xP, xld, xst1, xst2, xis2, xii, xid, xll, xlv, xls, xlc, xil, xli, xrd, xdup, xdup2, xc1, xpu, c_eq, c_ne, c_lt, c_ge, c_gt, c_le, Option.bind_some, Option.map_some, List.length_nil, List.length_cons, Nat.reduceAdd, Nat.reduceLeDiff, Int.reduceToNat, Bool.and_self, Bool.false_eq_true, if_true, if_false, D179_89, o_m, g_m_0, g_m_1, g_m_2, g_m_3, g_m_4, g_m_5, g_m_6, g_m_7, g_m_8, g_m_9, g_m_10, g_m_11, g_m_12, g_m_13, g_m_14, g_m_15, g_m_16, g_m_17, g_m_18, g_m_19, g_m_20, g_m_21, p_m_3, p_m_7, p_m_8, p_m_11, p_m_13, p_m_15, p_m_16, p_m_17, p_m_18, p_m_21, p_m_5_0, p_m_5_1, r_m0, s_m0, r_m1, s_m1, r_m2, s_m2, r_m4, s_m4, r_m6, s_m6, r_m9, s_m9, r_m10, s_m10, r_m12, s_m12, r_m14, s_m14, r_m19, s_m19, r_m20, s_m20, Nat.reduceEqDiff, decide_true, decide_false, Bool.true_and, Bool.false_and, Bool.and_true, Bool.and_false, zB_tt, zB_ff, not_false_eq_true, not_true_eq_false, n_lit, n_mul, nI_add, n_sub, x_in, nI_clamp, nI_ltI, nI_leI, nI_eq, and_self, true_and, and_true, g2, eh]
        · have h59' : ¬ hrI T (skp T r.1) = nI 59 := by rw [h59]; exact hbt
          rw [Bool.eq_false_iff.mpr hbt]
          simp (maxSteps := 2000000) (disch := omega) only [e_inl, e_goto, e_fall, e_if, e_icmp, e_iret, e_zret, e_lret, e_vret, e_call0_0, e_call0_1, e_call0_2, e_call0_3, e_call0_4, e_call1_0, e_call1_1, e_call1_2, e_call1_3, e_call1_4, e_call2_0, e_call2_1, e_call2_2, e_call2_3, e_call2_4, e_call3_0, e_call3_1, e_call3_2, e_call3_3, e_call3_4, e_call4_0, e_call4_1, e_call4_2, e_call4_3, e_call4_4, e_call5_0, e_call5_1, e_call5_2, e_call5_3, e_call5_4, e_call6_0, e_call6_1, e_call6_2, e_call6_3, e_call6_4, xP, xld, xst1, xst2, xis2, xii, xid, xll, xlv, xls, xlc, xil, xli, xrd, xdup, xdup2, xc1, xpu, c_eq, c_ne, c_lt, c_ge, c_gt, c_le, Option.bind_some, Option.map_some, List.length_nil, List.length_cons, Nat.reduceAdd, Nat.reduceLeDiff, Int.reduceToNat, Bool.and_self, Bool.false_eq_true, if_true, if_false, D179_89, D179_101, o_m, g_m_0, g_m_1, g_m_2, g_m_3, g_m_4, g_m_5, g_m_6, g_m_7, g_m_8, g_m_9, g_m_10, g_m_11, g_m_12, g_m_13, g_m_14, g_m_15, g_m_16, g_m_17, g_m_18, g_m_19, g_m_20, g_m_21, p_m_3, p_m_7, p_m_8, p_m_11, p_m_13, p_m_15, p_m_16, p_m_17, p_m_18, p_m_21, p_m_5_0, p_m_5_1, r_m0, s_m0, r_m1, s_m1, r_m2, s_m2, r_m4, s_m4, r_m6, s_m6, r_m9, s_m9, r_m10, s_m10, r_m12, s_m12, r_m14, s_m14, r_m19, s_m19, r_m20, s_m20, Nat.reduceEqDiff, decide_true, decide_false, Bool.true_and, Bool.false_and, Bool.and_true, Bool.and_false, zB_tt, zB_ff, not_false_eq_true, not_true_eq_false, n_lit, n_mul, nI_add, n_sub, x_in, nI_clamp, nI_ltI, nI_leI, nI_eq, and_self, true_and, and_true, g2, eh, h59']
      refine ⟨_, _, e0'.trans (e72.trans e102), fun k a b' c => ?_, fun k a b' => by rw [vu_n _ _ a]; exact g4 k b', u_s _ _ _, ?_, fun hO => ⟨?_, by rw [vu_s, u_s], fun k hk => ?_⟩, fun i hi => by rw [vu_s, u_n _ _ hi, g4 19 (by omega)], fun i hi => by rw [vu_n _ _ (by omega)]; exact g5 i (by omega)⟩
      · rw [u_n _ _ c, u_n _ _ a, u_n _ _ b', u_n _ _ a, g3 k a b', inn k a b']
      · rw [u_n _ _ (by omega), u_n _ _ (by omega), u_s]
        by_cases hbt : b = true
        · have eo := ord_2 hp1 hn0 (by rw [hr]; exact hok) (by rw [hr, hb2]; exact hbt)
          rw [if_neg (fun q => by rw [hbt] at q; exact Bool.noConfusion q.2), eo]
          exact (if_pos rfl).symm
        · have hbf := Bool.eq_false_iff.mpr hbt
          have eo := ord_3 hp1 hn0 (by rw [hr]; exact hok) (by rw [hr, hb2]; exact hbf)
          rw [if_pos ⟨rfl, hbf⟩, eo, hr]
          exact (if_neg (fun q => Bool.noConfusion q)).symm
      · rw [u_n _ _ (by omega), u_s]
        by_cases hbt : b = true
        · have eo := ord_2 hp1 hn0 (by rw [hr]; exact hok) (by rw [hr, hb2]; exact hbt)
          rw [eo, hr]
        · have hbf := Bool.eq_false_iff.mpr hbt
          have eo := ord_3 hp1 hn0 (by rw [hr]; exact hok) (by rw [hr, hb2]; exact hbf)
          rw [eo] at hO
          exact Bool.noConfusion hO
      · rw [vu_n _ _ (by omega)]
        exact g6 hok k (by omega) hk
    · have hof := Bool.eq_false_iff.mpr hok
      have eo := ord_1 hp1 hn0 hof
      rw [if_neg hok] at g2
      generalize hr : rK T (p + 1) (nb (T.2 p)) = r at *
      have hne := n_neg (x := r.1) (by omega)
      have e102 := t_ro_102 (q := q) (S := S) (P := P) (A := A) (D := D) (K := K) (X := X) (E := E) (Z := Z) (J := J) (V := V3) (I := I3) (L := [some (.ref 163), some (.int (nI (T.2 p))), some (.int (nI (nb (T.2 p)))), some (.int (nI 59))]) (c := nI (T.2 p)) true ho rfl rfl g1 g2 j18
      rw [zB_tt] at e102
      have e72 : den 179 72 [some (.ref 163), some (.int (nI (T.2 p))), some (.int (nI (nb (T.2 p)))), some (.int z)] [] (hp q S P A D K X E Z (I3) J (V3)) = den 179 102 [some (.ref 163), some (.int (nI (T.2 p))), some (.int (nI (nb (T.2 p)))), some (.int (nI 59))] [.int (nI 1), .ref 163] (hp q S P A D K X E Z (I3) J (V3)) := by
        rw [D179_72]
        simp (maxSteps := 2000000) (disch := omega) only [e_inl, e_goto, e_fall, e_if, e_icmp, e_iret, e_zret, e_lret, e_vret, e_call0_0, e_call0_1, e_call0_2, e_call0_3, e_call0_4, e_call1_0, e_call1_1, e_call1_2, e_call1_3, e_call1_4, e_call2_0, e_call2_1, e_call2_2, e_call2_3, e_call2_4, e_call3_0, e_call3_1, e_call3_2, e_call3_3, e_call3_4, e_call4_0, e_call4_1, e_call4_2, e_call4_3, e_call4_4, e_call5_0, e_call5_1, e_call5_2, e_call5_3, e_call5_4, e_call6_0, e_call6_1, e_call6_2, e_call6_3, e_call6_4, xP, xld, xst1, xst2, xis2, xii, xid, xll, xlv, xls, xlc, xil, xli, xrd, xdup, xdup2, xc1, xpu, c_eq, c_ne, c_lt, c_ge, c_gt, c_le, Option.bind_some, Option.map_some, List.length_nil, List.length_cons, Nat.reduceAdd, Nat.reduceLeDiff, Int.reduceToNat, Bool.and_self, Bool.false_eq_true, if_true, if_false, D179_87, D179_89, o_m, g_m_0, g_m_1, g_m_2, g_m_3, g_m_4, g_m_5, g_m_6, g_m_7, g_m_8, g_m_9, g_m_10, g_m_11, g_m_12, g_m_13, g_m_14, g_m_15, g_m_16, g_m_17, g_m_18, g_m_19, g_m_20, g_m_21, p_m_3, p_m_7, p_m_8, p_m_11, p_m_13, p_m_15, p_m_16, p_m_17, p_m_18, p_m_21, p_m_5_0, p_m_5_1, r_m0, s_m0, r_m1, s_m1, r_m2, s_m2, r_m4, s_m4, r_m6, s_m6, r_m9, s_m9, r_m10, s_m10, r_m12, s_m12, r_m14, s_m14, r_m19, s_m19, r_m20, s_m20, Nat.reduceEqDiff, decide_true, decide_false, Bool.true_and, Bool.false_and, Bool.and_true, Bool.and_false, zB_tt, zB_ff, not_false_eq_true, not_true_eq_false, n_lit, n_mul, nI_add, n_sub, x_in, nI_clamp, nI_ltI, nI_leI, nI_eq, and_self, true_and, and_true, g2, hne]
      refine ⟨_, _, e0'.trans (e72.trans e102), fun k a b' c => ?_, fun k a b' => by rw [vu_n _ _ a]; exact g4 k b', u_s _ _ _, ?_, fun hO => by rw [eo] at hO; exact Bool.noConfusion hO, fun i hi => by rw [vu_s, u_n _ _ hi, g4 19 (by omega)], fun i hi => by rw [vu_n _ _ (by omega)]; exact g5 i (by omega)⟩
      · rw [u_n _ _ c, u_n _ _ a, u_n _ _ b', g3 k a b', inn k a b']
      · rw [u_n _ _ (by omega), u_n _ _ (by omega), u_s, if_neg (fun q => Bool.noConfusion q.2), eo]
        exact (if_neg (fun q => Bool.noConfusion q)).symm
end
