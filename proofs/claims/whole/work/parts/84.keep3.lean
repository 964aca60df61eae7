/-! ===== the class: the rows that keep a rule (3); rows kept, rows taken over ===== -/
section
variable {q : Nat × (Nat → Int32)} {S : Nat → xSt} {P : Int32 × (Nat → Nat)} {A : (Nat → Int64) × Int32 × Int32 × (Nat → Int64) × (Nat → Nat → Int64)} {D : (Nat → Int64) × Int64} {K : Nat → Int64} {X : Int32 × Int32 × Int32 × (Nat → Int32) × (Nat → Int32)} {E Z : Nat → Int32} {I : Nat → Int32} {J : Nat → Int64} {V : Nat → Nat → Int32}
set_option maxRecDepth 100000 in
theorem c_bk_23 {k kd x y c : Nat} (hk : k < 8) (hkd : kd ≤ 5) (hx : x < 4) (hy : y < 4) (hc : c ≤ 255) (r0 : (S 0).2.2.2.2.1 k 0 = nI kd) (r1 : (S 0).2.2.2.2.1 k 1 = nI x) (r2 : (S 0).2.2.2.2.1 k 2 = nI y) (r3 : (S 0).2.2.2.2.1 k 3 = nI c) (j : Nat) : ∀ (n : Nat) (W : Nat → Int64) (z3 z4 z5 z6 : Option Value), n + j = 8 → RS (kpa kd c x y n) W → ∃ W', den 28 23 [some (.ref (137 + 2 * k)), some (.ref (16 + k)), some (.int (nI n)), z3, z4, z5, z6] [] (hp q S P ((A.1, A.2.1, A.2.2.1, A.2.2.2.1, vf_upd A.2.2.2.2 k W)) D K X E Z I J V) = some (none, (hp q S P ((A.1, A.2.1, A.2.2.1, A.2.2.2.1, vf_upd A.2.2.2.2 k W')) D K X E Z I J V)) ∧ RS (kpa kd c x y 8) W' := by
  induction j with
  | zero =>
    intro n W z3 z4 z5 z6 hn hm
    have hn : n = 8 := by omega
    subst hn
    refine ⟨W, ?_, hm⟩
    rw [D28_23]
    simp (maxSteps := 2000000) (disch := omega) only [e_inl, e_goto, e_fall, e_if, e_icmp, e_iret, e_zret, e_lret, e_vret, e_call0_0, e_call0_1, e_call0_2, e_call0_3, e_call0_4, e_call1_0, e_call1_1, e_call1_2, e_call1_3, e_call1_4, e_call2_0, e_call2_1, e_call2_2, e_call2_3, e_call2_4, e_call3_0, e_call3_1, e_call3_2, e_call3_3, e_call3_4, e_call4_0, e_call4_1, e_call4_2, e_call4_3, e_call4_4, e_call5_0, e_call5_1, e_call5_2, e_call5_3, e_call5_4, e_call6_0, e_call6_1, e_call6_2, e_call6_3, e_call6_4, xP, xld, xst1, xst2, xis2, xii, xid, xll, xlv, xls, xlc, xil, xli, xrd, xdup, xdup2, xc1, xpu, c_eq, c_ne, c_lt, c_ge, c_gt, c_le, Option.bind_some, Option.map_some, List.length_nil, List.length_cons, Nat.reduceAdd, Nat.reduceLeDiff, Int.reduceToNat, Bool.and_self, Bool.false_eq_true, if_true, if_false, D28_118, n_lit, nI_leI, Nat.le_refl]
  | succ j ih =>
    intro n W z3 z4 z5 z6 hn hm
    have hn8 : n < 8 := by omega
    have hF := isKeep (q := q) (S := S) (P := P) (A := A) (D := D) (K := K) (X := X) (E := E) (Z := Z) (I := I) (J := J) (V := V) hk
    have hps : bset (fun b => kp kd c n b) 8 < 256 := bset_lt _ 8
    have hp2 : (2 : Nat) ^ n < 256 := Nat.pow_lt_pow_right (n := 8) (by decide) hn8
    have ep := n_pow hn8
    have epo := c_partnersOf (q := q) (S := S) (P := P) (A := (A.1, A.2.1, A.2.2.1, A.2.2.2.1, vf_upd A.2.2.2.2 k W)) (D := D) (K := K) (X := X) (E := E) (Z := Z) (I := I) (J := J) (V := V) (a := n) hk hkd hn8 hc r0 r3
    generalize hpse : bset (fun b => kp kd c n b) 8 = ps at *
    obtain ⟨W1, e59, hm1⟩ := c_bk_59 (r := 16 + k) (x := x) (y := y) (n := n) (ps := ps) hF (fun W => by rw [g_R_1 _ _ _ _ _ _ _ _ _ _ _ _ k hk, r1]) (fun W => by rw [g_R_2 _ _ _ _ _ _ _ _ _ _ _ _ k hk, r2]) hx hy hn8 hps hm
    have hm2 : RS (kpa kd c x y (n + 1)) W1 := by
      have e : (fun z => kpa kd c x y n z || ((2 ^ n).testBit (vl z x) && ps.testBit (vl z y))) = kpa kd c x y (n + 1) := by
        funext z
        rw [kpa_succ, hpse]
      rw [← e]
      exact hm1
    obtain ⟨W', e2, hm3⟩ := ih (n + 1) W1 (some (.int (nI ps))) (some (.long (lN (wiN x (2 ^ n) &&& wiN y ps)))) none (some (.int (nI 64))) (by omega) hm2
    refine ⟨W', Eq.trans ?_ e2, hm3⟩
    have h1 : ¬ 8 ≤ n := by omega
    have ew1 := c_withinWord hx hp2 (hp q S P ((A.1, A.2.1, A.2.2.1, A.2.2.2.1, vf_upd A.2.2.2.2 k W)) D K X E Z I J V)
    have ew2 := c_withinWord hy hps (hp q S P ((A.1, A.2.1, A.2.2.1, A.2.2.2.1, vf_upd A.2.2.2.2 k W)) D K X E Z I J V)
    have ea := wb_and (wiN_lt x (2 ^ n)) (wiN_lt y ps)
    rw [D28_23]
    simp (maxSteps := 2000000) (disch := omega) only [e_inl, e_goto, e_fall, e_if, e_icmp, e_iret, e_zret, e_lret, e_vret, e_call0_0, e_call0_1, e_call0_2, e_call0_3, e_call0_4, e_call1_0, e_call1_1, e_call1_2, e_call1_3, e_call1_4, e_call2_0, e_call2_1, e_call2_2, e_call2_3, e_call2_4, e_call3_0, e_call3_1, e_call3_2, e_call3_3, e_call3_4, e_call4_0, e_call4_1, e_call4_2, e_call4_3, e_call4_4, e_call5_0, e_call5_1, e_call5_2, e_call5_3, e_call5_4, e_call6_0, e_call6_1, e_call6_2, e_call6_3, e_call6_4, xP, xld, xst1, xst2, xis2, xii, xid, xll, xlv, xls, xlc, xil, xli, xrd, xdup, xdup2, xc1, xpu, c_eq, c_ne, c_lt, c_ge, c_gt, c_le, Option.bind_some, Option.map_some, List.length_nil, List.length_cons, Nat.reduceAdd, Nat.reduceLeDiff, Int.reduceToNat, Bool.and_self, Bool.false_eq_true, if_true, if_false, g_R_1, g_R_2, n_lit, nI_leI, h1, epo, r1, r2, ep, ew1, ew2, ea]
    have e59' : den 28 59 [some (.ref (137 + 2 * k)), some (.ref (16 + k)), some (.int (nI n)), some (.int (nI ps)), some (.long (lN (wiN x (2 ^ n) &&& wiN y ps))), none, some (.int (nI 0))] [] (hp q S P ((A.1, A.2.1, A.2.2.1, A.2.2.2.1, vf_upd A.2.2.2.2 k W)) D K X E Z I J V) = _ := e59
    rw [e59', D28_112]
    simp (maxSteps := 2000000) (disch := omega) only [e_inl, e_goto, e_fall, e_if, e_icmp, e_iret, e_zret, e_lret, e_vret, e_call0_0, e_call0_1, e_call0_2, e_call0_3, e_call0_4, e_call1_0, e_call1_1, e_call1_2, e_call1_3, e_call1_4, e_call2_0, e_call2_1, e_call2_2, e_call2_3, e_call2_4, e_call3_0, e_call3_1, e_call3_2, e_call3_3, e_call3_4, e_call4_0, e_call4_1, e_call4_2, e_call4_3, e_call4_4, e_call5_0, e_call5_1, e_call5_2, e_call5_3, e_call5_4, e_call6_0, e_call6_1, e_call6_2, e_call6_3, e_call6_4, xP, xld, xst1, xst2, xis2, xii, xid, xll, xlv, xls, xlc, xil, xli, xrd, xdup, xdup2, xc1, xpu, c_eq, c_ne, c_lt, c_ge, c_gt, c_le, Option.bind_some, Option.map_some, List.length_nil, List.length_cons, Nat.reduceAdd, Nat.reduceLeDiff, Int.reduceToNat, Bool.and_self, Bool.false_eq_true, if_true, if_false, n_lit, nI_add]
set_option maxRecDepth 100000 in
theorem c_becomesKeepersOf {k kd x y c : Nat} (hk : k < 8) (hkd : kd ≤ 5) (hx : x < 4) (hy : y < 4) (hc : c ≤ 255) (r0 : (S 0).2.2.2.2.1 k 0 = nI kd) (r1 : (S 0).2.2.2.2.1 k 1 = nI x) (r2 : (S 0).2.2.2.2.1 k 2 = nI y) (r3 : (S 0).2.2.2.2.1 k 3 = nI c) : ∃ W', xcall 28 [.ref (137 + 2 * k), .ref (16 + k)] (hp q S P A D K X E Z I J V) = some (none, (hp q S P ((A.1, A.2.1, A.2.2.1, A.2.2.2.1, vf_upd A.2.2.2.2 k W')) D K X E Z I J V)) ∧ RS (fun z => kp kd c (vl z x) (vl z y)) W' := by
  have hF := isKeep (q := q) (S := S) (P := P) (A := A) (D := D) (K := K) (X := X) (E := E) (Z := Z) (I := I) (J := J) (V := V) hk
  have h2 := c_bk_2 hF (A.2.2.2.2 k) (16 + k) (z3 := none) (z4 := none) (z5 := none) (z6 := none)
  have eA : (A.1, A.2.1, A.2.2.1, A.2.2.2.1, vf_upd A.2.2.2.2 k (A.2.2.2.2 k)) = A := by rw [vu_id]
  have h2' : den 28 2 [some (.ref (137 + 2 * k)), some (.ref (16 + k)), some (.int (nI 0)), none, none, none, none] [] (hp q S P (A.1, A.2.1, A.2.2.1, A.2.2.2.1, vf_upd A.2.2.2.2 k (A.2.2.2.2 k)) D K X E Z I J V) = _ := h2
  rw [eA] at h2'
  obtain ⟨W', e, hm⟩ := c_bk_23 (q := q) (S := S) (P := P) (A := A) (D := D) (K := K) (X := X) (E := E) (Z := Z) (I := I) (J := J) (V := V) hk hkd hx hy hc r0 r1 r2 r3 8 0 (fa_fill (fun _ => Int64.ofInt 0) (A.2.2.2.2 k) 64) none none none none (by omega) (fun w hw => by
    rw [fa_fill_in hw, wdN_0 (fun b _ => kpa_0 kd c x y _)]
    rfl)
  refine ⟨W', ?_, fun w hw => ?_⟩
  · rw [N28 _ _ _ (o_keep _ _ _ _ _ _ _ _ _ _ _ _ k hk), D28_0]
    simp (maxSteps := 2000000) (disch := omega) only [e_inl, e_goto, e_fall, e_if, e_icmp, e_iret, e_zret, e_lret, e_vret, e_call0_0, e_call0_1, e_call0_2, e_call0_3, e_call0_4, e_call1_0, e_call1_1, e_call1_2, e_call1_3, e_call1_4, e_call2_0, e_call2_1, e_call2_2, e_call2_3, e_call2_4, e_call3_0, e_call3_1, e_call3_2, e_call3_3, e_call3_4, e_call4_0, e_call4_1, e_call4_2, e_call4_3, e_call4_4, e_call5_0, e_call5_1, e_call5_2, e_call5_3, e_call5_4, e_call6_0, e_call6_1, e_call6_2, e_call6_3, e_call6_4, xP, xld, xst1, xst2, xis2, xii, xid, xll, xlv, xls, xlc, xil, xli, xrd, xdup, xdup2, xc1, xpu, c_eq, c_ne, c_lt, c_ge, c_gt, c_le, Option.bind_some, Option.map_some, List.length_nil, List.length_cons, Nat.reduceAdd, Nat.reduceLeDiff, Int.reduceToNat, Bool.and_self, Bool.false_eq_true, if_true, if_false, n_lit]
    rw [h2', D28_21]
    simp (maxSteps := 2000000) (disch := omega) only [e_inl, e_goto, e_fall, e_if, e_icmp, e_iret, e_zret, e_lret, e_vret, e_call0_0, e_call0_1, e_call0_2, e_call0_3, e_call0_4, e_call1_0, e_call1_1, e_call1_2, e_call1_3, e_call1_4, e_call2_0, e_call2_1, e_call2_2, e_call2_3, e_call2_4, e_call3_0, e_call3_1, e_call3_2, e_call3_3, e_call3_4, e_call4_0, e_call4_1, e_call4_2, e_call4_3, e_call4_4, e_call5_0, e_call5_1, e_call5_2, e_call5_3, e_call5_4, e_call6_0, e_call6_1, e_call6_2, e_call6_3, e_call6_4, xP, xld, xst1, xst2, xis2, xii, xid, xll, xlv, xls, xlc, xil, xli, xrd, xdup, xdup2, xc1, xpu, c_eq, c_ne, c_lt, c_ge, c_gt, c_le, Option.bind_some, Option.map_some, List.length_nil, List.length_cons, Nat.reduceAdd, Nat.reduceLeDiff, Int.reduceToNat, Bool.and_self, Bool.false_eq_true, if_true, if_false, n_lit]
    exact e
  · rw [hm w hw]
    congr 1
    exact wdN_cong (fun b _ => kpa_8 kd c x y _)
end
