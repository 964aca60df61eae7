/-! ===== the class: the rows that keep a rule (2) ===== -/
section
variable {q : Nat × (Nat → Int32)} {S : Nat → xSt} {P : Int32 × (Nat → Nat)} {A : (Nat → Int64) × Int32 × Int32 × (Nat → Int64) × (Nat → Nat → Int64)} {D : (Nat → Int64) × Int64} {K : Nat → Int64} {X : Int32 × Int32 × Int32 × (Nat → Int32) × (Nat → Int32)} {E Z : Nat → Int32} {I : Nat → Int32} {J : Nat → Int64} {V : Nat → Nat → Int32}
set_option maxRecDepth 100000 in
theorem c_bk_2 {a : Nat} {F : (Nat → Int64) → xH} (hF : IsRS a F) (W : Nat → Int64) (r : Nat) {z3 z4 z5 z6 : Option Value} : den 28 2 [some (.ref a), some (.ref r), some (.int (nI 0)), z3, z4, z5, z6] [] (F W) = den 28 21 [some (.ref a), some (.ref r), some (.int (nI 64)), z3, z4, z5, z6] [] (F (fa_fill (fun _ => Int64.ofInt 0) W 64)) := by
  have hl := x_loop (i := 28) (pc := 2) (fun k => [some (.ref a), some (.ref r), some (.int (nI k)), z3, z4, z5, z6]) (fun k => F (fa_fill (fun _ => Int64.ofInt 0) W k)) 64 (fun k hk => by
    rw [D28_2]
    have h1 : ¬ 64 ≤ k := by omega
    have e1 := hF.g (fa_fill (fun _ => Int64.ofInt 0) W k)
    have e2 := hF.s (fa_fill (fun _ => Int64.ofInt 0) W k) hk (Int64.ofInt 0)
    rw [fl_succ (fun _ => Int64.ofInt 0) W k] at e2
    simp (maxSteps := 2000000) (disch := omega) only [e_inl, e_goto, e_fall, e_if, e_icmp, e_iret, e_zret, e_lret, e_vret, e_call0_0, e_call0_1, e_call0_2, e_call0_3, e_call0_4, e_call1_0, e_call1_1, e_call1_2, e_call1_3, e_call1_4, e_call2_0, e_call2_1, e_call2_2, e_call2_3, e_call2_4, e_call3_0, e_call3_1, e_call3_2, e_call3_3, e_call3_4, e_call4_0, e_call4_1, e_call4_2, e_call4_3, e_call4_4, e_call5_0, e_call5_1, e_call5_2, e_call5_3, e_call5_4, e_call6_0, e_call6_1, e_call6_2, e_call6_3, e_call6_4, xP, xld, xst1, xst2, xis2, xii, xid, xll, xlv, xls, xlc, xil, xli, xrd, xdup, xdup2, xc1, xpu, c_eq, c_ne, c_lt, c_ge, c_gt, c_le, Option.bind_some, Option.map_some, List.length_nil, List.length_cons, Nat.reduceAdd, Nat.reduceLeDiff, Int.reduceToNat, Bool.and_self, Bool.false_eq_true, if_true, if_false, n_lit, nI_leI, nI_add, h1, e1, e2])
  simp only [fa_fill_0] at hl
  rw [hl, D28_2]
  simp (maxSteps := 2000000) (disch := omega) only [e_inl, e_goto, e_fall, e_if, e_icmp, e_iret, e_zret, e_lret, e_vret, e_call0_0, e_call0_1, e_call0_2, e_call0_3, e_call0_4, e_call1_0, e_call1_1, e_call1_2, e_call1_3, e_call1_4, e_call2_0, e_call2_1, e_call2_2, e_call2_3, e_call2_4, e_call3_0, e_call3_1, e_call3_2, e_call3_3, e_call3_4, e_call4_0, e_call4_1, e_call4_2, e_call4_3, e_call4_4, e_call5_0, e_call5_1, e_call5_2, e_call5_3, e_call5_4, e_call6_0, e_call6_1, e_call6_2, e_call6_3, e_call6_4, xP, xld, xst1, xst2, xis2, xii, xid, xll, xlv, xls, xlc, xil, xli, xrd, xdup, xdup2, xc1, xpu, c_eq, c_ne, c_lt, c_ge, c_gt, c_le, Option.bind_some, Option.map_some, List.length_nil, List.length_cons, Nat.reduceAdd, Nat.reduceLeDiff, Int.reduceToNat, Bool.and_self, Bool.false_eq_true, if_true, if_false, n_lit, nI_leI, Nat.le_refl]
set_option maxRecDepth 100000 in
theorem c_bk_59 {a r x y n ps : Nat} {F : (Nat → Int64) → xH} (hF : IsRS a F) (hg1 : ∀ W, xget (F W) r 161 = some (.int (nI x))) (hg2 : ∀ W, xget (F W) r 162 = some (.int (nI y))) (hx : x < 4) (hy : y < 4) (hn : n < 8) (hps : ps < 256) {W : Nat → Int64} {m : Nat → Bool} (hm : RS m W) : ∃ W', den 28 59 [some (.ref a), some (.ref r), some (.int (nI n)), some (.int (nI ps)), some (.long (lN (wiN x (2 ^ n) &&& wiN y ps))), none, some (.int (nI 0))] [] (F W) = den 28 112 [some (.ref a), some (.ref r), some (.int (nI n)), some (.int (nI ps)), some (.long (lN (wiN x (2 ^ n) &&& wiN y ps))), none, some (.int (nI 64))] [] (F W') ∧ RS (fun z => m z || ((2 ^ n).testBit (vl z x) && ps.testBit (vl z y))) W' := by
  have hp2 : (2 : Nat) ^ n < 256 := Nat.pow_lt_pow_right (n := 8) (by decide) hn
  have ep := n_pow hn
  have h10 : (nI 1 = nI 0) = False := eq_false (by decide)
  refine ⟨fa_fill (fun w => lN (wdN (fun z => m z || ((2 ^ n).testBit (vl z x) && ps.testBit (vl z y))) w)) W 64, ?_, fun w hw => fa_fill_in hw⟩
  generalize hM : (fun z => m z || ((2 ^ n).testBit (vl z x) && ps.testBit (vl z y))) = m2
  have hm2 : ∀ z, m2 z = (m z || ((2 ^ n).testBit (vl z x) && ps.testBit (vl z y))) := fun z => by rw [← hM]
  have hand : wiN x (2 ^ n) &&& wiN y ps < 2 ^ 64 := Nat.lt_of_le_of_lt Nat.and_le_left (wiN_lt _ _)
  have hl := x_loop (i := 28) (pc := 59) (fun k => [some (.ref a), some (.ref r), some (.int (nI n)), some (.int (nI ps)), some (.long (lN (wiN x (2 ^ n) &&& wiN y ps))), none, some (.int (nI k))]) (fun k => F (fa_fill (fun w => lN (wdN m2 w)) W k)) 64 (fun k hk => by
    have h1 : ¬ 64 ≤ k := by omega
    have e1 := hF.g (fa_fill (fun w => lN (wdN m2 w)) W k)
    have er := hF.r (fa_fill (fun w => lN (wdN m2 w)) W k) hk
    rw [fa_fill_out (Nat.le_refl k), hm k hk] at er
    have g1 := hg1 (fa_fill (fun w => lN (wdN m2 w)) W k)
    have g2 := hg2 (fa_fill (fun w => lN (wdN m2 w)) W k)
    have eh1 := c_hasWord hk hx hp2 (F (fa_fill (fun w => lN (wdN m2 w)) W k))
    have eh2 := c_hasWord hk hy hps (F (fa_fill (fun w => lN (wdN m2 w)) W k))
    have e2 := hF.s (fa_fill (fun w => lN (wdN m2 w)) W k) hk (lN (wdN m2 k))
    have efs := fl_succ (fun w => lN (wdN m2 w)) W k
    rw [efs] at e2
    have hskip : (hwB k x (2 ^ n) && hwB k y ps) = false → fa_fill (fun w => lN (wdN m2 w)) W (k + 1) = fa_fill (fun w => lN (wdN m2 w)) W k := by
      intro hf
      have ew : wdN m2 k = wdN m k := wdN_cong (fun b hb => by
        have a1 := hw_wi (vs := 2 ^ n) hk hb hx
        have a2 := hw_wi (vs := ps) hk hb hy
        rw [hm2, ← a1, ← a2]
        cases h5 : hwB k x (2 ^ n)
        · simp
        · rw [h5, Bool.true_and] at hf
          rw [hf]
          simp)
      rw [← efs, ew, ← hm k hk, ← fa_fill_out (f := fun w => lN (wdN m2 w)) (g := W) (Nat.le_refl k)]
      exact l_id rfl
    rw [D28_59]
    by_cases h5 : hwB k x (2 ^ n) = true
    · by_cases h6 : hwB k y ps = true
      · have ew : wdN m k ||| (wiN x (2 ^ n) &&& wiN y ps) = wdN m2 k := by
          apply Nat.eq_of_testBit_eq
          intro j
          rw [Nat.testBit_or, Nat.testBit_and]
          by_cases hj : j < 64
          · have a1 := hw_wi (vs := 2 ^ n) hk hj hx
            have a2 := hw_wi (vs := ps) hk hj hy
            rw [h5, Bool.true_and] at a1
            rw [h6, Bool.true_and] at a2
            rw [wdN_bit hj, wdN_bit hj, hm2, a1, a2]
          · unfold wdN wiN
            rw [bset_bit, bset_bit, bset_bit, bset_bit]
            simp [hj]
        have eo := wb_or (wdN_lt m k) hand
        rw [ew] at eo
        rw [h5, zB_tt] at eh1
        rw [h6, zB_tt] at eh2
        generalize fa_fill (fun w => lN (wdN m2 w)) W k = W1 at *
        generalize fa_fill (fun w => lN (wdN m2 w)) W (k + 1) = W2 at *
        simp (maxSteps := 2000000) (disch := omega) only [e_inl, e_goto, e_fall, e_if, e_icmp, e_iret, e_zret, e_lret, e_vret, e_call0_0, e_call0_1, e_call0_2, e_call0_3, e_call0_4, e_call1_0, e_call1_1, e_call1_2, e_call1_3, e_call1_4, e_call2_0, e_call2_1, e_call2_2, e_call2_3, e_call2_4, e_call3_0, e_call3_1, e_call3_2, e_call3_3, e_call3_4, e_call4_0, e_call4_1, e_call4_2, e_call4_3, e_call4_4, e_call5_0, e_call5_1, e_call5_2, e_call5_3, e_call5_4, e_call6_0, e_call6_1, e_call6_2, e_call6_3, e_call6_4, xP, xld, xst1, xst2, xis2, xii, xid, xll, xlv, xls, xlc, xil, xli, xrd, xdup, xdup2, xc1, xpu, c_eq, c_ne, c_lt, c_ge, c_gt, c_le, Option.bind_some, Option.map_some, List.length_nil, List.length_cons, Nat.reduceAdd, Nat.reduceLeDiff, Int.reduceToNat, Bool.and_self, Bool.false_eq_true, if_true, if_false, D28_106, n_lit, nI_leI, nI_add, h1, n_0, h10, g1, g2, ep, eh1, eh2, e1, er, eo, e2]
      · rw [hskip (by rw [Bool.eq_false_iff.mpr h6, Bool.and_false])]
        rw [h5, zB_tt] at eh1
        rw [Bool.eq_false_iff.mpr h6, zB_ff] at eh2
        generalize fa_fill (fun w => lN (wdN m2 w)) W k = W1 at *
        simp (maxSteps := 2000000) (disch := omega) only [e_inl, e_goto, e_fall, e_if, e_icmp, e_iret, e_zret, e_lret, e_vret, e_call0_0, e_call0_1, e_call0_2, e_call0_3, e_call0_4, e_call1_0, e_call1_1, e_call1_2, e_call1_3, e_call1_4, e_call2_0, e_call2_1, e_call2_2, e_call2_3, e_call2_4, e_call3_0, e_call3_1, e_call3_2, e_call3_3, e_call3_4, e_call4_0, e_call4_1, e_call4_2, e_call4_3, e_call4_4, e_call5_0, e_call5_1, e_call5_2, e_call5_3, e_call5_4, e_call6_0, e_call6_1, e_call6_2, e_call6_3, e_call6_4, xP, xld, xst1, xst2, xis2, xii, xid, xll, xlv, xls, xlc, xil, xli, xrd, xdup, xdup2, xc1, xpu, c_eq, c_ne, c_lt, c_ge, c_gt, c_le, Option.bind_some, Option.map_some, List.length_nil, List.length_cons, Nat.reduceAdd, Nat.reduceLeDiff, Int.reduceToNat, Bool.and_self, Bool.false_eq_true, if_true, if_false, D28_106, n_lit, nI_leI, nI_add, h1, n_0, h10, g1, g2, ep, eh1, eh2]
    · rw [hskip (by rw [Bool.eq_false_iff.mpr h5, Bool.false_and])]
      rw [Bool.eq_false_iff.mpr h5, zB_ff] at eh1
      generalize fa_fill (fun w => lN (wdN m2 w)) W k = W1 at *
      simp (maxSteps := 2000000) (disch := omega) only [e_inl, e_goto, e_fall, e_if, e_icmp, e_iret, e_zret, e_lret, e_vret, e_call0_0, e_call0_1, e_call0_2, e_call0_3, e_call0_4, e_call1_0, e_call1_1, e_call1_2, e_call1_3, e_call1_4, e_call2_0, e_call2_1, e_call2_2, e_call2_3, e_call2_4, e_call3_0, e_call3_1, e_call3_2, e_call3_3, e_call3_4, e_call4_0, e_call4_1, e_call4_2, e_call4_3, e_call4_4, e_call5_0, e_call5_1, e_call5_2, e_call5_3, e_call5_4, e_call6_0, e_call6_1, e_call6_2, e_call6_3, e_call6_4, xP, xld, xst1, xst2, xis2, xii, xid, xll, xlv, xls, xlc, xil, xli, xrd, xdup, xdup2, xc1, xpu, c_eq, c_ne, c_lt, c_ge, c_gt, c_le, Option.bind_some, Option.map_some, List.length_nil, List.length_cons, Nat.reduceAdd, Nat.reduceLeDiff, Int.reduceToNat, Bool.and_self, Bool.false_eq_true, if_true, if_false, D28_106, n_lit, nI_leI, nI_add, h1, n_0, g1, ep, eh1])
  simp only [fa_fill_0] at hl
  rw [hl, D28_59]
  simp (maxSteps := 2000000) (disch := omega) only [e_inl, e_goto, e_fall, e_if, e_icmp, e_iret, e_zret, e_lret, e_vret, e_call0_0, e_call0_1, e_call0_2, e_call0_3, e_call0_4, e_call1_0, e_call1_1, e_call1_2, e_call1_3, e_call1_4, e_call2_0, e_call2_1, e_call2_2, e_call2_3, e_call2_4, e_call3_0, e_call3_1, e_call3_2, e_call3_3, e_call3_4, e_call4_0, e_call4_1, e_call4_2, e_call4_3, e_call4_4, e_call5_0, e_call5_1, e_call5_2, e_call5_3, e_call5_4, e_call6_0, e_call6_1, e_call6_2, e_call6_3, e_call6_4, xP, xld, xst1, xst2, xis2, xii, xid, xll, xlv, xls, xlc, xil, xli, xrd, xdup, xdup2, xc1, xpu, c_eq, c_ne, c_lt, c_ge, c_gt, c_le, Option.bind_some, Option.map_some, List.length_nil, List.length_cons, Nat.reduceAdd, Nat.reduceLeDiff, Int.reduceToNat, Bool.and_self, Bool.false_eq_true, if_true, if_false, n_lit, nI_leI, Nat.le_refl]
end
