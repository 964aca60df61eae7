/-! ===== the class: soft rules kept; a least set of hard rules ===== -/
theorem kfT_bits {sm : Nat → Bool} {j : Nat} : ∀ (l : List Nat) {r : Nat}, (kfT sm r l).testBit j = true → r.testBit j = true ∨ j ∈ l
  | [], r, h => Or.inl h
  | k :: l, r, h => by
    have e : kfT sm r (k :: l) = kfT sm (if sm (r ||| 2 ^ k) = true then r ||| 2 ^ k else r) l := rfl
    rw [e] at h
    rcases kfT_bits l h with h1 | h1
    · split at h1
      · rw [Nat.testBit_or, Bool.or_eq_true] at h1
        rcases h1 with h2 | h2
        · exact Or.inl h2
        · rw [Nat.testBit_two_pow, decide_eq_true_eq] at h2
          exact Or.inr (by rw [h2]; exact List.mem_cons_self)
      · exact Or.inl h1
    · exact Or.inr (List.mem_cons_of_mem _ h1)
theorem sfK_mem {σ : mS} {r k j : Nat} (hk : k ≤ mK σ) (h : j ∈ sfK σ r k) : j < mK σ := by
  unfold sfK at h
  rw [List.mem_append] at h
  rcases h with h | h
  · exact sfL_mem h
  · have := List.mem_range.mp (List.mem_filter.mp h).1
    omega
theorem hdR_bits {σ : mS} {j : Nat} (h : (hdR σ).testBit j = true) : j < mK σ := by
  unfold hdR at h
  rw [bset_bit, Bool.and_eq_true, decide_eq_true_eq] at h
  exact h.1
theorem crN_bits {σ : mS} {j : Nat} : ∀ k, (crN σ k).testBit j = true → j < mK σ
  | 0, h => hdR_bits h
  | k + 1, h => by
    rw [crN] at h
    split at h
    · rw [andn_bit, Bool.and_eq_true] at h
      exact crN_bits k h.1
    · exact crN_bits k h
section
variable {q : Nat × (Nat → Int32)} {S : Nat → xSt} {P : Int32 × (Nat → Nat)} {A : (Nat → Int64) × Int32 × Int32 × (Nat → Int64) × (Nat → Nat → Int64)} {D : (Nat → Int64) × Int64} {K : Nat → Int64} {X : Int32 × Int32 × Int32 × (Nat → Int32) × (Nat → Int32)} {E Z : Nat → Int32} {I : Nat → Int32} {J : Nat → Int64} {V : Nat → Nat → Int32}
set_option maxRecDepth 100000 in
theorem c_ws_15 {σ : mS} (hw : wf σ) (hs : rpS σ (S 0)) (hA : LawR σ A) {r : Nat} (hr10 : r < 10) {hd : Int32} : den 15 15 [some (.ref 131), some (.ref 3), some (.int hd), some (.int (nI (kfT (smR σ) (hdR σ) (sfL σ r)))), some (.int (nI r)), some (.int (nI 0))] [] (hp q S P A D K X E Z I J V) = den 15 65 [some (.ref 131), some (.ref 3), some (.int hd), some (.int (nI (kfT (smR σ) (hdR σ) (sfL σ (r + 1))))), some (.int (nI r)), some (.int (nI (mK σ)))] [] (hp q S P A D K X E Z I J V) := by
  have w7 := hw.2.2.2.2.2.2.1
  have w8 := hw.2.2.2.2.2.2.2.1
  have h3 := hs.2.2.2.2.1
  have r6 := hs.2.2.2.2.2.2.1
  have h10 : (nI 1 = nI 0) = False := eq_false (by decide)
  have hl := x_loop (i := 15) (pc := 15) (fun k => [some (.ref 131), some (.ref 3), some (.int hd), some (.int (nI (kfT (smR σ) (hdR σ) (sfK σ r k)))), some (.int (nI r)), some (.int (nI k))]) (fun _ => (hp q S P A D K X E Z I J V)) (mK σ) (fun k hk => by
    rw [D15_15]
    have h1 : ¬ mK σ ≤ k := by omega
    have e4 := r6 k hk
    have hr4 := (w8 k hk).2.2.2.2
    have er := rI_eqn (r := mR σ k 4) (k := r) (by omega) (by omega)
    have ep := n_pow (show k < 8 by omega)
    have hlt := kfT_lt (sm := smR σ) (sfK σ r k) (hdR_lt hw) (fun j hj => by have := sfK_mem (show k ≤ mK σ by omega) hj; omega)
    have hbits : ∀ j, (kfT (smR σ) (hdR σ) (sfK σ r k)).testBit j = true → j < mK σ := fun j hj => by
      rcases kfT_bits _ hj with h | h
      · exact hdR_bits h
      · exact sfK_mem (show k ≤ mK σ by omega) h
    by_cases hb : mR σ k 4 = r + 1
    · rw [sfK_yes hb, kfT_snoc]
      generalize kfT (smR σ) (hdR σ) (sfK σ r k) = u at *
      have hp2 : (2 : Nat) ^ k < 2 ^ 8 := Nat.pow_lt_pow_right (by decide) (by omega)
      have hor : u ||| 2 ^ k < 256 := Nat.or_lt_two_pow (n := 8) hlt hp2
      have es := c_someRowKeeps (q := q) (S := S) (P := P) (A := A) (D := D) (K := K) (X := X) (E := E) (Z := Z) (I := I) (J := J) (V := V) hw hA (r := u ||| 2 ^ k) (fun j hj => by
        rw [Nat.testBit_or, Bool.or_eq_true] at hj
        rcases hj with h | h
        · exact hbits j h
        · rw [Nat.testBit_two_pow, decide_eq_true_eq] at h
          omega) hor
      rw [hb, rI_succ] at e4
      by_cases ht : smR σ (u ||| 2 ^ k) = true
      · rw [if_pos ht]
        rw [ht, zB_tt] at es
        simp (maxSteps := 2000000) (disch := omega) only [e_inl, e_goto, e_fall, e_if, e_icmp, e_iret, e_zret, e_lret, e_vret, e_call0_0, e_call0_1, e_call0_2, e_call0_3, e_call0_4, e_call1_0, e_call1_1, e_call1_2, e_call1_3, e_call1_4, e_call2_0, e_call2_1, e_call2_2, e_call2_3, e_call2_4, e_call3_0, e_call3_1, e_call3_2, e_call3_3, e_call3_4, e_call4_0, e_call4_1, e_call4_2, e_call4_3, e_call4_4, e_call5_0, e_call5_1, e_call5_2, e_call5_3, e_call5_4, e_call6_0, e_call6_1, e_call6_2, e_call6_3, e_call6_4, xP, xld, xst1, xst2, xis2, xii, xid, xll, xlv, xls, xlc, xil, xli, xrd, xdup, xdup2, xc1, xpu, c_eq, c_ne, c_lt, c_ge, c_gt, c_le, Option.bind_some, Option.map_some, List.length_nil, List.length_cons, Nat.reduceAdd, Nat.reduceLeDiff, Int.reduceToNat, Bool.and_self, Bool.false_eq_true, if_true, if_false, D15_59, g_S_3, g_S_4, rd0R, g_R_4, n_lit, nI_leI, nI_add, h3, h1, e4, not_true_eq_false, ep, fa_or, es, n_0, h10]
      · rw [if_neg ht]
        rw [Bool.eq_false_iff.mpr ht, zB_ff] at es
        simp (maxSteps := 2000000) (disch := omega) only [e_inl, e_goto, e_fall, e_if, e_icmp, e_iret, e_zret, e_lret, e_vret, e_call0_0, e_call0_1, e_call0_2, e_call0_3, e_call0_4, e_call1_0, e_call1_1, e_call1_2, e_call1_3, e_call1_4, e_call2_0, e_call2_1, e_call2_2, e_call2_3, e_call2_4, e_call3_0, e_call3_1, e_call3_2, e_call3_3, e_call3_4, e_call4_0, e_call4_1, e_call4_2, e_call4_3, e_call4_4, e_call5_0, e_call5_1, e_call5_2, e_call5_3, e_call5_4, e_call6_0, e_call6_1, e_call6_2, e_call6_3, e_call6_4, xP, xld, xst1, xst2, xis2, xii, xid, xll, xlv, xls, xlc, xil, xli, xrd, xdup, xdup2, xc1, xpu, c_eq, c_ne, c_lt, c_ge, c_gt, c_le, Option.bind_some, Option.map_some, List.length_nil, List.length_cons, Nat.reduceAdd, Nat.reduceLeDiff, Int.reduceToNat, Bool.and_self, Bool.false_eq_true, if_true, if_false, D15_59, g_S_3, g_S_4, rd0R, g_R_4, n_lit, nI_leI, nI_add, h3, h1, e4, not_true_eq_false, ep, fa_or, es, n_0]
    · rw [sfK_no hb]
      simp (maxSteps := 2000000) (disch := omega) only [e_inl, e_goto, e_fall, e_if, e_icmp, e_iret, e_zret, e_lret, e_vret, e_call0_0, e_call0_1, e_call0_2, e_call0_3, e_call0_4, e_call1_0, e_call1_1, e_call1_2, e_call1_3, e_call1_4, e_call2_0, e_call2_1, e_call2_2, e_call2_3, e_call2_4, e_call3_0, e_call3_1, e_call3_2, e_call3_3, e_call3_4, e_call4_0, e_call4_1, e_call4_2, e_call4_3, e_call4_4, e_call5_0, e_call5_1, e_call5_2, e_call5_3, e_call5_4, e_call6_0, e_call6_1, e_call6_2, e_call6_3, e_call6_4, xP, xld, xst1, xst2, xis2, xii, xid, xll, xlv, xls, xlc, xil, xli, xrd, xdup, xdup2, xc1, xpu, c_eq, c_ne, c_lt, c_ge, c_gt, c_le, Option.bind_some, Option.map_some, List.length_nil, List.length_cons, Nat.reduceAdd, Nat.reduceLeDiff, Int.reduceToNat, Bool.and_self, Bool.false_eq_true, if_true, if_false, D15_59, g_S_3, g_S_4, rd0R, g_R_4, n_lit, nI_leI, nI_add, h3, h1, e4, er, hb, not_false_eq_true])
  simp only [sfK_0, sfK_end] at hl
  rw [hl, D15_15]
  simp (maxSteps := 2000000) (disch := omega) only [e_inl, e_goto, e_fall, e_if, e_icmp, e_iret, e_zret, e_lret, e_vret, e_call0_0, e_call0_1, e_call0_2, e_call0_3, e_call0_4, e_call1_0, e_call1_1, e_call1_2, e_call1_3, e_call1_4, e_call2_0, e_call2_1, e_call2_2, e_call2_3, e_call2_4, e_call3_0, e_call3_1, e_call3_2, e_call3_3, e_call3_4, e_call4_0, e_call4_1, e_call4_2, e_call4_3, e_call4_4, e_call5_0, e_call5_1, e_call5_2, e_call5_3, e_call5_4, e_call6_0, e_call6_1, e_call6_2, e_call6_3, e_call6_4, xP, xld, xst1, xst2, xis2, xii, xid, xll, xlv, xls, xlc, xil, xli, xrd, xdup, xdup2, xc1, xpu, c_eq, c_ne, c_lt, c_ge, c_gt, c_le, Option.bind_some, Option.map_some, List.length_nil, List.length_cons, Nat.reduceAdd, Nat.reduceLeDiff, Int.reduceToNat, Bool.and_self, Bool.false_eq_true, if_true, if_false, g_S_3, nI_leI, h3, Nat.le_refl]
set_option maxRecDepth 100000 in
theorem c_withSoft {σ : mS} (hw : wf σ) (hs : rpS σ (S 0)) (hA : LawR σ A) : xcall 15 [.ref 131, .ref 3, .int (nI (hdR σ))] (hp q S P A D K X E Z I J V) = some (some (.int (nI (kpR σ))), (hp q S P A D K X E Z I J V)) := by
  rw [N15 _ _ _ _ (o_law ..), D15_0]
  have go : ∀ (r : Nat) (z : Option Value), r < 10 → den 15 5 [some (.ref 131), some (.ref 3), some (.int (nI (hdR σ))), some (.int (nI (kfT (smR σ) (hdR σ) (sfL σ r)))), some (.int (nI r)), z] [] (hp q S P A D K X E Z I J V) = den 15 5 [some (.ref 131), some (.ref 3), some (.int (nI (hdR σ))), some (.int (nI (kfT (smR σ) (hdR σ) (sfL σ (r + 1))))), some (.int (nI (r + 1))), some (.int (nI (mK σ)))] [] (hp q S P A D K X E Z I J V) := by
    intro r z hr
    have h1 : ¬ 10 ≤ r := by omega
    have e15 := c_ws_15 (q := q) (S := S) (P := P) (A := A) (D := D) (K := K) (X := X) (E := E) (Z := Z) (I := I) (J := J) (V := V) (hd := nI (hdR σ)) hw hs hA hr
    rw [D15_5]
    simp (maxSteps := 2000000) (disch := omega) only [e_inl, e_goto, e_fall, e_if, e_icmp, e_iret, e_zret, e_lret, e_vret, e_call0_0, e_call0_1, e_call0_2, e_call0_3, e_call0_4, e_call1_0, e_call1_1, e_call1_2, e_call1_3, e_call1_4, e_call2_0, e_call2_1, e_call2_2, e_call2_3, e_call2_4, e_call3_0, e_call3_1, e_call3_2, e_call3_3, e_call3_4, e_call4_0, e_call4_1, e_call4_2, e_call4_3, e_call4_4, e_call5_0, e_call5_1, e_call5_2, e_call5_3, e_call5_4, e_call6_0, e_call6_1, e_call6_2, e_call6_3, e_call6_4, xP, xld, xst1, xst2, xis2, xii, xid, xll, xlv, xls, xlc, xil, xli, xrd, xdup, xdup2, xc1, xpu, c_eq, c_ne, c_lt, c_ge, c_gt, c_le, Option.bind_some, Option.map_some, List.length_nil, List.length_cons, Nat.reduceAdd, Nat.reduceLeDiff, Int.reduceToNat, Bool.and_self, Bool.false_eq_true, if_true, if_false, n_lit, nI_leI, h1]
    rw [e15, D15_65]
    simp (maxSteps := 2000000) (disch := omega) only [e_inl, e_goto, e_fall, e_if, e_icmp, e_iret, e_zret, e_lret, e_vret, e_call0_0, e_call0_1, e_call0_2, e_call0_3, e_call0_4, e_call1_0, e_call1_1, e_call1_2, e_call1_3, e_call1_4, e_call2_0, e_call2_1, e_call2_2, e_call2_3, e_call2_4, e_call3_0, e_call3_1, e_call3_2, e_call3_3, e_call3_4, e_call4_0, e_call4_1, e_call4_2, e_call4_3, e_call4_4, e_call5_0, e_call5_1, e_call5_2, e_call5_3, e_call5_4, e_call6_0, e_call6_1, e_call6_2, e_call6_3, e_call6_4, xP, xld, xst1, xst2, xis2, xii, xid, xll, xlv, xls, xlc, xil, xli, xrd, xdup, xdup2, xc1, xpu, c_eq, c_ne, c_lt, c_ge, c_gt, c_le, Option.bind_some, Option.map_some, List.length_nil, List.length_cons, Nat.reduceAdd, Nat.reduceLeDiff, Int.reduceToNat, Bool.and_self, Bool.false_eq_true, if_true, if_false, n_lit, nI_add]
  have hl := x_loop (i := 15) (pc := 5) (fun r => [some (.ref 131), some (.ref 3), some (.int (nI (hdR σ))), some (.int (nI (kfT (smR σ) (hdR σ) (sfL σ (r + 1))))), some (.int (nI (r + 1))), some (.int (nI (mK σ)))]) (fun _ => (hp q S P A D K X E Z I J V)) 9 (fun r hr => go (r + 1) _ (by omega))
  have h0 := go 0 none (by omega)
  have e0 : kfT (smR σ) (hdR σ) (sfL σ 0) = hdR σ := rfl
  rw [e0] at h0
  simp (maxSteps := 2000000) (disch := omega) only [e_inl, e_goto, e_fall, e_if, e_icmp, e_iret, e_zret, e_lret, e_vret, e_call0_0, e_call0_1, e_call0_2, e_call0_3, e_call0_4, e_call1_0, e_call1_1, e_call1_2, e_call1_3, e_call1_4, e_call2_0, e_call2_1, e_call2_2, e_call2_3, e_call2_4, e_call3_0, e_call3_1, e_call3_2, e_call3_3, e_call3_4, e_call4_0, e_call4_1, e_call4_2, e_call4_3, e_call4_4, e_call5_0, e_call5_1, e_call5_2, e_call5_3, e_call5_4, e_call6_0, e_call6_1, e_call6_2, e_call6_3, e_call6_4, xP, xld, xst1, xst2, xis2, xii, xid, xll, xlv, xls, xlc, xil, xli, xrd, xdup, xdup2, xc1, xpu, c_eq, c_ne, c_lt, c_ge, c_gt, c_le, Option.bind_some, Option.map_some, List.length_nil, List.length_cons, Nat.reduceAdd, Nat.reduceLeDiff, Int.reduceToNat, Bool.and_self, Bool.false_eq_true, if_true, if_false, n_lit]
  rw [h0.trans hl, D15_5]
  simp (maxSteps := 2000000) (disch := omega) only [e_inl, e_goto, e_fall, e_if, e_icmp, e_iret, e_zret, e_lret, e_vret, e_call0_0, e_call0_1, e_call0_2, e_call0_3, e_call0_4, e_call1_0, e_call1_1, e_call1_2, e_call1_3, e_call1_4, e_call2_0, e_call2_1, e_call2_2, e_call2_3, e_call2_4, e_call3_0, e_call3_1, e_call3_2, e_call3_3, e_call3_4, e_call4_0, e_call4_1, e_call4_2, e_call4_3, e_call4_4, e_call5_0, e_call5_1, e_call5_2, e_call5_3, e_call5_4, e_call6_0, e_call6_1, e_call6_2, e_call6_3, e_call6_4, xP, xld, xst1, xst2, xis2, xii, xid, xll, xlv, xls, xlc, xil, xli, xrd, xdup, xdup2, xc1, xpu, c_eq, c_ne, c_lt, c_ge, c_gt, c_le, Option.bind_some, Option.map_some, List.length_nil, List.length_cons, Nat.reduceAdd, Nat.reduceLeDiff, Int.reduceToNat, Bool.and_self, Bool.false_eq_true, if_true, if_false, D15_71, n_lit, nI_leI, Nat.reduceAdd, Nat.le_refl]
  rfl
set_option maxRecDepth 100000 in
theorem c_leastUnkept {σ : mS} (hw : wf σ) (hA : LawR σ A) : xcall 16 [.ref 131, .int (nI (hdR σ))] (hp q S P A D K X E Z I J V) = some (some (.int (nI (crN σ 8))), (hp q S P A D K X E Z I J V)) := by
  have h10 : (nI 1 = nI 0) = False := eq_false (by decide)
  rw [N16 _ _ _ (o_law ..), D16_0]
  have go : ∀ (m k : Nat) (z : Option Value), k + m = 8 → ∃ z' : Option Value, den 16 4 [some (.ref 131), some (.int (nI (hdR σ))), some (.int (nI (crN σ k))), some (.int (nI k)), z] [] (hp q S P A D K X E Z I J V) = den 16 4 [some (.ref 131), some (.int (nI (hdR σ))), some (.int (nI (crN σ 8))), some (.int (nI 8)), z'] [] (hp q S P A D K X E Z I J V) := by
    intro m
    induction m with
    | zero =>
      intro k z hk
      have hk : k = 8 := by omega
      subst hk
      exact ⟨z, rfl⟩
    | succ m ih =>
      intro k z hk
      have h1 : ¬ 8 ≤ k := by omega
      have hc := crN_lt hw k
      have ha := andn_lt (n := 8) (2 ^ k) hc
      have hcb := fun j => crN_bits (σ := σ) (j := j) k
      have ep := n_pow (show k < 8 by omega)
      obtain ⟨z', e⟩ := ih (k + 1) (some (.int (nI (crN σ k ^^^ (crN σ k &&& 2 ^ k))))) (by omega)
      refine ⟨z', Eq.trans ?_ e⟩
      have es := c_someRowKeeps (q := q) (S := S) (P := P) (A := A) (D := D) (K := K) (X := X) (E := E) (Z := Z) (I := I) (J := J) (V := V) hw hA (r := crN σ k ^^^ (crN σ k &&& 2 ^ k)) (fun j hj => by
        rw [andn_bit, Bool.and_eq_true] at hj
        exact hcb j hj.1) ha
      have hne : (crN σ k ^^^ (crN σ k &&& 2 ^ k) = crN σ k) = ((crN σ k).testBit k = false) := by
        apply propext
        constructor
        · intro h
          have h2 := andn_bit (crN σ k) (2 ^ k) k
          rw [h, Nat.testBit_two_pow_self] at h2
          simpa using h2
        · intro h
          apply Nat.eq_of_testBit_eq
          intro j
          rw [andn_bit, Nat.testBit_two_pow]
          by_cases ej : k = j
          · subst ej
            rw [h]
            rfl
          · simp [ej]
      rw [crN, D16_4]
      by_cases hb : (crN σ k).testBit k = true
      · have hne2 : ¬ crN σ k ^^^ (crN σ k &&& 2 ^ k) = crN σ k := by rw [hne, hb]; decide
        by_cases ht : smR σ (crN σ k ^^^ (crN σ k &&& 2 ^ k)) = true
        · rw [if_neg (by rw [ht]; simp)]
          rw [ht, zB_tt] at es
          simp (maxSteps := 2000000) (disch := omega) only [e_inl, e_goto, e_fall, e_if, e_icmp, e_iret, e_zret, e_lret, e_vret, e_call0_0, e_call0_1, e_call0_2, e_call0_3, e_call0_4, e_call1_0, e_call1_1, e_call1_2, e_call1_3, e_call1_4, e_call2_0, e_call2_1, e_call2_2, e_call2_3, e_call2_4, e_call3_0, e_call3_1, e_call3_2, e_call3_3, e_call3_4, e_call4_0, e_call4_1, e_call4_2, e_call4_3, e_call4_4, e_call5_0, e_call5_1, e_call5_2, e_call5_3, e_call5_4, e_call6_0, e_call6_1, e_call6_2, e_call6_3, e_call6_4, xP, xld, xst1, xst2, xis2, xii, xid, xll, xlv, xls, xlc, xil, xli, xrd, xdup, xdup2, xc1, xpu, c_eq, c_ne, c_lt, c_ge, c_gt, c_le, Option.bind_some, Option.map_some, List.length_nil, List.length_cons, Nat.reduceAdd, Nat.reduceLeDiff, Int.reduceToNat, Bool.and_self, Bool.false_eq_true, if_true, if_false, D16_37, n_lit, nI_leI, nI_add, nI_eq, h1, ep, n_andn, hne2, es, n_0, Nat.one_ne_zero, not_false_eq_true]
        · rw [if_pos (by rw [hb, Bool.eq_false_iff.mpr ht]; rfl)]
          rw [Bool.eq_false_iff.mpr ht, zB_ff] at es
          simp (maxSteps := 2000000) (disch := omega) only [e_inl, e_goto, e_fall, e_if, e_icmp, e_iret, e_zret, e_lret, e_vret, e_call0_0, e_call0_1, e_call0_2, e_call0_3, e_call0_4, e_call1_0, e_call1_1, e_call1_2, e_call1_3, e_call1_4, e_call2_0, e_call2_1, e_call2_2, e_call2_3, e_call2_4, e_call3_0, e_call3_1, e_call3_2, e_call3_3, e_call3_4, e_call4_0, e_call4_1, e_call4_2, e_call4_3, e_call4_4, e_call5_0, e_call5_1, e_call5_2, e_call5_3, e_call5_4, e_call6_0, e_call6_1, e_call6_2, e_call6_3, e_call6_4, xP, xld, xst1, xst2, xis2, xii, xid, xll, xlv, xls, xlc, xil, xli, xrd, xdup, xdup2, xc1, xpu, c_eq, c_ne, c_lt, c_ge, c_gt, c_le, Option.bind_some, Option.map_some, List.length_nil, List.length_cons, Nat.reduceAdd, Nat.reduceLeDiff, Int.reduceToNat, Bool.and_self, Bool.false_eq_true, if_true, if_false, D16_37, n_lit, nI_leI, nI_add, nI_eq, h1, ep, n_andn, hne2, es, n_0, not_true_eq_false]
      · have hb' := Bool.eq_false_iff.mpr hb
        have hne2 : crN σ k ^^^ (crN σ k &&& 2 ^ k) = crN σ k := by rw [hne]; exact hb'
        rw [if_neg (by rw [hb']; simp)]
        simp (maxSteps := 2000000) (disch := omega) only [e_inl, e_goto, e_fall, e_if, e_icmp, e_iret, e_zret, e_lret, e_vret, e_call0_0, e_call0_1, e_call0_2, e_call0_3, e_call0_4, e_call1_0, e_call1_1, e_call1_2, e_call1_3, e_call1_4, e_call2_0, e_call2_1, e_call2_2, e_call2_3, e_call2_4, e_call3_0, e_call3_1, e_call3_2, e_call3_3, e_call3_4, e_call4_0, e_call4_1, e_call4_2, e_call4_3, e_call4_4, e_call5_0, e_call5_1, e_call5_2, e_call5_3, e_call5_4, e_call6_0, e_call6_1, e_call6_2, e_call6_3, e_call6_4, xP, xld, xst1, xst2, xis2, xii, xid, xll, xlv, xls, xlc, xil, xli, xrd, xdup, xdup2, xc1, xpu, c_eq, c_ne, c_lt, c_ge, c_gt, c_le, Option.bind_some, Option.map_some, List.length_nil, List.length_cons, Nat.reduceAdd, Nat.reduceLeDiff, Int.reduceToNat, Bool.and_self, Bool.false_eq_true, if_true, if_false, D16_37, n_lit, nI_leI, nI_add, h1, ep, n_andn, hne2]
  obtain ⟨z', e⟩ := go 8 0 none (by omega)
  have e0 : crN σ 0 = hdR σ := rfl
  rw [e0] at e
  simp (maxSteps := 2000000) (disch := omega) only [e_inl, e_goto, e_fall, e_if, e_icmp, e_iret, e_zret, e_lret, e_vret, e_call0_0, e_call0_1, e_call0_2, e_call0_3, e_call0_4, e_call1_0, e_call1_1, e_call1_2, e_call1_3, e_call1_4, e_call2_0, e_call2_1, e_call2_2, e_call2_3, e_call2_4, e_call3_0, e_call3_1, e_call3_2, e_call3_3, e_call3_4, e_call4_0, e_call4_1, e_call4_2, e_call4_3, e_call4_4, e_call5_0, e_call5_1, e_call5_2, e_call5_3, e_call5_4, e_call6_0, e_call6_1, e_call6_2, e_call6_3, e_call6_4, xP, xld, xst1, xst2, xis2, xii, xid, xll, xlv, xls, xlc, xil, xli, xrd, xdup, xdup2, xc1, xpu, c_eq, c_ne, c_lt, c_ge, c_gt, c_le, Option.bind_some, Option.map_some, List.length_nil, List.length_cons, Nat.reduceAdd, Nat.reduceLeDiff, Int.reduceToNat, Bool.and_self, Bool.false_eq_true, if_true, if_false, n_lit]
  rw [e, D16_4]
  simp (maxSteps := 2000000) (disch := omega) only [e_inl, e_goto, e_fall, e_if, e_icmp, e_iret, e_zret, e_lret, e_vret, e_call0_0, e_call0_1, e_call0_2, e_call0_3, e_call0_4, e_call1_0, e_call1_1, e_call1_2, e_call1_3, e_call1_4, e_call2_0, e_call2_1, e_call2_2, e_call2_3, e_call2_4, e_call3_0, e_call3_1, e_call3_2, e_call3_3, e_call3_4, e_call4_0, e_call4_1, e_call4_2, e_call4_3, e_call4_4, e_call5_0, e_call5_1, e_call5_2, e_call5_3, e_call5_4, e_call6_0, e_call6_1, e_call6_2, e_call6_3, e_call6_4, xP, xld, xst1, xst2, xis2, xii, xid, xll, xlv, xls, xlc, xil, xli, xrd, xdup, xdup2, xc1, xpu, c_eq, c_ne, c_lt, c_ge, c_gt, c_le, Option.bind_some, Option.map_some, List.length_nil, List.length_cons, Nat.reduceAdd, Nat.reduceLeDiff, Int.reduceToNat, Bool.and_self, Bool.false_eq_true, if_true, if_false, D16_43, n_lit, nI_leI, Nat.le_refl]
end
