/-! ===== the class: the law looked at: keepers, hard rules ===== -/
section
variable {q : Nat × (Nat → Int32)} {S : Nat → xSt} {P : Int32 × (Nat → Nat)} {A : (Nat → Int64) × Int32 × Int32 × (Nat → Int64) × (Nat → Nat → Int64)} {D : (Nat → Int64) × Int64} {K : Nat → Int64} {X : Int32 × Int32 × Int32 × (Nat → Int32) × (Nat → Int32)} {E Z : Nat → Int32} {I : Nat → Int32} {J : Nat → Int64} {V : Nat → Nat → Int32}
set_option maxRecDepth 100000 in
theorem c_lk_54 {σ : mS} (hw : wf σ) (hs : rpS σ (S 0)) (m : Nat) : ∀ (k : Nat) (Y : Nat → Nat → Int64), k + m = mK σ → (∀ i, i < k → RS (mkp σ i) (Y i)) → ∃ Y', den 14 54 [some (.ref 131), some (.ref 3), some (.int (nI (bset (fun k => decide (mR σ k 4 = 0)) k))), some (.int (nI k))] [] (hp q S P ((A.1, A.2.1, A.2.2.1, A.2.2.2.1, Y)) D K X E Z I J V) = den 14 102 [some (.ref 131), some (.ref 3), some (.int (nI (hdR σ))), some (.int (nI (mK σ)))] [] (hp q S P ((A.1, A.2.1, A.2.2.1, A.2.2.2.1, Y')) D K X E Z I J V) ∧ ∀ i, i < mK σ → RS (mkp σ i) (Y' i) := by
  have w1 := hw.1
  have w7 := hw.2.2.2.2.2.2.1
  have w8 := hw.2.2.2.2.2.2.2.1
  have h3 := hs.2.2.2.2.1
  have r5 := hs.2.2.2.2.2.1
  have r6 := hs.2.2.2.2.2.2.1
  induction m with
  | zero =>
    intro k Y hk hY
    have hk : k = mK σ := by omega
    refine ⟨Y, ?_, by rw [← hk]; exact hY⟩
    have e1 : bset (fun k => decide (mR σ k 4 = 0)) (mK σ) = hdR σ := rfl
    rw [hk, e1, D14_54]
    simp (maxSteps := 2000000) (disch := omega) only [e_inl, e_goto, e_fall, e_if, e_icmp, e_iret, e_zret, e_lret, e_vret, e_call0_0, e_call0_1, e_call0_2, e_call0_3, e_call0_4, e_call1_0, e_call1_1, e_call1_2, e_call1_3, e_call1_4, e_call2_0, e_call2_1, e_call2_2, e_call2_3, e_call2_4, e_call3_0, e_call3_1, e_call3_2, e_call3_3, e_call3_4, e_call4_0, e_call4_1, e_call4_2, e_call4_3, e_call4_4, e_call5_0, e_call5_1, e_call5_2, e_call5_3, e_call5_4, e_call6_0, e_call6_1, e_call6_2, e_call6_3, e_call6_4, xP, xld, xst1, xst2, xis2, xii, xid, xll, xlv, xls, xlc, xil, xli, xrd, xdup, xdup2, xc1, xpu, c_eq, c_ne, c_lt, c_ge, c_gt, c_le, Option.bind_some, Option.map_some, List.length_nil, List.length_cons, Nat.reduceAdd, Nat.reduceLeDiff, Int.reduceToNat, Bool.and_self, Bool.false_eq_true, if_true, if_false, g_S_3, h3, nI_leI, Nat.le_refl]
  | succ m ih =>
    intro k Y hk hY
    have hk1 : k < mK σ := by omega
    obtain ⟨b1, b2, b3, b4, b5⟩ := w8 k hk1
    obtain ⟨W', ek, hm⟩ := c_becomesKeepersOf (q := q) (S := S) (P := P) (A := (A.1, A.2.1, A.2.2.1, A.2.2.2.1, Y)) (D := D) (K := K) (X := X) (E := E) (Z := Z) (I := I) (J := J) (V := V) (k := k) (kd := mR σ k 0) (x := mR σ k 1) (y := mR σ k 2) (c := mR σ k 3) (by omega) b1 (by omega) (by omega) b4 (r5 k 0 hk1 (by omega)) (r5 k 1 hk1 (by omega)) (r5 k 2 hk1 (by omega)) (r5 k 3 hk1 (by omega))
    obtain ⟨Y', e, hY'⟩ := ih (k + 1) (vf_upd Y k W') (by omega) (fun i hi => by
      by_cases ei : i = k
      · subst ei
        rw [vu_s]
        exact hm
      · rw [vu_n _ _ ei]
        exact hY i (by omega))
    refine ⟨Y', Eq.trans ?_ e, hY'⟩
    have h1 : ¬ mK σ ≤ k := by omega
    have e4 := r6 k hk1
    have er := rI_eq0 (r := mR σ k 4) (by omega)
    have ep := n_pow (show k < 8 by omega)
    have ek' : xcall 28 [.ref (137 + 2 * k), .ref (16 + k)] (hp q S P ((A.1, A.2.1, A.2.2.1, A.2.2.2.1, Y)) D K X E Z I J V) = some (none, (hp q S P ((A.1, A.2.1, A.2.2.1, A.2.2.2.1, vf_upd Y k W')) D K X E Z I J V)) := ek
    rw [bset_succ, D14_54]
    generalize bset (fun k => decide (mR σ k 4 = 0)) k = u
    by_cases hb : mR σ k 4 = 0
    · rw [if_pos (decide_eq_true hb)]
      rw [hb, rI_0] at e4
      simp (maxSteps := 2000000) (disch := omega) only [e_inl, e_goto, e_fall, e_if, e_icmp, e_iret, e_zret, e_lret, e_vret, e_call0_0, e_call0_1, e_call0_2, e_call0_3, e_call0_4, e_call1_0, e_call1_1, e_call1_2, e_call1_3, e_call1_4, e_call2_0, e_call2_1, e_call2_2, e_call2_3, e_call2_4, e_call3_0, e_call3_1, e_call3_2, e_call3_3, e_call3_4, e_call4_0, e_call4_1, e_call4_2, e_call4_3, e_call4_4, e_call5_0, e_call5_1, e_call5_2, e_call5_3, e_call5_4, e_call6_0, e_call6_1, e_call6_2, e_call6_3, e_call6_4, xP, xld, xst1, xst2, xis2, xii, xid, xll, xlv, xls, xlc, xil, xli, xrd, xdup, xdup2, xc1, xpu, c_eq, c_ne, c_lt, c_ge, c_gt, c_le, Option.bind_some, Option.map_some, List.length_nil, List.length_cons, Nat.reduceAdd, Nat.reduceLeDiff, Int.reduceToNat, Bool.and_self, Bool.false_eq_true, if_true, if_false, D14_96, g_law_4, g_S_3, g_S_4, rdK, rd0R, g_R_4, n_lit, nI_leI, nI_add, h3, h1, ek', e4, not_true_eq_false, ep, fa_or]
    · rw [if_neg (by simp [hb])]
      simp (maxSteps := 2000000) (disch := omega) only [e_inl, e_goto, e_fall, e_if, e_icmp, e_iret, e_zret, e_lret, e_vret, e_call0_0, e_call0_1, e_call0_2, e_call0_3, e_call0_4, e_call1_0, e_call1_1, e_call1_2, e_call1_3, e_call1_4, e_call2_0, e_call2_1, e_call2_2, e_call2_3, e_call2_4, e_call3_0, e_call3_1, e_call3_2, e_call3_3, e_call3_4, e_call4_0, e_call4_1, e_call4_2, e_call4_3, e_call4_4, e_call5_0, e_call5_1, e_call5_2, e_call5_3, e_call5_4, e_call6_0, e_call6_1, e_call6_2, e_call6_3, e_call6_4, xP, xld, xst1, xst2, xis2, xii, xid, xll, xlv, xls, xlc, xil, xli, xrd, xdup, xdup2, xc1, xpu, c_eq, c_ne, c_lt, c_ge, c_gt, c_le, Option.bind_some, Option.map_some, List.length_nil, List.length_cons, Nat.reduceAdd, Nat.reduceLeDiff, Int.reduceToNat, Bool.and_self, Bool.false_eq_true, if_true, if_false, D14_96, g_law_4, g_S_3, g_S_4, rdK, rd0R, g_R_4, n_lit, nI_leI, nI_add, h3, h1, ek', e4, er, hb, not_false_eq_true]
theorem sr_law {σ : mS} (hw : wf σ) (x : Nat) : srB σ (kpR σ) (mK σ) x = lawB σ x := by
  have hb : ∀ j, (kpR σ).testBit j = true → j < mK σ := fun j hj => by
    rcases kfT_bits _ hj with h | h
    · exact hdR_bits h
    · exact sfL_mem h
  unfold lawB
  rw [Bool.eq_iff_iff, srB_iff, Bool.and_eq_true, decide_eq_true_eq, andn_0]
  constructor
  · rintro ⟨h1, h2⟩
    refine ⟨h1, fun j hj => ?_⟩
    have hk := hb j hj
    unfold kb
    rw [bset_bit, h2 j hk hj]
    simp [hk]
  · rintro ⟨h1, h2⟩
    refine ⟨h1, fun j hj hbj => ?_⟩
    have h3 := h2 j hbj
    unfold kb at h3
    rw [bset_bit, Bool.and_eq_true] at h3
    exact h3.2
set_option maxRecDepth 100000 in
theorem c_lk_146 {σ : mS} (hw : wf σ) (hs : rpS σ (S 0)) (h65 : A.2.1 = nI (kpR σ)) (hY : ∀ i, i < mK σ → RS (mkp σ i) (A.2.2.2.2 i)) {hd : Int32} (m : Nat) : ∀ (k : Nat) (W : Nat → Int64), k + m = mK σ → RS (srB σ (kpR σ) k) W → ∃ W', den 14 146 [some (.ref 131), some (.ref 3), some (.int hd), some (.int (nI k))] [] (hp q S P ((W, A.2)) D K X E Z I J V) = some (none, (hp q S P ((W', A.2)) D K X E Z I J V)) ∧ RS (lawB σ) W' := by
  have w7 := hw.2.2.2.2.2.2.1
  have h3 := hs.2.2.2.2.1
  have hkp := kpR_lt hw
  induction m with
  | zero =>
    intro k W hk hm
    have hk : k = mK σ := by omega
    subst hk
    refine ⟨W, ?_, fun w hw64 => ?_⟩
    · rw [D14_146]
      simp (maxSteps := 2000000) (disch := omega) only [e_inl, e_goto, e_fall, e_if, e_icmp, e_iret, e_zret, e_lret, e_vret, e_call0_0, e_call0_1, e_call0_2, e_call0_3, e_call0_4, e_call1_0, e_call1_1, e_call1_2, e_call1_3, e_call1_4, e_call2_0, e_call2_1, e_call2_2, e_call2_3, e_call2_4, e_call3_0, e_call3_1, e_call3_2, e_call3_3, e_call3_4, e_call4_0, e_call4_1, e_call4_2, e_call4_3, e_call4_4, e_call5_0, e_call5_1, e_call5_2, e_call5_3, e_call5_4, e_call6_0, e_call6_1, e_call6_2, e_call6_3, e_call6_4, xP, xld, xst1, xst2, xis2, xii, xid, xll, xlv, xls, xlc, xil, xli, xrd, xdup, xdup2, xc1, xpu, c_eq, c_ne, c_lt, c_ge, c_gt, c_le, Option.bind_some, Option.map_some, List.length_nil, List.length_cons, Nat.reduceAdd, Nat.reduceLeDiff, Int.reduceToNat, Bool.and_self, Bool.false_eq_true, if_true, if_false, D14_184, g_S_3, h3, nI_leI, Nat.le_refl]
    · rw [hm w hw64]
      congr 1
      exact wdN_cong (fun b _ => sr_law hw _)
  | succ m ih =>
    intro k W hk hm
    have hk1 : k < mK σ := by omega
    have h1 : ¬ mK σ ≤ k := by omega
    have eb := n_bit0 (s := kpR σ) (k := k) (by omega) (by omega)
    by_cases hb : (kpR σ).testBit k = true
    · have eb2 : ¬ nI (kpR σ) >>> (nI k &&& 31) &&& nI 1 = nI 0 := by rw [eb, hb]; decide
      have e138 : 137 + 2 * k + 1 = 138 + 2 * k := by omega
      obtain ⟨W1, ek, hm1⟩ := c_keepRowsOf (b := 137 + 2 * k) (m' := mkp σ k) (isLawful (q := q) (S := S) (P := P) (A := A) (D := D) (K := K) (X := X) (E := E) (Z := Z) (I := I) (J := J) (V := V)) hm (fun W => by rw [e138]; exact g_keep_0 _ _ _ _ _ _ _ _ _ _ _ _ k (by omega)) (fun W w hw64 => by
        rw [e138, rdKw (show k < 8 by omega) hw64]
        show some (Value.long (A.2.2.2.2 k w)) = _
        rw [hY k hk1 w hw64])
      have hm2 : RS (srB σ (kpR σ) (k + 1)) W1 := fun w hw64 => by
        rw [hm1 w hw64]
        congr 1
        apply wdN_cong
        intro b _
        rw [srB, hb]
        rfl
      obtain ⟨W', e, hm3⟩ := ih (k + 1) W1 (by omega) hm2
      refine ⟨W', Eq.trans ?_ e, hm3⟩
      have ek' : xcall 29 [.ref 132, .ref (137 + 2 * k)] (hp q S P ((W, A.2)) D K X E Z I J V) = some (none, (hp q S P ((W1, A.2)) D K X E Z I J V)) := ek
      rw [D14_146]
      simp (maxSteps := 2000000) (disch := omega) only [e_inl, e_goto, e_fall, e_if, e_icmp, e_iret, e_zret, e_lret, e_vret, e_call0_0, e_call0_1, e_call0_2, e_call0_3, e_call0_4, e_call1_0, e_call1_1, e_call1_2, e_call1_3, e_call1_4, e_call2_0, e_call2_1, e_call2_2, e_call2_3, e_call2_4, e_call3_0, e_call3_1, e_call3_2, e_call3_3, e_call3_4, e_call4_0, e_call4_1, e_call4_2, e_call4_3, e_call4_4, e_call5_0, e_call5_1, e_call5_2, e_call5_3, e_call5_4, e_call6_0, e_call6_1, e_call6_2, e_call6_3, e_call6_4, xP, xld, xst1, xst2, xis2, xii, xid, xll, xlv, xls, xlc, xil, xli, xrd, xdup, xdup2, xc1, xpu, c_eq, c_ne, c_lt, c_ge, c_gt, c_le, Option.bind_some, Option.map_some, List.length_nil, List.length_cons, Nat.reduceAdd, Nat.reduceLeDiff, Int.reduceToNat, Bool.and_self, Bool.false_eq_true, if_true, if_false, D14_178, g_law_0, g_law_1, g_law_4, g_S_3, rdK, n_lit, nI_leI, nI_add, h3, h1, h65, n_0, eb2, ek']
    · have eb2 : nI (kpR σ) >>> (nI k &&& 31) &&& nI 1 = nI 0 := by rw [eb]; exact Bool.eq_false_iff.mpr hb
      have hm2 : RS (srB σ (kpR σ) (k + 1)) W := fun w hw64 => by
        rw [hm w hw64]
        congr 1
        apply wdN_cong
        intro b _
        rw [srB, Bool.eq_false_iff.mpr hb]
        simp
      obtain ⟨W', e, hm3⟩ := ih (k + 1) W (by omega) hm2
      refine ⟨W', Eq.trans ?_ e, hm3⟩
      rw [D14_146]
      simp (maxSteps := 2000000) (disch := omega) only [e_inl, e_goto, e_fall, e_if, e_icmp, e_iret, e_zret, e_lret, e_vret, e_call0_0, e_call0_1, e_call0_2, e_call0_3, e_call0_4, e_call1_0, e_call1_1, e_call1_2, e_call1_3, e_call1_4, e_call2_0, e_call2_1, e_call2_2, e_call2_3, e_call2_4, e_call3_0, e_call3_1, e_call3_2, e_call3_3, e_call3_4, e_call4_0, e_call4_1, e_call4_2, e_call4_3, e_call4_4, e_call5_0, e_call5_1, e_call5_2, e_call5_3, e_call5_4, e_call6_0, e_call6_1, e_call6_2, e_call6_3, e_call6_4, xP, xld, xst1, xst2, xis2, xii, xid, xll, xlv, xls, xlc, xil, xli, xrd, xdup, xdup2, xc1, xpu, c_eq, c_ne, c_lt, c_ge, c_gt, c_le, Option.bind_some, Option.map_some, List.length_nil, List.length_cons, Nat.reduceAdd, Nat.reduceLeDiff, Int.reduceToNat, Bool.and_self, Bool.false_eq_true, if_true, if_false, D14_178, g_law_1, g_S_3, n_lit, nI_leI, nI_add, h3, h1, h65, n_0, eb2]
end
