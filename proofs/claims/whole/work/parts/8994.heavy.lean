/-! ===== public calls of the class (5): weights, soft rules in order ===== -/
theorem hv_all (σ : mS) : tW σ (lawB σ) = hvN σ (fun _ => true) := by
  unfold tW hvN
  apply fb_sm_cong
  intro x _
  show _ = if lawB σ x = true then (if true = true then wP σ x (mn σ) else 0) else 0
  rw [if_pos (rfl : true = true)]
theorem hv_lim (σ : mS) (f v : Nat) : tW σ (lim (lawB σ) f (2 ^ v)) = hvN σ (fun x => decide (vl x f = v)) := by
  unfold tW hvN
  apply fb_sm_cong
  intro x _
  show (if (lawB σ x && (2 ^ v).testBit (vl x f)) = true then wP σ x (mn σ) else 0) = if lawB σ x = true then (if decide (vl x f = v) = true then wP σ x (mn σ) else 0) else 0
  rw [Nat.testBit_two_pow]
  by_cases h : lawB σ x = true
  · rw [h, Bool.true_and, if_pos rfl]
    by_cases e : vl x f = v
    · rw [if_pos (decide_eq_true e), if_pos (decide_eq_true e.symm)]
    · rw [if_neg (by rw [decide_eq_true_eq]; exact fun z => e z.symm), if_neg (by rw [decide_eq_true_eq]; exact e)]
  · rw [if_neg h, Bool.eq_false_iff.mpr h, Bool.false_and, if_neg (by decide)]
theorem sf_pre1 (σ : mS) (r : Nat) : ∀ (j k : Nat), k + j = mK σ → ∃ t : List Nat, sfL σ (r + 1) = sfK σ r k ++ t
  | 0, k, h => ⟨[], by
      have hk : k = mK σ := by omega
      rw [hk, sfK_end, List.append_nil]⟩
  | j + 1, k, h => by
    obtain ⟨t, ht⟩ := sf_pre1 σ r j (k + 1) (by omega)
    by_cases hb : mR σ k 4 = r + 1
    · rw [sfK_yes hb, List.append_assoc] at ht
      exact ⟨[k] ++ t, ht⟩
    · rw [sfK_no hb] at ht
      exact ⟨t, ht⟩
theorem sf_pre2 (σ : mS) : ∀ (j r : Nat), r + j = 10 → ∃ t : List Nat, sfL σ 10 = sfL σ r ++ t
  | 0, r, h => ⟨[], by
      have hr : r = 10 := by omega
      rw [hr, List.append_nil]⟩
  | j + 1, r, h => by
    obtain ⟨t, ht⟩ := sf_pre2 σ j (r + 1) (by omega)
    have e : sfL σ (r + 1) = sfL σ r ++ (List.range (mK σ)).filter (fun k => decide (mR σ k 4 = r + 1)) := rfl
    rw [e, List.append_assoc] at ht
    exact ⟨_, ht⟩
theorem sf_hit {σ : mS} {r k i : Nat} (hr : r < 10) (hk : k < mK σ) (h : mR σ k 4 = r + 1) (hi : (sfK σ r k).length = i) : i < (sfL σ 10).length ∧ (sfL σ 10).getD i 0 = k ∧ i < (sfL σ (r + 1)).length := by
  obtain ⟨t1, h1⟩ := sf_pre1 σ r (mK σ - (k + 1)) (k + 1) (by omega)
  obtain ⟨t2, h2⟩ := sf_pre2 σ (10 - (r + 1)) (r + 1) (by omega)
  rw [h2, h1, sfK_yes h]
  subst hi
  refine ⟨?_, ?_, ?_⟩
  · simp only [List.length_append, List.length_cons, List.length_nil]
    omega
  · rw [List.append_assoc, List.append_assoc]
    simp [List.getD_eq_getElem?_getD]
  · simp only [List.length_append, List.length_cons, List.length_nil]
    omega
section
variable {q : Nat × (Nat → Int32)} {S : Nat → xSt} {P : Int32 × (Nat → Nat)} {A : (Nat → Int64) × Int32 × Int32 × (Nat → Int64) × (Nat → Nat → Int64)} {D : (Nat → Int64) × Int64} {K : Nat → Int64} {X : Int32 × Int32 × Int32 × (Nat → Int32) × (Nat → Int32)} {E Z : Nat → Int32} {I : Nat → Int32} {J : Nat → Int64} {V : Nat → Nat → Int32}
set_option maxRecDepth 100000 in
theorem C_heavy {M : mM} (hI : ClsI M S P A X E) (f v : Int32) : ∃ (S' : Nat → xSt) (A' : (Nat → Int64) × Int32 × Int32 × (Nat → Int64) × (Nat → Nat → Int64)) (K' : Nat → Int64) (E' : Nat → Int32), xcall 79 [.ref 2, .int f, .int v] (hp q S P A D K X E Z I J V) = some (some (.int (oHeavy M f v).1), (hp q (S') P (A') D (K') X (E') Z I J V)) ∧ ClsI (oHeavy M f v).2 S' P A' X E' := by
  have w1 := hI.1.1
  have r0 := hI.2.1.1
  have h10 : (nI 1 = nI 0) = False := eq_false (by decide)
  have eb := c_bad (q := q) (S := S) (P := P) (A := A) (D := D) (K := K) (X := X) (E := E) (Z := Z) (I := I) (J := J) (V := V) _ rfl
  rw [N79 _ _ _ _ (o_x ..), D79_0]
  unfold oHeavy
  by_cases hf : f = Int32.ofInt (-1)
  · rw [if_pos hf, if_pos hf]
    by_cases hv : v = nI 0
    · rw [decide_eq_true hv, if_pos rfl]
      obtain ⟨s, A', e1, hs, h8, hA⟩ := c_look (q := q) (S := S) (P := P) (A := A) (D := D) (K := K) (X := X) (E := E) (Z := Z) (I := I) (J := J) (V := V) hI.1 hI.2.1 hI.2.2.1
      refine ⟨_, A', K, E, ?_, hI.look hs h8 hA⟩
      have e2 := c_weightOfRows (q := q) (S := vf_upd S 0 s) (P := P) (A := A') (D := D) (K := K) (X := X) (E := E) (Z := Z) (I := I) (J := J) (V := V) (a := 132) hI.1 (by rw [vu_s]; exact hs) (g_lawful_0 ..) (m := lawB M.1) (fun w hw64 => by rw [r_lawful, if_pos ⟨x_in hw64 (by omega), by omega⟩, nI_clamp (by omega), hA.1 w hw64])
      rw [hv_all] at e2
      simp (maxSteps := 2000000) (disch := omega) only [e_inl, e_goto, e_fall, e_if, e_icmp, e_iret, e_zret, e_lret, e_vret, e_call0_0, e_call0_1, e_call0_2, e_call0_3, e_call0_4, e_call1_0, e_call1_1, e_call1_2, e_call1_3, e_call1_4, e_call2_0, e_call2_1, e_call2_2, e_call2_3, e_call2_4, e_call3_0, e_call3_1, e_call3_2, e_call3_3, e_call3_4, e_call4_0, e_call4_1, e_call4_2, e_call4_3, e_call4_4, e_call5_0, e_call5_1, e_call5_2, e_call5_3, e_call5_4, e_call6_0, e_call6_1, e_call6_2, e_call6_3, e_call6_4, xP, xld, xst1, xst2, xis2, xii, xid, xll, xlv, xls, xlc, xil, xli, xrd, xdup, xdup2, xc1, xpu, c_eq, c_ne, c_lt, c_ge, c_gt, c_le, Option.bind_some, Option.map_some, List.length_nil, List.length_cons, Nat.reduceAdd, Nat.reduceLeDiff, Int.reduceToNat, Bool.and_self, Bool.false_eq_true, if_true, if_false, D79_40, g_x_0, g_x_2, g_law_0, n_0, hf, hv, not_true_eq_false, e1, e2]
    · rw [decide_eq_false hv, if_neg (by decide)]
      refine ⟨S, A, K, inc E 0, ?_, clsBad hI (by omega)⟩
      simp (maxSteps := 2000000) (disch := omega) only [e_inl, e_goto, e_fall, e_if, e_icmp, e_iret, e_zret, e_lret, e_vret, e_call0_0, e_call0_1, e_call0_2, e_call0_3, e_call0_4, e_call1_0, e_call1_1, e_call1_2, e_call1_3, e_call1_4, e_call2_0, e_call2_1, e_call2_2, e_call2_3, e_call2_4, e_call3_0, e_call3_1, e_call3_2, e_call3_3, e_call3_4, e_call4_0, e_call4_1, e_call4_2, e_call4_3, e_call4_4, e_call5_0, e_call5_1, e_call5_2, e_call5_3, e_call5_4, e_call6_0, e_call6_1, e_call6_2, e_call6_3, e_call6_4, xP, xld, xst1, xst2, xis2, xii, xid, xll, xlv, xls, xlc, xil, xli, xrd, xdup, xdup2, xc1, xpu, c_eq, c_ne, c_lt, c_ge, c_gt, c_le, Option.bind_some, Option.map_some, List.length_nil, List.length_cons, Nat.reduceAdd, Nat.reduceLeDiff, Int.reduceToNat, Bool.and_self, Bool.false_eq_true, if_true, if_false, D79_33, n_0, hf, hv, not_true_eq_false, eb]
  · rw [if_neg hf, if_neg hf]
    by_cases hg : isF (mn M.1) f = true
    · by_cases hv : inB v (nI 0) (nI 7) = true
      · have hg' := hg
        rw [hg, hv, Bool.and_self, if_pos rfl]
        obtain ⟨g, hgl, rfl⟩ := isF_of (by omega) hg
        obtain ⟨k, hk, rfl⟩ := inB_of (by decide) hv
        rw [nI_clamp (n := k) (by omega), nI_clamp (n := g) (by omega)]
        obtain ⟨s, A', e1, hs, h8, hA⟩ := c_look (q := q) (S := S) (P := P) (A := A) (D := D) (K := K) (X := X) (E := E) (Z := Z) (I := I) (J := J) (V := V) hI.1 hI.2.1 hI.2.2.1
        have hp2 : (2 : Nat) ^ k < 256 := Nat.pow_lt_pow_right (n := 8) (by decide) (by omega)
        have ek := c_beK_L (q := q) (S := vf_upd S 0 s) (P := P) (A := A') (D := D) (K := K) (X := X) (E := E) (Z := Z) (I := I) (J := J) (V := V)
        obtain ⟨W', ew, hW⟩ := c_keepValues (W := va_cpy A'.1 K 0 0 64) (isPicked (q := q) (S := vf_upd S 0 s) (P := P) (A := A') (D := D) (X := X) (E := E) (Z := Z) (I := I) (J := J) (V := V)) hA.1.cpy (show g < 4 by omega) hp2
        have ew' : xcall 30 [.ref 156, .int (nI g), .int (nI (2 ^ k))] (hp q (vf_upd S 0 s) P (A') D (va_cpy A'.1 K 0 0 64) X E Z I J V) = some (none, (hp q (vf_upd S 0 s) P (A') D (W') X E Z I J V)) := ew
        refine ⟨_, A', W', E, ?_, hI.look hs h8 hA⟩
        have e2 := c_weightOfRows (q := q) (S := vf_upd S 0 s) (P := P) (A := A') (D := D) (K := W') (X := X) (E := E) (Z := Z) (I := I) (J := J) (V := V) (a := 156) hI.1 (by rw [vu_s]; exact hs) (g_picked_0 ..) (m := lim (lawB M.1) g (2 ^ k)) (fun w hw64 => by rw [r_picked, if_pos ⟨x_in hw64 (by omega), by omega⟩, nI_clamp (by omega), hW w hw64])
        rw [hv_lim] at e2
        have ep := n_pow (show k < 8 by omega)
        have a0 : ¬ nI k < nI 0 := by rw [nI_ltI (by omega) (by omega)]; omega
        have a1 : nI k < nI 8 := by rw [nI_ltI (by omega) (by omega)]; omega
        simp (maxSteps := 2000000) (disch := omega) only [e_inl, e_goto, e_fall, e_if, e_icmp, e_iret, e_zret, e_lret, e_vret, e_call0_0, e_call0_1, e_call0_2, e_call0_3, e_call0_4, e_call1_0, e_call1_1, e_call1_2, e_call1_3, e_call1_4, e_call2_0, e_call2_1, e_call2_2, e_call2_3, e_call2_4, e_call3_0, e_call3_1, e_call3_2, e_call3_3, e_call3_4, e_call4_0, e_call4_1, e_call4_2, e_call4_3, e_call4_4, e_call5_0, e_call5_1, e_call5_2, e_call5_3, e_call5_4, e_call6_0, e_call6_1, e_call6_2, e_call6_3, e_call6_4, xP, xld, xst1, xst2, xis2, xii, xid, xll, xlv, xls, xlc, xil, xli, xrd, xdup, xdup2, xc1, xpu, c_eq, c_ne, c_lt, c_ge, c_gt, c_le, Option.bind_some, Option.map_some, List.length_nil, List.length_cons, Nat.reduceAdd, Nat.reduceLeDiff, Int.reduceToNat, Bool.and_self, Bool.false_eq_true, if_true, if_false, D79_12, D79_40, D79_71, g_x_0, g_x_2, g_x_4, g_law_0, n_lit, n_0, hf, not_false_eq_true, c_hasField w1 r0, hg', zB_tt, h10, a0, a1, e1, ek, ep, ew', e2]
      · rw [hg, Bool.true_and, if_neg hv]
        refine ⟨S, A, K, inc E 0, ?_, clsBad hI (by omega)⟩
        rw [inB_lt (by omega)] at hv
        by_cases a0 : v < nI 0
        · simp (maxSteps := 2000000) (disch := omega) only [e_inl, e_goto, e_fall, e_if, e_icmp, e_iret, e_zret, e_lret, e_vret, e_call0_0, e_call0_1, e_call0_2, e_call0_3, e_call0_4, e_call1_0, e_call1_1, e_call1_2, e_call1_3, e_call1_4, e_call2_0, e_call2_1, e_call2_2, e_call2_3, e_call2_4, e_call3_0, e_call3_1, e_call3_2, e_call3_3, e_call3_4, e_call4_0, e_call4_1, e_call4_2, e_call4_3, e_call4_4, e_call5_0, e_call5_1, e_call5_2, e_call5_3, e_call5_4, e_call6_0, e_call6_1, e_call6_2, e_call6_3, e_call6_4, xP, xld, xst1, xst2, xis2, xii, xid, xll, xlv, xls, xlc, xil, xli, xrd, xdup, xdup2, xc1, xpu, c_eq, c_ne, c_lt, c_ge, c_gt, c_le, Option.bind_some, Option.map_some, List.length_nil, List.length_cons, Nat.reduceAdd, Nat.reduceLeDiff, Int.reduceToNat, Bool.and_self, Bool.false_eq_true, if_true, if_false, D79_12, D79_33, g_x_0, n_lit, n_0, hf, not_false_eq_true, c_hasField w1 r0, hg, zB_tt, h10, a0, eb]
        · have a1 : ¬ v < nI 8 := fun h => hv (by rw [decide_eq_true a0, decide_eq_true (Int32.not_le.mpr h)]; rfl)
          simp (maxSteps := 2000000) (disch := omega) only [e_inl, e_goto, e_fall, e_if, e_icmp, e_iret, e_zret, e_lret, e_vret, e_call0_0, e_call0_1, e_call0_2, e_call0_3, e_call0_4, e_call1_0, e_call1_1, e_call1_2, e_call1_3, e_call1_4, e_call2_0, e_call2_1, e_call2_2, e_call2_3, e_call2_4, e_call3_0, e_call3_1, e_call3_2, e_call3_3, e_call3_4, e_call4_0, e_call4_1, e_call4_2, e_call4_3, e_call4_4, e_call5_0, e_call5_1, e_call5_2, e_call5_3, e_call5_4, e_call6_0, e_call6_1, e_call6_2, e_call6_3, e_call6_4, xP, xld, xst1, xst2, xis2, xii, xid, xll, xlv, xls, xlc, xil, xli, xrd, xdup, xdup2, xc1, xpu, c_eq, c_ne, c_lt, c_ge, c_gt, c_le, Option.bind_some, Option.map_some, List.length_nil, List.length_cons, Nat.reduceAdd, Nat.reduceLeDiff, Int.reduceToNat, Bool.and_self, Bool.false_eq_true, if_true, if_false, D79_12, D79_33, g_x_0, n_lit, n_0, hf, not_false_eq_true, c_hasField w1 r0, hg, zB_tt, h10, a0, a1, eb]
    · rw [Bool.eq_false_iff.mpr hg, Bool.false_and, if_neg (by decide)]
      refine ⟨S, A, K, inc E 0, ?_, clsBad hI (by omega)⟩
      have hg' := Bool.eq_false_iff.mpr hg
      simp (maxSteps := 2000000) (disch := omega) only [e_inl, e_goto, e_fall, e_if, e_icmp, e_iret, e_zret, e_lret, e_vret, e_call0_0, e_call0_1, e_call0_2, e_call0_3, e_call0_4, e_call1_0, e_call1_1, e_call1_2, e_call1_3, e_call1_4, e_call2_0, e_call2_1, e_call2_2, e_call2_3, e_call2_4, e_call3_0, e_call3_1, e_call3_2, e_call3_3, e_call3_4, e_call4_0, e_call4_1, e_call4_2, e_call4_3, e_call4_4, e_call5_0, e_call5_1, e_call5_2, e_call5_3, e_call5_4, e_call6_0, e_call6_1, e_call6_2, e_call6_3, e_call6_4, xP, xld, xst1, xst2, xis2, xii, xid, xll, xlv, xls, xlc, xil, xli, xrd, xdup, xdup2, xc1, xpu, c_eq, c_ne, c_lt, c_ge, c_gt, c_le, Option.bind_some, Option.map_some, List.length_nil, List.length_cons, Nat.reduceAdd, Nat.reduceLeDiff, Int.reduceToNat, Bool.and_self, Bool.false_eq_true, if_true, if_false, D79_12, D79_33, g_x_0, n_0, hf, not_false_eq_true, c_hasField w1 r0, hg', zB_ff, eb]
set_option maxRecDepth 100000 in
theorem c_sf_24 {σ : mS} (hw : wf σ) (hs : rpS σ (S 0)) {r i : Nat} (hr10 : r < 10) (hi : i < 2 ^ 31) (j : Nat) : ∀ k, k + j = mK σ → (sfK σ r k).length ≤ i → den 82 24 [some (.ref 2), some (.int (nI i)), some (.int (nI (sfK σ r k).length)), some (.int (nI r)), some (.int (nI k))] [] (hp q S P A D K X E Z I J V) = if i < (sfL σ (r + 1)).length then some (some (.int (nI ((sfL σ 10).getD i 0))), (hp q S P A D K X E Z I J V)) else den 82 15 [some (.ref 2), some (.int (nI i)), some (.int (nI (sfL σ (r + 1)).length)), some (.int (nI (r + 1))), some (.int (nI (mK σ)))] [] (hp q S P A D K X E Z I J V) := by
  have w7 := hw.2.2.2.2.2.2.1
  have w8 := hw.2.2.2.2.2.2.2.1
  have h3 := hs.2.2.2.2.1
  have r6 := hs.2.2.2.2.2.2.1
  induction j with
  | zero =>
    intro k hk hle
    have hkn : k = mK σ := by omega
    subst hkn
    rw [sfK_end] at hle ⊢
    rw [if_neg (by omega), D82_24]
    simp (maxSteps := 2000000) (disch := omega) only [e_inl, e_goto, e_fall, e_if, e_icmp, e_iret, e_zret, e_lret, e_vret, e_call0_0, e_call0_1, e_call0_2, e_call0_3, e_call0_4, e_call1_0, e_call1_1, e_call1_2, e_call1_3, e_call1_4, e_call2_0, e_call2_1, e_call2_2, e_call2_3, e_call2_4, e_call3_0, e_call3_1, e_call3_2, e_call3_3, e_call3_4, e_call4_0, e_call4_1, e_call4_2, e_call4_3, e_call4_4, e_call5_0, e_call5_1, e_call5_2, e_call5_3, e_call5_4, e_call6_0, e_call6_1, e_call6_2, e_call6_3, e_call6_4, xP, xld, xst1, xst2, xis2, xii, xid, xll, xlv, xls, xlc, xil, xli, xrd, xdup, xdup2, xc1, xpu, c_eq, c_ne, c_lt, c_ge, c_gt, c_le, Option.bind_some, Option.map_some, List.length_nil, List.length_cons, Nat.reduceAdd, Nat.reduceLeDiff, Int.reduceToNat, Bool.and_self, Bool.false_eq_true, if_true, if_false, D82_70, g_x_0, g_S_3, nI_leI, h3, Nat.le_refl, n_lit, nI_add]
  | succ j ih =>
    intro k hk hle
    have h1 : ¬ mK σ ≤ k := by omega
    have hkn : k < mK σ := by omega
    have e4 := r6 k hkn
    have hr4 := (w8 k hkn).2.2.2.2
    have er := rI_eqn (r := mR σ k 4) (k := r) (by omega) (by omega)
    have ih2 := ih (k + 1) (by omega)
    rw [D82_24]
    by_cases hb : mR σ k 4 = r + 1
    · rw [hb, rI_succ] at e4
      by_cases hl : (sfK σ r k).length = i
      · obtain ⟨c1, c2, c3⟩ := sf_hit hr10 hkn hb hl
        rw [if_pos c3, c2, hl]
        simp (maxSteps := 2000000) (disch := omega) only [e_inl, e_goto, e_fall, e_if, e_icmp, e_iret, e_zret, e_lret, e_vret, e_call0_0, e_call0_1, e_call0_2, e_call0_3, e_call0_4, e_call1_0, e_call1_1, e_call1_2, e_call1_3, e_call1_4, e_call2_0, e_call2_1, e_call2_2, e_call2_3, e_call2_4, e_call3_0, e_call3_1, e_call3_2, e_call3_3, e_call3_4, e_call4_0, e_call4_1, e_call4_2, e_call4_3, e_call4_4, e_call5_0, e_call5_1, e_call5_2, e_call5_3, e_call5_4, e_call6_0, e_call6_1, e_call6_2, e_call6_3, e_call6_4, xP, xld, xst1, xst2, xis2, xii, xid, xll, xlv, xls, xlc, xil, xli, xrd, xdup, xdup2, xc1, xpu, c_eq, c_ne, c_lt, c_ge, c_gt, c_le, Option.bind_some, Option.map_some, List.length_nil, List.length_cons, Nat.reduceAdd, Nat.reduceLeDiff, Int.reduceToNat, Bool.and_self, Bool.false_eq_true, if_true, if_false, g_x_0, g_S_3, g_S_4, rd0R, g_R_4, nI_leI, h3, h1, e4, not_true_eq_false]
      · rw [sfK_yes hb] at ih2
        simp only [List.length_append, List.length_cons, List.length_nil, Nat.zero_add] at ih2
        have ih3 := ih2 (by omega)
        refine Eq.trans ?_ ih3
        generalize (sfK σ r k).length = y at *
        simp (maxSteps := 2000000) (disch := omega) only [e_inl, e_goto, e_fall, e_if, e_icmp, e_iret, e_zret, e_lret, e_vret, e_call0_0, e_call0_1, e_call0_2, e_call0_3, e_call0_4, e_call1_0, e_call1_1, e_call1_2, e_call1_3, e_call1_4, e_call2_0, e_call2_1, e_call2_2, e_call2_3, e_call2_4, e_call3_0, e_call3_1, e_call3_2, e_call3_3, e_call3_4, e_call4_0, e_call4_1, e_call4_2, e_call4_3, e_call4_4, e_call5_0, e_call5_1, e_call5_2, e_call5_3, e_call5_4, e_call6_0, e_call6_1, e_call6_2, e_call6_3, e_call6_4, xP, xld, xst1, xst2, xis2, xii, xid, xll, xlv, xls, xlc, xil, xli, xrd, xdup, xdup2, xc1, xpu, c_eq, c_ne, c_lt, c_ge, c_gt, c_le, Option.bind_some, Option.map_some, List.length_nil, List.length_cons, Nat.reduceAdd, Nat.reduceLeDiff, Int.reduceToNat, Bool.and_self, Bool.false_eq_true, if_true, if_false, D82_61, D82_64, g_x_0, g_S_3, g_S_4, rd0R, g_R_4, n_lit, nI_leI, nI_add, nI_eq, h3, h1, e4, hl, not_true_eq_false, not_false_eq_true]
    · rw [sfK_no hb] at ih2
      refine Eq.trans ?_ (ih2 hle)
      generalize (sfK σ r k).length = y at *
      simp (maxSteps := 2000000) (disch := omega) only [e_inl, e_goto, e_fall, e_if, e_icmp, e_iret, e_zret, e_lret, e_vret, e_call0_0, e_call0_1, e_call0_2, e_call0_3, e_call0_4, e_call1_0, e_call1_1, e_call1_2, e_call1_3, e_call1_4, e_call2_0, e_call2_1, e_call2_2, e_call2_3, e_call2_4, e_call3_0, e_call3_1, e_call3_2, e_call3_3, e_call3_4, e_call4_0, e_call4_1, e_call4_2, e_call4_3, e_call4_4, e_call5_0, e_call5_1, e_call5_2, e_call5_3, e_call5_4, e_call6_0, e_call6_1, e_call6_2, e_call6_3, e_call6_4, xP, xld, xst1, xst2, xis2, xii, xid, xll, xlv, xls, xlc, xil, xli, xrd, xdup, xdup2, xc1, xpu, c_eq, c_ne, c_lt, c_ge, c_gt, c_le, Option.bind_some, Option.map_some, List.length_nil, List.length_cons, Nat.reduceAdd, Nat.reduceLeDiff, Int.reduceToNat, Bool.and_self, Bool.false_eq_true, if_true, if_false, D82_64, g_x_0, g_S_3, g_S_4, rd0R, g_R_4, n_lit, nI_leI, nI_add, h3, h1, e4, er, hb, not_false_eq_true]
set_option maxRecDepth 100000 in
theorem c_sf_15 {σ : mS} (hw : wf σ) (hs : rpS σ (S 0)) {i : Nat} (hi : i < 2 ^ 31) (j : Nat) : ∀ (r : Nat) (z : Option Value), r + j = 10 → (sfL σ r).length ≤ i → den 82 15 [some (.ref 2), some (.int (nI i)), some (.int (nI (sfL σ r).length)), some (.int (nI r)), z] [] (hp q S P A D K X E Z I J V) = some (some (.int (if i < (sfL σ 10).length then nI ((sfL σ 10).getD i 0) else Int32.ofInt (-5))), (hp q S P A D K X E Z I J V)) := by
  induction j with
  | zero =>
    intro r z hr hle
    have hr10 : r = 10 := by omega
    subst hr10
    rw [if_neg (by omega), D82_15]
    simp (maxSteps := 2000000) (disch := omega) only [e_inl, e_goto, e_fall, e_if, e_icmp, e_iret, e_zret, e_lret, e_vret, e_call0_0, e_call0_1, e_call0_2, e_call0_3, e_call0_4, e_call1_0, e_call1_1, e_call1_2, e_call1_3, e_call1_4, e_call2_0, e_call2_1, e_call2_2, e_call2_3, e_call2_4, e_call3_0, e_call3_1, e_call3_2, e_call3_3, e_call3_4, e_call4_0, e_call4_1, e_call4_2, e_call4_3, e_call4_4, e_call5_0, e_call5_1, e_call5_2, e_call5_3, e_call5_4, e_call6_0, e_call6_1, e_call6_2, e_call6_3, e_call6_4, xP, xld, xst1, xst2, xis2, xii, xid, xll, xlv, xls, xlc, xil, xli, xrd, xdup, xdup2, xc1, xpu, c_eq, c_ne, c_lt, c_ge, c_gt, c_le, Option.bind_some, Option.map_some, List.length_nil, List.length_cons, Nat.reduceAdd, Nat.reduceLeDiff, Int.reduceToNat, Bool.and_self, Bool.false_eq_true, if_true, if_false, D82_76, n_lit, nI_leI, Nat.le_refl]
  | succ j ih =>
    intro r z hr hle
    have h1 : ¬ 10 ≤ r := by omega
    have e24 := c_sf_24 (q := q) (S := S) (P := P) (A := A) (D := D) (K := K) (X := X) (E := E) (Z := Z) (I := I) (J := J) (V := V) hw hs (r := r) (by omega) hi (mK σ) 0 (by omega) (by rw [sfK_0]; exact hle)
    rw [sfK_0] at e24
    rw [D82_15]
    by_cases hlt : i < (sfL σ (r + 1)).length
    · rw [if_pos hlt] at e24
      obtain ⟨t2, h2⟩ := sf_pre2 σ (10 - (r + 1)) (r + 1) (by omega)
      have hl10 : i < (sfL σ 10).length := by
        rw [h2, List.length_append]
        omega
      rw [if_pos hl10]
      generalize (sfL σ 10).getD i 0 = y at *
      simp (maxSteps := 2000000) (disch := omega) only [e_inl, e_goto, e_fall, e_if, e_icmp, e_iret, e_zret, e_lret, e_vret, e_call0_0, e_call0_1, e_call0_2, e_call0_3, e_call0_4, e_call1_0, e_call1_1, e_call1_2, e_call1_3, e_call1_4, e_call2_0, e_call2_1, e_call2_2, e_call2_3, e_call2_4, e_call3_0, e_call3_1, e_call3_2, e_call3_3, e_call3_4, e_call4_0, e_call4_1, e_call4_2, e_call4_3, e_call4_4, e_call5_0, e_call5_1, e_call5_2, e_call5_3, e_call5_4, e_call6_0, e_call6_1, e_call6_2, e_call6_3, e_call6_4, xP, xld, xst1, xst2, xis2, xii, xid, xll, xlv, xls, xlc, xil, xli, xrd, xdup, xdup2, xc1, xpu, c_eq, c_ne, c_lt, c_ge, c_gt, c_le, Option.bind_some, Option.map_some, List.length_nil, List.length_cons, Nat.reduceAdd, Nat.reduceLeDiff, Int.reduceToNat, Bool.and_self, Bool.false_eq_true, if_true, if_false, n_lit, nI_leI, h1, e24]
    · rw [if_neg hlt] at e24
      have ih2 := ih (r + 1) (some (.int (nI (mK σ)))) (by omega) (by omega)
      rw [ih2] at e24
      generalize (if i < (sfL σ 10).length then nI ((sfL σ 10).getD i 0) else Int32.ofInt (-5)) = y at *
      simp (maxSteps := 2000000) (disch := omega) only [e_inl, e_goto, e_fall, e_if, e_icmp, e_iret, e_zret, e_lret, e_vret, e_call0_0, e_call0_1, e_call0_2, e_call0_3, e_call0_4, e_call1_0, e_call1_1, e_call1_2, e_call1_3, e_call1_4, e_call2_0, e_call2_1, e_call2_2, e_call2_3, e_call2_4, e_call3_0, e_call3_1, e_call3_2, e_call3_3, e_call3_4, e_call4_0, e_call4_1, e_call4_2, e_call4_3, e_call4_4, e_call5_0, e_call5_1, e_call5_2, e_call5_3, e_call5_4, e_call6_0, e_call6_1, e_call6_2, e_call6_3, e_call6_4, xP, xld, xst1, xst2, xis2, xii, xid, xll, xlv, xls, xlc, xil, xli, xrd, xdup, xdup2, xc1, xpu, c_eq, c_ne, c_lt, c_ge, c_gt, c_le, Option.bind_some, Option.map_some, List.length_nil, List.length_cons, Nat.reduceAdd, Nat.reduceLeDiff, Int.reduceToNat, Bool.and_self, Bool.false_eq_true, if_true, if_false, n_lit, nI_leI, h1, e24]
set_option maxRecDepth 100000 in
theorem C_soft {M : mM} (hI : ClsI M S P A X E) (i : Int32) : ∃ (E' : Nat → Int32), xcall 82 [.ref 2, .int i] (hp q S P A D K X E Z I J V) = some (some (.int (oSoft M i).1), (hp q S P A D K X (E') Z I J V)) ∧ ClsI (oSoft M i).2 S P A X E' := by
  have eb := c_bad (q := q) (S := S) (P := P) (A := A) (D := D) (K := K) (X := X) (E := E) (Z := Z) (I := I) (J := J) (V := V) _ rfl
  rw [N82 _ _ _ (o_x ..), D82_0]
  unfold oSoft
  by_cases h0 : nI 0 ≤ i
  · rw [if_pos h0]
    refine ⟨E, ?_, hI⟩
    obtain ⟨k, hk, rfl⟩ := nn_of h0
    rw [nI_clamp (n := k) (by omega)]
    have e15 := c_sf_15 (q := q) (S := S) (P := P) (A := A) (D := D) (K := K) (X := X) (E := E) (Z := Z) (I := I) (J := J) (V := V) hI.1 hI.2.1 hk 10 0 none (by omega) (Nat.zero_le _)
    have e0 : (sfL M.1 0).length = 0 := rfl
    rw [e0] at e15
    generalize (if k < (sfL M.1 10).length then nI ((sfL M.1 10).getD k 0) else Int32.ofInt (-5)) = y at *
    simp (maxSteps := 2000000) (disch := omega) only [e_inl, e_goto, e_fall, e_if, e_icmp, e_iret, e_zret, e_lret, e_vret, e_call0_0, e_call0_1, e_call0_2, e_call0_3, e_call0_4, e_call1_0, e_call1_1, e_call1_2, e_call1_3, e_call1_4, e_call2_0, e_call2_1, e_call2_2, e_call2_3, e_call2_4, e_call3_0, e_call3_1, e_call3_2, e_call3_3, e_call3_4, e_call4_0, e_call4_1, e_call4_2, e_call4_3, e_call4_4, e_call5_0, e_call5_1, e_call5_2, e_call5_3, e_call5_4, e_call6_0, e_call6_1, e_call6_2, e_call6_3, e_call6_4, xP, xld, xst1, xst2, xis2, xii, xid, xll, xlv, xls, xlc, xil, xli, xrd, xdup, xdup2, xc1, xpu, c_eq, c_ne, c_lt, c_ge, c_gt, c_le, Option.bind_some, Option.map_some, List.length_nil, List.length_cons, Nat.reduceAdd, Nat.reduceLeDiff, Int.reduceToNat, Bool.and_self, Bool.false_eq_true, if_true, if_false, D82_11, n_lit, n_0, h0, e15]
  · rw [if_neg h0]
    refine ⟨inc E 0, ?_, clsBad hI (by omega)⟩
    simp (maxSteps := 2000000) (disch := omega) only [e_inl, e_goto, e_fall, e_if, e_icmp, e_iret, e_zret, e_lret, e_vret, e_call0_0, e_call0_1, e_call0_2, e_call0_3, e_call0_4, e_call1_0, e_call1_1, e_call1_2, e_call1_3, e_call1_4, e_call2_0, e_call2_1, e_call2_2, e_call2_3, e_call2_4, e_call3_0, e_call3_1, e_call3_2, e_call3_3, e_call3_4, e_call4_0, e_call4_1, e_call4_2, e_call4_3, e_call4_4, e_call5_0, e_call5_1, e_call5_2, e_call5_3, e_call5_4, e_call6_0, e_call6_1, e_call6_2, e_call6_3, e_call6_4, xP, xld, xst1, xst2, xis2, xii, xid, xll, xlv, xls, xlc, xil, xli, xrd, xdup, xdup2, xc1, xpu, c_eq, c_ne, c_lt, c_ge, c_gt, c_le, Option.bind_some, Option.map_some, List.length_nil, List.length_cons, Nat.reduceAdd, Nat.reduceLeDiff, Int.reduceToNat, Bool.and_self, Bool.false_eq_true, if_true, if_false, n_0, h0, eb]
end
