/-! ===== public calls of the class (5): a rule's numbers ===== -/
theorem sw_4 {w : Nat} (hw : w ≤ 5) : (xsw #[(0, 44), (1, 49), (2, 54), (3, 59), (4, 64)].toList 69 (w : Int)).toNat = if w = 0 then 44 else if w = 1 then 49 else if w = 2 then 54 else if w = 3 then 59 else if w = 4 then 64 else 69 := by
  match w, hw with
  | 0, _ => rfl
  | 1, _ => rfl
  | 2, _ => rfl
  | 3, _ => rfl
  | 4, _ => rfl
  | 5, _ => rfl
section
variable {q : Nat × (Nat → Int32)} {S : Nat → xSt} {P : Int32 × (Nat → Nat)} {A : (Nat → Int64) × Int32 × Int32 × (Nat → Int64) × (Nat → Nat → Int64)} {D : (Nat → Int64) × Int64} {K : Nat → Int64} {X : Int32 × Int32 × Int32 × (Nat → Int32) × (Nat → Int32)} {E Z : Nat → Int32} {I : Nat → Int32} {J : Nat → Int64} {V : Nat → Nat → Int32}
set_option maxRecDepth 100000 in
theorem c_factOfRule {σ : mS} (hw : wf σ) (hs : rpS σ (S 0)) (hA : LawK σ A) {k w : Nat} (hk : k < mK σ) (hw5 : w ≤ 5) : xcall 95 [.ref 2, .int (nI k), .int (nI w)] (hp q S P A D K X E Z I J V) = some (some (.int (aAb σ k w)), (hp q S P A D K X E Z I J V)) := by
  have w7 := hw.2.2.2.2.2.2.1
  have r5 := hs.2.2.2.2.2.1
  have r6 := hs.2.2.2.2.2.2.1 k hk
  have hkp := kpR_lt hw
  have e0 : ∀ t : List xI, xB xcall (den 95) (.inl (.aload 0) :: .inl (.getfield 256) :: .inl (.getfield 196) :: .inl (.iload 1) :: .inl .aaload :: .inl (.astore 3) :: .inl (.iload 2) :: t) [some (.ref 2), some (.int (nI k)), some (.int (nI w)), none] [] (hp q S P A D K X E Z I J V) = xB xcall (den 95) t [some (.ref 2), some (.int (nI k)), some (.int (nI w)), some (.ref (16 + k))] [.int (nI w)] (hp q S P A D K X E Z I J V) := by
    intro t
    simp (maxSteps := 2000000) (disch := omega) only [e_inl, e_goto, e_fall, e_if, e_icmp, e_iret, e_zret, e_lret, e_vret, e_call0_0, e_call0_1, e_call0_2, e_call0_3, e_call0_4, e_call1_0, e_call1_1, e_call1_2, e_call1_3, e_call1_4, e_call2_0, e_call2_1, e_call2_2, e_call2_3, e_call2_4, e_call3_0, e_call3_1, e_call3_2, e_call3_3, e_call3_4, e_call4_0, e_call4_1, e_call4_2, e_call4_3, e_call4_4, e_call5_0, e_call5_1, e_call5_2, e_call5_3, e_call5_4, e_call6_0, e_call6_1, e_call6_2, e_call6_3, e_call6_4, xP, xld, xst1, xst2, xis2, xii, xid, xll, xlv, xls, xlc, xil, xli, xrd, xdup, xdup2, xc1, xpu, c_eq, c_ne, c_lt, c_ge, c_gt, c_le, Option.bind_some, Option.map_some, List.length_nil, List.length_cons, Nat.reduceAdd, Nat.reduceLeDiff, Int.reduceToNat, Bool.and_self, Bool.false_eq_true, if_true, if_false, g_x_0, g_S_4, rd0R]
  rw [N95 _ _ _ _ (o_x ..), D95_0, e0, e_sw, nI_toInt (by omega), sw_4 hw5]
  unfold aAb
  by_cases c0 : w = 0
  · have e := r5 k 0 hk (by omega)
    rw [if_pos c0, if_pos (by omega), c0, D95_44]
    simp (maxSteps := 2000000) (disch := omega) only [e_inl, e_goto, e_fall, e_if, e_icmp, e_iret, e_zret, e_lret, e_vret, e_call0_0, e_call0_1, e_call0_2, e_call0_3, e_call0_4, e_call1_0, e_call1_1, e_call1_2, e_call1_3, e_call1_4, e_call2_0, e_call2_1, e_call2_2, e_call2_3, e_call2_4, e_call3_0, e_call3_1, e_call3_2, e_call3_3, e_call3_4, e_call4_0, e_call4_1, e_call4_2, e_call4_3, e_call4_4, e_call5_0, e_call5_1, e_call5_2, e_call5_3, e_call5_4, e_call6_0, e_call6_1, e_call6_2, e_call6_3, e_call6_4, xP, xld, xst1, xst2, xis2, xii, xid, xll, xlv, xls, xlc, xil, xli, xrd, xdup, xdup2, xc1, xpu, c_eq, c_ne, c_lt, c_ge, c_gt, c_le, Option.bind_some, Option.map_some, List.length_nil, List.length_cons, Nat.reduceAdd, Nat.reduceLeDiff, Int.reduceToNat, Bool.and_self, Bool.false_eq_true, if_true, if_false, g_R_0, e]
  rw [if_neg c0]
  by_cases c1 : w = 1
  · have e := r5 k 1 hk (by omega)
    rw [if_pos c1, if_pos (by omega), c1, D95_49]
    simp (maxSteps := 2000000) (disch := omega) only [e_inl, e_goto, e_fall, e_if, e_icmp, e_iret, e_zret, e_lret, e_vret, e_call0_0, e_call0_1, e_call0_2, e_call0_3, e_call0_4, e_call1_0, e_call1_1, e_call1_2, e_call1_3, e_call1_4, e_call2_0, e_call2_1, e_call2_2, e_call2_3, e_call2_4, e_call3_0, e_call3_1, e_call3_2, e_call3_3, e_call3_4, e_call4_0, e_call4_1, e_call4_2, e_call4_3, e_call4_4, e_call5_0, e_call5_1, e_call5_2, e_call5_3, e_call5_4, e_call6_0, e_call6_1, e_call6_2, e_call6_3, e_call6_4, xP, xld, xst1, xst2, xis2, xii, xid, xll, xlv, xls, xlc, xil, xli, xrd, xdup, xdup2, xc1, xpu, c_eq, c_ne, c_lt, c_ge, c_gt, c_le, Option.bind_some, Option.map_some, List.length_nil, List.length_cons, Nat.reduceAdd, Nat.reduceLeDiff, Int.reduceToNat, Bool.and_self, Bool.false_eq_true, if_true, if_false, g_R_1, e]
  rw [if_neg c1]
  by_cases c2 : w = 2
  · have e := r5 k 2 hk (by omega)
    rw [if_pos c2, if_pos (by omega), c2, D95_54]
    simp (maxSteps := 2000000) (disch := omega) only [e_inl, e_goto, e_fall, e_if, e_icmp, e_iret, e_zret, e_lret, e_vret, e_call0_0, e_call0_1, e_call0_2, e_call0_3, e_call0_4, e_call1_0, e_call1_1, e_call1_2, e_call1_3, e_call1_4, e_call2_0, e_call2_1, e_call2_2, e_call2_3, e_call2_4, e_call3_0, e_call3_1, e_call3_2, e_call3_3, e_call3_4, e_call4_0, e_call4_1, e_call4_2, e_call4_3, e_call4_4, e_call5_0, e_call5_1, e_call5_2, e_call5_3, e_call5_4, e_call6_0, e_call6_1, e_call6_2, e_call6_3, e_call6_4, xP, xld, xst1, xst2, xis2, xii, xid, xll, xlv, xls, xlc, xil, xli, xrd, xdup, xdup2, xc1, xpu, c_eq, c_ne, c_lt, c_ge, c_gt, c_le, Option.bind_some, Option.map_some, List.length_nil, List.length_cons, Nat.reduceAdd, Nat.reduceLeDiff, Int.reduceToNat, Bool.and_self, Bool.false_eq_true, if_true, if_false, g_R_2, e]
  rw [if_neg c2]
  by_cases c3 : w = 3
  · have e := r5 k 3 hk (by omega)
    rw [if_pos c3, if_pos (by omega), c3, D95_59]
    simp (maxSteps := 2000000) (disch := omega) only [e_inl, e_goto, e_fall, e_if, e_icmp, e_iret, e_zret, e_lret, e_vret, e_call0_0, e_call0_1, e_call0_2, e_call0_3, e_call0_4, e_call1_0, e_call1_1, e_call1_2, e_call1_3, e_call1_4, e_call2_0, e_call2_1, e_call2_2, e_call2_3, e_call2_4, e_call3_0, e_call3_1, e_call3_2, e_call3_3, e_call3_4, e_call4_0, e_call4_1, e_call4_2, e_call4_3, e_call4_4, e_call5_0, e_call5_1, e_call5_2, e_call5_3, e_call5_4, e_call6_0, e_call6_1, e_call6_2, e_call6_3, e_call6_4, xP, xld, xst1, xst2, xis2, xii, xid, xll, xlv, xls, xlc, xil, xli, xrd, xdup, xdup2, xc1, xpu, c_eq, c_ne, c_lt, c_ge, c_gt, c_le, Option.bind_some, Option.map_some, List.length_nil, List.length_cons, Nat.reduceAdd, Nat.reduceLeDiff, Int.reduceToNat, Bool.and_self, Bool.false_eq_true, if_true, if_false, g_R_3, e]
  rw [if_neg c3, if_neg (show ¬ w < 4 by omega)]
  by_cases c4 : w = 4
  · rw [if_pos c4, if_pos c4, D95_64]
    simp (maxSteps := 2000000) (disch := omega) only [e_inl, e_goto, e_fall, e_if, e_icmp, e_iret, e_zret, e_lret, e_vret, e_call0_0, e_call0_1, e_call0_2, e_call0_3, e_call0_4, e_call1_0, e_call1_1, e_call1_2, e_call1_3, e_call1_4, e_call2_0, e_call2_1, e_call2_2, e_call2_3, e_call2_4, e_call3_0, e_call3_1, e_call3_2, e_call3_3, e_call3_4, e_call4_0, e_call4_1, e_call4_2, e_call4_3, e_call4_4, e_call5_0, e_call5_1, e_call5_2, e_call5_3, e_call5_4, e_call6_0, e_call6_1, e_call6_2, e_call6_3, e_call6_4, xP, xld, xst1, xst2, xis2, xii, xid, xll, xlv, xls, xlc, xil, xli, xrd, xdup, xdup2, xc1, xpu, c_eq, c_ne, c_lt, c_ge, c_gt, c_le, Option.bind_some, Option.map_some, List.length_nil, List.length_cons, Nat.reduceAdd, Nat.reduceLeDiff, Int.reduceToNat, Bool.and_self, Bool.false_eq_true, if_true, if_false, g_R_4, r6]
  rw [if_neg c4, if_neg c4, D95_69]
  have ek := hA.2.1
  have eb : nI (kpR σ) >>> (nI k &&& 31) &&& nI 1 = nI (if (kpR σ).testBit k = true then 1 else 0) := by
    rw [n_shr (by omega) (by omega), n_and1, tb_div]
    have h2 := Nat.mod_lt (kpR σ / 2 ^ k) (show 2 > 0 by decide)
    by_cases e : kpR σ / 2 ^ k % 2 = 1
    · simp [e]
    · have : kpR σ / 2 ^ k % 2 = 0 := by omega
      simp [this]
  simp (maxSteps := 2000000) (disch := omega) only [e_inl, e_goto, e_fall, e_if, e_icmp, e_iret, e_zret, e_lret, e_vret, e_call0_0, e_call0_1, e_call0_2, e_call0_3, e_call0_4, e_call1_0, e_call1_1, e_call1_2, e_call1_3, e_call1_4, e_call2_0, e_call2_1, e_call2_2, e_call2_3, e_call2_4, e_call3_0, e_call3_1, e_call3_2, e_call3_3, e_call3_4, e_call4_0, e_call4_1, e_call4_2, e_call4_3, e_call4_4, e_call5_0, e_call5_1, e_call5_2, e_call5_3, e_call5_4, e_call6_0, e_call6_1, e_call6_2, e_call6_3, e_call6_4, xP, xld, xst1, xst2, xis2, xii, xid, xll, xlv, xls, xlc, xil, xli, xrd, xdup, xdup2, xc1, xpu, c_eq, c_ne, c_lt, c_ge, c_gt, c_le, Option.bind_some, Option.map_some, List.length_nil, List.length_cons, Nat.reduceAdd, Nat.reduceLeDiff, Int.reduceToNat, Bool.and_self, Bool.false_eq_true, if_true, if_false, g_x_2, g_law_1, ek, n_lit, eb]
set_option maxRecDepth 100000 in
theorem C_about {M : mM} (hI : ClsI M S P A X E) (k w : Int32) : ∃ (S' : Nat → xSt) (A' : (Nat → Int64) × Int32 × Int32 × (Nat → Int64) × (Nat → Nat → Int64)) (E' : Nat → Int32), xcall 76 [.ref 2, .int k, .int w] (hp q S P A D K X E Z I J V) = some (some (.int (oAbout M k w).1), (hp q (S') P (A') D K X (E') Z I J V)) ∧ ClsI (oAbout M k w).2 S' P A' X E' := by
  have w7 := hI.1.2.2.2.2.2.2.1
  have r4 := hI.2.1.2.2.2.2.1
  have h10 : (nI 1 = nI 0) = False := eq_false (by decide)
  have eb := c_bad (q := q) (S := S) (P := P) (A := A) (D := D) (K := K) (X := X) (E := E) (Z := Z) (I := I) (J := J) (V := V) _ rfl
  rw [N76 _ _ _ _ (o_x ..), D76_0]
  unfold oAbout
  by_cases h1 : isF (mK M.1) k = true
  · by_cases h2 : inB w (nI 0) (nI 5) = true
    · rw [h1, h2, Bool.true_and, if_pos rfl]
      have h1' := h1
      obtain ⟨g, hg, rfl⟩ := isF_of (by omega) h1
      obtain ⟨u, hu, rfl⟩ := inB_of (by decide) h2
      have l0 : ¬ nI u < nI 0 := by rw [nI_ltI (by omega) (by omega)]; omega
      have l1 : nI u ≤ nI 5 := (nI_leI (by omega) (by omega)).mpr hu
      rw [nI_clamp (n := g) (by omega), nI_clamp (n := u) (by omega)]
      obtain ⟨s, A', e1, hs, h8, hA⟩ := c_look (q := q) (S := S) (P := P) (A := A) (D := D) (K := K) (X := X) (E := E) (Z := Z) (I := I) (J := J) (V := V) hI.1 hI.2.1 hI.2.2.1
      refine ⟨_, A', E, ?_, hI.look hs h8 hA⟩
      have e2 := c_factOfRule (q := q) (S := vf_upd S 0 s) (P := P) (A := A') (D := D) (K := K) (X := X) (E := E) (Z := Z) (I := I) (J := J) (V := V) hI.1 (by rw [vu_s]; exact hs) hA hg hu
      simp (maxSteps := 2000000) (disch := omega) only [e_inl, e_goto, e_fall, e_if, e_icmp, e_iret, e_zret, e_lret, e_vret, e_call0_0, e_call0_1, e_call0_2, e_call0_3, e_call0_4, e_call1_0, e_call1_1, e_call1_2, e_call1_3, e_call1_4, e_call2_0, e_call2_1, e_call2_2, e_call2_3, e_call2_4, e_call3_0, e_call3_1, e_call3_2, e_call3_3, e_call3_4, e_call4_0, e_call4_1, e_call4_2, e_call4_3, e_call4_4, e_call5_0, e_call5_1, e_call5_2, e_call5_3, e_call5_4, e_call6_0, e_call6_1, e_call6_2, e_call6_3, e_call6_4, xP, xld, xst1, xst2, xis2, xii, xid, xll, xlv, xls, xlc, xil, xli, xrd, xdup, xdup2, xc1, xpu, c_eq, c_ne, c_lt, c_ge, c_gt, c_le, Option.bind_some, Option.map_some, List.length_nil, List.length_cons, Nat.reduceAdd, Nat.reduceLeDiff, Int.reduceToNat, Bool.and_self, Bool.false_eq_true, if_true, if_false, D76_27, g_x_0, g_x_2, n_lit, n_0, c_hasRule w7 r4, h1', zB_tt, h10, l0, l1, e1, e2]
    · rw [Bool.eq_false_iff.mpr h2, Bool.and_false, if_neg (by decide)]
      refine ⟨S, A, inc E 0, ?_, clsBad hI (by omega)⟩
      rw [inB_le] at h2
      by_cases h3 : w < nI 0
      · simp (maxSteps := 2000000) (disch := omega) only [e_inl, e_goto, e_fall, e_if, e_icmp, e_iret, e_zret, e_lret, e_vret, e_call0_0, e_call0_1, e_call0_2, e_call0_3, e_call0_4, e_call1_0, e_call1_1, e_call1_2, e_call1_3, e_call1_4, e_call2_0, e_call2_1, e_call2_2, e_call2_3, e_call2_4, e_call3_0, e_call3_1, e_call3_2, e_call3_3, e_call3_4, e_call4_0, e_call4_1, e_call4_2, e_call4_3, e_call4_4, e_call5_0, e_call5_1, e_call5_2, e_call5_3, e_call5_4, e_call6_0, e_call6_1, e_call6_2, e_call6_3, e_call6_4, xP, xld, xst1, xst2, xis2, xii, xid, xll, xlv, xls, xlc, xil, xli, xrd, xdup, xdup2, xc1, xpu, c_eq, c_ne, c_lt, c_ge, c_gt, c_le, Option.bind_some, Option.map_some, List.length_nil, List.length_cons, Nat.reduceAdd, Nat.reduceLeDiff, Int.reduceToNat, Bool.and_self, Bool.false_eq_true, if_true, if_false, D76_20, g_x_0, n_lit, n_0, c_hasRule w7 r4, h1, zB_tt, h10, h3, eb]
      · have h4 : ¬ w ≤ nI 5 := fun h4 => h2 (by rw [decide_eq_true h3, decide_eq_true h4]; rfl)
        simp (maxSteps := 2000000) (disch := omega) only [e_inl, e_goto, e_fall, e_if, e_icmp, e_iret, e_zret, e_lret, e_vret, e_call0_0, e_call0_1, e_call0_2, e_call0_3, e_call0_4, e_call1_0, e_call1_1, e_call1_2, e_call1_3, e_call1_4, e_call2_0, e_call2_1, e_call2_2, e_call2_3, e_call2_4, e_call3_0, e_call3_1, e_call3_2, e_call3_3, e_call3_4, e_call4_0, e_call4_1, e_call4_2, e_call4_3, e_call4_4, e_call5_0, e_call5_1, e_call5_2, e_call5_3, e_call5_4, e_call6_0, e_call6_1, e_call6_2, e_call6_3, e_call6_4, xP, xld, xst1, xst2, xis2, xii, xid, xll, xlv, xls, xlc, xil, xli, xrd, xdup, xdup2, xc1, xpu, c_eq, c_ne, c_lt, c_ge, c_gt, c_le, Option.bind_some, Option.map_some, List.length_nil, List.length_cons, Nat.reduceAdd, Nat.reduceLeDiff, Int.reduceToNat, Bool.and_self, Bool.false_eq_true, if_true, if_false, D76_20, g_x_0, n_lit, n_0, c_hasRule w7 r4, h1, zB_tt, h10, h3, h4, eb]
  · rw [Bool.eq_false_iff.mpr h1, Bool.false_and, if_neg (by decide)]
    refine ⟨S, A, inc E 0, ?_, clsBad hI (by omega)⟩
    simp (maxSteps := 2000000) (disch := omega) only [e_inl, e_goto, e_fall, e_if, e_icmp, e_iret, e_zret, e_lret, e_vret, e_call0_0, e_call0_1, e_call0_2, e_call0_3, e_call0_4, e_call1_0, e_call1_1, e_call1_2, e_call1_3, e_call1_4, e_call2_0, e_call2_1, e_call2_2, e_call2_3, e_call2_4, e_call3_0, e_call3_1, e_call3_2, e_call3_3, e_call3_4, e_call4_0, e_call4_1, e_call4_2, e_call4_3, e_call4_4, e_call5_0, e_call5_1, e_call5_2, e_call5_3, e_call5_4, e_call6_0, e_call6_1, e_call6_2, e_call6_3, e_call6_4, xP, xld, xst1, xst2, xis2, xii, xid, xll, xlv, xls, xlc, xil, xli, xrd, xdup, xdup2, xc1, xpu, c_eq, c_ne, c_lt, c_ge, c_gt, c_le, Option.bind_some, Option.map_some, List.length_nil, List.length_cons, Nat.reduceAdd, Nat.reduceLeDiff, Int.reduceToNat, Bool.and_self, Bool.false_eq_true, if_true, if_false, D76_20, g_x_0, n_0, c_hasRule w7 r4, Bool.eq_false_iff.mpr h1, zB_ff, eb]
end
