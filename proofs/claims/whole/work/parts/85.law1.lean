/-! ===== the class: whether some row keeps rules ===== -/
def srB (σ : mS) (r : Nat) : Nat → Nat → Bool
  | 0, x => inRb σ x
  | j + 1, x => srB σ r j x && (!r.testBit j || mkp σ j x)
theorem srB_iff (σ : mS) (r x : Nat) : ∀ j, srB σ r j x = true ↔ inRb σ x = true ∧ ∀ i, i < j → r.testBit i = true → mkp σ i x = true
  | 0 => by
    rw [srB]
    exact ⟨fun h => ⟨h, fun i hi => absurd hi (Nat.not_lt_zero i)⟩, fun h => h.1⟩
  | j + 1 => by
    rw [srB, Bool.and_eq_true, srB_iff σ r x j]
    constructor
    · rintro ⟨⟨h1, h2⟩, h3⟩
      refine ⟨h1, fun i hi hb => ?_⟩
      by_cases e : i = j
      · subst e
        rw [hb] at h3
        simpa using h3
      · exact h2 i (by omega) hb
    · rintro ⟨h1, h2⟩
      refine ⟨⟨h1, fun i hi => h2 i (by omega)⟩, ?_⟩
      cases hb : r.testBit j
      · rfl
      · rw [h2 j (by omega) hb]; rfl
theorem sr_sm {σ : mS} (hw : wf σ) {r : Nat} (hr : ∀ j, r.testBit j = true → j < mK σ) : exB (fun w => !decide (wdN (srB σ r 8) w = 0)) 64 = smR σ r := by
  have w7 := hw.2.2.2.2.2.2.1
  have key : ∀ x, srB σ r 8 x = (inRb σ x && decide (r ^^^ (r &&& kb σ x) = 0)) := by
    intro x
    rw [Bool.eq_iff_iff, srB_iff, Bool.and_eq_true, decide_eq_true_eq, andn_0]
    constructor
    · rintro ⟨h1, h2⟩
      refine ⟨h1, fun j hj => ?_⟩
      have hk := hr j hj
      unfold kb
      rw [bset_bit, h2 j (by omega) hj]
      simp [hk]
    · rintro ⟨h1, h2⟩
      refine ⟨h1, fun j hj hb => ?_⟩
      have h3 := h2 j hb
      unfold kb at h3
      rw [bset_bit, Bool.and_eq_true] at h3
      exact h3.2
  unfold smR
  rw [Bool.eq_iff_iff, exB_iff, exB_iff]
  constructor
  · rintro ⟨w, hw1, h⟩
    obtain ⟨b, hb, hm⟩ := wdN_ex (m := srB σ r 8) (w := w) (by simpa using h)
    exact ⟨64 * w + b, by omega, by rw [← key]; exact hm⟩
  · rintro ⟨x, hx, h⟩
    refine ⟨x / 64, by omega, ?_⟩
    rw [← key] at h
    have hne : wdN (srB σ r 8) (x / 64) ≠ 0 := fun h0 => by
      have := wdN_z h0 (b := x % 64) (by omega)
      rw [show 64 * (x / 64) + x % 64 = x by omega, h] at this
      cases this
    simp [hne]
/-- the law's sets: rows in the ranges, rows that keep each rule -/
def LawR (σ : mS) (A : (Nat → Int64) × Int32 × Int32 × (Nat → Int64) × (Nat → Nat → Int64)) : Prop := RS (inRb σ) A.2.2.2.1 ∧ ∀ k, k < mK σ → RS (mkp σ k) (A.2.2.2.2 k)
section
variable {q : Nat × (Nat → Int32)} {S : Nat → xSt} {P : Int32 × (Nat → Nat)} {A : (Nat → Int64) × Int32 × Int32 × (Nat → Int64) × (Nat → Nat → Int64)} {D : (Nat → Int64) × Int64} {K : Nat → Int64} {X : Int32 × Int32 × Int32 × (Nat → Int32) × (Nat → Int32)} {E Z : Nat → Int32} {I : Nat → Int32} {J : Nat → Int64} {V : Nat → Nat → Int32}
theorem rdIn {w : Nat} (hw : w < 64) : xlald (hp q S P A D K X E Z I J V) 135 (nI w) = some (.long (A.2.2.2.1 w)) := by
  rw [r_inRanges, if_pos ⟨x_in hw (by omega), by omega⟩, nI_clamp (by omega)]
theorem rdKw {k w : Nat} (hk : k < 8) (hw : w < 64) : xlald (hp q S P A D K X E Z I J V) (138 + 2 * k) (nI w) = some (.long (A.2.2.2.2 k w)) := by
  rw [r_keep _ _ _ _ _ _ _ _ _ _ _ _ k hk, if_pos ⟨x_in hw (by omega), by omega⟩, nI_clamp (by omega)]
theorem srB_z {σ : mS} {r w j : Nat} (h0 : wdN (srB σ r j) w = 0) : wdN (srB σ r (j + 1)) w = 0 := wdN_0 (fun b hb => by
  rw [srB, wdN_z h0 hb, Bool.false_and])
set_option maxRecDepth 100000 in
theorem c_sk_21 {σ : mS} (hw : wf σ) (hA : LawR σ A) {r w : Nat} (hr : ∀ j, r.testBit j = true → j < mK σ) (hr8 : r < 256) (hw64 : w < 64) (m : Nat) : ∀ (j : Nat), j + m = 8 → ∃ z : Option Value, den 17 21 [some (.ref 131), some (.int (nI r)), some (.int (nI w)), some (.long (lN (wdN (srB σ r j) w))), none, some (.int (nI j))] [] (hp q S P A D K X E Z I J V) = den 17 64 [some (.ref 131), some (.int (nI r)), some (.int (nI w)), some (.long (lN (wdN (srB σ r 8) w))), none, z] [] (hp q S P A D K X E Z I J V) := by
  have w7 := hw.2.2.2.2.2.2.1
  have zz : ∀ (m j : Nat), j + m = 8 → wdN (srB σ r j) w = 0 → wdN (srB σ r 8) w = 0 := by
    intro m
    induction m with
    | zero => intro j hj h0; rw [show 8 = j by omega]; exact h0
    | succ m ih => intro j hj h0; exact ih (j + 1) (by omega) (srB_z h0)
  induction m with
  | zero =>
    intro j hj
    have hj : j = 8 := by omega
    subst hj
    refine ⟨some (.int (nI 8)), ?_⟩
    rw [D17_21]
    simp (maxSteps := 2000000) (disch := omega) only [e_inl, e_goto, e_fall, e_if, e_icmp, e_iret, e_zret, e_lret, e_vret, e_call0_0, e_call0_1, e_call0_2, e_call0_3, e_call0_4, e_call1_0, e_call1_1, e_call1_2, e_call1_3, e_call1_4, e_call2_0, e_call2_1, e_call2_2, e_call2_3, e_call2_4, e_call3_0, e_call3_1, e_call3_2, e_call3_3, e_call3_4, e_call4_0, e_call4_1, e_call4_2, e_call4_3, e_call4_4, e_call5_0, e_call5_1, e_call5_2, e_call5_3, e_call5_4, e_call6_0, e_call6_1, e_call6_2, e_call6_3, e_call6_4, xP, xld, xst1, xst2, xis2, xii, xid, xll, xlv, xls, xlc, xil, xli, xrd, xdup, xdup2, xc1, xpu, c_eq, c_ne, c_lt, c_ge, c_gt, c_le, Option.bind_some, Option.map_some, List.length_nil, List.length_cons, Nat.reduceAdd, Nat.reduceLeDiff, Int.reduceToNat, Bool.and_self, Bool.false_eq_true, if_true, if_false, n_lit, nI_leI, Nat.le_refl]
  | succ m ih =>
    intro j hj
    have h1 : ¬ 8 ≤ j := by omega
    have ec := m_cmp0 (wdN_lt (srB σ r j) w)
    by_cases h0 : wdN (srB σ r j) w = 0
    · refine ⟨some (.int (nI j)), ?_⟩
      have ec2 : lg_cmp (lN (wdN (srB σ r j) w)) (Int64.ofInt 0) = nI 0 := by rw [← n_0, ec]; exact h0
      rw [zz (m + 1) j hj h0]
      rw [h0] at ec2 ⊢
      rw [D17_21]
      simp (maxSteps := 2000000) (disch := omega) only [e_inl, e_goto, e_fall, e_if, e_icmp, e_iret, e_zret, e_lret, e_vret, e_call0_0, e_call0_1, e_call0_2, e_call0_3, e_call0_4, e_call1_0, e_call1_1, e_call1_2, e_call1_3, e_call1_4, e_call2_0, e_call2_1, e_call2_2, e_call2_3, e_call2_4, e_call3_0, e_call3_1, e_call3_2, e_call3_3, e_call3_4, e_call4_0, e_call4_1, e_call4_2, e_call4_3, e_call4_4, e_call5_0, e_call5_1, e_call5_2, e_call5_3, e_call5_4, e_call6_0, e_call6_1, e_call6_2, e_call6_3, e_call6_4, xP, xld, xst1, xst2, xis2, xii, xid, xll, xlv, xls, xlc, xil, xli, xrd, xdup, xdup2, xc1, xpu, c_eq, c_ne, c_lt, c_ge, c_gt, c_le, Option.bind_some, Option.map_some, List.length_nil, List.length_cons, Nat.reduceAdd, Nat.reduceLeDiff, Int.reduceToNat, Bool.and_self, Bool.false_eq_true, if_true, if_false, n_lit, nI_leI, h1, n_0, ec2]
    · have ec2 : ¬ lg_cmp (lN (wdN (srB σ r j) w)) (Int64.ofInt 0) = nI 0 := by rw [← n_0, ec]; exact h0
      obtain ⟨z, e⟩ := ih (j + 1) (by omega)
      refine ⟨z, Eq.trans ?_ e⟩
      have eb := n_bit0 (s := r) (k := j) (by omega) (by omega)
      rw [D17_21]
      by_cases hb : r.testBit j = true
      · have eb2 : ¬ nI r >>> (nI j &&& 31) &&& nI 1 = nI 0 := by rw [eb, hb]; decide
        have ea := wb_and (wdN_lt (srB σ r j) w) (wdN_lt (mkp σ j) w)
        have es : wdN (srB σ r j) w &&& wdN (mkp σ j) w = wdN (srB σ r (j + 1)) w := by
          rw [wdN_and]
          apply wdN_cong
          intro b _
          rw [srB, hb]
          simp
        rw [es] at ea
        have er := rdKw (q := q) (S := S) (P := P) (A := A) (D := D) (K := K) (X := X) (E := E) (Z := Z) (I := I) (J := J) (V := V) (k := j) (by omega) hw64
        rw [hA.2 j (hr j hb) w hw64] at er
        simp (maxSteps := 2000000) (disch := omega) only [e_inl, e_goto, e_fall, e_if, e_icmp, e_iret, e_zret, e_lret, e_vret, e_call0_0, e_call0_1, e_call0_2, e_call0_3, e_call0_4, e_call1_0, e_call1_1, e_call1_2, e_call1_3, e_call1_4, e_call2_0, e_call2_1, e_call2_2, e_call2_3, e_call2_4, e_call3_0, e_call3_1, e_call3_2, e_call3_3, e_call3_4, e_call4_0, e_call4_1, e_call4_2, e_call4_3, e_call4_4, e_call5_0, e_call5_1, e_call5_2, e_call5_3, e_call5_4, e_call6_0, e_call6_1, e_call6_2, e_call6_3, e_call6_4, xP, xld, xst1, xst2, xis2, xii, xid, xll, xlv, xls, xlc, xil, xli, xrd, xdup, xdup2, xc1, xpu, c_eq, c_ne, c_lt, c_ge, c_gt, c_le, Option.bind_some, Option.map_some, List.length_nil, List.length_cons, Nat.reduceAdd, Nat.reduceLeDiff, Int.reduceToNat, Bool.and_self, Bool.false_eq_true, if_true, if_false, D17_58, n_lit, nI_leI, nI_add, h1, n_0, ec2, eb2, g_law_4, rdK, g_keep_0, er, ea]
      · have eb2 : nI r >>> (nI j &&& 31) &&& nI 1 = nI 0 := by rw [eb]; exact Bool.eq_false_iff.mpr hb
        have es : wdN (srB σ r (j + 1)) w = wdN (srB σ r j) w := wdN_cong (fun b _ => by rw [srB, Bool.eq_false_iff.mpr hb]; simp)
        rw [es]
        simp (maxSteps := 2000000) (disch := omega) only [e_inl, e_goto, e_fall, e_if, e_icmp, e_iret, e_zret, e_lret, e_vret, e_call0_0, e_call0_1, e_call0_2, e_call0_3, e_call0_4, e_call1_0, e_call1_1, e_call1_2, e_call1_3, e_call1_4, e_call2_0, e_call2_1, e_call2_2, e_call2_3, e_call2_4, e_call3_0, e_call3_1, e_call3_2, e_call3_3, e_call3_4, e_call4_0, e_call4_1, e_call4_2, e_call4_3, e_call4_4, e_call5_0, e_call5_1, e_call5_2, e_call5_3, e_call5_4, e_call6_0, e_call6_1, e_call6_2, e_call6_3, e_call6_4, xP, xld, xst1, xst2, xis2, xii, xid, xll, xlv, xls, xlc, xil, xli, xrd, xdup, xdup2, xc1, xpu, c_eq, c_ne, c_lt, c_ge, c_gt, c_le, Option.bind_some, Option.map_some, List.length_nil, List.length_cons, Nat.reduceAdd, Nat.reduceLeDiff, Int.reduceToNat, Bool.and_self, Bool.false_eq_true, if_true, if_false, D17_58, n_lit, nI_leI, nI_add, h1, n_0, ec2, eb2]
set_option maxRecDepth 100000 in
theorem c_someRowKeeps {σ : mS} (hw : wf σ) (hA : LawR σ A) {r : Nat} (hr : ∀ j, r.testBit j = true → j < mK σ) (hr8 : r < 256) : xcall 17 [.ref 131, .int (nI r)] (hp q S P A D K X E Z I J V) = some (some (.int (zB (smR σ r))), (hp q S P A D K X E Z I J V)) := by
  rw [← sr_sm hw hr, exB_first]
  generalize hp0 : (fun w => !decide (wdN (srB σ r 8) w = 0)) = p
  have hpw : ∀ w, p w = !decide (wdN (srB σ r 8) w = 0) := fun w => by rw [← hp0]
  have hm64 := fa_first_le p 64
  have inner : ∀ (w : Nat) (z3 z5 : Option Value), w < 64 → ∃ z : Option Value, den 17 2 [some (.ref 131), some (.int (nI r)), some (.int (nI w)), z3, none, z5] [] (hp q S P A D K X E Z I J V) = den 17 64 [some (.ref 131), some (.int (nI r)), some (.int (nI w)), some (.long (lN (wdN (srB σ r 8) w))), none, z] [] (hp q S P A D K X E Z I J V) := by
    intro w z3 z5 hw64
    obtain ⟨z, e⟩ := c_sk_21 (q := q) (S := S) (P := P) (A := A) (D := D) (K := K) (X := X) (E := E) (Z := Z) (I := I) (J := J) (V := V) hw hA hr hr8 hw64 8 0 (by omega)
    refine ⟨z, ?_⟩
    have h1 : ¬ 64 ≤ w := by omega
    have er := rdIn (q := q) (S := S) (P := P) (A := A) (D := D) (K := K) (X := X) (E := E) (Z := Z) (I := I) (J := J) (V := V) hw64
    rw [hA.1 w hw64] at er
    have e' : den 17 21 [some (.ref 131), some (.int (nI r)), some (.int (nI w)), some (.long (lN (wdN (inRb σ) w))), none, some (.int (nI 0))] [] (hp q S P A D K X E Z I J V) = _ := e
    rw [D17_2]
    simp (maxSteps := 2000000) (disch := omega) only [e_inl, e_goto, e_fall, e_if, e_icmp, e_iret, e_zret, e_lret, e_vret, e_call0_0, e_call0_1, e_call0_2, e_call0_3, e_call0_4, e_call1_0, e_call1_1, e_call1_2, e_call1_3, e_call1_4, e_call2_0, e_call2_1, e_call2_2, e_call2_3, e_call2_4, e_call3_0, e_call3_1, e_call3_2, e_call3_3, e_call3_4, e_call4_0, e_call4_1, e_call4_2, e_call4_3, e_call4_4, e_call5_0, e_call5_1, e_call5_2, e_call5_3, e_call5_4, e_call6_0, e_call6_1, e_call6_2, e_call6_3, e_call6_4, xP, xld, xst1, xst2, xis2, xii, xid, xll, xlv, xls, xlc, xil, xli, xrd, xdup, xdup2, xc1, xpu, c_eq, c_ne, c_lt, c_ge, c_gt, c_le, Option.bind_some, Option.map_some, List.length_nil, List.length_cons, Nat.reduceAdd, Nat.reduceLeDiff, Int.reduceToNat, Bool.and_self, Bool.false_eq_true, if_true, if_false, n_lit, nI_leI, h1, g_law_3, g_inRanges_0, er, e']
  have step : ∀ w, w ≤ fa_first p 64 → ∃ z3 z5 : Option Value, den 17 2 [some (.ref 131), some (.int (nI r)), some (.int (nI 0)), none, none, none] [] (hp q S P A D K X E Z I J V) = den 17 2 [some (.ref 131), some (.int (nI r)), some (.int (nI w)), z3, none, z5] [] (hp q S P A D K X E Z I J V) := by
    intro w
    induction w with
    | zero => intro _; exact ⟨none, none, rfl⟩
    | succ w ih =>
      intro hwl
      obtain ⟨z3, z5, e⟩ := ih (by omega)
      obtain ⟨z, e2⟩ := inner w z3 z5 (by omega)
      have hno := fa_first_no p 64 w (by omega)
      rw [hpw] at hno
      have h0 : wdN (srB σ r 8) w = 0 := by simpa using hno
      have ec := m_cmp0 (wdN_lt (srB σ r 8) w)
      have ec2 : lg_cmp (lN (wdN (srB σ r 8) w)) (Int64.ofInt 0) = nI 0 := by rw [← n_0, ec]; exact h0
      refine ⟨some (.long (lN (wdN (srB σ r 8) w))), z, (e.trans e2).trans ?_⟩
      rw [D17_64]
      simp (maxSteps := 2000000) (disch := omega) only [e_inl, e_goto, e_fall, e_if, e_icmp, e_iret, e_zret, e_lret, e_vret, e_call0_0, e_call0_1, e_call0_2, e_call0_3, e_call0_4, e_call1_0, e_call1_1, e_call1_2, e_call1_3, e_call1_4, e_call2_0, e_call2_1, e_call2_2, e_call2_3, e_call2_4, e_call3_0, e_call3_1, e_call3_2, e_call3_3, e_call3_4, e_call4_0, e_call4_1, e_call4_2, e_call4_3, e_call4_4, e_call5_0, e_call5_1, e_call5_2, e_call5_3, e_call5_4, e_call6_0, e_call6_1, e_call6_2, e_call6_3, e_call6_4, xP, xld, xst1, xst2, xis2, xii, xid, xll, xlv, xls, xlc, xil, xli, xrd, xdup, xdup2, xc1, xpu, c_eq, c_ne, c_lt, c_ge, c_gt, c_le, Option.bind_some, Option.map_some, List.length_nil, List.length_cons, Nat.reduceAdd, Nat.reduceLeDiff, Int.reduceToNat, Bool.and_self, Bool.false_eq_true, if_true, if_false, D17_72, n_lit, n_0, ec2, nI_add]
  obtain ⟨z3, z5, e⟩ := step (fa_first p 64) (Nat.le_refl _)
  rw [N17 _ _ _ (o_law ..), D17_0]
  simp (maxSteps := 2000000) (disch := omega) only [e_inl, e_goto, e_fall, e_if, e_icmp, e_iret, e_zret, e_lret, e_vret, e_call0_0, e_call0_1, e_call0_2, e_call0_3, e_call0_4, e_call1_0, e_call1_1, e_call1_2, e_call1_3, e_call1_4, e_call2_0, e_call2_1, e_call2_2, e_call2_3, e_call2_4, e_call3_0, e_call3_1, e_call3_2, e_call3_3, e_call3_4, e_call4_0, e_call4_1, e_call4_2, e_call4_3, e_call4_4, e_call5_0, e_call5_1, e_call5_2, e_call5_3, e_call5_4, e_call6_0, e_call6_1, e_call6_2, e_call6_3, e_call6_4, xP, xld, xst1, xst2, xis2, xii, xid, xll, xlv, xls, xlc, xil, xli, xrd, xdup, xdup2, xc1, xpu, c_eq, c_ne, c_lt, c_ge, c_gt, c_le, Option.bind_some, Option.map_some, List.length_nil, List.length_cons, Nat.reduceAdd, Nat.reduceLeDiff, Int.reduceToNat, Bool.and_self, Bool.false_eq_true, if_true, if_false, n_lit]
  rw [e]
  by_cases h : fa_first p 64 < 64
  · obtain ⟨z, e2⟩ := inner _ z3 z5 h
    have hy := fa_first_yes p 64 h
    rw [hpw] at hy
    have hy : wdN (srB σ r 8) (fa_first p 64) ≠ 0 := by simpa using hy
    have ec := m_cmp0 (wdN_lt (srB σ r 8) (fa_first p 64))
    have ec2 : ¬ lg_cmp (lN (wdN (srB σ r 8) (fa_first p 64))) (Int64.ofInt 0) = nI 0 := by rw [← n_0, ec]; exact hy
    rw [e2, D17_64, decide_eq_true h, zB_tt]
    simp (maxSteps := 2000000) (disch := omega) only [e_inl, e_goto, e_fall, e_if, e_icmp, e_iret, e_zret, e_lret, e_vret, e_call0_0, e_call0_1, e_call0_2, e_call0_3, e_call0_4, e_call1_0, e_call1_1, e_call1_2, e_call1_3, e_call1_4, e_call2_0, e_call2_1, e_call2_2, e_call2_3, e_call2_4, e_call3_0, e_call3_1, e_call3_2, e_call3_3, e_call3_4, e_call4_0, e_call4_1, e_call4_2, e_call4_3, e_call4_4, e_call5_0, e_call5_1, e_call5_2, e_call5_3, e_call5_4, e_call6_0, e_call6_1, e_call6_2, e_call6_3, e_call6_4, xP, xld, xst1, xst2, xis2, xii, xid, xll, xlv, xls, xlc, xil, xli, xrd, xdup, xdup2, xc1, xpu, c_eq, c_ne, c_lt, c_ge, c_gt, c_le, Option.bind_some, Option.map_some, List.length_nil, List.length_cons, Nat.reduceAdd, Nat.reduceLeDiff, Int.reduceToNat, Bool.and_self, Bool.false_eq_true, if_true, if_false, n_lit, n_0, n_1, ec2, or_true]
  · have h64 : fa_first p 64 = 64 := by omega
    rw [decide_eq_false h, zB_ff, h64, D17_2]
    simp (maxSteps := 2000000) (disch := omega) only [e_inl, e_goto, e_fall, e_if, e_icmp, e_iret, e_zret, e_lret, e_vret, e_call0_0, e_call0_1, e_call0_2, e_call0_3, e_call0_4, e_call1_0, e_call1_1, e_call1_2, e_call1_3, e_call1_4, e_call2_0, e_call2_1, e_call2_2, e_call2_3, e_call2_4, e_call3_0, e_call3_1, e_call3_2, e_call3_3, e_call3_4, e_call4_0, e_call4_1, e_call4_2, e_call4_3, e_call4_4, e_call5_0, e_call5_1, e_call5_2, e_call5_3, e_call5_4, e_call6_0, e_call6_1, e_call6_2, e_call6_3, e_call6_4, xP, xld, xst1, xst2, xis2, xii, xid, xll, xlv, xls, xlc, xil, xli, xrd, xdup, xdup2, xc1, xpu, c_eq, c_ne, c_lt, c_ge, c_gt, c_le, Option.bind_some, Option.map_some, List.length_nil, List.length_cons, Nat.reduceAdd, Nat.reduceLeDiff, Int.reduceToNat, Bool.and_self, Bool.false_eq_true, if_true, if_false, D17_78, n_lit, nI_leI, Nat.le_refl, n_0, n_1, true_or]
end
