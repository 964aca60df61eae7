/-! ===== the class: a row drawn, noted ===== -/
def ndR (σ : mS) (x : Nat) (s : xSt) : Nat → xSt
  | 0 => s
  | k + 1 => if mF σ k 2 = 1 then sF (ndR σ x s k) k 3 (nI (mF σ k 3 ||| 2 ^ vl x k)) else ndR σ x s k
theorem ndR_k (σ : mS) (x : Nat) (s : xSt) : ∀ k, (ndR σ x s k).1 = s.1 ∧ (ndR σ x s k).2.2 = s.2.2
  | 0 => ⟨rfl, rfl⟩
  | k + 1 => by
    obtain ⟨a, b⟩ := ndR_k σ x s k
    rw [ndR]
    split
    · exact ⟨a, b⟩
    · exact ⟨a, b⟩
theorem ndR_F (σ : mS) (x : Nat) (s : xSt) (f j : Nat) : ∀ k, (ndR σ x s k).2.1 f j = if f < k ∧ j = 3 ∧ mF σ f 2 = 1 then nI (mF σ f 3 ||| 2 ^ vl x f) else s.2.1 f j
  | 0 => (if_neg (fun h => absurd h.1 (Nat.not_lt_zero f))).symm
  | k + 1 => by
    have ih := ndR_F σ x s f j k
    rw [ndR]
    by_cases h : mF σ k 2 = 1
    · rw [if_pos h, sF_F, ih]
      by_cases e : f = k ∧ j = 3
      · obtain ⟨e1, e2⟩ := e
        subst e1
        subst e2
        rw [if_pos ⟨rfl, rfl⟩, if_pos ⟨Nat.lt_succ_self f, rfl, h⟩]
      · rw [if_neg e]
        by_cases g : f < k ∧ j = 3 ∧ mF σ f 2 = 1
        · rw [if_pos g, if_pos ⟨by omega, g.2.1, g.2.2⟩]
        · rw [if_neg g, if_neg (fun z => g ⟨by omega, z.2.1, z.2.2⟩)]
    · rw [if_neg h, ih]
      by_cases g : f < k ∧ j = 3 ∧ mF σ f 2 = 1
      · rw [if_pos g, if_pos ⟨by omega, g.2.1, g.2.2⟩]
      · rw [if_neg g, if_neg (fun z => g ⟨by
          by_cases e : f = k
          · subst e
            exact absurd z.2.2 h
          · omega, z.2.1, z.2.2⟩)]
/-- the record when all is noted -/
def ndU (σ : mS) (x : Nat) (s : xSt) : xSt := if nwB σ x (mu σ) = true then sI (sU (sI (ndR σ x s (mn σ)) 5 (nI x)) (upd s.2.2.2.2.2 (mu σ) (nI x))) 6 (nI (mu σ + 1)) else sI (ndR σ x s (mn σ)) 5 (nI x)
theorem ndU_rp {σ : mS} (hw : wf σ) {s : xSt} (hs : rpS σ s) (x : Nat) : rpS (ndS σ x) (ndU σ x s) ∧ (ndU σ x s).1 8 = s.1 8 := by
  obtain ⟨r0, r1, r2, r3, r4, r5, r6, r7, r8, r9⟩ := hs
  obtain ⟨a, b⟩ := ndR_k σ x s (mn σ)
  have c := fun f j => ndR_F σ x s f j (mn σ)
  have w4 := hw.2.2.2.1
  unfold ndU
  generalize ndR σ x s (mn σ) = t at *
  have hF : ∀ f j, f < 4 → j < 4 → t.2.1 f j = nI (mF (ndS σ x) f j) := by
    intro f j hf hj
    rw [c f j]
    show _ = nI (if j = 3 ∧ mF σ f 2 = 1 then mF σ f 3 ||| 2 ^ vl x f else mF σ f j)
    by_cases g : j = 3 ∧ mF σ f 2 = 1
    · have hfn : f < mn σ := by
        apply Nat.lt_of_not_le
        intro h
        have := (w4 f hf h).1 2 (by omega)
        omega
      rw [if_pos ⟨hfn, g⟩, if_pos g]
    · rw [if_neg (fun z => g z.2), if_neg g]
      exact r1 f j hf hj
  by_cases hn : nwB σ x (mu σ) = true
  · rw [if_pos hn]
    have hu : ∀ k, k ≠ 5 → k ≠ 6 → (sI (sU (sI t 5 (nI x)) (upd s.2.2.2.2.2 (mu σ) (nI x))) 6 (nI (mu σ + 1))).1 k = s.1 k := fun k h5 h6 => by
      show upd (upd t.1 5 (nI x)) 6 (nI (mu σ + 1)) k = _
      rw [u_n _ _ h6, u_n _ _ h5, a]
    refine ⟨⟨?_, hF, fun f v hf hv => ?_, fun p hp1 => ?_, ?_, fun k i hk hi => ?_, fun k hk => ?_, ?_, ?_, fun i hi => ?_⟩, hu 8 (by omega) (by omega)⟩
    · rw [hu 0 (by omega) (by omega)]; exact r0
    · show t.2.2.1 f v = _
      rw [b]; exact r2 f v hf hv
    · show t.2.2.2.1 p = _
      rw [b]; exact r3 p hp1
    · rw [hu 3 (by omega) (by omega)]; exact r4
    · show t.2.2.2.2.1 k i = _
      rw [b]; exact r5 k i hk hi
    · show t.2.2.2.2.1 k 4 = _
      rw [b]; exact r6 k hk
    · show upd (upd t.1 5 (nI x)) 6 (nI (mu σ + 1)) 5 = rI (x + 1)
      rw [u_n _ _ (by omega), u_s, rI_succ]
    · show upd (upd t.1 5 (nI x)) 6 (nI (mu σ + 1)) 6 = nI (if nwB σ x (mu σ) = true then mu σ + 1 else mu σ)
      rw [u_s, if_pos hn]
    · have hi : i < (if nwB σ x (mu σ) = true then mu σ + 1 else mu σ) := hi
      rw [if_pos hn] at hi
      show upd s.2.2.2.2.2 (mu σ) (nI x) i = nI ((if nwB σ x (mu σ) = true then (fun i => if i = mu σ then x else mU σ i) else mU σ) i)
      rw [if_pos hn]
      by_cases e : i = mu σ
      · rw [e, u_s, if_pos rfl]
      · rw [u_n _ _ e, if_neg e]
        exact r9 i (by omega)
  · rw [if_neg hn]
    have hu : ∀ k, k ≠ 5 → (sI t 5 (nI x)).1 k = s.1 k := fun k h5 => by
      show upd t.1 5 (nI x) k = _
      rw [u_n _ _ h5, a]
    refine ⟨⟨?_, hF, fun f v hf hv => ?_, fun p hp1 => ?_, ?_, fun k i hk hi => ?_, fun k hk => ?_, ?_, ?_, fun i hi => ?_⟩, hu 8 (by omega)⟩
    · rw [hu 0 (by omega)]; exact r0
    · show t.2.2.1 f v = _
      rw [b]; exact r2 f v hf hv
    · show t.2.2.2.1 p = _
      rw [b]; exact r3 p hp1
    · rw [hu 3 (by omega)]; exact r4
    · show t.2.2.2.2.1 k i = _
      rw [b]; exact r5 k i hk hi
    · show t.2.2.2.2.1 k 4 = _
      rw [b]; exact r6 k hk
    · rw [sI_s]
      exact (rI_succ x).symm
    · rw [hu 6 (by omega), r8]
      show _ = nI (if nwB σ x (mu σ) = true then mu σ + 1 else mu σ)
      rw [if_neg hn]
    · have hi : i < (if nwB σ x (mu σ) = true then mu σ + 1 else mu σ) := hi
      rw [if_neg hn] at hi
      show t.2.2.2.2.2 i = nI ((if nwB σ x (mu σ) = true then (fun i => if i = mu σ then x else mU σ i) else mU σ) i)
      rw [if_neg hn, b]
      exact r9 i hi
section
variable {q : Nat × (Nat → Int32)} {S : Nat → xSt} {P : Int32 × (Nat → Nat)} {A : (Nat → Int64) × Int32 × Int32 × (Nat → Int64) × (Nat → Nat → Int64)} {D : (Nat → Int64) × Int64} {K : Nat → Int64} {X : Int32 × Int32 × Int32 × (Nat → Int32) × (Nat → Int32)} {E Z : Nat → Int32} {I : Nat → Int32} {J : Nat → Int64} {V : Nat → Nat → Int32}
set_option maxRecDepth 100000 in
theorem c_nd_2 {σ : mS} (hw : wf σ) (hs : rpS σ (S 0)) {x : Nat} (hx : x < 4096) : den 55 2 [some (.ref 3), some (.int (nI x)), some (.int (nI 0))] [] (hp q S P A D K X E Z I J V) = den 55 50 [some (.ref 3), some (.int (nI x)), some (.int (nI (mn σ)))] [] (hp q (vf_upd S 0 (ndR σ x (S 0) (mn σ))) P A D K X E Z I J V) := by
  have w1 := hw.1
  have hl := x_loop (i := 55) (pc := 2) (fun k => [some (.ref 3), some (.int (nI x)), some (.int (nI k))]) (fun k => (hp q (vf_upd S 0 (ndR σ x (S 0) k)) P A D K X E Z I J V)) (mn σ) (fun k hk => by
    have h1 : ¬ mn σ ≤ k := by omega
    have hk4 : k < 4 := by omega
    obtain ⟨a, b⟩ := ndR_k σ x (S 0) k
    have r0 : (ndR σ x (S 0) k).1 0 = nI (mn σ) := by rw [a]; exact hs.1
    have r2 : (ndR σ x (S 0) k).2.1 k 2 = nI (mF σ k 2) := by
      rw [ndR_F, if_neg (by omega)]
      exact hs.2.1 k 2 hk4 (by omega)
    have r3 : (ndR σ x (S 0) k).2.1 k 3 = nI (mF σ k 3) := by
      rw [ndR_F, if_neg (by omega)]
      exact hs.2.1 k 3 hk4 (by omega)
    have hv := vl_lt x k
    have ep := n_pow hv
    have f2 := (hw.2.1 k hk4).2.2.1
    rw [D55_2]
    by_cases h : mF σ k 2 = 1
    · have en : ndR σ x (S 0) (k + 1) = sF (ndR σ x (S 0) k) k 3 (nI (mF σ k 3 ||| 2 ^ vl x k)) := by rw [ndR, if_pos h]
      rw [en]
      rw [h] at r2
      generalize ndR σ x (S 0) k = t at *
      simp (maxSteps := 2000000) (disch := omega) only [e_inl, e_goto, e_fall, e_if, e_icmp, e_iret, e_zret, e_lret, e_vret, e_call0_0, e_call0_1, e_call0_2, e_call0_3, e_call0_4, e_call1_0, e_call1_1, e_call1_2, e_call1_3, e_call1_4, e_call2_0, e_call2_1, e_call2_2, e_call2_3, e_call2_4, e_call3_0, e_call3_1, e_call3_2, e_call3_3, e_call3_4, e_call4_0, e_call4_1, e_call4_2, e_call4_3, e_call4_4, e_call5_0, e_call5_1, e_call5_2, e_call5_3, e_call5_4, e_call6_0, e_call6_1, e_call6_2, e_call6_3, e_call6_4, xP, xld, xst1, xst2, xis2, xii, xid, xll, xlv, xls, xlc, xil, xli, xrd, xdup, xdup2, xc1, xpu, c_eq, c_ne, c_lt, c_ge, c_gt, c_le, Option.bind_some, Option.map_some, List.length_nil, List.length_cons, Nat.reduceAdd, Nat.reduceLeDiff, Int.reduceToNat, Bool.and_self, Bool.false_eq_true, if_true, if_false, D55_44, g_S_0, g_S_1, rd0F, g_F_2, g_F_3, p_F_3, vu_s, vu_vu, r0, r2, r3, nI_leI, h1, n_lit, nI_add, not_true_eq_false, c_valueIn, ep, fa_or]
    · have en : ndR σ x (S 0) (k + 1) = ndR σ x (S 0) k := by rw [ndR, if_neg h]
      rw [en]
      generalize ndR σ x (S 0) k = t at *
      simp (maxSteps := 2000000) (disch := omega) only [e_inl, e_goto, e_fall, e_if, e_icmp, e_iret, e_zret, e_lret, e_vret, e_call0_0, e_call0_1, e_call0_2, e_call0_3, e_call0_4, e_call1_0, e_call1_1, e_call1_2, e_call1_3, e_call1_4, e_call2_0, e_call2_1, e_call2_2, e_call2_3, e_call2_4, e_call3_0, e_call3_1, e_call3_2, e_call3_3, e_call3_4, e_call4_0, e_call4_1, e_call4_2, e_call4_3, e_call4_4, e_call5_0, e_call5_1, e_call5_2, e_call5_3, e_call5_4, e_call6_0, e_call6_1, e_call6_2, e_call6_3, e_call6_4, xP, xld, xst1, xst2, xis2, xii, xid, xll, xlv, xls, xlc, xil, xli, xrd, xdup, xdup2, xc1, xpu, c_eq, c_ne, c_lt, c_ge, c_gt, c_le, Option.bind_some, Option.map_some, List.length_nil, List.length_cons, Nat.reduceAdd, Nat.reduceLeDiff, Int.reduceToNat, Bool.and_self, Bool.false_eq_true, if_true, if_false, D55_44, g_S_0, g_S_1, rd0F, g_F_2, vu_s, r0, r2, nI_leI, h1, n_lit, nI_add, nI_eq, h, not_false_eq_true])
  have e0 : ndR σ x (S 0) 0 = S 0 := rfl
  rw [e0, vu_id] at hl
  rw [hl, D55_2]
  have r0 : (ndR σ x (S 0) (mn σ)).1 0 = nI (mn σ) := by rw [(ndR_k σ x (S 0) (mn σ)).1]; exact hs.1
  generalize ndR σ x (S 0) (mn σ) = t at *
  simp (maxSteps := 2000000) (disch := omega) only [e_inl, e_goto, e_fall, e_if, e_icmp, e_iret, e_zret, e_lret, e_vret, e_call0_0, e_call0_1, e_call0_2, e_call0_3, e_call0_4, e_call1_0, e_call1_1, e_call1_2, e_call1_3, e_call1_4, e_call2_0, e_call2_1, e_call2_2, e_call2_3, e_call2_4, e_call3_0, e_call3_1, e_call3_2, e_call3_3, e_call3_4, e_call4_0, e_call4_1, e_call4_2, e_call4_3, e_call4_4, e_call5_0, e_call5_1, e_call5_2, e_call5_3, e_call5_4, e_call6_0, e_call6_1, e_call6_2, e_call6_3, e_call6_4, xP, xld, xst1, xst2, xis2, xii, xid, xll, xlv, xls, xlc, xil, xli, xrd, xdup, xdup2, xc1, xpu, c_eq, c_ne, c_lt, c_ge, c_gt, c_le, Option.bind_some, Option.map_some, List.length_nil, List.length_cons, Nat.reduceAdd, Nat.reduceLeDiff, Int.reduceToNat, Bool.and_self, Bool.false_eq_true, if_true, if_false, g_S_0, vu_s, r0, nI_leI, Nat.le_refl]
set_option maxRecDepth 100000 in
theorem c_nd_57 {n x : Nat} (hn : n ≤ 16) (hx : x < 4096) {g : Nat → Nat} (hg : ∀ i, i < n → g i < 4096) (r6 : (S 0).1 6 = nI n) (rU : ∀ i, i < n → (S 0).2.2.2.2.2 i = nI (g i)) : den 55 57 [some (.ref 3), some (.int (nI x)), some (.int (nI 0))] [] (hp q S P A D K X E Z I J V) = if exB (fun i => decide (g i = x)) n = true then some (none, (hp q S P A D K X E Z I J V)) else den 55 82 [some (.ref 3), some (.int (nI x)), some (.int (nI n))] [] (hp q S P A D K X E Z I J V) := by
  have er : ∀ i, i < n → xiald (hp q S P A D K X E Z I J V) 7 (nI i) = some (.int (nI (g i))) := fun i hi => by rw [r_unlike, if_pos (x_in (by omega) (by omega)), nI_clamp (by omega), rU i hi]
  have hl := fun (k : Nat) (hk : k ≤ fa_first (fun i => decide (g i = x)) n) => x_loop (i := 55) (pc := 57) (fun k => [some (.ref 3), some (.int (nI x)), some (.int (nI k))]) (fun _ => (hp q S P A D K X E Z I J V)) k (fun i hi => by
    have hle := fa_first_le (fun i => decide (g i = x)) n
    have h1 : ¬ n ≤ i := by omega
    have hi2 : i < n := by omega
    have h2 : ¬ g i = x := of_decide_eq_false (fa_first_no (fun i => decide (g i = x)) n i (by omega))
    have h3 := hg i hi2
    have h4 := er i hi2
    rw [D55_57]
    simp (maxSteps := 2000000) (disch := omega) only [e_inl, e_goto, e_fall, e_if, e_icmp, e_iret, e_zret, e_lret, e_vret, e_call0_0, e_call0_1, e_call0_2, e_call0_3, e_call0_4, e_call1_0, e_call1_1, e_call1_2, e_call1_3, e_call1_4, e_call2_0, e_call2_1, e_call2_2, e_call2_3, e_call2_4, e_call3_0, e_call3_1, e_call3_2, e_call3_3, e_call3_4, e_call4_0, e_call4_1, e_call4_2, e_call4_3, e_call4_4, e_call5_0, e_call5_1, e_call5_2, e_call5_3, e_call5_4, e_call6_0, e_call6_1, e_call6_2, e_call6_3, e_call6_4, xP, xld, xst1, xst2, xis2, xii, xid, xll, xlv, xls, xlc, xil, xli, xrd, xdup, xdup2, xc1, xpu, c_eq, c_ne, c_lt, c_ge, c_gt, c_le, Option.bind_some, Option.map_some, List.length_nil, List.length_cons, Nat.reduceAdd, Nat.reduceLeDiff, Int.reduceToNat, Bool.and_self, Bool.false_eq_true, if_true, if_false, D55_76, g_S_6, g_S_7, r6, nI_leI, h1, h4, nI_eq, h2, not_false_eq_true, n_lit, nI_add])
  by_cases he : exB (fun i => decide (g i = x)) n = true
  · rw [if_pos he]
    have hlt : fa_first (fun i => decide (g i = x)) n < n := by
      apply Nat.lt_of_not_le
      intro h
      obtain ⟨i, hi, hb⟩ := (exB_iff _ _).mp he
      have := fa_first_no (fun i => decide (g i = x)) n i (by omega)
      rw [hb] at this
      cases this
    have hy := of_decide_eq_true (fa_first_yes (fun i => decide (g i = x)) n hlt)
    rw [hl _ (Nat.le_refl _), D55_57]
    generalize fa_first (fun i => decide (g i = x)) n = i0 at *
    have h1 : ¬ n ≤ i0 := by omega
    have h4 := er i0 hlt
    rw [hy] at h4
    simp (maxSteps := 2000000) (disch := omega) only [e_inl, e_goto, e_fall, e_if, e_icmp, e_iret, e_zret, e_lret, e_vret, e_call0_0, e_call0_1, e_call0_2, e_call0_3, e_call0_4, e_call1_0, e_call1_1, e_call1_2, e_call1_3, e_call1_4, e_call2_0, e_call2_1, e_call2_2, e_call2_3, e_call2_4, e_call3_0, e_call3_1, e_call3_2, e_call3_3, e_call3_4, e_call4_0, e_call4_1, e_call4_2, e_call4_3, e_call4_4, e_call5_0, e_call5_1, e_call5_2, e_call5_3, e_call5_4, e_call6_0, e_call6_1, e_call6_2, e_call6_3, e_call6_4, xP, xld, xst1, xst2, xis2, xii, xid, xll, xlv, xls, xlc, xil, xli, xrd, xdup, xdup2, xc1, xpu, c_eq, c_ne, c_lt, c_ge, c_gt, c_le, Option.bind_some, Option.map_some, List.length_nil, List.length_cons, Nat.reduceAdd, Nat.reduceLeDiff, Int.reduceToNat, Bool.and_self, Bool.false_eq_true, if_true, if_false, g_S_6, g_S_7, r6, nI_leI, h1, h4, not_true_eq_false]
  · rw [if_neg he]
    have hge : fa_first (fun i => decide (g i = x)) n = n := by
      have hle := fa_first_le (fun i => decide (g i = x)) n
      apply Nat.le_antisymm hle
      apply Nat.le_of_not_lt
      intro hlt
      have hy := fa_first_yes (fun i => decide (g i = x)) n hlt
      exact he ((exB_iff _ _).mpr ⟨_, hlt, hy⟩)
    rw [hl n (by omega), D55_57]
    simp (maxSteps := 2000000) (disch := omega) only [e_inl, e_goto, e_fall, e_if, e_icmp, e_iret, e_zret, e_lret, e_vret, e_call0_0, e_call0_1, e_call0_2, e_call0_3, e_call0_4, e_call1_0, e_call1_1, e_call1_2, e_call1_3, e_call1_4, e_call2_0, e_call2_1, e_call2_2, e_call2_3, e_call2_4, e_call3_0, e_call3_1, e_call3_2, e_call3_3, e_call3_4, e_call4_0, e_call4_1, e_call4_2, e_call4_3, e_call4_4, e_call5_0, e_call5_1, e_call5_2, e_call5_3, e_call5_4, e_call6_0, e_call6_1, e_call6_2, e_call6_3, e_call6_4, xP, xld, xst1, xst2, xis2, xii, xid, xll, xlv, xls, xlc, xil, xli, xrd, xdup, xdup2, xc1, xpu, c_eq, c_ne, c_lt, c_ge, c_gt, c_le, Option.bind_some, Option.map_some, List.length_nil, List.length_cons, Nat.reduceAdd, Nat.reduceLeDiff, Int.reduceToNat, Bool.and_self, Bool.false_eq_true, if_true, if_false, g_S_6, r6, nI_leI, Nat.le_refl]
set_option maxRecDepth 100000 in
theorem c_nd_82 {n x : Nat} (hn : n ≤ 16) (r6 : (S 0).1 6 = nI n) {z : Option Value} : den 55 82 [some (.ref 3), some (.int (nI x)), z] [] (hp q S P A D K X E Z I J V) = some (none, (hp q (vf_upd S 0 (if n < 16 then sI (sU (S 0) (upd (S 0).2.2.2.2.2 n (nI x))) 6 (nI (n + 1)) else S 0)) P A D K X E Z I J V)) := by
  rw [D55_82]
  by_cases h : n < 16
  · have h1 : ¬ 16 ≤ n := by omega
    have es : xiast (hp q S P A D K X E Z I J V) 7 (nI n) (nI x) = some (hp q (vf_upd S 0 (sU (S 0) (upd (S 0).2.2.2.2.2 n (nI x)))) P A D K X E Z I J V) := by rw [s_unlike, if_pos ⟨x_in h (by omega), by omega⟩, nI_clamp (by omega)]
    have r6' : (sU (S 0) (upd (S 0).2.2.2.2.2 n (nI x))).1 6 = nI n := r6
    rw [if_pos h]
    generalize sU (S 0) (upd (S 0).2.2.2.2.2 n (nI x)) = t at *
    simp (maxSteps := 2000000) (disch := omega) only [e_inl, e_goto, e_fall, e_if, e_icmp, e_iret, e_zret, e_lret, e_vret, e_call0_0, e_call0_1, e_call0_2, e_call0_3, e_call0_4, e_call1_0, e_call1_1, e_call1_2, e_call1_3, e_call1_4, e_call2_0, e_call2_1, e_call2_2, e_call2_3, e_call2_4, e_call3_0, e_call3_1, e_call3_2, e_call3_3, e_call3_4, e_call4_0, e_call4_1, e_call4_2, e_call4_3, e_call4_4, e_call5_0, e_call5_1, e_call5_2, e_call5_3, e_call5_4, e_call6_0, e_call6_1, e_call6_2, e_call6_3, e_call6_4, xP, xld, xst1, xst2, xis2, xii, xid, xll, xlv, xls, xlc, xil, xli, xrd, xdup, xdup2, xc1, xpu, c_eq, c_ne, c_lt, c_ge, c_gt, c_le, Option.bind_some, Option.map_some, List.length_nil, List.length_cons, Nat.reduceAdd, Nat.reduceLeDiff, Int.reduceToNat, Bool.and_self, Bool.false_eq_true, if_true, if_false, D55_111, g_S_6, g_S_7, p_S_6, vu_s, vu_vu, r6, r6', nI_leI, h1, es, n_lit, nI_add]
  · have h1 : 16 ≤ n := by omega
    rw [if_neg h, vu_id]
    simp (maxSteps := 2000000) (disch := omega) only [e_inl, e_goto, e_fall, e_if, e_icmp, e_iret, e_zret, e_lret, e_vret, e_call0_0, e_call0_1, e_call0_2, e_call0_3, e_call0_4, e_call1_0, e_call1_1, e_call1_2, e_call1_3, e_call1_4, e_call2_0, e_call2_1, e_call2_2, e_call2_3, e_call2_4, e_call3_0, e_call3_1, e_call3_2, e_call3_3, e_call3_4, e_call4_0, e_call4_1, e_call4_2, e_call4_3, e_call4_4, e_call5_0, e_call5_1, e_call5_2, e_call5_3, e_call5_4, e_call6_0, e_call6_1, e_call6_2, e_call6_3, e_call6_4, xP, xld, xst1, xst2, xis2, xii, xid, xll, xlv, xls, xlc, xil, xli, xrd, xdup, xdup2, xc1, xpu, c_eq, c_ne, c_lt, c_ge, c_gt, c_le, Option.bind_some, Option.map_some, List.length_nil, List.length_cons, Nat.reduceAdd, Nat.reduceLeDiff, Int.reduceToNat, Bool.and_self, Bool.false_eq_true, if_true, if_false, D55_111, g_S_6, r6, nI_leI, h1, n_lit]
set_option maxRecDepth 100000 in
theorem c_noteDraw {σ : mS} (hw : wf σ) (hs : rpS σ (S 0)) {x : Nat} (hx : x < 4096) : ∃ u : xSt, xcall 55 [.ref 3, .int (nI x)] (hp q S P A D K X E Z I J V) = some (none, (hp q (vf_upd S 0 u) P A D K X E Z I J V)) ∧ rpS (ndS σ x) u ∧ u.1 8 = (S 0).1 8 := by
  obtain ⟨h1, h2⟩ := ndU_rp hw hs x
  refine ⟨ndU σ x (S 0), ?_, h1, h2⟩
  have w10 := hw.2.2.2.2.2.2.2.2.2.1
  have w11 := hw.2.2.2.2.2.2.2.2.2.2
  have e2 := c_nd_2 (q := q) (S := S) (P := P) (A := A) (D := D) (K := K) (X := X) (E := E) (Z := Z) (I := I) (J := J) (V := V) hw hs hx
  obtain ⟨a, b⟩ := ndR_k σ x (S 0) (mn σ)
  rw [N55 _ _ _ (o_S ..), D55_0]
  simp (maxSteps := 2000000) (disch := omega) only [e_inl, e_goto, e_fall, e_if, e_icmp, e_iret, e_zret, e_lret, e_vret, e_call0_0, e_call0_1, e_call0_2, e_call0_3, e_call0_4, e_call1_0, e_call1_1, e_call1_2, e_call1_3, e_call1_4, e_call2_0, e_call2_1, e_call2_2, e_call2_3, e_call2_4, e_call3_0, e_call3_1, e_call3_2, e_call3_3, e_call3_4, e_call4_0, e_call4_1, e_call4_2, e_call4_3, e_call4_4, e_call5_0, e_call5_1, e_call5_2, e_call5_3, e_call5_4, e_call6_0, e_call6_1, e_call6_2, e_call6_3, e_call6_4, xP, xld, xst1, xst2, xis2, xii, xid, xll, xlv, xls, xlc, xil, xli, xrd, xdup, xdup2, xc1, xpu, c_eq, c_ne, c_lt, c_ge, c_gt, c_le, Option.bind_some, Option.map_some, List.length_nil, List.length_cons, Nat.reduceAdd, Nat.reduceLeDiff, Int.reduceToNat, Bool.and_self, Bool.false_eq_true, if_true, if_false, n_lit]
  rw [e2, D55_50]
  unfold ndU nwB
  generalize ndR σ x (S 0) (mn σ) = t at *
  have r6 : (sI t 5 (nI x)).1 6 = nI (mu σ) := by
    show upd t.1 5 (nI x) 6 = _
    rw [u_n _ _ (by omega), a]
    exact hs.2.2.2.2.2.2.2.2.1
  have rU : (sI t 5 (nI x)).2.2.2.2.2 = (S 0).2.2.2.2.2 := by
    show t.2.2.2.2.2 = _
    rw [b]
  have e57 := c_nd_57 (q := q) (S := vf_upd S 0 (sI t 5 (nI x))) (P := P) (A := A) (D := D) (K := K) (X := X) (E := E) (Z := Z) (I := I) (J := J) (V := V) w10 hx w11 (by rw [vu_s]; exact r6) (fun i hi => by rw [vu_s, rU]; exact hs.2.2.2.2.2.2.2.2.2 i hi)
  have e82 := c_nd_82 (q := q) (S := vf_upd S 0 (sI t 5 (nI x))) (P := P) (A := A) (D := D) (K := K) (X := X) (E := E) (Z := Z) (I := I) (J := J) (V := V) (x := x) (z := some (.int (nI (mu σ)))) w10 (by rw [vu_s]; exact r6)
  rw [vu_vu, vu_s, rU] at e82
  rw [e82] at e57
  simp (maxSteps := 2000000) (disch := omega) only [e_inl, e_goto, e_fall, e_if, e_icmp, e_iret, e_zret, e_lret, e_vret, e_call0_0, e_call0_1, e_call0_2, e_call0_3, e_call0_4, e_call1_0, e_call1_1, e_call1_2, e_call1_3, e_call1_4, e_call2_0, e_call2_1, e_call2_2, e_call2_3, e_call2_4, e_call3_0, e_call3_1, e_call3_2, e_call3_3, e_call3_4, e_call4_0, e_call4_1, e_call4_2, e_call4_3, e_call4_4, e_call5_0, e_call5_1, e_call5_2, e_call5_3, e_call5_4, e_call6_0, e_call6_1, e_call6_2, e_call6_3, e_call6_4, xP, xld, xst1, xst2, xis2, xii, xid, xll, xlv, xls, xlc, xil, xli, xrd, xdup, xdup2, xc1, xpu, c_eq, c_ne, c_lt, c_ge, c_gt, c_le, Option.bind_some, Option.map_some, List.length_nil, List.length_cons, Nat.reduceAdd, Nat.reduceLeDiff, Int.reduceToNat, Bool.and_self, Bool.false_eq_true, if_true, if_false, p_S_5, vu_s, vu_vu, n_lit]
  rw [e57]
  by_cases he : exB (fun i => decide (mU σ i = x)) (mu σ) = true
  · rw [if_pos he, he, Bool.not_true, Bool.and_false, if_neg (by decide)]
  · rw [if_neg he, Bool.eq_false_iff.mpr he, Bool.not_false, Bool.and_true]
    by_cases h16 : mu σ < 16
    · rw [if_pos h16, decide_eq_true h16, if_pos rfl]
    · rw [if_neg h16, decide_eq_false h16, if_neg (by decide)]
end
