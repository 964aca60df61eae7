/-! ===== the class: rules dropped, rules told ===== -/
theorem eD_1 (s : xSt) {k : Nat} (h5 : k ≠ 5) (h6 : k ≠ 6) (h8 : k ≠ 8) : (eD s).1 k = s.1 k := by
  unfold eD
  show upd (eF (sI (sI s 5 (Int32.ofInt (-1))) 6 (nI 0)) 4).1 8 (nI 0) k = _
  rw [u_n _ _ h8, (eF_k (sI (sI s 5 (Int32.ofInt (-1))) 6 (nI 0)) 4).1]
  show upd (upd s.1 5 (Int32.ofInt (-1))) 6 (nI 0) k = _
  rw [u_n _ _ h6, u_n _ _ h5]
/-- m rules from k on one nearer -/
def dpR (s : xSt) (k : Nat) : Nat → xSt
  | 0 => s
  | m + 1 => sR (sR (sR (sR (sR (dpR s k m) (k + m) 0 ((dpR s k m).2.2.2.2.1 (k + m + 1) 0)) (k + m) 1 ((dpR s k m).2.2.2.2.1 (k + m + 1) 1)) (k + m) 2 ((dpR s k m).2.2.2.2.1 (k + m + 1) 2)) (k + m) 3 ((dpR s k m).2.2.2.2.1 (k + m + 1) 3)) (k + m) 4 ((dpR s k m).2.2.2.2.1 (k + m + 1) 4)
theorem sR_R (s : xSt) (k i : Nat) (x : Int32) (g j : Nat) : (sR s k i x).2.2.2.2.1 g j = if g = k ∧ j = i then x else s.2.2.2.2.1 g j := by
  show vf_upd s.2.2.2.2.1 k (upd (s.2.2.2.2.1 k) i x) g j = _
  by_cases e : g = k
  · subst e
    rw [vu_s]
    by_cases e2 : j = i
    · subst e2
      rw [u_s, if_pos ⟨rfl, rfl⟩]
    · rw [u_n _ _ e2, if_neg (fun z => e2 z.2)]
  · rw [vu_n _ _ e, if_neg (fun z => e z.1)]
theorem dpR_keep (s : xSt) (k : Nat) : ∀ m, (dpR s k m).1 = s.1 ∧ (dpR s k m).2.1 = s.2.1 ∧ (dpR s k m).2.2.1 = s.2.2.1 ∧ (dpR s k m).2.2.2.1 = s.2.2.2.1
  | 0 => ⟨rfl, rfl, rfl, rfl⟩
  | m + 1 => ⟨(dpR_keep s k m).1, (dpR_keep s k m).2.1, (dpR_keep s k m).2.2.1, (dpR_keep s k m).2.2.2⟩
theorem dpR_at (s : xSt) (k : Nat) {g j : Nat} (hj : j < 5) : ∀ m, (dpR s k m).2.2.2.2.1 g j = if k ≤ g ∧ g < k + m then s.2.2.2.2.1 (g + 1) j else s.2.2.2.2.1 g j
  | 0 => by
    rw [if_neg (by omega)]
    rfl
  | m + 1 => by
    have ih := dpR_at s k (g := g) hj m
    have ih2 : ∀ c, c < 5 → (dpR s k m).2.2.2.2.1 (k + m + 1) c = s.2.2.2.2.1 (k + m + 1) c := fun c hc => by
      rw [dpR_at s k (g := k + m + 1) hc m, if_neg (by omega)]
    rw [dpR, sR_R, sR_R, sR_R, sR_R, sR_R, ih2 0 (by omega), ih2 1 (by omega), ih2 2 (by omega), ih2 3 (by omega), ih2 4 (by omega)]
    by_cases e : g = k + m
    · subst e
      rw [if_pos (show k ≤ k + m ∧ k + m < k + (m + 1) by omega)]
      match j, hj with
      | 0, _ => rw [if_neg (by omega), if_neg (by omega), if_neg (by omega), if_neg (by omega), if_pos ⟨rfl, rfl⟩]
      | 1, _ => rw [if_neg (by omega), if_neg (by omega), if_neg (by omega), if_pos ⟨rfl, rfl⟩]
      | 2, _ => rw [if_neg (by omega), if_neg (by omega), if_pos ⟨rfl, rfl⟩]
      | 3, _ => rw [if_neg (by omega), if_pos ⟨rfl, rfl⟩]
      | 4, _ => rw [if_pos ⟨rfl, rfl⟩]
    · rw [if_neg (fun z => e z.1), if_neg (fun z => e z.1), if_neg (fun z => e z.1), if_neg (fun z => e z.1), if_neg (fun z => e z.1), ih]
      by_cases h2 : k ≤ g ∧ g < k + m
      · rw [if_pos h2, if_pos (by omega)]
      · rw [if_neg h2, if_neg (by omega)]
theorem dp_rs {σ : mS} {s : xSt} (h : rpS σ s) {k : Nat} (hk : k < mK σ) : rpSB (mn σ, mF σ, mW σ, mO σ, mK σ - 1, fun i j => if i < k then mR σ i j else mR σ (i + 1) j, σ.2.2.2.2.2.2) (dpR (sI s 3 (nI (mK σ - 1))) k (mK σ - 1 - k)) := by
  obtain ⟨r0, r1, r2, r3, r4, r5, r6⟩ := h.B
  obtain ⟨a, b, c, d⟩ := dpR_keep (sI s 3 (nI (mK σ - 1))) k (mK σ - 1 - k)
  have ht := fun g j (hj : j < 5) => dpR_at (sI s 3 (nI (mK σ - 1))) k (g := g) hj (mK σ - 1 - k)
  generalize dpR (sI s 3 (nI (mK σ - 1))) k (mK σ - 1 - k) = t at *
  refine ⟨?_, fun g j hg hj => ?_, fun g u hg hu => ?_, fun p hp1 => ?_, ?_, fun g i hg hi => ?_, fun g hg => ?_⟩
  · rw [a]
    show upd s.1 3 (nI (mK σ - 1)) 0 = _
    rw [u_n _ _ (by omega)]
    exact r0
  · rw [b]; exact r1 g j hg hj
  · rw [c]; exact r2 g u hg hu
  · rw [d]; exact r3 p hp1
  · rw [a]; exact sI_s _ _ _
  · have hg : g < mK σ - 1 := hg
    rw [ht g i (by omega)]
    show _ = nI (if g < k then mR σ g i else mR σ (g + 1) i)
    by_cases e : g < k
    · rw [if_neg (by omega), if_pos e]
      exact r5 g i (by omega) hi
    · rw [if_pos (by omega), if_neg e]
      exact r5 (g + 1) i (by omega) hi
  · have hg : g < mK σ - 1 := hg
    rw [ht g 4 (by omega)]
    show _ = rI (if g < k then mR σ g 4 else mR σ (g + 1) 4)
    by_cases e : g < k
    · rw [if_neg (by omega), if_pos e]
      exact r6 g (by omega)
    · rw [if_pos (by omega), if_neg e]
      exact r6 (g + 1) (by omega)
section
variable {q : Nat × (Nat → Int32)} {S : Nat → xSt} {P : Int32 × (Nat → Nat)} {A : (Nat → Int64) × Int32 × Int32 × (Nat → Int64) × (Nat → Nat → Int64)} {D : (Nat → Int64) × Int64} {K : Nat → Int64} {X : Int32 × Int32 × Int32 × (Nat → Int32) × (Nat → Int32)} {E Z : Nat → Int32} {I : Nat → Int32} {J : Nat → Int64} {V : Nat → Nat → Int32}
set_option maxRecDepth 100000 in
theorem c_rb0 {k : Nat} (hk : k < 7) : xcall 40 [.ref (16 + k), .ref (16 + (k + 1))] (hp q S P A D K X E Z I J V) = some (none, (hp q (vf_upd S 0 (sR (sR (sR (sR (sR (S 0) k 0 ((S 0).2.2.2.2.1 (k + 1) 0)) k 1 ((S 0).2.2.2.2.1 (k + 1) 1)) k 2 ((S 0).2.2.2.2.1 (k + 1) 2)) k 3 ((S 0).2.2.2.2.1 (k + 1) 3)) k 4 ((S 0).2.2.2.2.1 (k + 1) 4))) P A D K X E Z I J V)) := by
  obtain ⟨s, e, e2⟩ := c_rb_0 (q := q) (S := S) (P := P) (A := A) (D := D) (K := K) (X := X) (E := E) (Z := Z) (I := I) (J := J) (V := V) (i := 0) (j := 0) (a := k + 1) (k := k) (by omega) (by omega) (Or.inr (by omega)) (by omega) (by omega)
  rw [← e2]
  have h3 : sb 0 = 3 := rfl
  rw [h3] at e
  exact e
set_option maxRecDepth 100000 in
theorem c_dropRule {n k : Nat} (hn : n ≤ 8) (hk : k < n) (h3 : (S 0).1 3 = nI n) : xcall 50 [.ref 3, .int (nI k)] (hp q S P A D K X E Z I J V) = some (some (.int (nI (n - 1))), (hp q (vf_upd S 0 (eD (dpR (sI (S 0) 3 (nI (n - 1))) k (n - 1 - k)))) P A D K X E Z I J V)) := by
  rw [N50 _ _ _ (o_S ..), D50_0]
  simp (maxSteps := 2000000) (disch := omega) only [e_inl, e_goto, e_fall, e_if, e_icmp, e_iret, e_zret, e_lret, e_vret, e_call0_0, e_call0_1, e_call0_2, e_call0_3, e_call0_4, e_call1_0, e_call1_1, e_call1_2, e_call1_3, e_call1_4, e_call2_0, e_call2_1, e_call2_2, e_call2_3, e_call2_4, e_call3_0, e_call3_1, e_call3_2, e_call3_3, e_call3_4, e_call4_0, e_call4_1, e_call4_2, e_call4_3, e_call4_4, e_call5_0, e_call5_1, e_call5_2, e_call5_3, e_call5_4, e_call6_0, e_call6_1, e_call6_2, e_call6_3, e_call6_4, xP, xld, xst1, xst2, xis2, xii, xid, xll, xlv, xls, xlc, xil, xli, xrd, xdup, xdup2, xc1, xpu, c_eq, c_ne, c_lt, c_ge, c_gt, c_le, Option.bind_some, Option.map_some, List.length_nil, List.length_cons, Nat.reduceAdd, Nat.reduceLeDiff, Int.reduceToNat, Bool.and_self, Bool.false_eq_true, if_true, if_false, g_x_0, g_x_1, g_x_2, g_x_3, g_x_4, g_x_5, g_x_6, g_x_7, g_S_0, g_S_1, g_S_2, g_S_3, g_S_4, g_S_5, g_S_6, g_S_7, g_S_8, p_S_0, p_S_3, p_S_5, p_S_6, p_S_8_0, p_S_8_1, r_order, s_order, r_unlike, s_unlike, g_F_0, g_F_1, g_F_2, g_F_3, g_F_4, p_F_0, p_F_1, p_F_2, p_F_3, r_W, s_W, g_R_0, g_R_1, g_R_2, g_R_3, g_R_4, p_R_0, p_R_1, p_R_2, p_R_3, p_R_4, rd0F, rd0R, r_refusals, s_refusals, n_lit, n_sub, h3]
  have h3k : ∀ m, (dpR (sI (S 0) 3 (nI (n - 1))) k m).1 3 = nI (n - 1) := fun m => by rw [(dpR_keep _ k m).1]; exact sI_s _ _ _
  have hl := x_loop (i := 50) (pc := 12) (fun m => [some (.ref 3), some (.int (nI k)), some (.int (nI (k + m)))]) (fun m => (hp q (vf_upd S 0 (dpR (sI (S 0) 3 (nI (n - 1))) k m)) P A D K X E Z I J V)) (n - 1 - k) (fun m hm => by
    rw [D50_12]
    have h1 : ¬ n - 1 ≤ k + m := by omega
    have e3 := h3k m
    have eb := c_rb0 (q := q) (S := vf_upd S 0 (dpR (sI (S 0) 3 (nI (n - 1))) k m)) (P := P) (A := A) (D := D) (K := K) (X := X) (E := E) (Z := Z) (I := I) (J := J) (V := V) (k := k + m) (by omega)
    rw [vu_s, vu_vu] at eb
    have ea : k + (m + 1) = k + m + 1 := rfl
    rw [dpR, ea]
    simp (maxSteps := 2000000) (disch := omega) only [e_inl, e_goto, e_fall, e_if, e_icmp, e_iret, e_zret, e_lret, e_vret, e_call0_0, e_call0_1, e_call0_2, e_call0_3, e_call0_4, e_call1_0, e_call1_1, e_call1_2, e_call1_3, e_call1_4, e_call2_0, e_call2_1, e_call2_2, e_call2_3, e_call2_4, e_call3_0, e_call3_1, e_call3_2, e_call3_3, e_call3_4, e_call4_0, e_call4_1, e_call4_2, e_call4_3, e_call4_4, e_call5_0, e_call5_1, e_call5_2, e_call5_3, e_call5_4, e_call6_0, e_call6_1, e_call6_2, e_call6_3, e_call6_4, xP, xld, xst1, xst2, xis2, xii, xid, xll, xlv, xls, xlc, xil, xli, xrd, xdup, xdup2, xc1, xpu, c_eq, c_ne, c_lt, c_ge, c_gt, c_le, Option.bind_some, Option.map_some, List.length_nil, List.length_cons, Nat.reduceAdd, Nat.reduceLeDiff, Int.reduceToNat, Bool.and_self, Bool.false_eq_true, if_true, if_false, g_x_0, g_x_1, g_x_2, g_x_3, g_x_4, g_x_5, g_x_6, g_x_7, g_S_0, g_S_1, g_S_2, g_S_3, g_S_4, g_S_5, g_S_6, g_S_7, g_S_8, p_S_0, p_S_3, p_S_5, p_S_6, p_S_8_0, p_S_8_1, r_order, s_order, r_unlike, s_unlike, g_F_0, g_F_1, g_F_2, g_F_3, g_F_4, p_F_0, p_F_1, p_F_2, p_F_3, r_W, s_W, g_R_0, g_R_1, g_R_2, g_R_3, g_R_4, p_R_0, p_R_1, p_R_2, p_R_3, p_R_4, rd0F, rd0R, r_refusals, s_refusals, n_lit, nI_leI, nI_add, h1, vu_s, e3, eb])
  have e0 : dpR (sI (S 0) 3 (nI (n - 1))) k 0 = sI (S 0) 3 (nI (n - 1)) := rfl
  rw [e0, Nat.add_zero] at hl
  have e3 := h3k (n - 1 - k)
  rw [hl, show k + (n - 1 - k) = n - 1 by omega, D50_12]
  have e8 : (eD (dpR (sI (S 0) 3 (nI (n - 1))) k (n - 1 - k))).1 3 = nI (n - 1) := by
    rw [eD_1 _ (by omega) (by omega) (by omega)]
    exact e3
  simp (maxSteps := 2000000) (disch := omega) only [e_inl, e_goto, e_fall, e_if, e_icmp, e_iret, e_zret, e_lret, e_vret, e_call0_0, e_call0_1, e_call0_2, e_call0_3, e_call0_4, e_call1_0, e_call1_1, e_call1_2, e_call1_3, e_call1_4, e_call2_0, e_call2_1, e_call2_2, e_call2_3, e_call2_4, e_call3_0, e_call3_1, e_call3_2, e_call3_3, e_call3_4, e_call4_0, e_call4_1, e_call4_2, e_call4_3, e_call4_4, e_call5_0, e_call5_1, e_call5_2, e_call5_3, e_call5_4, e_call6_0, e_call6_1, e_call6_2, e_call6_3, e_call6_4, xP, xld, xst1, xst2, xis2, xii, xid, xll, xlv, xls, xlc, xil, xli, xrd, xdup, xdup2, xc1, xpu, c_eq, c_ne, c_lt, c_ge, c_gt, c_le, Option.bind_some, Option.map_some, List.length_nil, List.length_cons, Nat.reduceAdd, Nat.reduceLeDiff, Int.reduceToNat, Bool.and_self, Bool.false_eq_true, if_true, if_false, D50_43, g_x_0, g_x_1, g_x_2, g_x_3, g_x_4, g_x_5, g_x_6, g_x_7, g_S_0, g_S_1, g_S_2, g_S_3, g_S_4, g_S_5, g_S_6, g_S_7, g_S_8, p_S_0, p_S_3, p_S_5, p_S_6, p_S_8_0, p_S_8_1, r_order, s_order, r_unlike, s_unlike, g_F_0, g_F_1, g_F_2, g_F_3, g_F_4, p_F_0, p_F_1, p_F_2, p_F_3, r_W, s_W, g_R_0, g_R_1, g_R_2, g_R_3, g_R_4, p_R_0, p_R_1, p_R_2, p_R_3, p_R_4, rd0F, rd0R, r_refusals, s_refusals, nI_leI, Nat.le_refl, vu_s, vu_vu, e3, c_emptyDrawn, e8]
set_option maxRecDepth 100000 in
theorem c_tryDrop {σ : mS} (hw : wf σ) (hs : rpS σ (S 0)) (k : Int32) : ∃ s : xSt, xcall 106 [.ref 2, .int k] (hp q S P A D K X E Z I J V) = some (some (.int (dX σ k).1), (hp q (vf_upd S 0 s) P A D K X E Z I J V)) ∧ rpS (dX σ k).2 s ∧ (s.1 8 = nI 0 ∨ (s = S 0 ∧ (dX σ k).2 = σ)) := by
  have w7 := hw.2.2.2.2.2.2.1
  have h3 := hs.2.2.2.2.1
  rw [N106 _ _ _ (o_x ..), D106_0]
  unfold dX
  by_cases hok : isF (mK σ) k = true
  · rw [if_pos hok]
    have hok' := hok
    obtain ⟨g, hg, rfl⟩ := isF_of (by omega) hok
    rw [nI_clamp (n := g) (by omega)]
    have ed := c_dropRule (q := q) (S := S) (P := P) (A := A) (D := D) (K := K) (X := X) (E := E) (Z := Z) (I := I) (J := J) (V := V) w7 hg h3
    refine ⟨_, ?_, (eD_rp (dp_rs hs hg)).1, Or.inl (eD_rp (dp_rs hs hg)).2⟩
    simp (maxSteps := 2000000) (disch := omega) only [e_inl, e_goto, e_fall, e_if, e_icmp, e_iret, e_zret, e_lret, e_vret, e_call0_0, e_call0_1, e_call0_2, e_call0_3, e_call0_4, e_call1_0, e_call1_1, e_call1_2, e_call1_3, e_call1_4, e_call2_0, e_call2_1, e_call2_2, e_call2_3, e_call2_4, e_call3_0, e_call3_1, e_call3_2, e_call3_3, e_call3_4, e_call4_0, e_call4_1, e_call4_2, e_call4_3, e_call4_4, e_call5_0, e_call5_1, e_call5_2, e_call5_3, e_call5_4, e_call6_0, e_call6_1, e_call6_2, e_call6_3, e_call6_4, xP, xld, xst1, xst2, xis2, xii, xid, xll, xlv, xls, xlc, xil, xli, xrd, xdup, xdup2, xc1, xpu, c_eq, c_ne, c_lt, c_ge, c_gt, c_le, Option.bind_some, Option.map_some, List.length_nil, List.length_cons, Nat.reduceAdd, Nat.reduceLeDiff, Int.reduceToNat, Bool.and_self, Bool.false_eq_true, if_true, if_false, D106_24, g_x_0, g_x_1, g_x_2, g_x_3, g_x_4, g_x_5, g_x_6, g_x_7, g_S_0, g_S_1, g_S_2, g_S_3, g_S_4, g_S_5, g_S_6, g_S_7, g_S_8, p_S_0, p_S_3, p_S_5, p_S_6, p_S_8_0, p_S_8_1, r_order, s_order, r_unlike, s_unlike, g_F_0, g_F_1, g_F_2, g_F_3, g_F_4, p_F_0, p_F_1, p_F_2, p_F_3, r_W, s_W, g_R_0, g_R_1, g_R_2, g_R_3, g_R_4, p_R_0, p_R_1, p_R_2, p_R_3, p_R_4, rd0F, rd0R, r_refusals, s_refusals, c_hasRule w7 h3, hok', zB_tt, n_0, nI_eq, Nat.one_ne_zero, ed]
  · rw [if_neg hok]
    refine ⟨S 0, ?_, hs, Or.inr ⟨rfl, rfl⟩⟩
    rw [vu_id]
    simp (maxSteps := 2000000) (disch := omega) only [e_inl, e_goto, e_fall, e_if, e_icmp, e_iret, e_zret, e_lret, e_vret, e_call0_0, e_call0_1, e_call0_2, e_call0_3, e_call0_4, e_call1_0, e_call1_1, e_call1_2, e_call1_3, e_call1_4, e_call2_0, e_call2_1, e_call2_2, e_call2_3, e_call2_4, e_call3_0, e_call3_1, e_call3_2, e_call3_3, e_call3_4, e_call4_0, e_call4_1, e_call4_2, e_call4_3, e_call4_4, e_call5_0, e_call5_1, e_call5_2, e_call5_3, e_call5_4, e_call6_0, e_call6_1, e_call6_2, e_call6_3, e_call6_4, xP, xld, xst1, xst2, xis2, xii, xid, xll, xlv, xls, xlc, xil, xli, xrd, xdup, xdup2, xc1, xpu, c_eq, c_ne, c_lt, c_ge, c_gt, c_le, Option.bind_some, Option.map_some, List.length_nil, List.length_cons, Nat.reduceAdd, Nat.reduceLeDiff, Int.reduceToNat, Bool.and_self, Bool.false_eq_true, if_true, if_false, D106_22, D106_24, g_x_0, g_x_1, g_x_2, g_x_3, g_x_4, g_x_5, g_x_6, g_x_7, g_S_0, g_S_1, g_S_2, g_S_3, g_S_4, g_S_5, g_S_6, g_S_7, g_S_8, p_S_0, p_S_3, p_S_5, p_S_6, p_S_8_0, p_S_8_1, r_order, s_order, r_unlike, s_unlike, g_F_0, g_F_1, g_F_2, g_F_3, g_F_4, p_F_0, p_F_1, p_F_2, p_F_3, r_W, s_W, g_R_0, g_R_1, g_R_2, g_R_3, g_R_4, p_R_0, p_R_1, p_R_2, p_R_3, p_R_4, rd0F, rd0R, r_refusals, s_refusals, c_hasRule w7 h3, Bool.eq_false_iff.mpr hok, zB_ff, n_0]
end
