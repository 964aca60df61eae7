/-! ===== the class holds all that is; how a call that leaves a state ends ===== -/
/-- the law holds what follows of a state -/
def LawK (σ : mS) (A : (Nat → Int64) × Int32 × Int32 × (Nat → Int64) × (Nat → Nat → Int64)) : Prop := RS (lawB σ) A.1 ∧ A.2.1 = nI (kpR σ) ∧ A.2.2.1 = nI (coreN σ)
def knS (σ : mS) (s : xSt) (A : (Nat → Int64) × Int32 × Int32 × (Nat → Int64) × (Nat → Nat → Int64)) : Prop := s.1 8 = nI 0 ∨ (s.1 8 = nI 1 ∧ LawK σ A)
def txS (T : tx) (X : Int32 × Int32 × Int32 × (Nat → Int32) × (Nat → Int32)) : Prop := T.1 ≤ 150 ∧ X.1 = nI T.1 ∧ ∀ i, i < T.1 → X.2.2.2.2 i = nI (T.2 i) ∧ T.2 i < 128
def ptS (P : Int32 × (Nat → Nat)) : Prop := (∀ k, k < 5 → 1 ≤ P.2 k ∧ P.2 k < 6) ∧ ∀ i j, i < j → j < 5 → P.2 i ≠ P.2 j
def ClsI (M : mM) (S : Nat → xSt) (P : Int32 × (Nat → Nat)) (A : (Nat → Int64) × Int32 × Int32 × (Nat → Int64) × (Nat → Nat → Int64)) (X : Int32 × Int32 × Int32 × (Nat → Int32) × (Nat → Int32)) (E : Nat → Int32) : Prop := wf M.1 ∧ rpS M.1 (S 0) ∧ knS M.1 (S 0) A ∧ M.2.1 ≤ 4 ∧ P.1 = nI M.2.1 ∧ ptS P ∧ (∀ j, j < M.2.1 → wf (M.2.2.1 j) ∧ rpS (M.2.2.1 j) (S (P.2 j))) ∧ txS M.2.2.2.1 X ∧ ∀ k, k < 3 → E k = M.2.2.2.2 k
theorem sameL.cr {σ σ' : mS} (h : sameL σ σ') : ∀ k, crN σ' k = crN σ k
  | 0 => h.hd
  | k + 1 => by
    rw [crN, crN, h.cr k, h.sm]
theorem sameL.core {σ σ' : mS} (h : sameL σ σ') : coreN σ' = coreN σ := by
  unfold coreN
  rw [h.sm, h.hd, h.cr]
theorem sameL.lawK {σ σ' : mS} (h : sameL σ σ') {A : (Nat → Int64) × Int32 × Int32 × (Nat → Int64) × (Nat → Nat → Int64)} (hA : LawK σ A) : LawK σ' A := by
  unfold LawK at *
  rw [h.law, h.kp, h.core]
  exact hA
theorem ptS.ne {P : Int32 × (Nat → Nat)} (h : ptS P) {i j : Nat} (hi : i < 5) (hj : j < 5) (hne : i ≠ j) : P.2 i ≠ P.2 j := by
  rcases Nat.lt_or_gt_of_ne hne with h1 | h1
  · exact h.2 i j h1 hj
  · exact (h.2 j i h1 hi).symm
theorem ptS.rt {P : Int32 × (Nat → Nat)} (h : ptS P) (x : Int32) : ptS (x, vf_upd (rot P.2 4) 4 (P.2 0)) := by
  have e4 : vf_upd (rot P.2 4) 4 (P.2 0) 4 = P.2 0 := vu_s _ _ _
  have en : ∀ j, j < 4 → vf_upd (rot P.2 4) 4 (P.2 0) j = P.2 (j + 1) := fun j hj => by
    rw [vu_n _ _ (by omega)]
    exact if_pos hj
  refine ⟨fun k hk => ?_, fun i j hij hj => ?_⟩
  · show 1 ≤ vf_upd (rot P.2 4) 4 (P.2 0) k ∧ vf_upd (rot P.2 4) 4 (P.2 0) k < 6
    by_cases e : k = 4
    · rw [e, e4]
      exact h.1 0 (by omega)
    · rw [en k (by omega)]
      exact h.1 (k + 1) (by omega)
  · show vf_upd (rot P.2 4) 4 (P.2 0) i ≠ vf_upd (rot P.2 4) 4 (P.2 0) j
    rw [en i (by omega)]
    by_cases e : j = 4
    · rw [e, e4]
      exact h.ne (by omega) (by omega) (by omega)
    · rw [en j (by omega)]
      exact h.ne (by omega) (by omega) (by omega)
/-- the slots and how many, as they end -/
def enP (P : Int32 × (Nat → Nat)) (n : Nat) (a : Int32) : Int32 × (Nat → Nat) := if 0 ≤ a then (if n < 4 then (nI (n + 1), P.2) else (P.1, vf_upd (rot P.2 4) 4 (P.2 0))) else P
theorem clsFin {M : mM} {d : Int32 × mS} {S : Nat → xSt} {P : Int32 × (Nat → Nat)} {A A' : (Nat → Int64) × Int32 × Int32 × (Nat → Int64) × (Nat → Nat → Int64)} {X X' : Int32 × Int32 × Int32 × (Nat → Int32) × (Nat → Int32)} {E : Nat → Int32} (hI : ClsI M S P A X E) {m s : xSt} (hm : rpS M.1 m) (hw : wf d.2) (hs : rpS d.2 s) (hk : knS d.2 s A') (hX : txS M.2.2.2.1 X') : ClsI (fin M d) (vf_upd (vf_upd S (P.2 M.2.1) m) 0 s) (enP P M.2.1 d.1) A' X' (if 0 ≤ d.1 then E else inc E (ec d.1)) := by
  obtain ⟨i1, i2, i3, i4, i5, i6, i7, i8, i9⟩ := hI
  have hS : ∀ k, k < 5 → vf_upd (vf_upd S (P.2 M.2.1) m) 0 s (P.2 k) = if k = M.2.1 then m else S (P.2 k) := by
    intro k hk5
    have h1 := (i6.1 k hk5).1
    rw [vu_n _ _ (by omega)]
    by_cases e : k = M.2.1
    · rw [if_pos e, e, vu_s]
    · rw [if_neg e, vu_n _ _ (i6.ne hk5 (by omega) e)]
  have hE : ∀ k, k < 3 → inc E (ec d.1) k = inc M.2.2.2.2 (ec d.1) k := by
    intro k hk3
    have hc := ec_lt d.1
    unfold inc
    rw [i9 _ hc]
    by_cases e : k = ec d.1
    · rw [e, u_s, u_s]
    · rw [u_n _ _ e, u_n _ _ e]
      exact i9 k hk3
  unfold fin enP
  by_cases h0 : 0 ≤ d.1
  · rw [if_pos h0, if_pos h0, if_pos h0]
    by_cases h4 : M.2.1 < 4
    · rw [if_pos h4]
      refine ⟨hw, by rw [vu_s]; exact hs, by rw [vu_s]; exact hk, ?_, ?_, i6, fun j hj => ?_, hX, i9⟩
      · show psN M.2.1 ≤ 4
        unfold psN
        rw [if_pos h4]
        omega
      · show nI (M.2.1 + 1) = nI (psN M.2.1)
        unfold psN
        rw [if_pos h4]
      · have hj : j < psN M.2.1 := hj
        unfold psN at hj
        rw [if_pos h4] at hj
        show wf (psP M.2.1 M.2.2.1 M.1 j) ∧ rpS (psP M.2.1 M.2.2.1 M.1 j) (vf_upd (vf_upd S (P.2 M.2.1) m) 0 s (P.2 j))
        unfold psP
        rw [if_pos h4, hS j (by omega)]
        by_cases e : j = M.2.1
        · rw [if_pos e, if_pos e]
          exact ⟨i1, hm⟩
        · rw [if_neg e, if_neg e]
          exact i7 j (by omega)
    · rw [if_neg h4]
      have hn4 : M.2.1 = 4 := by omega
      refine ⟨hw, by rw [vu_s]; exact hs, by rw [vu_s]; exact hk, ?_, ?_, i6.rt _, fun j hj => ?_, hX, i9⟩
      · show psN M.2.1 ≤ 4
        unfold psN
        rw [if_neg h4]
        exact Nat.le_refl 4
      · show P.1 = nI (psN M.2.1)
        unfold psN
        rw [if_neg h4, i5, hn4]
      · have hj : j < psN M.2.1 := hj
        unfold psN at hj
        rw [if_neg h4] at hj
        show wf (psP M.2.1 M.2.2.1 M.1 j) ∧ rpS (psP M.2.1 M.2.2.1 M.1 j) (vf_upd (vf_upd S (P.2 M.2.1) m) 0 s (vf_upd (rot P.2 4) 4 (P.2 0) j))
        have er : vf_upd (rot P.2 4) 4 (P.2 0) j = P.2 (j + 1) := by
          rw [vu_n _ _ (by omega)]
          exact if_pos hj
        unfold psP
        rw [if_neg h4, er, hS (j + 1) (by omega)]
        by_cases e : j = 3
        · rw [if_pos e, if_pos (by omega)]
          exact ⟨i1, hm⟩
        · rw [if_neg e, if_neg (by omega)]
          exact i7 (j + 1) (by omega)
  · rw [if_neg h0, if_neg h0, if_neg h0]
    refine ⟨hw, by rw [vu_s]; exact hs, by rw [vu_s]; exact hk, i4, i5, i6, fun j hj => ?_, hX, hE⟩
    have hj : j < M.2.1 := hj
    rw [hS j (by omega), if_neg (by omega)]
    exact i7 j hj
theorem clsBad {M : mM} {S : Nat → xSt} {P : Int32 × (Nat → Nat)} {A : (Nat → Int64) × Int32 × Int32 × (Nat → Int64) × (Nat → Nat → Int64)} {X : Int32 × Int32 × Int32 × (Nat → Int32) × (Nat → Int32)} {E : Nat → Int32} (hI : ClsI M S P A X E) {k : Nat} (hk : k < 3) : ClsI (bad M k) S P A X (inc E k) := by
  obtain ⟨i1, i2, i3, i4, i5, i6, i7, i8, i9⟩ := hI
  refine ⟨i1, i2, i3, i4, i5, i6, i7, i8, fun j hj => ?_⟩
  show inc E k j = inc M.2.2.2.2 k j
  unfold inc
  rw [i9 k hk]
  by_cases e : j = k
  · rw [e, u_s, u_s]
  · rw [u_n _ _ e, u_n _ _ e]
    exact i9 j hj
section
variable {q : Nat × (Nat → Int32)} {S : Nat → xSt} {P : Int32 × (Nat → Nat)} {A : (Nat → Int64) × Int32 × Int32 × (Nat → Int64) × (Nat → Nat → Int64)} {D : (Nat → Int64) × Int64} {K : Nat → Int64} {X : Int32 × Int32 × Int32 × (Nat → Int32) × (Nat → Int32)} {E Z : Nat → Int32} {I : Nat → Int32} {J : Nat → Int64} {V : Nat → Nat → Int32}
set_option maxRecDepth 100000 in
theorem c_cn_b1 {a : Int32} {k : Nat} {L : xL} (h0 : xld L 0 = some (.ref 2)) (h1 : xld L 1 = some (.int a)) (hs : Int32.ofInt (-2) - a = nI k) (t : List xI) : xB xcall (den 93) (.inl (.aload 0) :: .inl (.getfield 262) :: .inl (.iconst (-2)) :: .inl (.iload 1) :: .inl .isub :: t) L [] (hp q S P A D K X E Z I J V) = xB xcall (den 93) t L [.int (nI k), .ref 161] (hp q S P A D K X E Z I J V) := by
  simp (maxSteps := 2000000) (disch := omega) only [e_inl, e_goto, e_fall, e_if, e_icmp, e_iret, e_zret, e_lret, e_vret, e_call0_0, e_call0_1, e_call0_2, e_call0_3, e_call0_4, e_call1_0, e_call1_1, e_call1_2, e_call1_3, e_call1_4, e_call2_0, e_call2_1, e_call2_2, e_call2_3, e_call2_4, e_call3_0, e_call3_1, e_call3_2, e_call3_3, e_call3_4, e_call4_0, e_call4_1, e_call4_2, e_call4_3, e_call4_4, e_call5_0, e_call5_1, e_call5_2, e_call5_3, e_call5_4, e_call6_0, e_call6_1, e_call6_2, e_call6_3, e_call6_4, xP, xld, xst1, xst2, xis2, xii, xid, xll, xlv, xls, xlc, xil, xli, xrd, xdup, xdup2, xc1, xpu, c_eq, c_ne, c_lt, c_ge, c_gt, c_le, Option.bind_some, Option.map_some, List.length_nil, List.length_cons, Nat.reduceAdd, Nat.reduceLeDiff, Int.reduceToNat, Bool.and_self, Bool.false_eq_true, if_true, if_false, h0, h1, g_x_6, hs]
set_option maxRecDepth 100000 in
theorem c_cn_b2 {k : Nat} {L : xL} (hk : k < 3) : xB xcall (den 93) [.inl .dup2, .inl .iaload, .inl (.iconst 1), .inl .iadd, .inl .iastore, xto 25] L [.int (nI k), .ref 161] (hp q S P A D K X E Z I J V) = den 93 25 L [] (hp q S P A D K X (upd E k (E k + nI 1)) Z I J V) := by
  have er : xiald (hp q S P A D K X E Z I J V) 161 (nI k) = some (.int (E k)) := by rw [r_refusals, if_pos (x_in hk (by omega)), nI_clamp (by omega)]
  have es : ∀ (x : Int32), xiast (hp q S P A D K X E Z I J V) 161 (nI k) x = some (hp q S P A D K X (upd E k x) Z I J V) := fun x => by rw [s_refusals, if_pos ⟨x_in hk (by omega), by omega⟩, nI_clamp (by omega)]
  simp (maxSteps := 2000000) (disch := omega) only [e_inl, e_goto, e_fall, e_if, e_icmp, e_iret, e_zret, e_lret, e_vret, e_call0_0, e_call0_1, e_call0_2, e_call0_3, e_call0_4, e_call1_0, e_call1_1, e_call1_2, e_call1_3, e_call1_4, e_call2_0, e_call2_1, e_call2_2, e_call2_3, e_call2_4, e_call3_0, e_call3_1, e_call3_2, e_call3_3, e_call3_4, e_call4_0, e_call4_1, e_call4_2, e_call4_3, e_call4_4, e_call5_0, e_call5_1, e_call5_2, e_call5_3, e_call5_4, e_call6_0, e_call6_1, e_call6_2, e_call6_3, e_call6_4, xP, xld, xst1, xst2, xis2, xii, xid, xll, xlv, xls, xlc, xil, xli, xrd, xdup, xdup2, xc1, xpu, c_eq, c_ne, c_lt, c_ge, c_gt, c_le, Option.bind_some, Option.map_some, List.length_nil, List.length_cons, Nat.reduceAdd, Nat.reduceLeDiff, Int.reduceToNat, Bool.and_self, Bool.false_eq_true, if_true, if_false, n_lit, er, es]
set_option maxRecDepth 100000 in
theorem c_cn_a1 {a : Int32} {L : xL} (h1 : xld L 1 = some (.int a)) (g1 : ¬ Int32.ofInt (-2) < a) (t : List xI) : xB xcall (den 93) (.inl (.iload 1) :: .inl (.iconst (-2)) :: .inr (.if_icmp .gt 25) :: t) L [] (hp q S P A D K X E Z I J V) = xB xcall (den 93) t L [] (hp q S P A D K X E Z I J V) := by
  simp (maxSteps := 2000000) (disch := omega) only [e_inl, e_goto, e_fall, e_if, e_icmp, e_iret, e_zret, e_lret, e_vret, e_call0_0, e_call0_1, e_call0_2, e_call0_3, e_call0_4, e_call1_0, e_call1_1, e_call1_2, e_call1_3, e_call1_4, e_call2_0, e_call2_1, e_call2_2, e_call2_3, e_call2_4, e_call3_0, e_call3_1, e_call3_2, e_call3_3, e_call3_4, e_call4_0, e_call4_1, e_call4_2, e_call4_3, e_call4_4, e_call5_0, e_call5_1, e_call5_2, e_call5_3, e_call5_4, e_call6_0, e_call6_1, e_call6_2, e_call6_3, e_call6_4, xP, xld, xst1, xst2, xis2, xii, xid, xll, xlv, xls, xlc, xil, xli, xrd, xdup, xdup2, xc1, xpu, c_eq, c_ne, c_lt, c_ge, c_gt, c_le, Option.bind_some, Option.map_some, List.length_nil, List.length_cons, Nat.reduceAdd, Nat.reduceLeDiff, Int.reduceToNat, Bool.and_self, Bool.false_eq_true, if_true, if_false, h1, g1]
set_option maxRecDepth 100000 in
theorem c_cn_a2 {a : Int32} {L : xL} (h1 : xld L 1 = some (.int a)) (g2 : ¬ a < Int32.ofInt (-4)) (t : List xI) : xB xcall (den 93) (.inl (.iload 1) :: .inl (.iconst (-4)) :: .inr (.if_icmp .lt 25) :: t) L [] (hp q S P A D K X E Z I J V) = xB xcall (den 93) t L [] (hp q S P A D K X E Z I J V) := by
  simp (maxSteps := 2000000) (disch := omega) only [e_inl, e_goto, e_fall, e_if, e_icmp, e_iret, e_zret, e_lret, e_vret, e_call0_0, e_call0_1, e_call0_2, e_call0_3, e_call0_4, e_call1_0, e_call1_1, e_call1_2, e_call1_3, e_call1_4, e_call2_0, e_call2_1, e_call2_2, e_call2_3, e_call2_4, e_call3_0, e_call3_1, e_call3_2, e_call3_3, e_call3_4, e_call4_0, e_call4_1, e_call4_2, e_call4_3, e_call4_4, e_call5_0, e_call5_1, e_call5_2, e_call5_3, e_call5_4, e_call6_0, e_call6_1, e_call6_2, e_call6_3, e_call6_4, xP, xld, xst1, xst2, xis2, xii, xid, xll, xlv, xls, xlc, xil, xli, xrd, xdup, xdup2, xc1, xpu, c_eq, c_ne, c_lt, c_ge, c_gt, c_le, Option.bind_some, Option.map_some, List.length_nil, List.length_cons, Nat.reduceAdd, Nat.reduceLeDiff, Int.reduceToNat, Bool.and_self, Bool.false_eq_true, if_true, if_false, h1, g2]
set_option maxRecDepth 100000 in
theorem c_cn_a3 {a : Int32} {L : xL} (h1 : xld L 1 = some (.int a)) (g1 : Int32.ofInt (-2) < a) (t : List xI) : xB xcall (den 93) (.inl (.iload 1) :: .inl (.iconst (-2)) :: .inr (.if_icmp .gt 25) :: t) L [] (hp q S P A D K X E Z I J V) = den 93 25 L [] (hp q S P A D K X E Z I J V) := by
  simp (maxSteps := 2000000) (disch := omega) only [e_inl, e_goto, e_fall, e_if, e_icmp, e_iret, e_zret, e_lret, e_vret, e_call0_0, e_call0_1, e_call0_2, e_call0_3, e_call0_4, e_call1_0, e_call1_1, e_call1_2, e_call1_3, e_call1_4, e_call2_0, e_call2_1, e_call2_2, e_call2_3, e_call2_4, e_call3_0, e_call3_1, e_call3_2, e_call3_3, e_call3_4, e_call4_0, e_call4_1, e_call4_2, e_call4_3, e_call4_4, e_call5_0, e_call5_1, e_call5_2, e_call5_3, e_call5_4, e_call6_0, e_call6_1, e_call6_2, e_call6_3, e_call6_4, xP, xld, xst1, xst2, xis2, xii, xid, xll, xlv, xls, xlc, xil, xli, xrd, xdup, xdup2, xc1, xpu, c_eq, c_ne, c_lt, c_ge, c_gt, c_le, Option.bind_some, Option.map_some, List.length_nil, List.length_cons, Nat.reduceAdd, Nat.reduceLeDiff, Int.reduceToNat, Bool.and_self, Bool.false_eq_true, if_true, if_false, h1, g1]
set_option maxRecDepth 100000 in
theorem c_cn_25 {a : Int32} {L : xL} (h1 : xld L 1 = some (.int a)) : den 93 25 L [] (hp q S P A D K X E Z I J V) = some (some (.int a), (hp q S P A D K X E Z I J V)) := by
  rw [D93_25]
  simp (maxSteps := 2000000) (disch := omega) only [e_inl, e_goto, e_fall, e_if, e_icmp, e_iret, e_zret, e_lret, e_vret, e_call0_0, e_call0_1, e_call0_2, e_call0_3, e_call0_4, e_call1_0, e_call1_1, e_call1_2, e_call1_3, e_call1_4, e_call2_0, e_call2_1, e_call2_2, e_call2_3, e_call2_4, e_call3_0, e_call3_1, e_call3_2, e_call3_3, e_call3_4, e_call4_0, e_call4_1, e_call4_2, e_call4_3, e_call4_4, e_call5_0, e_call5_1, e_call5_2, e_call5_3, e_call5_4, e_call6_0, e_call6_1, e_call6_2, e_call6_3, e_call6_4, xP, xld, xst1, xst2, xis2, xii, xid, xll, xlv, xls, xlc, xil, xli, xrd, xdup, xdup2, xc1, xpu, c_eq, c_ne, c_lt, c_ge, c_gt, c_le, Option.bind_some, Option.map_some, List.length_nil, List.length_cons, Nat.reduceAdd, Nat.reduceLeDiff, Int.reduceToNat, Bool.and_self, Bool.false_eq_true, if_true, if_false, h1]
set_option maxRecDepth 100000 in
theorem c_cn {a : Int32} {k : Nat} (hk : k < 3) (hs : Int32.ofInt (-2) - a = nI k) (g1 : ¬ Int32.ofInt (-2) < a) (g2 : ¬ a < Int32.ofInt (-4)) : xcall 93 [.ref 2, .int a] (hp q S P A D K X E Z I J V) = some (some (.int a), (hp q S P A D K X (inc E k) Z I J V)) := by
  unfold inc
  rw [N93 _ _ _ (o_x ..), D93_0, c_cn_a1 rfl g1, c_cn_a2 rfl g2, c_cn_b1 rfl rfl hs, c_cn_b2 hk, c_cn_25 rfl]
set_option maxRecDepth 100000 in
theorem c_cn_p {a : Int32} (g1 : Int32.ofInt (-2) < a) : xcall 93 [.ref 2, .int a] (hp q S P A D K X E Z I J V) = some (some (.int a), (hp q S P A D K X E Z I J V)) := by
  rw [N93 _ _ _ (o_x ..), D93_0, c_cn_a3 rfl g1, c_cn_25 rfl]
set_option maxRecDepth 100000 in
theorem c_counted {a : Int32} (ha : okA a) : xcall 93 [.ref 2, .int a] (hp q S P A D K X E Z I J V) = some (some (.int a), (hp q S P A D K X (if 0 ≤ a then E else inc E (ec a)) Z I J V)) := by
  by_cases h0 : 0 ≤ a
  · rw [if_pos h0]
    apply c_cn_p
    obtain ⟨r, hr, rfl⟩ := okA_pos ha h0
    rw [Int32.lt_iff_toInt_lt, nI_toInt hr, fb_ofI (by omega) (by omega)]
    omega
  · rw [if_neg h0]
    rcases okA_neg ha h0 with ⟨e, c⟩ | ⟨e, c⟩ | ⟨e, c⟩
    · rw [c]
      subst e
      exact c_cn (by omega) k_22 (by decide) (by decide)
    · rw [c]
      subst e
      exact c_cn (by omega) k_23 (by decide) (by decide)
    · rw [c]
      subst e
      exact c_cn (by omega) k_24 (by decide) (by decide)
set_option maxRecDepth 100000 in
theorem c_settled {a : Int32} {n : Nat} (ha : okA a) (hn : n ≤ 4) (hP : P.1 = nI n) (hp1 : ptS P) : xcall 92 [.ref 2, .int a] (hp q S P A D K X E Z I J V) = some (some (.int a), (hp q S (enP P n a) A D K X (if 0 ≤ a then E else inc E (ec a)) Z I J V)) := by
  rw [N92 _ _ _ (o_x ..), D92_0]
  unfold enP
  by_cases h0 : 0 ≤ a
  · have h1 : ¬ a < 0 := Int32.not_lt.mpr h0
    rw [if_pos h0]
    by_cases h4 : n < 4
    · rw [if_pos h4]
      have ec1 := c_counted (q := q) (S := S) (P := (nI (n + 1), P.2)) (A := A) (D := D) (K := K) (X := X) (E := E) (Z := Z) (I := I) (J := J) (V := V) ha
      simp (maxSteps := 2000000) (disch := omega) only [e_inl, e_goto, e_fall, e_if, e_icmp, e_iret, e_zret, e_lret, e_vret, e_call0_0, e_call0_1, e_call0_2, e_call0_3, e_call0_4, e_call1_0, e_call1_1, e_call1_2, e_call1_3, e_call1_4, e_call2_0, e_call2_1, e_call2_2, e_call2_3, e_call2_4, e_call3_0, e_call3_1, e_call3_2, e_call3_3, e_call3_4, e_call4_0, e_call4_1, e_call4_2, e_call4_3, e_call4_4, e_call5_0, e_call5_1, e_call5_2, e_call5_3, e_call5_4, e_call6_0, e_call6_1, e_call6_2, e_call6_3, e_call6_4, xP, xld, xst1, xst2, xis2, xii, xid, xll, xlv, xls, xlc, xil, xli, xrd, xdup, xdup2, xc1, xpu, c_eq, c_ne, c_lt, c_ge, c_gt, c_le, Option.bind_some, Option.map_some, List.length_nil, List.length_cons, Nat.reduceAdd, Nat.reduceLeDiff, Int.reduceToNat, Bool.and_self, Bool.false_eq_true, if_true, if_false, D92_11, g_x_1, h1, c_keepMark_lt h4 hP, ec1]
    · rw [if_neg h4]
      have hn4 : n = 4 := by omega
      subst hn4
      have ek := c_keepMark_4 (q := q) (S := S) (P := P) (A := A) (D := D) (K := K) (X := X) (E := E) (Z := Z) (I := I) (J := J) (V := V) hP (fun k hk => (hp1.1 k hk).2)
      have ec1 := c_counted (q := q) (S := S) (P := (P.1, vf_upd (rot P.2 4) 4 (P.2 0))) (A := A) (D := D) (K := K) (X := X) (E := E) (Z := Z) (I := I) (J := J) (V := V) ha
      simp (maxSteps := 2000000) (disch := omega) only [e_inl, e_goto, e_fall, e_if, e_icmp, e_iret, e_zret, e_lret, e_vret, e_call0_0, e_call0_1, e_call0_2, e_call0_3, e_call0_4, e_call1_0, e_call1_1, e_call1_2, e_call1_3, e_call1_4, e_call2_0, e_call2_1, e_call2_2, e_call2_3, e_call2_4, e_call3_0, e_call3_1, e_call3_2, e_call3_3, e_call3_4, e_call4_0, e_call4_1, e_call4_2, e_call4_3, e_call4_4, e_call5_0, e_call5_1, e_call5_2, e_call5_3, e_call5_4, e_call6_0, e_call6_1, e_call6_2, e_call6_3, e_call6_4, xP, xld, xst1, xst2, xis2, xii, xid, xll, xlv, xls, xlc, xil, xli, xrd, xdup, xdup2, xc1, xpu, c_eq, c_ne, c_lt, c_ge, c_gt, c_le, Option.bind_some, Option.map_some, List.length_nil, List.length_cons, Nat.reduceAdd, Nat.reduceLeDiff, Int.reduceToNat, Bool.and_self, Bool.false_eq_true, if_true, if_false, D92_11, g_x_1, h1, ek, ec1]
  · have h1 : a < 0 := Int32.not_le.mp h0
    rw [if_neg h0]
    have ec1 := c_counted (q := q) (S := S) (P := P) (A := A) (D := D) (K := K) (X := X) (E := E) (Z := Z) (I := I) (J := J) (V := V) ha
    rw [if_neg h0] at ec1
    simp (maxSteps := 2000000) (disch := omega) only [e_inl, e_goto, e_fall, e_if, e_icmp, e_iret, e_zret, e_lret, e_vret, e_call0_0, e_call0_1, e_call0_2, e_call0_3, e_call0_4, e_call1_0, e_call1_1, e_call1_2, e_call1_3, e_call1_4, e_call2_0, e_call2_1, e_call2_2, e_call2_3, e_call2_4, e_call3_0, e_call3_1, e_call3_2, e_call3_3, e_call3_4, e_call4_0, e_call4_1, e_call4_2, e_call4_3, e_call4_4, e_call5_0, e_call5_1, e_call5_2, e_call5_3, e_call5_4, e_call6_0, e_call6_1, e_call6_2, e_call6_3, e_call6_4, xP, xld, xst1, xst2, xis2, xii, xid, xll, xlv, xls, xlc, xil, xli, xrd, xdup, xdup2, xc1, xpu, c_eq, c_ne, c_lt, c_ge, c_gt, c_le, Option.bind_some, Option.map_some, List.length_nil, List.length_cons, Nat.reduceAdd, Nat.reduceLeDiff, Int.reduceToNat, Bool.and_self, Bool.false_eq_true, if_true, if_false, D92_11, h1, ec1]
    rw [if_neg h0]
end
