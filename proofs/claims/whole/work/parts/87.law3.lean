/-! ===== the class: rows kept by another set; the sets of the law ===== -/
set_option maxRecDepth 100000 in
theorem c_keepRowsOf {a b : Nat} {F : (Nat → Int64) → xH} (hF : IsRS a F) {W : Nat → Int64} {m m' : Nat → Bool} (hm : RS m W) (hg : ∀ W, xget (F W) b 128 = some (.ref (b + 1))) (hr : ∀ W w, w < 64 → xlald (F W) (b + 1) (nI w) = some (.long (lN (wdN m' w)))) : ∃ W', xcall 29 [.ref a, .ref b] (F W) = some (none, F W') ∧ RS (fun x => m x && m' x) W' := by
  refine ⟨fa_fill (fun w => lN (wdN (fun x => m x && m' x) w)) W 64, ?_, fun w hw => fa_fill_in hw⟩
  rw [N29 _ _ _ (hF.o W), D29_0]
  have hl := x_loop (i := 29) (pc := 2) (fun k => [some (.ref a), some (.ref b), some (.int (nI k))]) (fun k => F (fa_fill (fun w => lN (wdN (fun x => m x && m' x) w)) W k)) 64 (fun k hk => by
    have h1 : ¬ 64 ≤ k := by omega
    have e1 := hF.g (fa_fill (fun w => lN (wdN (fun x => m x && m' x) w)) W k)
    have er := hF.r (fa_fill (fun w => lN (wdN (fun x => m x && m' x) w)) W k) hk
    rw [fa_fill_out (Nat.le_refl k), hm k hk] at er
    have g1 := hg (fa_fill (fun w => lN (wdN (fun x => m x && m' x) w)) W k)
    have er2 := hr (fa_fill (fun w => lN (wdN (fun x => m x && m' x) w)) W k) k hk
    have ea := wb_and (wdN_lt m k) (wdN_lt m' k)
    rw [wdN_and] at ea
    have e2 := hF.s (fa_fill (fun w => lN (wdN (fun x => m x && m' x) w)) W k) hk (lN (wdN (fun x => m x && m' x) k))
    rw [fl_succ (fun w => lN (wdN (fun x => m x && m' x) w)) W k] at e2
    rw [D29_2]
    generalize fa_fill (fun w => lN (wdN (fun x => m x && m' x) w)) W k = W1 at *
    generalize fa_fill (fun w => lN (wdN (fun x => m x && m' x) w)) W (k + 1) = W2 at *
    simp (maxSteps := 2000000) (disch := omega) only [e_inl, e_goto, e_fall, e_if, e_icmp, e_iret, e_zret, e_lret, e_vret, e_call0_0, e_call0_1, e_call0_2, e_call0_3, e_call0_4, e_call1_0, e_call1_1, e_call1_2, e_call1_3, e_call1_4, e_call2_0, e_call2_1, e_call2_2, e_call2_3, e_call2_4, e_call3_0, e_call3_1, e_call3_2, e_call3_3, e_call3_4, e_call4_0, e_call4_1, e_call4_2, e_call4_3, e_call4_4, e_call5_0, e_call5_1, e_call5_2, e_call5_3, e_call5_4, e_call6_0, e_call6_1, e_call6_2, e_call6_3, e_call6_4, xP, xld, xst1, xst2, xis2, xii, xid, xll, xlv, xls, xlc, xil, xli, xrd, xdup, xdup2, xc1, xpu, c_eq, c_ne, c_lt, c_ge, c_gt, c_le, Option.bind_some, Option.map_some, List.length_nil, List.length_cons, Nat.reduceAdd, Nat.reduceLeDiff, Int.reduceToNat, Bool.and_self, Bool.false_eq_true, if_true, if_false, n_lit, nI_leI, nI_add, h1, e1, er, g1, er2, ea, e2])
  simp only [fa_fill_0] at hl
  simp (maxSteps := 2000000) (disch := omega) only [e_inl, e_goto, e_fall, e_if, e_icmp, e_iret, e_zret, e_lret, e_vret, e_call0_0, e_call0_1, e_call0_2, e_call0_3, e_call0_4, e_call1_0, e_call1_1, e_call1_2, e_call1_3, e_call1_4, e_call2_0, e_call2_1, e_call2_2, e_call2_3, e_call2_4, e_call3_0, e_call3_1, e_call3_2, e_call3_3, e_call3_4, e_call4_0, e_call4_1, e_call4_2, e_call4_3, e_call4_4, e_call5_0, e_call5_1, e_call5_2, e_call5_3, e_call5_4, e_call6_0, e_call6_1, e_call6_2, e_call6_3, e_call6_4, xP, xld, xst1, xst2, xis2, xii, xid, xll, xlv, xls, xlc, xil, xli, xrd, xdup, xdup2, xc1, xpu, c_eq, c_ne, c_lt, c_ge, c_gt, c_le, Option.bind_some, Option.map_some, List.length_nil, List.length_cons, Nat.reduceAdd, Nat.reduceLeDiff, Int.reduceToNat, Bool.and_self, Bool.false_eq_true, if_true, if_false, n_lit]
  rw [hl, D29_2]
  simp (maxSteps := 2000000) (disch := omega) only [e_inl, e_goto, e_fall, e_if, e_icmp, e_iret, e_zret, e_lret, e_vret, e_call0_0, e_call0_1, e_call0_2, e_call0_3, e_call0_4, e_call1_0, e_call1_1, e_call1_2, e_call1_3, e_call1_4, e_call2_0, e_call2_1, e_call2_2, e_call2_3, e_call2_4, e_call3_0, e_call3_1, e_call3_2, e_call3_3, e_call3_4, e_call4_0, e_call4_1, e_call4_2, e_call4_3, e_call4_4, e_call5_0, e_call5_1, e_call5_2, e_call5_3, e_call5_4, e_call6_0, e_call6_1, e_call6_2, e_call6_3, e_call6_4, xP, xld, xst1, xst2, xis2, xii, xid, xll, xlv, xls, xlc, xil, xli, xrd, xdup, xdup2, xc1, xpu, c_eq, c_ne, c_lt, c_ge, c_gt, c_le, Option.bind_some, Option.map_some, List.length_nil, List.length_cons, Nat.reduceAdd, Nat.reduceLeDiff, Int.reduceToNat, Bool.and_self, Bool.false_eq_true, if_true, if_false, D29_29, n_lit, nI_leI, Nat.le_refl]
theorem vb_bit : ∀ l, l < 8 → ∀ h, h < 8 → ∀ v, v < 8 → l ≤ h → (2 ^ (h + 1) - 2 ^ l).testBit v = (decide (l ≤ v) && decide (v ≤ h)) := by decide +kernel
section
variable {q : Nat × (Nat → Int32)} {S : Nat → xSt} {P : Int32 × (Nat → Nat)} {A : (Nat → Int64) × Int32 × Int32 × (Nat → Int64) × (Nat → Nat → Int64)} {D : (Nat → Int64) × Int64} {K : Nat → Int64} {X : Int32 × Int32 × Int32 × (Nat → Int32) × (Nat → Int32)} {E Z : Nat → Int32} {I : Nat → Int32} {J : Nat → Int64} {V : Nat → Nat → Int32}
theorem isLawful : IsRS 132 (fun W => (hp q S P ((W, A.2)) D K X E Z I J V)) := by
  intro W
  refine ⟨o_lawful .., g_lawful_0 .., fun i => ?_, fun i x => ?_⟩
  · rw [r_lawful]
    by_cases hx : xin i 64 = true
    · rw [if_pos ⟨hx, by omega⟩, if_pos hx]
    · rw [if_neg (fun z => hx z.1), if_neg hx]
  · rw [s_lawful]
    by_cases hx : xin i 64 = true
    · rw [if_pos ⟨hx, by omega⟩, if_pos hx]
    · rw [if_neg (fun z => hx z.1), if_neg hx]
theorem isInR : IsRS 134 (fun W => (hp q S P ((A.1, A.2.1, A.2.2.1, W, A.2.2.2.2)) D K X E Z I J V)) := by
  intro W
  refine ⟨o_inRanges .., g_inRanges_0 .., fun i => ?_, fun i x => ?_⟩
  · rw [r_inRanges]
    by_cases hx : xin i 64 = true
    · rw [if_pos ⟨hx, by omega⟩, if_pos hx]
    · rw [if_neg (fun z => hx z.1), if_neg hx]
  · rw [s_inRanges]
    by_cases hx : xin i 64 = true
    · rw [if_pos ⟨hx, by omega⟩, if_pos hx]
    · rw [if_neg (fun z => hx z.1), if_neg hx]
theorem isMayBe : IsRS 154 (fun W => (hp q S P A ((W, D.2)) K X E Z I J V)) := by
  intro W
  refine ⟨o_mayBe .., g_mayBe_0 .., fun i => ?_, fun i x => ?_⟩
  · rw [r_mayBe]
    by_cases hx : xin i 64 = true
    · rw [if_pos ⟨hx, by omega⟩, if_pos hx]
    · rw [if_neg (fun z => hx z.1), if_neg hx]
  · rw [s_mayBe]
    by_cases hx : xin i 64 = true
    · rw [if_pos ⟨hx, by omega⟩, if_pos hx]
    · rw [if_neg (fun z => hx z.1), if_neg hx]
theorem isPicked : IsRS 156 (fun W => (hp q S P A D (W) X E Z I J V)) := by
  intro W
  refine ⟨o_picked .., g_picked_0 .., fun i => ?_, fun i x => ?_⟩
  · rw [r_picked]
    by_cases hx : xin i 64 = true
    · rw [if_pos ⟨hx, by omega⟩, if_pos hx]
    · rw [if_neg (fun z => hx z.1), if_neg hx]
  · rw [s_picked]
    by_cases hx : xin i 64 = true
    · rw [if_pos ⟨hx, by omega⟩, if_pos hx]
    · rw [if_neg (fun z => hx z.1), if_neg hx]
set_option maxRecDepth 20000 in
theorem xL_I : xcopy (hp q S P A D K X E Z I J V) 135 (nI 0) 133 (nI 0) (nI 64) = some (hp q S P ((va_cpy A.2.2.2.1 A.1 0 0 64, A.2)) D K X E Z I J V) := rfl
set_option maxRecDepth 20000 in
theorem xM_L : xcopy (hp q S P A D K X E Z I J V) 133 (nI 0) 155 (nI 0) (nI 64) = some (hp q S P A ((va_cpy A.1 D.1 0 0 64, D.2)) K X E Z I J V) := rfl
set_option maxRecDepth 20000 in
theorem xK_L : xcopy (hp q S P A D K X E Z I J V) 133 (nI 0) 157 (nI 0) (nI 64) = some (hp q S P A D (va_cpy A.1 K 0 0 64) X E Z I J V) := rfl
theorem RS.cpy {m : Nat → Bool} {W W' : Nat → Int64} (h : RS m W) : RS m (va_cpy W W' 0 0 64) := fun w hw => by
  unfold va_cpy
  rw [if_pos (by omega), Nat.sub_zero, Nat.zero_add]
  exact h w hw
set_option maxRecDepth 100000 in
theorem c_beL_I : xcall 26 [.ref 132, .ref 134] (hp q S P A D K X E Z I J V) = some (none, (hp q S P ((va_cpy A.2.2.2.1 A.1 0 0 64, A.2)) D K X E Z I J V)) := by
  rw [N26 _ _ _ (o_lawful ..)]
  simp (maxSteps := 2000000) (disch := omega) only [e_inl, e_goto, e_fall, e_if, e_icmp, e_iret, e_zret, e_lret, e_vret, e_call0_0, e_call0_1, e_call0_2, e_call0_3, e_call0_4, e_call1_0, e_call1_1, e_call1_2, e_call1_3, e_call1_4, e_call2_0, e_call2_1, e_call2_2, e_call2_3, e_call2_4, e_call3_0, e_call3_1, e_call3_2, e_call3_3, e_call3_4, e_call4_0, e_call4_1, e_call4_2, e_call4_3, e_call4_4, e_call5_0, e_call5_1, e_call5_2, e_call5_3, e_call5_4, e_call6_0, e_call6_1, e_call6_2, e_call6_3, e_call6_4, xP, xld, xst1, xst2, xis2, xii, xid, xll, xlv, xls, xlc, xil, xli, xrd, xdup, xdup2, xc1, xpu, c_eq, c_ne, c_lt, c_ge, c_gt, c_le, Option.bind_some, Option.map_some, List.length_nil, List.length_cons, Nat.reduceAdd, Nat.reduceLeDiff, Int.reduceToNat, Bool.and_self, Bool.false_eq_true, if_true, if_false, D26_0, g_lawful_0, g_inRanges_0, n_lit, eq_self, xL_I]
set_option maxRecDepth 100000 in
theorem c_beM_L : xcall 26 [.ref 154, .ref 132] (hp q S P A D K X E Z I J V) = some (none, (hp q S P A ((va_cpy A.1 D.1 0 0 64, D.2)) K X E Z I J V)) := by
  rw [N26 _ _ _ (o_mayBe ..)]
  simp (maxSteps := 2000000) (disch := omega) only [e_inl, e_goto, e_fall, e_if, e_icmp, e_iret, e_zret, e_lret, e_vret, e_call0_0, e_call0_1, e_call0_2, e_call0_3, e_call0_4, e_call1_0, e_call1_1, e_call1_2, e_call1_3, e_call1_4, e_call2_0, e_call2_1, e_call2_2, e_call2_3, e_call2_4, e_call3_0, e_call3_1, e_call3_2, e_call3_3, e_call3_4, e_call4_0, e_call4_1, e_call4_2, e_call4_3, e_call4_4, e_call5_0, e_call5_1, e_call5_2, e_call5_3, e_call5_4, e_call6_0, e_call6_1, e_call6_2, e_call6_3, e_call6_4, xP, xld, xst1, xst2, xis2, xii, xid, xll, xlv, xls, xlc, xil, xli, xrd, xdup, xdup2, xc1, xpu, c_eq, c_ne, c_lt, c_ge, c_gt, c_le, Option.bind_some, Option.map_some, List.length_nil, List.length_cons, Nat.reduceAdd, Nat.reduceLeDiff, Int.reduceToNat, Bool.and_self, Bool.false_eq_true, if_true, if_false, D26_0, g_lawful_0, g_mayBe_0, n_lit, eq_self, xM_L]
set_option maxRecDepth 100000 in
theorem c_beK_L : xcall 26 [.ref 156, .ref 132] (hp q S P A D K X E Z I J V) = some (none, (hp q S P A D (va_cpy A.1 K 0 0 64) X E Z I J V)) := by
  rw [N26 _ _ _ (o_picked ..)]
  simp (maxSteps := 2000000) (disch := omega) only [e_inl, e_goto, e_fall, e_if, e_icmp, e_iret, e_zret, e_lret, e_vret, e_call0_0, e_call0_1, e_call0_2, e_call0_3, e_call0_4, e_call1_0, e_call1_1, e_call1_2, e_call1_3, e_call1_4, e_call2_0, e_call2_1, e_call2_2, e_call2_3, e_call2_4, e_call3_0, e_call3_1, e_call3_2, e_call3_3, e_call3_4, e_call4_0, e_call4_1, e_call4_2, e_call4_3, e_call4_4, e_call5_0, e_call5_1, e_call5_2, e_call5_3, e_call5_4, e_call6_0, e_call6_1, e_call6_2, e_call6_3, e_call6_4, xP, xld, xst1, xst2, xis2, xii, xid, xll, xlv, xls, xlc, xil, xli, xrd, xdup, xdup2, xc1, xpu, c_eq, c_ne, c_lt, c_ge, c_gt, c_le, Option.bind_some, Option.map_some, List.length_nil, List.length_cons, Nat.reduceAdd, Nat.reduceLeDiff, Int.reduceToNat, Bool.and_self, Bool.false_eq_true, if_true, if_false, D26_0, g_lawful_0, g_picked_0, n_lit, eq_self, xK_L]
end
