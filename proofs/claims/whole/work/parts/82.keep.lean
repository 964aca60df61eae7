/-! ===== the class: the rows that keep a rule ===== -/
def kpa (kd c x y n : Nat) (r : Nat) : Bool := kp kd c (vl r x) (vl r y) && decide (vl r x < n)
theorem kpa_0 (kd c x y r : Nat) : kpa kd c x y 0 r = false := by
  unfold kpa
  simp
theorem kpa_8 (kd c x y r : Nat) : kpa kd c x y 8 r = kp kd c (vl r x) (vl r y) := by
  unfold kpa
  rw [decide_eq_true (vl_lt r x), Bool.and_true]
theorem kpa_succ (kd c x y n r : Nat) : kpa kd c x y (n + 1) r = (kpa kd c x y n r || ((2 ^ n).testBit (vl r x) && (bset (fun b => kp kd c n b) 8).testBit (vl r y))) := by
  unfold kpa
  have h8 := vl_lt r y
  rw [Nat.testBit_two_pow, bset_bit, decide_eq_true h8, Bool.true_and]
  by_cases e : vl r x = n
  · have h1 : vl r x < n + 1 := by omega
    have h2 : ¬ vl r x < n := by omega
    rw [decide_eq_true h1, decide_eq_false h2, decide_eq_true e.symm, e]
    simp
  · have h1 : decide (vl r x < n + 1) = decide (vl r x < n) := decide_eq_decide.mpr (by omega)
    rw [h1, decide_eq_false (show ¬ n = vl r x from fun z => e z.symm)]
    simp
section
variable {q : Nat × (Nat → Int32)} {S : Nat → xSt} {P : Int32 × (Nat → Nat)} {A : (Nat → Int64) × Int32 × Int32 × (Nat → Int64) × (Nat → Nat → Int64)} {D : (Nat → Int64) × Int64} {K : Nat → Int64} {X : Int32 × Int32 × Int32 × (Nat → Int32) × (Nat → Int32)} {E Z : Nat → Int32} {I : Nat → Int32} {J : Nat → Int64} {V : Nat → Nat → Int32}
theorem isKeep {k : Nat} (hk : k < 8) : IsRS (137 + 2 * k) (fun W => (hp q S P ((A.1, A.2.1, A.2.2.1, A.2.2.2.1, vf_upd A.2.2.2.2 k W)) D K X E Z I J V)) := by
  intro W
  have e1 : 137 + 2 * k + 1 = 138 + 2 * k := by omega
  have h2 : 2 ≤ 138 + 2 * k := by omega
  refine ⟨o_keep _ _ _ _ _ _ _ _ _ _ _ _ k hk, ?_, fun i => ?_, fun i x => ?_⟩
  · rw [e1]
    exact g_keep_0 _ _ _ _ _ _ _ _ _ _ _ _ k hk
  · rw [e1, r_keep _ _ _ _ _ _ _ _ _ _ _ _ k hk]
    show (if xin i 64 = true ∧ 2 ≤ 138 + 2 * k then some (Value.long (vf_upd A.2.2.2.2 k W k i.toNatClampNeg)) else none) = _
    rw [vu_s]
    by_cases hx : xin i 64 = true
    · rw [if_pos ⟨hx, h2⟩, if_pos hx]
    · rw [if_neg (fun z => hx z.1), if_neg hx]
  · rw [e1, s_keep _ _ _ _ _ _ _ _ _ _ _ _ k hk]
    show (if xin i 64 = true ∧ 2 ≤ 138 + 2 * k then some (hp q S P (A.1, A.2.1, A.2.2.1, A.2.2.2.1, vf_upd (vf_upd A.2.2.2.2 k W) k (vp_updL (vf_upd A.2.2.2.2 k W k) i.toNatClampNeg x)) D K X E Z I J V) else none) = _
    rw [vu_s, vu_vu]
    by_cases hx : xin i 64 = true
    · rw [if_pos ⟨hx, h2⟩, if_pos hx]
    · rw [if_neg (fun z => hx z.1), if_neg hx]
set_option maxRecDepth 100000 in
theorem c_valueBits {f l hh : Nat} (hf : f < 4) (h0 : (S 0).2.1 f 0 = nI l) (h1 : (S 0).2.1 f 1 = nI hh) (hl : l ≤ hh) (h7 : hh ≤ 7) : xcall 10 [.ref (8 + 2 * f)] (hp q S P A D K X E Z I J V) = some (some (.int (nI (2 ^ (hh + 1) - 2 ^ l))), (hp q S P A D K X E Z I J V)) := by
  have hp1 : (2 : Nat) ^ l ≤ 2 ^ (hh + 1) := Nat.pow_le_pow_right (by decide) (by omega)
  have hp2 : (2 : Nat) ^ (hh + 1) ≤ 2 ^ 8 := Nat.pow_le_pow_right (by decide) (by omega)
  have ea : nI 1 <<< (nI (hh + 1) &&& 31) = nI (2 ^ (hh + 1)) := by
    have := n_shl (c := 1) (d := hh + 1) (by omega) (by omega)
    rw [this, Nat.one_mul]
  have eb : nI 1 <<< (nI l &&& 31) = nI (2 ^ l) := by
    have := n_shl (c := 1) (d := l) (by omega) (by omega)
    rw [this, Nat.one_mul]
  rw [N10 _ _ (o_F _ _ _ _ _ _ _ _ _ _ _ _ f hf)]
  simp (maxSteps := 2000000) (disch := omega) only [e_inl, e_goto, e_fall, e_if, e_icmp, e_iret, e_zret, e_lret, e_vret, e_call0_0, e_call0_1, e_call0_2, e_call0_3, e_call0_4, e_call1_0, e_call1_1, e_call1_2, e_call1_3, e_call1_4, e_call2_0, e_call2_1, e_call2_2, e_call2_3, e_call2_4, e_call3_0, e_call3_1, e_call3_2, e_call3_3, e_call3_4, e_call4_0, e_call4_1, e_call4_2, e_call4_3, e_call4_4, e_call5_0, e_call5_1, e_call5_2, e_call5_3, e_call5_4, e_call6_0, e_call6_1, e_call6_2, e_call6_3, e_call6_4, xP, xld, xst1, xst2, xis2, xii, xid, xll, xlv, xls, xlc, xil, xli, xrd, xdup, xdup2, xc1, xpu, c_eq, c_ne, c_lt, c_ge, c_gt, c_le, Option.bind_some, Option.map_some, List.length_nil, List.length_cons, Nat.reduceAdd, Nat.reduceLeDiff, Int.reduceToNat, Bool.and_self, Bool.false_eq_true, if_true, if_false, D10_0, g_F_0, g_F_1, n_lit, h0, h1, nI_add, ea, eb, n_sub]
set_option maxRecDepth 100000 in
theorem c_weightOfValues {σ : mS} (hw : wf σ) (hs : rpS σ (S 0)) {f can : Nat} (hf : f < 4) (hc : can < 256) : xcall 12 [.ref (8 + 2 * f), .int (nI can)] (hp q S P A D K X E Z I J V) = some (some (.int (nI (vW σ f can))), (hp q S P A D K X E Z I J V)) := by
  rw [N12 _ _ _ (o_F _ _ _ _ _ _ _ _ _ _ _ _ f hf), D12_0]
  have hl := x_loop (i := 12) (pc := 4) (fun k => [some (.ref (8 + 2 * f)), some (.int (nI can)), some (.int (nI (fb_sm (fun v => if can.testBit v = true then mW σ f v else 0) k))), some (.int (nI k))]) (fun _ => (hp q S P A D K X E Z I J V)) 8 (fun k hk => by
    rw [D12_4, fb_sm_succ]
    have h1 : ¬ 8 ≤ k := by omega
    have eb := n_bit0 (s := can) (k := k) (by omega) (by omega)
    have ew := hs.2.2.1 f k hf hk
    have er : xiald (hp q S P A D K X E Z I J V) (9 + 2 * f) (nI k) = some (.int (nI (mW σ f k))) := by rw [r_W _ _ _ _ _ _ _ _ _ _ _ _ f hf, if_pos (x_in hk (by omega)), nI_clamp (by omega), ew]
    generalize fb_sm (fun v => if can.testBit v = true then mW σ f v else 0) k = u
    by_cases hb : can.testBit k = true
    · have eb2 : ¬ nI can >>> (nI k &&& 31) &&& nI 1 = nI 0 := by rw [eb, hb]; decide
      rw [if_pos hb]
      simp (maxSteps := 2000000) (disch := omega) only [e_inl, e_goto, e_fall, e_if, e_icmp, e_iret, e_zret, e_lret, e_vret, e_call0_0, e_call0_1, e_call0_2, e_call0_3, e_call0_4, e_call1_0, e_call1_1, e_call1_2, e_call1_3, e_call1_4, e_call2_0, e_call2_1, e_call2_2, e_call2_3, e_call2_4, e_call3_0, e_call3_1, e_call3_2, e_call3_3, e_call3_4, e_call4_0, e_call4_1, e_call4_2, e_call4_3, e_call4_4, e_call5_0, e_call5_1, e_call5_2, e_call5_3, e_call5_4, e_call6_0, e_call6_1, e_call6_2, e_call6_3, e_call6_4, xP, xld, xst1, xst2, xis2, xii, xid, xll, xlv, xls, xlc, xil, xli, xrd, xdup, xdup2, xc1, xpu, c_eq, c_ne, c_lt, c_ge, c_gt, c_le, Option.bind_some, Option.map_some, List.length_nil, List.length_cons, Nat.reduceAdd, Nat.reduceLeDiff, Int.reduceToNat, Bool.and_self, Bool.false_eq_true, if_true, if_false, D12_27, g_F_4, n_lit, nI_leI, nI_add, h1, n_0, eb2, er]
    · have eb2 : nI can >>> (nI k &&& 31) &&& nI 1 = nI 0 := by rw [eb]; exact Bool.eq_false_iff.mpr hb
      rw [if_neg hb, Nat.add_zero]
      simp (maxSteps := 2000000) (disch := omega) only [e_inl, e_goto, e_fall, e_if, e_icmp, e_iret, e_zret, e_lret, e_vret, e_call0_0, e_call0_1, e_call0_2, e_call0_3, e_call0_4, e_call1_0, e_call1_1, e_call1_2, e_call1_3, e_call1_4, e_call2_0, e_call2_1, e_call2_2, e_call2_3, e_call2_4, e_call3_0, e_call3_1, e_call3_2, e_call3_3, e_call3_4, e_call4_0, e_call4_1, e_call4_2, e_call4_3, e_call4_4, e_call5_0, e_call5_1, e_call5_2, e_call5_3, e_call5_4, e_call6_0, e_call6_1, e_call6_2, e_call6_3, e_call6_4, xP, xld, xst1, xst2, xis2, xii, xid, xll, xlv, xls, xlc, xil, xli, xrd, xdup, xdup2, xc1, xpu, c_eq, c_ne, c_lt, c_ge, c_gt, c_le, Option.bind_some, Option.map_some, List.length_nil, List.length_cons, Nat.reduceAdd, Nat.reduceLeDiff, Int.reduceToNat, Bool.and_self, Bool.false_eq_true, if_true, if_false, D12_27, n_lit, nI_leI, nI_add, h1, n_0, eb2])
  have e0 : fb_sm (fun v => if can.testBit v = true then mW σ f v else 0) 0 = 0 := rfl
  rw [e0] at hl
  simp (maxSteps := 2000000) (disch := omega) only [e_inl, e_goto, e_fall, e_if, e_icmp, e_iret, e_zret, e_lret, e_vret, e_call0_0, e_call0_1, e_call0_2, e_call0_3, e_call0_4, e_call1_0, e_call1_1, e_call1_2, e_call1_3, e_call1_4, e_call2_0, e_call2_1, e_call2_2, e_call2_3, e_call2_4, e_call3_0, e_call3_1, e_call3_2, e_call3_3, e_call3_4, e_call4_0, e_call4_1, e_call4_2, e_call4_3, e_call4_4, e_call5_0, e_call5_1, e_call5_2, e_call5_3, e_call5_4, e_call6_0, e_call6_1, e_call6_2, e_call6_3, e_call6_4, xP, xld, xst1, xst2, xis2, xii, xid, xll, xlv, xls, xlc, xil, xli, xrd, xdup, xdup2, xc1, xpu, c_eq, c_ne, c_lt, c_ge, c_gt, c_le, Option.bind_some, Option.map_some, List.length_nil, List.length_cons, Nat.reduceAdd, Nat.reduceLeDiff, Int.reduceToNat, Bool.and_self, Bool.false_eq_true, if_true, if_false, n_lit]
  rw [hl, D12_4]
  simp (maxSteps := 2000000) (disch := omega) only [e_inl, e_goto, e_fall, e_if, e_icmp, e_iret, e_zret, e_lret, e_vret, e_call0_0, e_call0_1, e_call0_2, e_call0_3, e_call0_4, e_call1_0, e_call1_1, e_call1_2, e_call1_3, e_call1_4, e_call2_0, e_call2_1, e_call2_2, e_call2_3, e_call2_4, e_call3_0, e_call3_1, e_call3_2, e_call3_3, e_call3_4, e_call4_0, e_call4_1, e_call4_2, e_call4_3, e_call4_4, e_call5_0, e_call5_1, e_call5_2, e_call5_3, e_call5_4, e_call6_0, e_call6_1, e_call6_2, e_call6_3, e_call6_4, xP, xld, xst1, xst2, xis2, xii, xid, xll, xlv, xls, xlc, xil, xli, xrd, xdup, xdup2, xc1, xpu, c_eq, c_ne, c_lt, c_ge, c_gt, c_le, Option.bind_some, Option.map_some, List.length_nil, List.length_cons, Nat.reduceAdd, Nat.reduceLeDiff, Int.reduceToNat, Bool.and_self, Bool.false_eq_true, if_true, if_false, D12_33, n_lit, nI_leI, Nat.le_refl]
  rfl
end
