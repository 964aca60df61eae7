/-! ===== the class: sets of rows (2): values, the i-th row, how many ahead ===== -/
def vwN (n f : Nat) : Nat := bset (fun v => !decide (n &&& wiN f (2 ^ v) = 0)) 8
theorem bset_succ (p : Nat → Bool) (k : Nat) : bset p (k + 1) = if p k = true then bset p k ||| 2 ^ k else bset p k := rfl
set_option maxRecDepth 100000 in
theorem c_valuesWithin {n f : Nat} (hn : n < 2 ^ 64) (hf : f < 4) (h : xH) : xcall 34 [.long (lN n), .int (nI f)] h = some (some (.int (nI (vwN n f))), h) := by
  rw [N34, D34_0]
  have hl := x_loop (i := 34) (pc := 5) (fun k => [some (.long (lN n)), none, some (.int (nI f)), some (.int (nI (bset (fun v => !decide (n &&& wiN f (2 ^ v) = 0)) k))), some (.int (nI k))]) (fun _ => h) 8 (fun k hk => by
    rw [D34_5, bset_succ]
    have h1 : ¬ 8 ≤ k := by omega
    have ep := n_pow hk
    have hp2 : (2 : Nat) ^ k < 256 := Nat.pow_lt_pow_right (n := 8) (by decide) hk
    have ew := c_withinWord hf hp2 h
    have ea := wb_and hn (wiN_lt f (2 ^ k))
    have hlt : n &&& wiN f (2 ^ k) < 2 ^ 64 := Nat.lt_of_le_of_lt Nat.and_le_left hn
    have ec := m_cmp0 hlt
    generalize bset (fun v => !decide (n &&& wiN f (2 ^ v) = 0)) k = u
    by_cases h0 : n &&& wiN f (2 ^ k) = 0
    · have ec2 : lg_cmp (lN (n &&& wiN f (2 ^ k))) (Int64.ofInt 0) = nI 0 := by rw [← n_0, ec]; exact h0
      rw [if_neg (by simp [h0])]
      simp (maxSteps := 2000000) (disch := omega) only [e_inl, e_goto, e_fall, e_if, e_icmp, e_iret, e_zret, e_lret, e_vret, e_call0_0, e_call0_1, e_call0_2, e_call0_3, e_call0_4, e_call1_0, e_call1_1, e_call1_2, e_call1_3, e_call1_4, e_call2_0, e_call2_1, e_call2_2, e_call2_3, e_call2_4, e_call3_0, e_call3_1, e_call3_2, e_call3_3, e_call3_4, e_call4_0, e_call4_1, e_call4_2, e_call4_3, e_call4_4, e_call5_0, e_call5_1, e_call5_2, e_call5_3, e_call5_4, e_call6_0, e_call6_1, e_call6_2, e_call6_3, e_call6_4, xP, xld, xst1, xst2, xis2, xii, xid, xll, xlv, xls, xlc, xil, xli, xrd, xdup, xdup2, xc1, xpu, c_eq, c_ne, c_lt, c_ge, c_gt, c_le, Option.bind_some, Option.map_some, List.length_nil, List.length_cons, Nat.reduceAdd, Nat.reduceLeDiff, Int.reduceToNat, Bool.and_self, Bool.false_eq_true, if_true, if_false, D34_34, n_lit, nI_leI, nI_add, h1, ep, ew, ea, n_0, ec2]
    · have ec2 : ¬ lg_cmp (lN (n &&& wiN f (2 ^ k))) (Int64.ofInt 0) = nI 0 := by rw [← n_0, ec]; exact h0
      rw [if_pos (by simp [h0])]
      simp (maxSteps := 2000000) (disch := omega) only [e_inl, e_goto, e_fall, e_if, e_icmp, e_iret, e_zret, e_lret, e_vret, e_call0_0, e_call0_1, e_call0_2, e_call0_3, e_call0_4, e_call1_0, e_call1_1, e_call1_2, e_call1_3, e_call1_4, e_call2_0, e_call2_1, e_call2_2, e_call2_3, e_call2_4, e_call3_0, e_call3_1, e_call3_2, e_call3_3, e_call3_4, e_call4_0, e_call4_1, e_call4_2, e_call4_3, e_call4_4, e_call5_0, e_call5_1, e_call5_2, e_call5_3, e_call5_4, e_call6_0, e_call6_1, e_call6_2, e_call6_3, e_call6_4, xP, xld, xst1, xst2, xis2, xii, xid, xll, xlv, xls, xlc, xil, xli, xrd, xdup, xdup2, xc1, xpu, c_eq, c_ne, c_lt, c_ge, c_gt, c_le, Option.bind_some, Option.map_some, List.length_nil, List.length_cons, Nat.reduceAdd, Nat.reduceLeDiff, Int.reduceToNat, Bool.and_self, Bool.false_eq_true, if_true, if_false, D34_34, n_lit, nI_leI, nI_add, h1, ep, ew, ea, n_0, ec2, fa_or])
  have e0 : bset (fun v => !decide (n &&& wiN f (2 ^ v) = 0)) 0 = 0 := rfl
  rw [e0] at hl
  simp (maxSteps := 2000000) (disch := omega) only [e_inl, e_goto, e_fall, e_if, e_icmp, e_iret, e_zret, e_lret, e_vret, e_call0_0, e_call0_1, e_call0_2, e_call0_3, e_call0_4, e_call1_0, e_call1_1, e_call1_2, e_call1_3, e_call1_4, e_call2_0, e_call2_1, e_call2_2, e_call2_3, e_call2_4, e_call3_0, e_call3_1, e_call3_2, e_call3_3, e_call3_4, e_call4_0, e_call4_1, e_call4_2, e_call4_3, e_call4_4, e_call5_0, e_call5_1, e_call5_2, e_call5_3, e_call5_4, e_call6_0, e_call6_1, e_call6_2, e_call6_3, e_call6_4, xP, xld, xst1, xst2, xis2, xii, xid, xll, xlv, xls, xlc, xil, xli, xrd, xdup, xdup2, xc1, xpu, c_eq, c_ne, c_lt, c_ge, c_gt, c_le, Option.bind_some, Option.map_some, List.length_nil, List.length_cons, Nat.reduceAdd, Nat.reduceLeDiff, Int.reduceToNat, Bool.and_self, Bool.false_eq_true, if_true, if_false, n_lit]
  rw [hl, D34_5]
  simp (maxSteps := 2000000) (disch := omega) only [e_inl, e_goto, e_fall, e_if, e_icmp, e_iret, e_zret, e_lret, e_vret, e_call0_0, e_call0_1, e_call0_2, e_call0_3, e_call0_4, e_call1_0, e_call1_1, e_call1_2, e_call1_3, e_call1_4, e_call2_0, e_call2_1, e_call2_2, e_call2_3, e_call2_4, e_call3_0, e_call3_1, e_call3_2, e_call3_3, e_call3_4, e_call4_0, e_call4_1, e_call4_2, e_call4_3, e_call4_4, e_call5_0, e_call5_1, e_call5_2, e_call5_3, e_call5_4, e_call6_0, e_call6_1, e_call6_2, e_call6_3, e_call6_4, xP, xld, xst1, xst2, xis2, xii, xid, xll, xlv, xls, xlc, xil, xli, xrd, xdup, xdup2, xc1, xpu, c_eq, c_ne, c_lt, c_ge, c_gt, c_le, Option.bind_some, Option.map_some, List.length_nil, List.length_cons, Nat.reduceAdd, Nat.reduceLeDiff, Int.reduceToNat, Bool.and_self, Bool.false_eq_true, if_true, if_false, D34_40, n_lit, nI_leI, Nat.le_refl]
  rfl
/-- the words of a set taken together -/
def anyN (m : Nat → Bool) : Nat → Nat
  | 0 => 0
  | k + 1 => anyN m k ||| wdN m k
theorem anyN_lt (m : Nat → Bool) : ∀ k, anyN m k < 2 ^ 64
  | 0 => Nat.two_pow_pos 64
  | k + 1 => Nat.or_lt_two_pow (anyN_lt m k) (wdN_lt m k)
theorem anyN_bit {m : Nat → Bool} {b : Nat} (hb : b < 64) : ∀ k, (anyN m k).testBit b = exB (fun w => m (64 * w + b)) k
  | 0 => by
    rw [anyN, Nat.zero_testBit]
    rfl
  | k + 1 => by
    rw [anyN, Nat.testBit_or, anyN_bit hb k, wdN_bit hb]
    rfl
theorem wdN_ex {m : Nat → Bool} {w : Nat} (h : wdN m w ≠ 0) : ∃ b, b < 64 ∧ m (64 * w + b) = true := by
  apply Classical.byContradiction
  intro hn
  apply h
  apply wdN_0
  intro b hb
  cases hm : m (64 * w + b)
  · rfl
  · exact absurd ⟨b, hb, hm⟩ hn
def owP (m : Nat → Bool) (f k v : Nat) : Bool := exB (fun w => !decide (wdN m w = 0) && decide (wv w f = v)) k
theorem ow_vals (m : Nat → Bool) {f : Nat} (hf : f < 2) : bset (owP m f 64) 8 = valS m f := by
  apply bset_ext
  intro v _
  unfold owP
  rw [Bool.eq_iff_iff, exB_iff, exB_iff]
  constructor
  · rintro ⟨w, hw, h⟩
    rw [Bool.and_eq_true, decide_eq_true_eq] at h
    obtain ⟨b, hb, hm⟩ := wdN_ex (m := m) (w := w) (by simpa using h.1)
    refine ⟨64 * w + b, by omega, ?_⟩
    rw [hm, wv_vl hw hb hf, h.2]
    simp
  · rintro ⟨x, hx, h⟩
    rw [Bool.and_eq_true, decide_eq_true_eq] at h
    refine ⟨x / 64, by omega, ?_⟩
    have e : 64 * (x / 64) + x % 64 = x := by omega
    have hne : wdN m (x / 64) ≠ 0 := fun h0 => by
      have := wdN_z h0 (b := x % 64) (by omega)
      rw [e, h.1] at this
      cases this
    have ev := wv_vl (w := x / 64) (b := x % 64) (by omega) (by omega) hf
    rw [e, h.2] at ev
    simp [hne, ev]
theorem wi_hit {n f v : Nat} (hf : 2 ≤ f) : (n &&& wiN f (2 ^ v) ≠ 0) ↔ ∃ b, b < 64 ∧ n.testBit b = true ∧ vl b f = v := by
  have h2 : ¬ f < 2 := by omega
  have hbit : ∀ b, (n &&& wiN f (2 ^ v)).testBit b = (n.testBit b && (decide (b < 64) && decide (vl b f = v))) := by
    intro b
    unfold wiN
    rw [Nat.testBit_and, bset_bit]
    show (n.testBit b && (decide (b < 64) && (decide (f < 2) || (2 ^ v).testBit (vl b f)))) = _
    rw [Nat.testBit_two_pow, decide_eq_false h2, Bool.false_or]
    congr 2
    exact decide_eq_decide.mpr ⟨fun h => h.symm, fun h => h.symm⟩
  constructor
  · intro h
    apply Classical.byContradiction
    intro hn
    apply h
    apply Nat.eq_of_testBit_eq
    intro b
    rw [hbit, Nat.zero_testBit]
    by_cases h3 : b < 64
    · by_cases h4 : vl b f = v
      · cases h5 : n.testBit b
        · rfl
        · exact absurd ⟨b, h3, h5, h4⟩ hn
      · simp [h4]
    · simp [h3]
  · rintro ⟨b, h3, h5, h4⟩ h0
    have := hbit b
    rw [h0, Nat.zero_testBit, h5, decide_eq_true h3, decide_eq_true h4] at this
    cases this
theorem vw_vals (m : Nat → Bool) {f : Nat} (hf : 2 ≤ f) (hf4 : f < 4) : vwN (anyN m 64) f = valS m f := by
  apply bset_ext
  intro v _
  rw [Bool.eq_iff_iff, exB_iff]
  constructor
  · intro h
    have h : anyN m 64 &&& wiN f (2 ^ v) ≠ 0 := by simpa using h
    obtain ⟨b, hb, h1, h2⟩ := (wi_hit hf).mp h
    rw [anyN_bit hb, exB_iff] at h1
    obtain ⟨w, hw, hm⟩ := h1
    refine ⟨64 * w + b, by omega, ?_⟩
    rw [hm, vl_b hw hb hf hf4, h2]
    simp
  · rintro ⟨x, hx, h⟩
    rw [Bool.and_eq_true, decide_eq_true_eq] at h
    have e : 64 * (x / 64) + x % 64 = x := by omega
    have h3 : anyN m 64 &&& wiN f (2 ^ v) ≠ 0 := (wi_hit hf).mpr ⟨x % 64, by omega, by
      rw [anyN_bit (by omega), exB_iff]
      exact ⟨x / 64, by omega, by rw [e]; exact h.1⟩, by
      have ev := vl_b (w := x / 64) (b := x % 64) (by omega) (by omega) hf hf4
      rw [e, h.2] at ev
      exact ev.symm⟩
    simpa using h3
set_option maxRecDepth 100000 in
theorem c_valuesAt {a f : Nat} {F : (Nat → Int64) → xH} (hF : IsRS a F) {W : Nat → Int64} {m : Nat → Bool} (hm : RS m W) (hf : f < 4) : xcall 33 [.ref a, .int (nI f)] (F W) = some (some (.int (nI (valS m f))), F W) := by
  rw [N33 _ _ _ (hF.o W), D33_0]
  have e1 := hF.g W
  have hl := x_loop (i := 33) (pc := 7) (fun k => [some (.ref a), some (.int (nI f)), some (.int (nI (bset (owP m f k) 8))), some (.long (lN (anyN m k))), none, some (.int (nI k))]) (fun _ => F W) 64 (fun k hk => by
    rw [D33_7]
    have h1 : ¬ 64 ≤ k := by omega
    have er := hF.r W hk
    rw [hm k hk] at er
    have ec := m_cmp0 (wdN_lt m k)
    have hv := wv_lt hk f
    have ep := n_pow hv
    have ew := c_wordValue hk hf (F W)
    have eo := wb_or (anyN_lt m k) (wdN_lt m k)
    have ea : anyN m (k + 1) = anyN m k ||| wdN m k := rfl
    by_cases h0 : wdN m k = 0
    · have ec2 : lg_cmp (lN (wdN m k)) (Int64.ofInt 0) = nI 0 := by rw [← n_0, ec]; exact h0
      have eb : bset (owP m f (k + 1)) 8 = bset (owP m f k) 8 := bset_ext (fun v _ => by
        show (owP m f k v || (!decide (wdN m k = 0) && decide (wv k f = v))) = _
        rw [decide_eq_true h0]
        simp)
      rw [eb, ea]
      rw [h0, Nat.or_zero]
      rw [h0] at er ec2
      simp (maxSteps := 2000000) (disch := omega) only [e_inl, e_goto, e_fall, e_if, e_icmp, e_iret, e_zret, e_lret, e_vret, e_call0_0, e_call0_1, e_call0_2, e_call0_3, e_call0_4, e_call1_0, e_call1_1, e_call1_2, e_call1_3, e_call1_4, e_call2_0, e_call2_1, e_call2_2, e_call2_3, e_call2_4, e_call3_0, e_call3_1, e_call3_2, e_call3_3, e_call3_4, e_call4_0, e_call4_1, e_call4_2, e_call4_3, e_call4_4, e_call5_0, e_call5_1, e_call5_2, e_call5_3, e_call5_4, e_call6_0, e_call6_1, e_call6_2, e_call6_3, e_call6_4, xP, xld, xst1, xst2, xis2, xii, xid, xll, xlv, xls, xlc, xil, xli, xrd, xdup, xdup2, xc1, xpu, c_eq, c_ne, c_lt, c_ge, c_gt, c_le, Option.bind_some, Option.map_some, List.length_nil, List.length_cons, Nat.reduceAdd, Nat.reduceLeDiff, Int.reduceToNat, Bool.and_self, Bool.false_eq_true, if_true, if_false, D33_47, n_lit, nI_leI, nI_add, h1, e1, er, n_0, ec2]
    · have ec2 : ¬ lg_cmp (lN (wdN m k)) (Int64.ofInt 0) = nI 0 := by rw [← n_0, ec]; exact h0
      have eb : bset (owP m f (k + 1)) 8 = bset (owP m f k) 8 ||| 2 ^ wv k f := by
        rw [bset_or hv]
        apply bset_ext
        intro v _
        show (owP m f k v || (!decide (wdN m k = 0) && decide (wv k f = v))) = (owP m f k v || decide (v = wv k f))
        rw [decide_eq_false h0]
        congr 1
        rw [Bool.not_false, Bool.true_and]
        exact decide_eq_decide.mpr ⟨fun h => h.symm, fun h => h.symm⟩
      rw [eb, ea]
      simp (maxSteps := 2000000) (disch := omega) only [e_inl, e_goto, e_fall, e_if, e_icmp, e_iret, e_zret, e_lret, e_vret, e_call0_0, e_call0_1, e_call0_2, e_call0_3, e_call0_4, e_call1_0, e_call1_1, e_call1_2, e_call1_3, e_call1_4, e_call2_0, e_call2_1, e_call2_2, e_call2_3, e_call2_4, e_call3_0, e_call3_1, e_call3_2, e_call3_3, e_call3_4, e_call4_0, e_call4_1, e_call4_2, e_call4_3, e_call4_4, e_call5_0, e_call5_1, e_call5_2, e_call5_3, e_call5_4, e_call6_0, e_call6_1, e_call6_2, e_call6_3, e_call6_4, xP, xld, xst1, xst2, xis2, xii, xid, xll, xlv, xls, xlc, xil, xli, xrd, xdup, xdup2, xc1, xpu, c_eq, c_ne, c_lt, c_ge, c_gt, c_le, Option.bind_some, Option.map_some, List.length_nil, List.length_cons, Nat.reduceAdd, Nat.reduceLeDiff, Int.reduceToNat, Bool.and_self, Bool.false_eq_true, if_true, if_false, D33_47, n_lit, nI_leI, nI_add, h1, e1, er, n_0, ec2, ew, ep, fa_or, eo])
  have e0 : bset (owP m f 0) 8 = 0 := bset_none (fun _ _ => rfl)
  have e00 : anyN m 0 = 0 := rfl
  rw [e0, e00] at hl
  simp (maxSteps := 2000000) (disch := omega) only [e_inl, e_goto, e_fall, e_if, e_icmp, e_iret, e_zret, e_lret, e_vret, e_call0_0, e_call0_1, e_call0_2, e_call0_3, e_call0_4, e_call1_0, e_call1_1, e_call1_2, e_call1_3, e_call1_4, e_call2_0, e_call2_1, e_call2_2, e_call2_3, e_call2_4, e_call3_0, e_call3_1, e_call3_2, e_call3_3, e_call3_4, e_call4_0, e_call4_1, e_call4_2, e_call4_3, e_call4_4, e_call5_0, e_call5_1, e_call5_2, e_call5_3, e_call5_4, e_call6_0, e_call6_1, e_call6_2, e_call6_3, e_call6_4, xP, xld, xst1, xst2, xis2, xii, xid, xll, xlv, xls, xlc, xil, xli, xrd, xdup, xdup2, xc1, xpu, c_eq, c_ne, c_lt, c_ge, c_gt, c_le, Option.bind_some, Option.map_some, List.length_nil, List.length_cons, Nat.reduceAdd, Nat.reduceLeDiff, Int.reduceToNat, Bool.and_self, Bool.false_eq_true, if_true, if_false, n_lit, m_lit]
  rw [hl, D33_7]
  by_cases h2 : 2 ≤ f
  · have ev := c_valuesWithin (anyN_lt m 64) hf (F W)
    rw [vw_vals m h2 hf] at ev
    simp (maxSteps := 2000000) (disch := omega) only [e_inl, e_goto, e_fall, e_if, e_icmp, e_iret, e_zret, e_lret, e_vret, e_call0_0, e_call0_1, e_call0_2, e_call0_3, e_call0_4, e_call1_0, e_call1_1, e_call1_2, e_call1_3, e_call1_4, e_call2_0, e_call2_1, e_call2_2, e_call2_3, e_call2_4, e_call3_0, e_call3_1, e_call3_2, e_call3_3, e_call3_4, e_call4_0, e_call4_1, e_call4_2, e_call4_3, e_call4_4, e_call5_0, e_call5_1, e_call5_2, e_call5_3, e_call5_4, e_call6_0, e_call6_1, e_call6_2, e_call6_3, e_call6_4, xP, xld, xst1, xst2, xis2, xii, xid, xll, xlv, xls, xlc, xil, xli, xrd, xdup, xdup2, xc1, xpu, c_eq, c_ne, c_lt, c_ge, c_gt, c_le, Option.bind_some, Option.map_some, List.length_nil, List.length_cons, Nat.reduceAdd, Nat.reduceLeDiff, Int.reduceToNat, Bool.and_self, Bool.false_eq_true, if_true, if_false, D33_53, D33_62, D33_67, n_lit, nI_leI, Nat.le_refl, h2, ev]
  · rw [ow_vals m (show f < 2 by omega)]
    simp (maxSteps := 2000000) (disch := omega) only [e_inl, e_goto, e_fall, e_if, e_icmp, e_iret, e_zret, e_lret, e_vret, e_call0_0, e_call0_1, e_call0_2, e_call0_3, e_call0_4, e_call1_0, e_call1_1, e_call1_2, e_call1_3, e_call1_4, e_call2_0, e_call2_1, e_call2_2, e_call2_3, e_call2_4, e_call3_0, e_call3_1, e_call3_2, e_call3_3, e_call3_4, e_call4_0, e_call4_1, e_call4_2, e_call4_3, e_call4_4, e_call5_0, e_call5_1, e_call5_2, e_call5_3, e_call5_4, e_call6_0, e_call6_1, e_call6_2, e_call6_3, e_call6_4, xP, xld, xst1, xst2, xis2, xii, xid, xll, xlv, xls, xlc, xil, xli, xrd, xdup, xdup2, xc1, xpu, c_eq, c_ne, c_lt, c_ge, c_gt, c_le, Option.bind_some, Option.map_some, List.length_nil, List.length_cons, Nat.reduceAdd, Nat.reduceLeDiff, Int.reduceToNat, Bool.and_self, Bool.false_eq_true, if_true, if_false, D33_53, D33_67, n_lit, nI_leI, Nat.le_refl, h2]
