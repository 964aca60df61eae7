/-! ===== the class: sets of rows (3): the i-th row, how many ahead ===== -/
theorem m_bit0 {n b : Nat} (hn : n < 2 ^ 64) (hb : b < 64) : (lg_cmp (((lN n).toUInt64 >>> ((nI b).toInt64.toUInt64 &&& Int64.toUInt64 63)).toInt64 &&& Int64.ofInt 1) (Int64.ofInt 0) = nI 0) = (n.testBit b = false) := by
  have e := wb_bit hn hb
  have e2 : ((lN n).toUInt64 >>> ((nI b).toInt64.toUInt64 &&& Int64.toUInt64 63)).toInt64 &&& Int64.ofInt 1 = lN (n / 2 ^ b % 2) := e
  have h2 := Nat.mod_lt (n / 2 ^ b) (show 2 > 0 by decide)
  rw [e2, ← n_0, m_cmp0 (by omega), tb_div]
  by_cases e3 : n / 2 ^ b % 2 = 1
  · simp [e3]
  · have : n / 2 ^ b % 2 = 0 := by omega
    simp [this]
set_option maxRecDepth 100000 in
theorem c_bitAt {n i x : Nat} (hn : n < 2 ^ 64) (hx : x < 64) (hb : n.testBit x = true) (hi : fb_ct (fun j => n.testBit j) x = i) (h : xH) : xcall 36 [.long (lN n), .int (nI i)] h = some (some (.int (nI x)), h) := by
  rw [N36, D36_0]
  have hi64 := fb_ct_le (fun j => n.testBit j) x
  have hl := x_loop (i := 36) (pc := 5) (fun k => [some (.long (lN n)), none, some (.int (nI i)), some (.int (nI (i - fb_ct (fun j => n.testBit j) k))), some (.int (nI k))]) (fun _ => h) x (fun k hk => by
    rw [D36_5, fb_ct_succ]
    have h1 : ¬ 64 ≤ k := by omega
    have eb := m_bit0 hn (show k < 64 by omega)
    have hmono := fb_ct_mono (fun j => n.testBit j) (show k + 1 ≤ x by omega)
    rw [fb_ct_succ] at hmono
    generalize fb_ct (fun j => n.testBit j) k = u at *
    cases hk2 : n.testBit k
    · have eb2 : lg_cmp (((lN n).toUInt64 >>> ((nI k).toInt64.toUInt64 &&& Int64.toUInt64 63)).toInt64 &&& Int64.ofInt 1) (Int64.ofInt 0) = nI 0 := by rw [eb]; exact hk2
      rw [if_neg (by decide), Nat.add_zero]
      simp (maxSteps := 2000000) (disch := omega) only [e_inl, e_goto, e_fall, e_if, e_icmp, e_iret, e_zret, e_lret, e_vret, e_call0_0, e_call0_1, e_call0_2, e_call0_3, e_call0_4, e_call1_0, e_call1_1, e_call1_2, e_call1_3, e_call1_4, e_call2_0, e_call2_1, e_call2_2, e_call2_3, e_call2_4, e_call3_0, e_call3_1, e_call3_2, e_call3_3, e_call3_4, e_call4_0, e_call4_1, e_call4_2, e_call4_3, e_call4_4, e_call5_0, e_call5_1, e_call5_2, e_call5_3, e_call5_4, e_call6_0, e_call6_1, e_call6_2, e_call6_3, e_call6_4, xP, xld, xst1, xst2, xis2, xii, xid, xll, xlv, xls, xlc, xil, xli, xrd, xdup, xdup2, xc1, xpu, c_eq, c_ne, c_lt, c_ge, c_gt, c_le, Option.bind_some, Option.map_some, List.length_nil, List.length_cons, Nat.reduceAdd, Nat.reduceLeDiff, Int.reduceToNat, Bool.and_self, Bool.false_eq_true, if_true, if_false, D36_33, n_lit, nI_leI, nI_add, h1, n_0, eb2]
    · have eb2 : ¬ lg_cmp (((lN n).toUInt64 >>> ((nI k).toInt64.toUInt64 &&& Int64.toUInt64 63)).toInt64 &&& Int64.ofInt 1) (Int64.ofInt 0) = nI 0 := by rw [eb, hk2]; decide
      rw [hk2, if_pos rfl] at hmono
      rw [if_pos rfl]
      have hne : ¬ i - u = 0 := by omega
      have hdec : nI (i - u) + Int32.ofInt (-1) = nI (i - (u + 1)) := by
        rw [show i - u = (i - (u + 1)) + 1 by omega]
        exact n_m1 _
      simp (maxSteps := 2000000) (disch := omega) only [e_inl, e_goto, e_fall, e_if, e_icmp, e_iret, e_zret, e_lret, e_vret, e_call0_0, e_call0_1, e_call0_2, e_call0_3, e_call0_4, e_call1_0, e_call1_1, e_call1_2, e_call1_3, e_call1_4, e_call2_0, e_call2_1, e_call2_2, e_call2_3, e_call2_4, e_call3_0, e_call3_1, e_call3_2, e_call3_3, e_call3_4, e_call4_0, e_call4_1, e_call4_2, e_call4_3, e_call4_4, e_call5_0, e_call5_1, e_call5_2, e_call5_3, e_call5_4, e_call6_0, e_call6_1, e_call6_2, e_call6_3, e_call6_4, xP, xld, xst1, xst2, xis2, xii, xid, xll, xlv, xls, xlc, xil, xli, xrd, xdup, xdup2, xc1, xpu, c_eq, c_ne, c_lt, c_ge, c_gt, c_le, Option.bind_some, Option.map_some, List.length_nil, List.length_cons, Nat.reduceAdd, Nat.reduceLeDiff, Int.reduceToNat, Bool.and_self, Bool.false_eq_true, if_true, if_false, D36_30, D36_33, n_lit, nI_leI, nI_add, nI_eq, h1, n_0, eb2, hne, not_false_eq_true, hdec])
  have e0 : fb_ct (fun j => n.testBit j) 0 = 0 := rfl
  rw [e0, Nat.sub_zero, hi, Nat.sub_self] at hl
  simp (maxSteps := 2000000) (disch := omega) only [e_inl, e_goto, e_fall, e_if, e_icmp, e_iret, e_zret, e_lret, e_vret, e_call0_0, e_call0_1, e_call0_2, e_call0_3, e_call0_4, e_call1_0, e_call1_1, e_call1_2, e_call1_3, e_call1_4, e_call2_0, e_call2_1, e_call2_2, e_call2_3, e_call2_4, e_call3_0, e_call3_1, e_call3_2, e_call3_3, e_call3_4, e_call4_0, e_call4_1, e_call4_2, e_call4_3, e_call4_4, e_call5_0, e_call5_1, e_call5_2, e_call5_3, e_call5_4, e_call6_0, e_call6_1, e_call6_2, e_call6_3, e_call6_4, xP, xld, xst1, xst2, xis2, xii, xid, xll, xlv, xls, xlc, xil, xli, xrd, xdup, xdup2, xc1, xpu, c_eq, c_ne, c_lt, c_ge, c_gt, c_le, Option.bind_some, Option.map_some, List.length_nil, List.length_cons, Nat.reduceAdd, Nat.reduceLeDiff, Int.reduceToNat, Bool.and_self, Bool.false_eq_true, if_true, if_false, n_lit]
  rw [hl, D36_5]
  have h1 : ¬ 64 ≤ x := by omega
  have eb := m_bit0 hn hx
  have eb2 : ¬ lg_cmp (((lN n).toUInt64 >>> ((nI x).toInt64.toUInt64 &&& Int64.toUInt64 63)).toInt64 &&& Int64.ofInt 1) (Int64.ofInt 0) = nI 0 := by rw [eb, hb]; decide
  simp (maxSteps := 2000000) (disch := omega) only [e_inl, e_goto, e_fall, e_if, e_icmp, e_iret, e_zret, e_lret, e_vret, e_call0_0, e_call0_1, e_call0_2, e_call0_3, e_call0_4, e_call1_0, e_call1_1, e_call1_2, e_call1_3, e_call1_4, e_call2_0, e_call2_1, e_call2_2, e_call2_3, e_call2_4, e_call3_0, e_call3_1, e_call3_2, e_call3_3, e_call3_4, e_call4_0, e_call4_1, e_call4_2, e_call4_3, e_call4_4, e_call5_0, e_call5_1, e_call5_2, e_call5_3, e_call5_4, e_call6_0, e_call6_1, e_call6_2, e_call6_3, e_call6_4, xP, xld, xst1, xst2, xis2, xii, xid, xll, xlv, xls, xlc, xil, xli, xrd, xdup, xdup2, xc1, xpu, c_eq, c_ne, c_lt, c_ge, c_gt, c_le, Option.bind_some, Option.map_some, List.length_nil, List.length_cons, Nat.reduceAdd, Nat.reduceLeDiff, Int.reduceToNat, Bool.and_self, Bool.false_eq_true, if_true, if_false, n_lit, nI_leI, nI_eq, h1, n_0, eb2, not_true_eq_false]
set_option maxRecDepth 100000 in
theorem c_codeAt {a i : Nat} {F : (Nat → Int64) → xH} (hF : IsRS a F) {W : Nat → Int64} {m : Nat → Bool} (hm : RS m W) (hi : i < 2 ^ 31) : xcall 35 [.ref a, .int (nI i)] (F W) = some (some (.int (if i < fb_ct m 4096 then nI (flw m i) else Int32.ofInt (-1))), F W) := by
  rw [N35 _ _ _ (hF.o W), D35_0]
  have e1 := hF.g W
  have step : ∀ (k : Nat) (z : Option Value), k < 64 → fb_ct m (64 * (k + 1)) ≤ i → den 35 4 [some (.ref a), some (.int (nI i)), some (.int (nI (i - fb_ct m (64 * k)))), some (.int (nI k)), z] [] (F W) = den 35 4 [some (.ref a), some (.int (nI i)), some (.int (nI (i - fb_ct m (64 * (k + 1))))), some (.int (nI (k + 1))), some (.int (nI (fb_ct (fun b => m (64 * k + b)) 64)))] [] (F W) := by
    intro k z hk hle
    rw [D35_4]
    have h1 : ¬ 64 ≤ k := by omega
    have er := hF.r W hk
    rw [hm k hk] at er
    rw [ct_word] at hle ⊢
    have hb64 := fb_ct_le (fun b => m (64 * k + b)) 64
    have eb := c_bcW (m := m) k (F W)
    generalize fb_ct (fun b => m (64 * k + b)) 64 = v at *
    generalize fb_ct m (64 * k) = u at *
    have h2 : v ≤ i - u := by omega
    have h3 : i - u - v = i - (u + v) := by omega
    simp (maxSteps := 2000000) (disch := omega) only [e_inl, e_goto, e_fall, e_if, e_icmp, e_iret, e_zret, e_lret, e_vret, e_call0_0, e_call0_1, e_call0_2, e_call0_3, e_call0_4, e_call1_0, e_call1_1, e_call1_2, e_call1_3, e_call1_4, e_call2_0, e_call2_1, e_call2_2, e_call2_3, e_call2_4, e_call3_0, e_call3_1, e_call3_2, e_call3_3, e_call3_4, e_call4_0, e_call4_1, e_call4_2, e_call4_3, e_call4_4, e_call5_0, e_call5_1, e_call5_2, e_call5_3, e_call5_4, e_call6_0, e_call6_1, e_call6_2, e_call6_3, e_call6_4, xP, xld, xst1, xst2, xis2, xii, xid, xll, xlv, xls, xlc, xil, xli, xrd, xdup, xdup2, xc1, xpu, c_eq, c_ne, c_lt, c_ge, c_gt, c_le, Option.bind_some, Option.map_some, List.length_nil, List.length_cons, Nat.reduceAdd, Nat.reduceLeDiff, Int.reduceToNat, Bool.and_self, Bool.false_eq_true, if_true, if_false, D35_43, n_lit, nI_leI, nI_add, n_sub, h1, e1, er, eb, h2, h3]
  have run : ∀ (k : Nat), k ≤ 64 → fb_ct m (64 * k) ≤ i → ∃ z : Option Value, den 35 4 [some (.ref a), some (.int (nI i)), some (.int (nI (i - fb_ct m (64 * 0)))), some (.int (nI 0)), none] [] (F W) = den 35 4 [some (.ref a), some (.int (nI i)), some (.int (nI (i - fb_ct m (64 * k)))), some (.int (nI k)), z] [] (F W) := by
    intro k
    induction k with
    | zero => intro _ _; exact ⟨none, rfl⟩
    | succ k ih =>
      intro hk hle
      have hmono := fb_ct_mono m (show 64 * k ≤ 64 * (k + 1) by omega)
      obtain ⟨z, e⟩ := ih (by omega) (by omega)
      exact ⟨_, e.trans (step k z (by omega) hle)⟩
  have e0 : i - fb_ct m (64 * 0) = i := Nat.sub_zero i
  simp (maxSteps := 2000000) (disch := omega) only [e_inl, e_goto, e_fall, e_if, e_icmp, e_iret, e_zret, e_lret, e_vret, e_call0_0, e_call0_1, e_call0_2, e_call0_3, e_call0_4, e_call1_0, e_call1_1, e_call1_2, e_call1_3, e_call1_4, e_call2_0, e_call2_1, e_call2_2, e_call2_3, e_call2_4, e_call3_0, e_call3_1, e_call3_2, e_call3_3, e_call3_4, e_call4_0, e_call4_1, e_call4_2, e_call4_3, e_call4_4, e_call5_0, e_call5_1, e_call5_2, e_call5_3, e_call5_4, e_call6_0, e_call6_1, e_call6_2, e_call6_3, e_call6_4, xP, xld, xst1, xst2, xis2, xii, xid, xll, xlv, xls, xlc, xil, xli, xrd, xdup, xdup2, xc1, xpu, c_eq, c_ne, c_lt, c_ge, c_gt, c_le, Option.bind_some, Option.map_some, List.length_nil, List.length_cons, Nat.reduceAdd, Nat.reduceLeDiff, Int.reduceToNat, Bool.and_self, Bool.false_eq_true, if_true, if_false, n_lit]
  by_cases hlt : i < fb_ct m 4096
  · rw [if_pos hlt]
    obtain ⟨f1, f2, f3⟩ := flw_mem hlt
    generalize flw m i = x at *
    have hk : x / 64 < 64 := by omega
    have hle : fb_ct m (64 * (x / 64)) ≤ i := by
      have := fb_ct_mono m (show 64 * (x / 64) ≤ x by omega)
      omega
    obtain ⟨z, e⟩ := run (x / 64) (by omega) hle
    rw [e0] at e
    rw [e, D35_4]
    have h1 : ¬ 64 ≤ x / 64 := by omega
    have er := hF.r W hk
    rw [hm _ hk] at er
    have ex : 64 * (x / 64) + x % 64 = x := by omega
    have hc : fb_ct m x = fb_ct m (64 * (x / 64)) + fb_ct (fun b => m (64 * (x / 64) + b)) (x % 64) := by
      have := fb_ct_split m (64 * (x / 64)) (x % 64)
      rw [ex] at this
      exact this
    have hcl : fb_ct (fun b => m (64 * (x / 64) + b)) (x % 64) < fb_ct (fun b => m (64 * (x / 64) + b)) 64 := by
      have := fb_ct_mono (fun b => m (64 * (x / 64) + b)) (show x % 64 + 1 ≤ 64 by omega)
      rw [fb_ct_succ] at this
      have h3 : m (64 * (x / 64) + x % 64) = true := by rw [ex]; exact f2
      rw [h3, if_pos rfl] at this
      omega
    have ebc := c_bcW (m := m) (x / 64) (F W)
    have hb64 := fb_ct_le (fun b => m (64 * (x / 64) + b)) 64
    have eba := c_bitAt (i := i - fb_ct m (64 * (x / 64))) (wdN_lt m (x / 64)) (show x % 64 < 64 by omega) (by rw [wdN_bit (by omega), ex]; exact f2) (by
      rw [fb_ct_cong (q := fun b => m (64 * (x / 64) + b)) (fun b hb => wdN_bit (by omega))]
      omega) (F W)
    have h2 : ¬ fb_ct (fun b => m (64 * (x / 64) + b)) 64 ≤ i - fb_ct m (64 * (x / 64)) := by omega
    have h5 : x / 64 * 64 + x % 64 = x := by omega
    generalize fb_ct (fun b => m (64 * (x / 64) + b)) 64 = v at *
    generalize i - fb_ct m (64 * (x / 64)) = u at *
    have hu : u < 2 ^ 31 := by omega
    simp (maxSteps := 2000000) (disch := omega) only [e_inl, e_goto, e_fall, e_if, e_icmp, e_iret, e_zret, e_lret, e_vret, e_call0_0, e_call0_1, e_call0_2, e_call0_3, e_call0_4, e_call1_0, e_call1_1, e_call1_2, e_call1_3, e_call1_4, e_call2_0, e_call2_1, e_call2_2, e_call2_3, e_call2_4, e_call3_0, e_call3_1, e_call3_2, e_call3_3, e_call3_4, e_call4_0, e_call4_1, e_call4_2, e_call4_3, e_call4_4, e_call5_0, e_call5_1, e_call5_2, e_call5_3, e_call5_4, e_call6_0, e_call6_1, e_call6_2, e_call6_3, e_call6_4, xP, xld, xst1, xst2, xis2, xii, xid, xll, xlv, xls, xlc, xil, xli, xrd, xdup, xdup2, xc1, xpu, c_eq, c_ne, c_lt, c_ge, c_gt, c_le, Option.bind_some, Option.map_some, List.length_nil, List.length_cons, Nat.reduceAdd, Nat.reduceLeDiff, Int.reduceToNat, Bool.and_self, Bool.false_eq_true, if_true, if_false, n_lit, nI_leI, nI_add, n_mul, h1, e1, er, ebc, h2, eba, h5]
  · rw [if_neg hlt]
    obtain ⟨z, e⟩ := run 64 (Nat.le_refl _) (show fb_ct m 4096 ≤ i by omega)
    rw [e0] at e
    rw [e, D35_4]
    simp (maxSteps := 2000000) (disch := omega) only [e_inl, e_goto, e_fall, e_if, e_icmp, e_iret, e_zret, e_lret, e_vret, e_call0_0, e_call0_1, e_call0_2, e_call0_3, e_call0_4, e_call1_0, e_call1_1, e_call1_2, e_call1_3, e_call1_4, e_call2_0, e_call2_1, e_call2_2, e_call2_3, e_call2_4, e_call3_0, e_call3_1, e_call3_2, e_call3_3, e_call3_4, e_call4_0, e_call4_1, e_call4_2, e_call4_3, e_call4_4, e_call5_0, e_call5_1, e_call5_2, e_call5_3, e_call5_4, e_call6_0, e_call6_1, e_call6_2, e_call6_3, e_call6_4, xP, xld, xst1, xst2, xis2, xii, xid, xll, xlv, xls, xlc, xil, xli, xrd, xdup, xdup2, xc1, xpu, c_eq, c_ne, c_lt, c_ge, c_gt, c_le, Option.bind_some, Option.map_some, List.length_nil, List.length_cons, Nat.reduceAdd, Nat.reduceLeDiff, Int.reduceToNat, Bool.and_self, Bool.false_eq_true, if_true, if_false, D35_54, n_lit, nI_leI, Nat.le_refl]
set_option maxRecDepth 100000 in
theorem c_countAhead {a c : Nat} {F : (Nat → Int64) → xH} (hF : IsRS a F) {W : Nat → Int64} {m : Nat → Bool} (hm : RS m W) (hc : c < 4096) : xcall 37 [.ref a, .int (nI c)] (F W) = some (some (.int (nI (fb_ct m c))), F W) := by
  rw [N37 _ _ _ (hF.o W), D37_0]
  have e1 := hF.g W
  have ed : nI c / nI 64 = nI (c / 64) := pk_div (by omega) (by omega) (by omega)
  have h6 : (nI 64 = 0) = False := by decide
  have hl := x_loop (i := 37) (pc := 4) (fun k => [some (.ref a), some (.int (nI c)), some (.int (nI (fb_ct m (64 * k)))), some (.int (nI k)), none]) (fun _ => F W) (c / 64) (fun k hk => by
    rw [D37_4]
    have h1 : ¬ 64 ≤ k := by omega
    have h2 : ¬ c / 64 ≤ k := by omega
    have er := hF.r W (show k < 64 by omega)
    rw [hm k (by omega)] at er
    rw [ct_word]
    simp (maxSteps := 2000000) (disch := omega) only [e_inl, e_goto, e_fall, e_if, e_icmp, e_iret, e_zret, e_lret, e_vret, e_call0_0, e_call0_1, e_call0_2, e_call0_3, e_call0_4, e_call1_0, e_call1_1, e_call1_2, e_call1_3, e_call1_4, e_call2_0, e_call2_1, e_call2_2, e_call2_3, e_call2_4, e_call3_0, e_call3_1, e_call3_2, e_call3_3, e_call3_4, e_call4_0, e_call4_1, e_call4_2, e_call4_3, e_call4_4, e_call5_0, e_call5_1, e_call5_2, e_call5_3, e_call5_4, e_call6_0, e_call6_1, e_call6_2, e_call6_3, e_call6_4, xP, xld, xst1, xst2, xis2, xii, xid, xll, xlv, xls, xlc, xil, xli, xrd, xdup, xdup2, xc1, xpu, c_eq, c_ne, c_lt, c_ge, c_gt, c_le, Option.bind_some, Option.map_some, List.length_nil, List.length_cons, Nat.reduceAdd, Nat.reduceLeDiff, Int.reduceToNat, Bool.and_self, Bool.false_eq_true, if_true, if_false, n_lit, nI_leI, nI_add, h1, h2, h6, ed, e1, er, c_bcW])
  have e0 : fb_ct m (64 * 0) = 0 := rfl
  rw [e0] at hl
  simp (maxSteps := 2000000) (disch := omega) only [e_inl, e_goto, e_fall, e_if, e_icmp, e_iret, e_zret, e_lret, e_vret, e_call0_0, e_call0_1, e_call0_2, e_call0_3, e_call0_4, e_call1_0, e_call1_1, e_call1_2, e_call1_3, e_call1_4, e_call2_0, e_call2_1, e_call2_2, e_call2_3, e_call2_4, e_call3_0, e_call3_1, e_call3_2, e_call3_3, e_call3_4, e_call4_0, e_call4_1, e_call4_2, e_call4_3, e_call4_4, e_call5_0, e_call5_1, e_call5_2, e_call5_3, e_call5_4, e_call6_0, e_call6_1, e_call6_2, e_call6_3, e_call6_4, xP, xld, xst1, xst2, xis2, xii, xid, xll, xlv, xls, xlc, xil, xli, xrd, xdup, xdup2, xc1, xpu, c_eq, c_ne, c_lt, c_ge, c_gt, c_le, Option.bind_some, Option.map_some, List.length_nil, List.length_cons, Nat.reduceAdd, Nat.reduceLeDiff, Int.reduceToNat, Bool.and_self, Bool.false_eq_true, if_true, if_false, n_lit]
  rw [hl, D37_4]
  have h1 : ¬ 64 ≤ c / 64 := by omega
  have er := hF.r W (show c / 64 < 64 by omega)
  rw [hm _ (by omega)] at er
  have hm63 : nI (c / 64) &&& nI 63 = nI (c / 64) := by
    have := fa_mask (c / 64) 6
    rw [Nat.mod_eq_of_lt (by omega)] at this
    exact this
  have hsub : c - c / 64 * 64 = c % 64 := by omega
  have hp2 : (2 : Nat) ^ (c % 64) < 2 ^ 64 := Nat.pow_lt_pow_right (by decide) (by omega)
  have hp0 : 1 ≤ (2 : Nat) ^ (c % 64) := Nat.two_pow_pos _
  have esh : lN 1 <<< ((nI (c % 64)).toInt64 &&& 63) = lN (2 ^ (c % 64)) := by
    have := wb_shl 1 (show c % 64 < 64 by omega)
    rw [Nat.one_mul] at this
    exact this
  have els : lN (2 ^ (c % 64)) - lN 1 = lN (2 ^ (c % 64) - 1) := lN_sub hp0
  have eand := wb_and (wdN_lt m (c / 64)) (show 2 ^ (c % 64) - 1 < 2 ^ 64 by omega)
  rw [Nat.and_two_pow_sub_one_eq_mod] at eand
  have hmlt : wdN m (c / 64) % 2 ^ (c % 64) < 2 ^ 64 := Nat.lt_of_le_of_lt (Nat.mod_le _ _) (wdN_lt m _)
  have ebc := t_bitCountL hmlt (F W)
  have ecc : fb_ct (fun j => (wdN m (c / 64) % 2 ^ (c % 64)).testBit j) 64 = fb_ct (fun b => m (64 * (c / 64) + b)) (c % 64) := by
    have e64 : 64 = c % 64 + (64 - c % 64) := by omega
    rw [e64, fb_ct_split]
    have z1 : fb_ct (fun k => (wdN m (c / 64) % 2 ^ (c % 64)).testBit (c % 64 + k)) (64 - c % 64) = 0 := fb_ct_zero.mpr (fun k _ => by
      show (wdN m (c / 64) % 2 ^ (c % 64)).testBit (c % 64 + k) = false
      rw [Nat.testBit_mod_two_pow, decide_eq_false (by omega), Bool.false_and])
    rw [← e64] at *
    rw [z1, Nat.add_zero]
    apply fb_ct_cong
    intro b hb
    rw [Nat.testBit_mod_two_pow, wdN_bit (by omega)]
    simp [hb]
  rw [ecc] at ebc
  have hfin : fb_ct m c = fb_ct m (64 * (c / 64)) + fb_ct (fun b => m (64 * (c / 64) + b)) (c % 64) := by
    have := fb_ct_split m (64 * (c / 64)) (c % 64)
    rw [show 64 * (c / 64) + c % 64 = c by omega] at this
    exact this
  rw [hfin]
  simp (maxSteps := 2000000) (disch := omega) only [e_inl, e_goto, e_fall, e_if, e_icmp, e_iret, e_zret, e_lret, e_vret, e_call0_0, e_call0_1, e_call0_2, e_call0_3, e_call0_4, e_call1_0, e_call1_1, e_call1_2, e_call1_3, e_call1_4, e_call2_0, e_call2_1, e_call2_2, e_call2_3, e_call2_4, e_call3_0, e_call3_1, e_call3_2, e_call3_3, e_call3_4, e_call4_0, e_call4_1, e_call4_2, e_call4_3, e_call4_4, e_call5_0, e_call5_1, e_call5_2, e_call5_3, e_call5_4, e_call6_0, e_call6_1, e_call6_2, e_call6_3, e_call6_4, xP, xld, xst1, xst2, xis2, xii, xid, xll, xlv, xls, xlc, xil, xli, xrd, xdup, xdup2, xc1, xpu, c_eq, c_ne, c_lt, c_ge, c_gt, c_le, Option.bind_some, Option.map_some, List.length_nil, List.length_cons, Nat.reduceAdd, Nat.reduceLeDiff, Int.reduceToNat, Bool.and_self, Bool.false_eq_true, if_true, if_false, D37_36, n_lit, m_lit, nI_leI, n_mul, n_sub, nI_add, h1, h6, ed, Nat.le_refl, hsub, esh, els, e1, hm63, er, eand, ebc]
