/-! ===== chance; the values that rows have, the rows that have values ===== -/
theorem m_lit (n : Nat) : Int64.ofInt (no_index (OfNat.ofNat n)) = lN (no_index (OfNat.ofNat n)) := rfl
theorem m_0 : (0 : Int64) = lN 0 := rfl
theorem m_eq {a b : Nat} (ha : a < 2 ^ 64) (hb : b < 2 ^ 64) : (lN a = lN b) = (a = b) := by
  apply propext
  constructor
  · intro h
    have h2 := congrArg (fun z : Int64 => z.toBitVec.toNat) h
    have h2 : (lN a).toBitVec.toNat = (lN b).toBitVec.toNat := h2
    rw [lN_nat ha, lN_nat hb] at h2
    exact h2
  · intro h
    rw [h]
theorem m_div {a b : Nat} (ha : a < 2 ^ 63) (hb : 0 < b) (hb2 : b < 2 ^ 63) : lN a / lN b = lN (a / b) := by
  apply Int64.toInt_inj.mp
  rw [lg_ldiv_nonneg (by rw [pf_lI ha]; omega) (by rw [pf_lI hb2]; omega), pf_lI ha, pf_lI hb2, pf_lI (Nat.lt_of_le_of_lt (Nat.div_le_self a b) ha)]
  exact (Int.natCast_ediv a b).symm
theorem m_rem {a b : Nat} (ha : a < 2 ^ 63) (hb : 0 < b) (hb2 : b < 2 ^ 63) : lN a - lN a / lN b * lN b = lN (a % b) := by
  rw [m_div ha hb hb2, lN_mul, lN_sub (Nat.div_mul_le_self a b)]
  congr 1
  have := Nat.div_add_mod a b
  have h2 : a / b * b = b * (a / b) := Nat.mul_comm _ _
  omega
theorem m_i2l {n : Nat} (h : n < 2 ^ 31) : (nI n).toInt64 = lN n := by
  apply Int64.toInt_inj.mp
  rw [Int32.toInt_toInt64, nI_toInt h, pf_lI (by omega)]
/-- the seed after it, and the chance below w -/
def sd (s : Nat) : Nat := (s * 1103515245 + 12345) % 2147483648
def ch (s w : Nat) : Nat := sd s / 65536 % w
theorem sd_lt (s : Nat) : sd s < 2147483648 := Nat.mod_lt _ (by decide)
theorem ch_lt (s : Nat) {w : Nat} (h : 0 < w) : ch s w < w := Nat.mod_lt _ h
/-- the values that the rows of a set have at a field -/
def valS (m : Nat → Bool) (f : Nat) : Nat := bset (fun v => exB (fun x => m x && decide (vl x f = v)) 4096) 8
/-- the rows of a set that have one of some values at a field -/
def lim (m : Nat → Bool) (f vs : Nat) : Nat → Bool := fun x => m x && vs.testBit (vl x f)
theorem valS_lt (m : Nat → Bool) (f : Nat) : valS m f < 256 := bset_lt _ 8
theorem valS_bit (m : Nat → Bool) (f v : Nat) : (valS m f).testBit v = true ↔ v < 8 ∧ ∃ x, x < 4096 ∧ m x = true ∧ vl x f = v := by
  unfold valS
  rw [bset_bit, Bool.and_eq_true, decide_eq_true_eq, exB_iff]
  simp only [Bool.and_eq_true, decide_eq_true_eq]
theorem bset_ext {p q : Nat → Bool} : ∀ {n : Nat}, (∀ j, j < n → p j = q j) → bset p n = bset q n := by
  intro n h
  apply Nat.eq_of_testBit_eq
  intro j
  rw [bset_bit, bset_bit]
  by_cases hj : j < n
  · rw [h j hj]
  · simp [hj]
theorem bset_or {p : Nat → Bool} {n v : Nat} (h : v < n) : bset p n ||| 2 ^ v = bset (fun j => p j || decide (j = v)) n := by
  apply Nat.eq_of_testBit_eq
  intro j
  rw [Nat.testBit_or, bset_bit, bset_bit, Nat.testBit_two_pow]
  by_cases hj : j = v
  · subst hj
    simp [h]
  · have : ¬ v = j := fun e => hj e.symm
    simp [hj, this]
theorem bset_none {p : Nat → Bool} {n : Nat} (h : ∀ j, j < n → p j = false) : bset p n = 0 := by
  apply Nat.eq_of_testBit_eq
  intro j
  rw [bset_bit, Nat.zero_testBit]
  by_cases hj : j < n
  · rw [h j hj, Bool.and_false]
  · simp [hj]
/-- the lawful rows' list, for a set B -/
def flw (B : Nat → Bool) (i : Nat) : Nat := ((List.range 4096).filter B).getD i 0
def LB (B : Nat → Bool) (I : Nat → Int32) (V : Nat → Nat → Int32) : Prop := I 7 = nI (fb_ct B 4096) ∧ ∀ i, i < fb_ct B 4096 → V 6 i = nI (flw B i)
theorem flw_mem {B : Nat → Bool} {i : Nat} (h : i < fb_ct B 4096) : flw B i < 4096 ∧ B (flw B i) = true ∧ fb_ct B (flw B i) = i := by
  rw [← ct_filter] at h
  exact fl_mem B h
theorem flw_get {B : Nat → Bool} {x : Nat} (h : x < 4096) (hx : B x = true) : flw B (fb_ct B x) = x := fl_get _ _ h hx
theorem ct_in {B : Nat → Bool} {x : Nat} (h : x < 4096) (hx : B x = true) : fb_ct B x < fb_ct B 4096 := by
  have h1 := fb_ct_mono B (show x + 1 ≤ 4096 by omega)
  rw [fb_ct_succ, hx, if_pos rfl] at h1
  omega
/-- the array of those that may be -/
def MayI (B m : Nat → Bool) (V : Nat → Nat → Int32) : Prop := ∀ i, i < fb_ct B 4096 → V 12 i = zB (m (flw B i))
theorem l_s (f : Nat → Int64) (k : Nat) (x : Int64) : vp_updL f k x k = x := if_pos rfl
theorem l_n (f : Nat → Int64) {k j : Nat} (x : Int64) (h : j ≠ k) : vp_updL f k x j = f j := if_neg h
section
variable {q : Nat × (Nat → Int32)} {S : Nat → xSt} {P : Int32 × (Nat → Nat)} {A : (Nat → Int64) × Int32 × Int32 × (Nat → Int64) × (Nat → Nat → Int64)} {D : (Nat → Int64) × Int64} {K : Nat → Int64} {X : Int32 × Int32 × Int32 × (Nat → Int32) × (Nat → Int32)} {E Z : Nat → Int32} {I : Nat → Int32} {J : Nat → Int64} {V : Nat → Nat → Int32}
theorem t_drawBy {s w : Nat} (hs : s < 2 ^ 31) (hw : 0 < w) (hw2 : w < 2 ^ 31) (h13 : J 13 = lN s) : xcall 163 [.ref 163, .int (nI w)] (hp q S P A D K X E Z I J V) = some (some (.int (nI (ch s w))), (hp q S P A D K X E Z I (vp_updL J 13 (lN (sd s))) V)) := by
  rw [N163 _ _ _ (o_m ..)]
  have h1 := sd_lt s
  have h0 : s * 1103515245 + 12345 < 2 ^ 63 := by omega
  have hw0 : ¬ w = 0 := by omega
  have hd : sd s / 65536 < 2 ^ 63 := by omega
  have e1 := m_rem (a := s * 1103515245 + 12345) (b := 2147483648) h0 (by omega) (by omega)
  have e2 : lN ((s * 1103515245 + 12345) % 2147483648) = lN (sd s) := rfl
  have e3 := m_div (a := sd s) (b := 65536) (by omega) (by omega) (by omega)
  have e4 := m_rem (a := sd s / 65536) (b := w) hd hw (by omega)
  have e5 : sd s / 65536 % w = ch s w := rfl
  have z1 : (lN 2147483648 = 0) = False := by rw [m_0, m_eq (by omega) (by omega)]; simp
  have z2 : (lN 65536 = 0) = False := by rw [m_0, m_eq (by omega) (by omega)]; simp
  have z3 : (lN w = 0) = False := by rw [m_0, m_eq (by omega) (by omega)]; simp [hw0]
  simp (maxSteps := 2000000) (disch := omega) only [e_inl, e_goto, e_fall, e_if, e_icmp, e_iret, e_zret, e_lret, e_vret, e_call0_0, e_call0_1, e_call0_2, e_call0_3, e_call0_4, e_call1_0, e_call1_1, e_call1_2, e_call1_3, e_call1_4, e_call2_0, e_call2_1, e_call2_2, e_call2_3, e_call2_4, e_call3_0, e_call3_1, e_call3_2, e_call3_3, e_call3_4, e_call4_0, e_call4_1, e_call4_2, e_call4_3, e_call4_4, e_call5_0, e_call5_1, e_call5_2, e_call5_3, e_call5_4, e_call6_0, e_call6_1, e_call6_2, e_call6_3, e_call6_4, xP, xld, xst1, xst2, xis2, xii, xid, xll, xlv, xls, xlc, xil, xli, xrd, xdup, xdup2, xc1, xpu, c_eq, c_ne, c_lt, c_ge, c_gt, c_le, Option.bind_some, Option.map_some, List.length_nil, List.length_cons, Nat.reduceAdd, Nat.reduceLeDiff, Int.reduceToNat, Bool.and_self, Bool.false_eq_true, if_true, if_false, D163_0, o_m, g_m_0, g_m_1, g_m_2, g_m_3, g_m_4, g_m_5, g_m_6, g_m_7, g_m_8, g_m_9, g_m_10, g_m_11, g_m_12, g_m_13, g_m_14, g_m_15, g_m_16, g_m_17, g_m_18, g_m_19, g_m_20, g_m_21, p_m_3, p_m_7, p_m_8, p_m_11, p_m_13, p_m_15, p_m_16, p_m_17, p_m_18, p_m_21, p_m_5_0, p_m_5_1, r_m0, s_m0, r_m1, s_m1, r_m2, s_m2, r_m4, s_m4, r_m6, s_m6, r_m9, s_m9, r_m10, s_m10, r_m12, s_m12, r_m14, s_m14, r_m19, s_m19, r_m20, s_m20, Nat.reduceEqDiff, decide_true, decide_false, Bool.true_and, Bool.false_and, Bool.and_true, Bool.and_false, zB_tt, zB_ff, not_false_eq_true, not_true_eq_false, n_lit, n_mul, nI_add, n_sub, x_in, nI_clamp, nI_ltI, nI_leI, nI_eq, and_self, true_and, and_true, m_lit, h13, lN_mul, lN_add, e1, e2, z1, z2, z3, e3, m_i2l, e4, e5, lN_i, l_s]
theorem t_valuesOf {B m : Nat → Bool} (hB : LB B I V) (hm : MayI B m V) (hsub : ∀ x, m x = true → B x = true) {f : Nat} (hf : f < 4) : xcall 164 [.ref 163, .int (nI f)] (hp q S P A D K X E Z I J V) = some (some (.int (nI (valS m f))), (hp q S P A D K X E Z I J V)) := by
  rw [N164 _ _ _ (o_m ..), D164_0]
  obtain ⟨h7, h6⟩ := hB
  have hN := fb_ct_le B 4096
  have hl := x_loop (i := 164) (pc := 4) (fun k => [some (.ref 163), some (.int (nI f)), some (.int (nI (bset (fun v => exB (fun i => m (flw B i) && decide (vl (flw B i) f = v)) k) 8))), some (.int (nI k))]) (fun _ => (hp q S P A D K X E Z I J V)) (fb_ct B 4096) (fun k hk => by
    rw [D164_4]
    have h1 : ¬ fb_ct B 4096 ≤ k := by omega
    obtain ⟨hx, -, -⟩ := flw_mem hk
    have e6 := h6 k hk
    have e12 := hm k hk
    have hv := vl_lt (flw B k) f
    have e2 : nI 1 <<< (nI (vl (flw B k) f) &&& 31) = nI (2 ^ vl (flw B k) f) := by
      have := n_shl (c := 1) (d := vl (flw B k) f) (by omega) (by rw [Nat.one_mul]; exact Nat.pow_lt_pow_right (by decide) (by omega))
      rw [this, Nat.one_mul]
    cases hb : m (flw B k)
    · have e9 : bset (fun v => exB (fun i => m (flw B i) && decide (vl (flw B i) f = v)) (k + 1)) 8 = bset (fun v => exB (fun i => m (flw B i) && decide (vl (flw B i) f = v)) k) 8 := bset_ext (fun v _ => by
        show (exB _ k || (m (flw B k) && _)) = _
        rw [hb, Bool.false_and, Bool.or_false])
      rw [e9]
      simp (maxSteps := 2000000) (disch := omega) only [e_inl, e_goto, e_fall, e_if, e_icmp, e_iret, e_zret, e_lret, e_vret, e_call0_0, e_call0_1, e_call0_2, e_call0_3, e_call0_4, e_call1_0, e_call1_1, e_call1_2, e_call1_3, e_call1_4, e_call2_0, e_call2_1, e_call2_2, e_call2_3, e_call2_4, e_call3_0, e_call3_1, e_call3_2, e_call3_3, e_call3_4, e_call4_0, e_call4_1, e_call4_2, e_call4_3, e_call4_4, e_call5_0, e_call5_1, e_call5_2, e_call5_3, e_call5_4, e_call6_0, e_call6_1, e_call6_2, e_call6_3, e_call6_4, xP, xld, xst1, xst2, xis2, xii, xid, xll, xlv, xls, xlc, xil, xli, xrd, xdup, xdup2, xc1, xpu, c_eq, c_ne, c_lt, c_ge, c_gt, c_le, Option.bind_some, Option.map_some, List.length_nil, List.length_cons, Nat.reduceAdd, Nat.reduceLeDiff, Int.reduceToNat, Bool.and_self, Bool.false_eq_true, if_true, if_false, D164_38, D164_39, o_m, g_m_0, g_m_1, g_m_2, g_m_3, g_m_4, g_m_5, g_m_6, g_m_7, g_m_8, g_m_9, g_m_10, g_m_11, g_m_12, g_m_13, g_m_14, g_m_15, g_m_16, g_m_17, g_m_18, g_m_19, g_m_20, g_m_21, p_m_3, p_m_7, p_m_8, p_m_11, p_m_13, p_m_15, p_m_16, p_m_17, p_m_18, p_m_21, p_m_5_0, p_m_5_1, r_m0, s_m0, r_m1, s_m1, r_m2, s_m2, r_m4, s_m4, r_m6, s_m6, r_m9, s_m9, r_m10, s_m10, r_m12, s_m12, r_m14, s_m14, r_m19, s_m19, r_m20, s_m20, Nat.reduceEqDiff, decide_true, decide_false, Bool.true_and, Bool.false_and, Bool.and_true, Bool.and_false, zB_tt, zB_ff, not_false_eq_true, not_true_eq_false, n_lit, n_mul, nI_add, n_sub, x_in, nI_clamp, nI_ltI, nI_leI, nI_eq, and_self, true_and, and_true, h7, h1, e12, hb, n_0, fa_or, Nat.or_zero]
    · have e9 : bset (fun v => exB (fun i => m (flw B i) && decide (vl (flw B i) f = v)) (k + 1)) 8 = bset (fun v => exB (fun i => m (flw B i) && decide (vl (flw B i) f = v)) k) 8 ||| 2 ^ vl (flw B k) f := by
        rw [bset_or hv]
        apply bset_ext
        intro v _
        show (exB _ k || (m (flw B k) && _)) = _
        rw [hb, Bool.true_and]
        congr 1
        rw [Bool.eq_iff_iff, decide_eq_true_eq, decide_eq_true_eq]
        exact ⟨fun h => h.symm, fun h => h.symm⟩
      rw [e9]
      simp (maxSteps := 2000000) (disch := omega) only [e_inl, e_goto, e_fall, e_if, e_icmp, e_iret, e_zret, e_lret, e_vret, e_call0_0, e_call0_1, e_call0_2, e_call0_3, e_call0_4, e_call1_0, e_call1_1, e_call1_2, e_call1_3, e_call1_4, e_call2_0, e_call2_1, e_call2_2, e_call2_3, e_call2_4, e_call3_0, e_call3_1, e_call3_2, e_call3_3, e_call3_4, e_call4_0, e_call4_1, e_call4_2, e_call4_3, e_call4_4, e_call5_0, e_call5_1, e_call5_2, e_call5_3, e_call5_4, e_call6_0, e_call6_1, e_call6_2, e_call6_3, e_call6_4, xP, xld, xst1, xst2, xis2, xii, xid, xll, xlv, xls, xlc, xil, xli, xrd, xdup, xdup2, xc1, xpu, c_eq, c_ne, c_lt, c_ge, c_gt, c_le, Option.bind_some, Option.map_some, List.length_nil, List.length_cons, Nat.reduceAdd, Nat.reduceLeDiff, Int.reduceToNat, Bool.and_self, Bool.false_eq_true, if_true, if_false, D164_39, o_m, g_m_0, g_m_1, g_m_2, g_m_3, g_m_4, g_m_5, g_m_6, g_m_7, g_m_8, g_m_9, g_m_10, g_m_11, g_m_12, g_m_13, g_m_14, g_m_15, g_m_16, g_m_17, g_m_18, g_m_19, g_m_20, g_m_21, p_m_3, p_m_7, p_m_8, p_m_11, p_m_13, p_m_15, p_m_16, p_m_17, p_m_18, p_m_21, p_m_5_0, p_m_5_1, r_m0, s_m0, r_m1, s_m1, r_m2, s_m2, r_m4, s_m4, r_m6, s_m6, r_m9, s_m9, r_m10, s_m10, r_m12, s_m12, r_m14, s_m14, r_m19, s_m19, r_m20, s_m20, Nat.reduceEqDiff, decide_true, decide_false, Bool.true_and, Bool.false_and, Bool.and_true, Bool.and_false, zB_tt, zB_ff, not_false_eq_true, not_true_eq_false, n_lit, n_mul, nI_add, n_sub, x_in, nI_clamp, nI_ltI, nI_leI, nI_eq, and_self, true_and, and_true, h7, h1, e12, hb, n_0, Nat.one_ne_zero, e6, t_valueOf, e2, fa_or])
  have e0 : bset (fun v => exB (fun i => m (flw B i) && decide (vl (flw B i) f = v)) 0) 8 = 0 := bset_none (fun _ _ => rfl)
  have e1 : bset (fun v => exB (fun i => m (flw B i) && decide (vl (flw B i) f = v)) (fb_ct B 4096)) 8 = valS m f := by
    apply bset_ext
    intro v _
    rw [Bool.eq_iff_iff, exB_iff, exB_iff]
    constructor
    · rintro ⟨i, hi, h⟩
      exact ⟨flw B i, (flw_mem hi).1, h⟩
    · rintro ⟨x, hx, h⟩
      have hb := hsub x (by rw [Bool.and_eq_true] at h; exact h.1)
      exact ⟨fb_ct B x, ct_in hx hb, by rw [flw_get hx hb]; exact h⟩
  rw [e0, e1] at hl
  simp (maxSteps := 2000000) (disch := omega) only [e_inl, e_goto, e_fall, e_if, e_icmp, e_iret, e_zret, e_lret, e_vret, e_call0_0, e_call0_1, e_call0_2, e_call0_3, e_call0_4, e_call1_0, e_call1_1, e_call1_2, e_call1_3, e_call1_4, e_call2_0, e_call2_1, e_call2_2, e_call2_3, e_call2_4, e_call3_0, e_call3_1, e_call3_2, e_call3_3, e_call3_4, e_call4_0, e_call4_1, e_call4_2, e_call4_3, e_call4_4, e_call5_0, e_call5_1, e_call5_2, e_call5_3, e_call5_4, e_call6_0, e_call6_1, e_call6_2, e_call6_3, e_call6_4, xP, xld, xst1, xst2, xis2, xii, xid, xll, xlv, xls, xlc, xil, xli, xrd, xdup, xdup2, xc1, xpu, c_eq, c_ne, c_lt, c_ge, c_gt, c_le, Option.bind_some, Option.map_some, List.length_nil, List.length_cons, Nat.reduceAdd, Nat.reduceLeDiff, Int.reduceToNat, Bool.and_self, Bool.false_eq_true, if_true, if_false, Nat.reduceEqDiff, decide_true, decide_false, Bool.true_and, Bool.false_and, Bool.and_true, Bool.and_false, zB_tt, zB_ff, not_false_eq_true, not_true_eq_false, n_lit, n_mul, nI_add, n_sub, x_in, nI_clamp, nI_ltI, nI_leI, nI_eq, and_self, true_and, and_true]
  rw [hl, D164_4]
  simp (maxSteps := 2000000) (disch := omega) only [e_inl, e_goto, e_fall, e_if, e_icmp, e_iret, e_zret, e_lret, e_vret, e_call0_0, e_call0_1, e_call0_2, e_call0_3, e_call0_4, e_call1_0, e_call1_1, e_call1_2, e_call1_3, e_call1_4, e_call2_0, e_call2_1, e_call2_2, e_call2_3, e_call2_4, e_call3_0, e_call3_1, e_call3_2, e_call3_3, e_call3_4, e_call4_0, e_call4_1, e_call4_2, e_call4_3, e_call4_4, e_call5_0, e_call5_1, e_call5_2, e_call5_3, e_call5_4, e_call6_0, e_call6_1, e_call6_2, e_call6_3, e_call6_4, xP, xld, xst1, xst2, xis2, xii, xid, xll, xlv, xls, xlc, xil, xli, xrd, xdup, xdup2, xc1, xpu, c_eq, c_ne, c_lt, c_ge, c_gt, c_le, Option.bind_some, Option.map_some, List.length_nil, List.length_cons, Nat.reduceAdd, Nat.reduceLeDiff, Int.reduceToNat, Bool.and_self, Bool.false_eq_true, if_true, if_false, D164_47, o_m, g_m_0, g_m_1, g_m_2, g_m_3, g_m_4, g_m_5, g_m_6, g_m_7, g_m_8, g_m_9, g_m_10, g_m_11, g_m_12, g_m_13, g_m_14, g_m_15, g_m_16, g_m_17, g_m_18, g_m_19, g_m_20, g_m_21, p_m_3, p_m_7, p_m_8, p_m_11, p_m_13, p_m_15, p_m_16, p_m_17, p_m_18, p_m_21, p_m_5_0, p_m_5_1, r_m0, s_m0, r_m1, s_m1, r_m2, s_m2, r_m4, s_m4, r_m6, s_m6, r_m9, s_m9, r_m10, s_m10, r_m12, s_m12, r_m14, s_m14, r_m19, s_m19, r_m20, s_m20, Nat.reduceEqDiff, decide_true, decide_false, Bool.true_and, Bool.false_and, Bool.and_true, Bool.and_false, zB_tt, zB_ff, not_false_eq_true, not_true_eq_false, n_lit, n_mul, nI_add, n_sub, x_in, nI_clamp, nI_ltI, nI_leI, nI_eq, and_self, true_and, and_true, h7, Nat.le_refl]
theorem t_limit {B m : Nat → Bool} (hB : LB B I V) (hm : MayI B m V) {f vs : Nat} (hf : f < 4) (hvs : vs < 256) : ∃ y : Nat → Int32, xcall 165 [.ref 163, .int (nI f), .int (nI vs)] (hp q S P A D K X E Z I J V) = some (none, (hp q S P A D K X E Z I J (vf_upd V 12 y))) ∧ MayI B (lim m f vs) (vf_upd V 12 y) := by
  refine ⟨fa_fill (fun i => zB (lim m f vs (flw B i))) (V 12) (fb_ct B 4096), ?_, fun i hi => by rw [vu_s]; exact fa_fill_in hi⟩
  rw [N165 _ _ _ _ (o_m ..), D165_0]
  obtain ⟨h7, h6⟩ := hB
  have hN := fb_ct_le B 4096
  have hl := x_loop (i := 165) (pc := 2) (fun k => [some (.ref 163), some (.int (nI f)), some (.int (nI vs)), some (.int (nI k))]) (fun k => (hp q S P A D K X E Z I J (vf_upd V 12 (fa_fill (fun i => zB (lim m f vs (flw B i))) (V 12) k)))) (fb_ct B 4096) (fun k hk => by
    rw [D165_2]
    have h1 : ¬ fb_ct B 4096 ≤ k := by omega
    obtain ⟨hx, -, -⟩ := flw_mem hk
    have e6 := h6 k hk
    have e12 := hm k hk
    have hv := vl_lt (flw B k) f
    have e13 : fa_fill (fun i => zB (lim m f vs (flw B i))) (V 12) k k = V 12 k := fa_fill_out (Nat.le_refl k)
    have e9' : upd (fa_fill (fun i => zB (lim m f vs (flw B i))) (V 12) k) k (zB (lim m f vs (flw B k))) = _ := fa_fill_succ (fun i => zB (lim m f vs (flw B i))) (V 12) k
    generalize fa_fill (fun i => zB (lim m f vs (flw B i))) (V 12) k = y at e13 e9' ⊢
    rw [← e9']
    have hn : vf_upd V 12 y 6 = V 6 := vu_n _ _ (by omega)
    cases hb : m (flw B k)
    · have e10 : zB (lim m f vs (flw B k)) = nI 0 := by unfold lim; rw [hb, Bool.false_and]; rfl
      rw [e10]
      simp (maxSteps := 2000000) (disch := omega) only [e_inl, e_goto, e_fall, e_if, e_icmp, e_iret, e_zret, e_lret, e_vret, e_call0_0, e_call0_1, e_call0_2, e_call0_3, e_call0_4, e_call1_0, e_call1_1, e_call1_2, e_call1_3, e_call1_4, e_call2_0, e_call2_1, e_call2_2, e_call2_3, e_call2_4, e_call3_0, e_call3_1, e_call3_2, e_call3_3, e_call3_4, e_call4_0, e_call4_1, e_call4_2, e_call4_3, e_call4_4, e_call5_0, e_call5_1, e_call5_2, e_call5_3, e_call5_4, e_call6_0, e_call6_1, e_call6_2, e_call6_3, e_call6_4, xP, xld, xst1, xst2, xis2, xii, xid, xll, xlv, xls, xlc, xil, xli, xrd, xdup, xdup2, xc1, xpu, c_eq, c_ne, c_lt, c_ge, c_gt, c_le, Option.bind_some, Option.map_some, List.length_nil, List.length_cons, Nat.reduceAdd, Nat.reduceLeDiff, Int.reduceToNat, Bool.and_self, Bool.false_eq_true, if_true, if_false, D165_46, D165_47, o_m, g_m_0, g_m_1, g_m_2, g_m_3, g_m_4, g_m_5, g_m_6, g_m_7, g_m_8, g_m_9, g_m_10, g_m_11, g_m_12, g_m_13, g_m_14, g_m_15, g_m_16, g_m_17, g_m_18, g_m_19, g_m_20, g_m_21, p_m_3, p_m_7, p_m_8, p_m_11, p_m_13, p_m_15, p_m_16, p_m_17, p_m_18, p_m_21, p_m_5_0, p_m_5_1, r_m0, s_m0, r_m1, s_m1, r_m2, s_m2, r_m4, s_m4, r_m6, s_m6, r_m9, s_m9, r_m10, s_m10, r_m12, s_m12, r_m14, s_m14, r_m19, s_m19, r_m20, s_m20, Nat.reduceEqDiff, decide_true, decide_false, Bool.true_and, Bool.false_and, Bool.and_true, Bool.and_false, zB_tt, zB_ff, not_false_eq_true, not_true_eq_false, n_lit, n_mul, nI_add, n_sub, x_in, nI_clamp, nI_ltI, nI_leI, nI_eq, and_self, true_and, and_true, h7, h1, vu_s, e13, e12, hb, n_0, n_1, true_or, vu_vu]
    · have e10 : zB (lim m f vs (flw B k)) = zB (vs.testBit (vl (flw B k) f)) := by unfold lim; rw [hb, Bool.true_and]
      rw [e10]
      cases hc : vs.testBit (vl (flw B k) f)
      · simp (maxSteps := 2000000) (disch := omega) only [e_inl, e_goto, e_fall, e_if, e_icmp, e_iret, e_zret, e_lret, e_vret, e_call0_0, e_call0_1, e_call0_2, e_call0_3, e_call0_4, e_call1_0, e_call1_1, e_call1_2, e_call1_3, e_call1_4, e_call2_0, e_call2_1, e_call2_2, e_call2_3, e_call2_4, e_call3_0, e_call3_1, e_call3_2, e_call3_3, e_call3_4, e_call4_0, e_call4_1, e_call4_2, e_call4_3, e_call4_4, e_call5_0, e_call5_1, e_call5_2, e_call5_3, e_call5_4, e_call6_0, e_call6_1, e_call6_2, e_call6_3, e_call6_4, xP, xld, xst1, xst2, xis2, xii, xid, xll, xlv, xls, xlc, xil, xli, xrd, xdup, xdup2, xc1, xpu, c_eq, c_ne, c_lt, c_ge, c_gt, c_le, Option.bind_some, Option.map_some, List.length_nil, List.length_cons, Nat.reduceAdd, Nat.reduceLeDiff, Int.reduceToNat, Bool.and_self, Bool.false_eq_true, if_true, if_false, D165_46, D165_47, o_m, g_m_0, g_m_1, g_m_2, g_m_3, g_m_4, g_m_5, g_m_6, g_m_7, g_m_8, g_m_9, g_m_10, g_m_11, g_m_12, g_m_13, g_m_14, g_m_15, g_m_16, g_m_17, g_m_18, g_m_19, g_m_20, g_m_21, p_m_3, p_m_7, p_m_8, p_m_11, p_m_13, p_m_15, p_m_16, p_m_17, p_m_18, p_m_21, p_m_5_0, p_m_5_1, r_m0, s_m0, r_m1, s_m1, r_m2, s_m2, r_m4, s_m4, r_m6, s_m6, r_m9, s_m9, r_m10, s_m10, r_m12, s_m12, r_m14, s_m14, r_m19, s_m19, r_m20, s_m20, Nat.reduceEqDiff, decide_true, decide_false, Bool.true_and, Bool.false_and, Bool.and_true, Bool.and_false, zB_tt, zB_ff, not_false_eq_true, not_true_eq_false, n_lit, n_mul, nI_add, n_sub, x_in, nI_clamp, nI_ltI, nI_leI, nI_eq, and_self, true_and, and_true, h7, h1, vu_s, e13, e12, hb, n_0, n_1, Nat.one_ne_zero, hn, e6, t_valueOf, t_has, hc, true_or, vu_vu]
      · simp (maxSteps := 2000000) (disch := omega) only [e_inl, e_goto, e_fall, e_if, e_icmp, e_iret, e_zret, e_lret, e_vret, e_call0_0, e_call0_1, e_call0_2, e_call0_3, e_call0_4, e_call1_0, e_call1_1, e_call1_2, e_call1_3, e_call1_4, e_call2_0, e_call2_1, e_call2_2, e_call2_3, e_call2_4, e_call3_0, e_call3_1, e_call3_2, e_call3_3, e_call3_4, e_call4_0, e_call4_1, e_call4_2, e_call4_3, e_call4_4, e_call5_0, e_call5_1, e_call5_2, e_call5_3, e_call5_4, e_call6_0, e_call6_1, e_call6_2, e_call6_3, e_call6_4, xP, xld, xst1, xst2, xis2, xii, xid, xll, xlv, xls, xlc, xil, xli, xrd, xdup, xdup2, xc1, xpu, c_eq, c_ne, c_lt, c_ge, c_gt, c_le, Option.bind_some, Option.map_some, List.length_nil, List.length_cons, Nat.reduceAdd, Nat.reduceLeDiff, Int.reduceToNat, Bool.and_self, Bool.false_eq_true, if_true, if_false, D165_46, D165_47, o_m, g_m_0, g_m_1, g_m_2, g_m_3, g_m_4, g_m_5, g_m_6, g_m_7, g_m_8, g_m_9, g_m_10, g_m_11, g_m_12, g_m_13, g_m_14, g_m_15, g_m_16, g_m_17, g_m_18, g_m_19, g_m_20, g_m_21, p_m_3, p_m_7, p_m_8, p_m_11, p_m_13, p_m_15, p_m_16, p_m_17, p_m_18, p_m_21, p_m_5_0, p_m_5_1, r_m0, s_m0, r_m1, s_m1, r_m2, s_m2, r_m4, s_m4, r_m6, s_m6, r_m9, s_m9, r_m10, s_m10, r_m12, s_m12, r_m14, s_m14, r_m19, s_m19, r_m20, s_m20, Nat.reduceEqDiff, decide_true, decide_false, Bool.true_and, Bool.false_and, Bool.and_true, Bool.and_false, zB_tt, zB_ff, not_false_eq_true, not_true_eq_false, n_lit, n_mul, nI_add, n_sub, x_in, nI_clamp, nI_ltI, nI_leI, nI_eq, and_self, true_and, and_true, h7, h1, vu_s, e13, e12, hb, n_0, n_1, Nat.one_ne_zero, hn, e6, t_valueOf, t_has, hc, or_true, vu_vu])
  simp only [fa_fill_0, vu_id] at hl
  simp (maxSteps := 2000000) (disch := omega) only [e_inl, e_goto, e_fall, e_if, e_icmp, e_iret, e_zret, e_lret, e_vret, e_call0_0, e_call0_1, e_call0_2, e_call0_3, e_call0_4, e_call1_0, e_call1_1, e_call1_2, e_call1_3, e_call1_4, e_call2_0, e_call2_1, e_call2_2, e_call2_3, e_call2_4, e_call3_0, e_call3_1, e_call3_2, e_call3_3, e_call3_4, e_call4_0, e_call4_1, e_call4_2, e_call4_3, e_call4_4, e_call5_0, e_call5_1, e_call5_2, e_call5_3, e_call5_4, e_call6_0, e_call6_1, e_call6_2, e_call6_3, e_call6_4, xP, xld, xst1, xst2, xis2, xii, xid, xll, xlv, xls, xlc, xil, xli, xrd, xdup, xdup2, xc1, xpu, c_eq, c_ne, c_lt, c_ge, c_gt, c_le, Option.bind_some, Option.map_some, List.length_nil, List.length_cons, Nat.reduceAdd, Nat.reduceLeDiff, Int.reduceToNat, Bool.and_self, Bool.false_eq_true, if_true, if_false, Nat.reduceEqDiff, decide_true, decide_false, Bool.true_and, Bool.false_and, Bool.and_true, Bool.and_false, zB_tt, zB_ff, not_false_eq_true, not_true_eq_false, n_lit, n_mul, nI_add, n_sub, x_in, nI_clamp, nI_ltI, nI_leI, nI_eq, and_self, true_and, and_true]
  rw [hl, D165_2]
  simp (maxSteps := 2000000) (disch := omega) only [e_inl, e_goto, e_fall, e_if, e_icmp, e_iret, e_zret, e_lret, e_vret, e_call0_0, e_call0_1, e_call0_2, e_call0_3, e_call0_4, e_call1_0, e_call1_1, e_call1_2, e_call1_3, e_call1_4, e_call2_0, e_call2_1, e_call2_2, e_call2_3, e_call2_4, e_call3_0, e_call3_1, e_call3_2, e_call3_3, e_call3_4, e_call4_0, e_call4_1, e_call4_2, e_call4_3, e_call4_4, e_call5_0, e_call5_1, e_call5_2, e_call5_3, e_call5_4, e_call6_0, e_call6_1, e_call6_2, e_call6_3, e_call6_4, xP, xld, xst1, xst2, xis2, xii, xid, xll, xlv, xls, xlc, xil, xli, xrd, xdup, xdup2, xc1, xpu, c_eq, c_ne, c_lt, c_ge, c_gt, c_le, Option.bind_some, Option.map_some, List.length_nil, List.length_cons, Nat.reduceAdd, Nat.reduceLeDiff, Int.reduceToNat, Bool.and_self, Bool.false_eq_true, if_true, if_false, D165_54, o_m, g_m_0, g_m_1, g_m_2, g_m_3, g_m_4, g_m_5, g_m_6, g_m_7, g_m_8, g_m_9, g_m_10, g_m_11, g_m_12, g_m_13, g_m_14, g_m_15, g_m_16, g_m_17, g_m_18, g_m_19, g_m_20, g_m_21, p_m_3, p_m_7, p_m_8, p_m_11, p_m_13, p_m_15, p_m_16, p_m_17, p_m_18, p_m_21, p_m_5_0, p_m_5_1, r_m0, s_m0, r_m1, s_m1, r_m2, s_m2, r_m4, s_m4, r_m6, s_m6, r_m9, s_m9, r_m10, s_m10, r_m12, s_m12, r_m14, s_m14, r_m19, s_m19, r_m20, s_m20, Nat.reduceEqDiff, decide_true, decide_false, Bool.true_and, Bool.false_and, Bool.and_true, Bool.and_false, zB_tt, zB_ff, not_false_eq_true, not_true_eq_false, n_lit, n_mul, nI_add, n_sub, x_in, nI_clamp, nI_ltI, nI_leI, nI_eq, and_self, true_and, and_true, h7, Nat.le_refl]
end
