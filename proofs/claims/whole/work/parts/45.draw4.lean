/-! ===== the reference draws field by field ===== -/
/-- of the values that can be, those of this turn; where none is left, a new turn -/
def inT (σ : mS) (f can : Nat) : mS × Nat := if mF σ f 2 = 1 then (if can ^^^ (can &&& mF σ f 3) = 0 then (trn σ f 0, can) else (σ, can ^^^ (can &&& mF σ f 3))) else (σ, can)
def ioT (f : Nat) (w : mS × (Nat → Bool) × Nat) : mS × (Nat → Bool) × Nat := ((inT w.1 f (valS w.2.1 f)).1, lim w.2.1 f (2 ^ vdX (inT w.1 f (valS w.2.1 f)).1 f (inT w.1 f (valS w.2.1 f)).2 w.2.2), sd w.2.2)
def ioS (σ : mS) (m : Nat → Bool) (s : Nat) : Nat → mS × (Nat → Bool) × Nat
  | 0 => (σ, m, s)
  | p + 1 => ioT (mO σ p) (ioS σ m s p)
theorem valS_ne {m : Nat → Bool} (hm : some1 m) (f : Nat) : valS m f ≠ 0 := by
  obtain ⟨x, hx, h⟩ := hm
  intro e
  have := (valS_bit m f (vl x f)).mpr ⟨vl_lt x f, x, hx, h, rfl⟩
  rw [e, Nat.zero_testBit] at this
  cases this
theorem inT_ok {σ σ0 : mS} (hw : wf σ) (hs : sameT σ0 σ) {f can : Nat} (hc : can < 256) (h0 : can ≠ 0) : wf (inT σ f can).1 ∧ sameT σ0 (inT σ f can).1 ∧ (inT σ f can).2 < 256 ∧ (inT σ f can).2 ≠ 0 ∧ ∀ v, (inT σ f can).2.testBit v = true → can.testBit v = true := by
  unfold inT
  split
  · split
    · exact ⟨trn_wf hw (by omega) (Or.inr rfl), hs.trn f 0, hc, h0, fun _ h => h⟩
    · rename_i hne
      exact ⟨hw, hs, andn_lt (n := 8) _ hc, hne, fun v hv => by rw [andn_bit, Bool.and_eq_true] at hv; exact hv.1⟩
  · exact ⟨hw, hs, hc, h0, fun _ h => h⟩
theorem lim1_some {m : Nat → Bool} {f v : Nat} (h : (valS m f).testBit v = true) : some1 (lim m f (2 ^ v)) := by
  obtain ⟨-, x, hx, hm, e⟩ := (valS_bit m f v).mp h
  exact ⟨x, hx, by unfold lim; rw [hm, e, Nat.testBit_two_pow_self]; rfl⟩
theorem ioS_ok {σ : mS} (hw : wf σ) {m : Nat → Bool} (hm : some1 m) {s : Nat} (hs : s < 2 ^ 31) : ∀ p, wf (ioS σ m s p).1 ∧ sameT σ (ioS σ m s p).1 ∧ (∀ x, (ioS σ m s p).2.1 x = true → m x = true) ∧ some1 (ioS σ m s p).2.1 ∧ (ioS σ m s p).2.2 < 2 ^ 31
  | 0 => ⟨hw, sameT.rf σ, fun _ h => h, hm, hs⟩
  | p + 1 => by
    obtain ⟨h1, h2, h3, h4, h5⟩ := ioS_ok hw hm hs p
    rw [ioS]
    generalize ioS σ m s p = w at *
    obtain ⟨k1, k2, k3, k4, k5⟩ := inT_ok h1 h2 (f := mO σ p) (valS_lt w.2.1 (mO σ p)) (valS_ne h4 (mO σ p))
    have hv := vdX_ok (σ := (inT w.1 (mO σ p) (valS w.2.1 (mO σ p))).1) (f := mO σ p) k3 k4 w.2.2
    refine ⟨k1, k2, fun x hx => ?_, lim1_some (k5 _ hv.2), ?_⟩
    · simp only [ioT, lim, Bool.and_eq_true] at hx
      exact h3 x hx.1
    · have := sd_lt w.2.2
      show sd w.2.2 < _
      omega
/-- the row that is drawn field by field -/
def ioX (σ : mS) (m : Nat → Bool) (s : Nat) : Nat := fa_first (ioS σ m s (mn σ)).2.1 4096
theorem first_some {m : Nat → Bool} (hm : some1 m) : fa_first m 4096 < 4096 ∧ m (fa_first m 4096) = true := by
  have hlt : fa_first m 4096 < 4096 := by
    apply Nat.lt_of_not_le
    intro h
    obtain ⟨x, hx, hb⟩ := hm
    have := fa_first_no m 4096 x (by omega)
    rw [hb] at this
    cases this
  exact ⟨hlt, fa_first_yes m 4096 hlt⟩
theorem ioX_ok {σ : mS} (hw : wf σ) {m : Nat → Bool} (hm : some1 m) {s : Nat} (hs : s < 2 ^ 31) : ioX σ m s < 4096 ∧ m (ioX σ m s) = true := by
  obtain ⟨h1, h2, h3, h4, h5⟩ := ioS_ok hw hm hs (mn σ)
  obtain ⟨k1, k2⟩ := first_some h4
  exact ⟨k1, h3 _ k2⟩
section
variable {q : Nat × (Nat → Int32)} {S : Nat → xSt} {P : Int32 × (Nat → Nat)} {A : (Nat → Int64) × Int32 × Int32 × (Nat → Int64) × (Nat → Nat → Int64)} {D : (Nat → Int64) × Int64} {K : Nat → Int64} {X : Int32 × Int32 × Int32 × (Nat → Int32) × (Nat → Int32)} {E Z : Nat → Int32} {I : Nat → Int32} {J : Nat → Int64} {V : Nat → Nat → Int32}
theorem n_pow {v : Nat} (hv : v < 8) : nI 1 <<< (nI v &&& 31) = nI (2 ^ v) := by
  have := n_shl (c := 1) (d := v) (by omega) (by rw [Nat.one_mul]; exact Nat.pow_lt_pow_right (by decide) (by omega))
  rw [this, Nat.one_mul]
set_option maxRecDepth 100000 in
theorem t_io_2 {σ : mS} (hw : wf σ) (hr : rpA σ (V 0)) {B m : Nat → Bool} (hm : some1 m) (hsub : ∀ x, m x = true → B x = true) (hB : LB B I V) (hM : MayI B m V) {p f : Nat} (hp1 : p < mn σ) (hf0 : mO σ p = f) {z2 z3 : Option Value} : ∃ (V' : Nat → Nat → Int32), den 168 2 [some (.ref 163), some (.int (nI p)), z2, z3] [] (hp q S P A D K X E Z I J V) = den 168 67 [some (.ref 163), some (.int (nI p)), some (.int (nI f)), some (.int (nI (inT σ f (valS m f)).2))] [] (hp q S P A D K X E Z I J (V')) ∧ rpA (inT σ f (valS m f)).1 (V' 0) ∧ DK V V' ∧ V' 12 = V 12 := by
  have w1 := hw.1
  have hkn : ¬ mn σ ≤ p := by omega
  have hf : f < mn σ := by have := hw.2.2.2.2.1 p hp1; omega
  have r0 := hr.1
  have r2 := hr.2.1 f 2 hf (by omega)
  have r3 := hr.2.1 f 3 hf (by omega)
  have r53 := hr.2.2.2.2.1 p hp1
  rw [hf0] at r53
  obtain ⟨-, -, f2, f3, -⟩ := hw.2.1 f (by omega)
  have hv := valS_lt m f
  have ha := andn_lt (n := 8) (mF σ f 3) hv
  have ev := t_valuesOf (q := q) (S := S) (P := P) (A := A) (D := D) (K := K) (X := X) (E := E) (Z := Z) (J := J) hB hM hsub (show f < 4 by omega)
  have exx : (valS m f &&& 0) = 0 := Nat.and_zero _
  unfold inT
  by_cases h2 : mF σ f 2 = 1
  · rw [if_pos h2]
    rw [h2] at r2
    by_cases h3 : valS m f ^^^ (valS m f &&& mF σ f 3) = 0
    · rw [if_pos h3]
      refine ⟨vf_upd V 0 (upd (V 0) (1 + 13 * f + 3) (nI 0)), ?_, ?_, DK.up0 _, vu_n _ _ (by omega)⟩
      · rw [D168_2]
        simp (maxSteps := 2000000) (disch := omega) only [e_inl, e_goto, e_fall, e_if, e_icmp, e_iret, e_zret, e_lret, e_vret, e_call0_0, e_call0_1, e_call0_2, e_call0_3, e_call0_4, e_call1_0, e_call1_1, e_call1_2, e_call1_3, e_call1_4, e_call2_0, e_call2_1, e_call2_2, e_call2_3, e_call2_4, e_call3_0, e_call3_1, e_call3_2, e_call3_3, e_call3_4, e_call4_0, e_call4_1, e_call4_2, e_call4_3, e_call4_4, e_call5_0, e_call5_1, e_call5_2, e_call5_3, e_call5_4, e_call6_0, e_call6_1, e_call6_2, e_call6_3, e_call6_4, xP, xld, xst1, xst2, xis2, xii, xid, xll, xlv, xls, xlc, xil, xli, xrd, xdup, xdup2, xc1, xpu, c_eq, c_ne, c_lt, c_ge, c_gt, c_le, Option.bind_some, Option.map_some, List.length_nil, List.length_cons, Nat.reduceAdd, Nat.reduceLeDiff, Int.reduceToNat, Bool.and_self, Bool.false_eq_true, if_true, if_false, D168_56, o_m, g_m_0, g_m_1, g_m_2, g_m_3, g_m_4, g_m_5, g_m_6, g_m_7, g_m_8, g_m_9, g_m_10, g_m_11, g_m_12, g_m_13, g_m_14, g_m_15, g_m_16, g_m_17, g_m_18, g_m_19, g_m_20, g_m_21, p_m_3, p_m_7, p_m_8, p_m_11, p_m_13, p_m_15, p_m_16, p_m_17, p_m_18, p_m_21, p_m_5_0, p_m_5_1, r_m0, s_m0, r_m1, s_m1, r_m2, s_m2, r_m4, s_m4, r_m6, s_m6, r_m9, s_m9, r_m10, s_m10, r_m12, s_m12, r_m14, s_m14, r_m19, s_m19, r_m20, s_m20, Nat.reduceEqDiff, decide_true, decide_false, Bool.true_and, Bool.false_and, Bool.and_true, Bool.and_false, zB_tt, zB_ff, not_false_eq_true, not_true_eq_false, n_lit, n_mul, nI_add, n_sub, x_in, nI_clamp, nI_ltI, nI_leI, nI_eq, and_self, true_and, and_true, t_fields, r0, hkn, r53, ev, t_ofField, r2, r3, n_andn, h3, n_0, t_put, vu_s, u_s, exx, Nat.xor_zero]
      · rw [vu_s]
        exact trn_rp hr 0 hf w1 hw.2.2.2.2.2.2.1
    · rw [if_neg h3]
      refine ⟨V, ?_, hr, DK.rf V, rfl⟩
      rw [D168_2]
      simp (maxSteps := 2000000) (disch := omega) only [e_inl, e_goto, e_fall, e_if, e_icmp, e_iret, e_zret, e_lret, e_vret, e_call0_0, e_call0_1, e_call0_2, e_call0_3, e_call0_4, e_call1_0, e_call1_1, e_call1_2, e_call1_3, e_call1_4, e_call2_0, e_call2_1, e_call2_2, e_call2_3, e_call2_4, e_call3_0, e_call3_1, e_call3_2, e_call3_3, e_call3_4, e_call4_0, e_call4_1, e_call4_2, e_call4_3, e_call4_4, e_call5_0, e_call5_1, e_call5_2, e_call5_3, e_call5_4, e_call6_0, e_call6_1, e_call6_2, e_call6_3, e_call6_4, xP, xld, xst1, xst2, xis2, xii, xid, xll, xlv, xls, xlc, xil, xli, xrd, xdup, xdup2, xc1, xpu, c_eq, c_ne, c_lt, c_ge, c_gt, c_le, Option.bind_some, Option.map_some, List.length_nil, List.length_cons, Nat.reduceAdd, Nat.reduceLeDiff, Int.reduceToNat, Bool.and_self, Bool.false_eq_true, if_true, if_false, D168_56, o_m, g_m_0, g_m_1, g_m_2, g_m_3, g_m_4, g_m_5, g_m_6, g_m_7, g_m_8, g_m_9, g_m_10, g_m_11, g_m_12, g_m_13, g_m_14, g_m_15, g_m_16, g_m_17, g_m_18, g_m_19, g_m_20, g_m_21, p_m_3, p_m_7, p_m_8, p_m_11, p_m_13, p_m_15, p_m_16, p_m_17, p_m_18, p_m_21, p_m_5_0, p_m_5_1, r_m0, s_m0, r_m1, s_m1, r_m2, s_m2, r_m4, s_m4, r_m6, s_m6, r_m9, s_m9, r_m10, s_m10, r_m12, s_m12, r_m14, s_m14, r_m19, s_m19, r_m20, s_m20, Nat.reduceEqDiff, decide_true, decide_false, Bool.true_and, Bool.false_and, Bool.and_true, Bool.and_false, zB_tt, zB_ff, not_false_eq_true, not_true_eq_false, n_lit, n_mul, nI_add, n_sub, x_in, nI_clamp, nI_ltI, nI_leI, nI_eq, and_self, true_and, and_true, t_fields, r0, hkn, r53, ev, t_ofField, r2, r3, n_andn, h3, n_0]
  · rw [if_neg h2]
    refine ⟨V, ?_, hr, DK.rf V, rfl⟩
    rw [D168_2]
    simp (maxSteps := 2000000) (disch := omega) only [e_inl, e_goto, e_fall, e_if, e_icmp, e_iret, e_zret, e_lret, e_vret, e_call0_0, e_call0_1, e_call0_2, e_call0_3, e_call0_4, e_call1_0, e_call1_1, e_call1_2, e_call1_3, e_call1_4, e_call2_0, e_call2_1, e_call2_2, e_call2_3, e_call2_4, e_call3_0, e_call3_1, e_call3_2, e_call3_3, e_call3_4, e_call4_0, e_call4_1, e_call4_2, e_call4_3, e_call4_4, e_call5_0, e_call5_1, e_call5_2, e_call5_3, e_call5_4, e_call6_0, e_call6_1, e_call6_2, e_call6_3, e_call6_4, xP, xld, xst1, xst2, xis2, xii, xid, xll, xlv, xls, xlc, xil, xli, xrd, xdup, xdup2, xc1, xpu, c_eq, c_ne, c_lt, c_ge, c_gt, c_le, Option.bind_some, Option.map_some, List.length_nil, List.length_cons, Nat.reduceAdd, Nat.reduceLeDiff, Int.reduceToNat, Bool.and_self, Bool.false_eq_true, if_true, if_false, o_m, g_m_0, g_m_1, g_m_2, g_m_3, g_m_4, g_m_5, g_m_6, g_m_7, g_m_8, g_m_9, g_m_10, g_m_11, g_m_12, g_m_13, g_m_14, g_m_15, g_m_16, g_m_17, g_m_18, g_m_19, g_m_20, g_m_21, p_m_3, p_m_7, p_m_8, p_m_11, p_m_13, p_m_15, p_m_16, p_m_17, p_m_18, p_m_21, p_m_5_0, p_m_5_1, r_m0, s_m0, r_m1, s_m1, r_m2, s_m2, r_m4, s_m4, r_m6, s_m6, r_m9, s_m9, r_m10, s_m10, r_m12, s_m12, r_m14, s_m14, r_m19, s_m19, r_m20, s_m20, Nat.reduceEqDiff, decide_true, decide_false, Bool.true_and, Bool.false_and, Bool.and_true, Bool.and_false, zB_tt, zB_ff, not_false_eq_true, not_true_eq_false, n_lit, n_mul, nI_add, n_sub, x_in, nI_clamp, nI_ltI, nI_leI, nI_eq, and_self, true_and, and_true, t_fields, r0, hkn, r53, ev, t_ofField, r2, h2]
set_option maxRecDepth 100000 in
theorem t_io_step {σ : mS} (hw : wf σ) (hr : rpA σ (V 0)) {B m : Nat → Bool} (hm : some1 m) (hsub : ∀ x, m x = true → B x = true) (hB : LB B I V) (hM : MayI B m V) {s p f : Nat} (hs : s < 2 ^ 31) (h13 : J 13 = lN s) (hp1 : p < mn σ) (hf0 : mO σ p = f) {z2 z3 : Option Value} : ∃ (V' : Nat → Nat → Int32) (z2' z3' : Option Value), den 168 2 [some (.ref 163), some (.int (nI p)), z2, z3] [] (hp q S P A D K X E Z I J V) = den 168 2 [some (.ref 163), some (.int (nI (p + 1))), z2', z3'] [] (hp q S P A D K X E Z I (vp_updL J 13 (lN (sd s))) (V')) ∧ rpA (ioT f (σ, m, s)).1 (V' 0) ∧ DK V V' ∧ MayI B (ioT f (σ, m, s)).2.1 V' := by
  have w1 := hw.1
  have hf : f < mn σ := by have := hw.2.2.2.2.1 p hp1; omega
  obtain ⟨V1, e1, g1, g2, g3⟩ := t_io_2 (q := q) (S := S) (P := P) (A := A) (D := D) (K := K) (X := X) (E := E) (Z := Z) (J := J) (z2 := z2) (z3 := z3) hw hr hm hsub hB hM hp1 hf0
  have hB1 := hB.dk g2
  have hM1 : MayI B m V1 := fun i hi => by rw [g3]; exact hM i hi
  obtain ⟨k1, k2, k3, k4, k5⟩ := inT_ok hw (sameT.rf σ) (f := f) (valS_lt m f) (valS_ne hm f)
  have hv := vdX_ok (σ := (inT σ f (valS m f)).1) (f := f) k3 k4 s
  have hn1 : mn (inT σ f (valS m f)).1 = mn σ := k2.1
  have ed := t_valueDrawn (q := q) (S := S) (P := P) (A := A) (D := D) (K := K) (X := X) (E := E) (Z := Z) (I := I) (V := V1) k1 g1 (show f < mn (inT σ f (valS m f)).1 by omega) k3 k4 hs h13
  have e2 : (2 : Nat) ^ vdX (inT σ f (valS m f)).1 f (inT σ f (valS m f)).2 s < 256 := Nat.pow_lt_pow_right (n := 8) (by decide) hv.1
  obtain ⟨y, ey, my⟩ := t_limit (q := q) (S := S) (P := P) (A := A) (D := D) (K := K) (X := X) (E := E) (Z := Z) (J := vp_updL J 13 (lN (sd s))) hB1 hM1 (show f < 4 by omega) e2
  refine ⟨vf_upd V1 12 y, some (.int (nI f)), some (.int (nI (inT σ f (valS m f)).2)), ?_, ?_, g2.tr (DK.up y), my⟩
  · have ep := n_pow hv.1
    rw [e1, D168_67]
    simp (maxSteps := 2000000) (disch := omega) only [e_inl, e_goto, e_fall, e_if, e_icmp, e_iret, e_zret, e_lret, e_vret, e_call0_0, e_call0_1, e_call0_2, e_call0_3, e_call0_4, e_call1_0, e_call1_1, e_call1_2, e_call1_3, e_call1_4, e_call2_0, e_call2_1, e_call2_2, e_call2_3, e_call2_4, e_call3_0, e_call3_1, e_call3_2, e_call3_3, e_call3_4, e_call4_0, e_call4_1, e_call4_2, e_call4_3, e_call4_4, e_call5_0, e_call5_1, e_call5_2, e_call5_3, e_call5_4, e_call6_0, e_call6_1, e_call6_2, e_call6_3, e_call6_4, xP, xld, xst1, xst2, xis2, xii, xid, xll, xlv, xls, xlc, xil, xli, xrd, xdup, xdup2, xc1, xpu, c_eq, c_ne, c_lt, c_ge, c_gt, c_le, Option.bind_some, Option.map_some, List.length_nil, List.length_cons, Nat.reduceAdd, Nat.reduceLeDiff, Int.reduceToNat, Bool.and_self, Bool.false_eq_true, if_true, if_false, o_m, g_m_0, g_m_1, g_m_2, g_m_3, g_m_4, g_m_5, g_m_6, g_m_7, g_m_8, g_m_9, g_m_10, g_m_11, g_m_12, g_m_13, g_m_14, g_m_15, g_m_16, g_m_17, g_m_18, g_m_19, g_m_20, g_m_21, p_m_3, p_m_7, p_m_8, p_m_11, p_m_13, p_m_15, p_m_16, p_m_17, p_m_18, p_m_21, p_m_5_0, p_m_5_1, r_m0, s_m0, r_m1, s_m1, r_m2, s_m2, r_m4, s_m4, r_m6, s_m6, r_m9, s_m9, r_m10, s_m10, r_m12, s_m12, r_m14, s_m14, r_m19, s_m19, r_m20, s_m20, Nat.reduceEqDiff, decide_true, decide_false, Bool.true_and, Bool.false_and, Bool.and_true, Bool.and_false, zB_tt, zB_ff, not_false_eq_true, not_true_eq_false, n_lit, n_mul, nI_add, n_sub, x_in, nI_clamp, nI_ltI, nI_leI, nI_eq, and_self, true_and, and_true, ed, ep, ey]
  · rw [vu_n _ _ (by omega)]
    exact g1
set_option maxRecDepth 100000 in
theorem t_io_loop {σ : mS} (hw : wf σ) {B m : Nat → Bool} (hm : some1 m) (hsub : ∀ x, m x = true → B x = true) {s : Nat} (hs : s < 2 ^ 31) (j : Nat) : ∀ (p : Nat) (V : Nat → Nat → Int32) (J : Nat → Int64) (z2 z3 : Option Value), p + j = mn σ → rpA (ioS σ m s p).1 (V 0) → LB B I V → MayI B (ioS σ m s p).2.1 V → J 13 = lN (ioS σ m s p).2.2 → ∃ (V' : Nat → Nat → Int32) (J' : Nat → Int64) (z2' z3' : Option Value), den 168 2 [some (.ref 163), some (.int (nI p)), z2, z3] [] (hp q S P A D K X E Z I J V) = den 168 86 [some (.ref 163), some (.int (nI (mn σ))), z2', z3'] [] (hp q S P A D K X E Z I (J') (V')) ∧ rpA (ioS σ m s (mn σ)).1 (V' 0) ∧ DK V V' ∧ MayI B (ioS σ m s (mn σ)).2.1 V' ∧ ∀ k, k ≠ 13 → J' k = J k := by
  induction j with
  | zero =>
    intro p V J z2 z3 hj hr hB hM h13
    have hk : p = mn σ := by omega
    subst hk
    have w1 := hw.1
    have hn := (ioS_ok hw hm hs (mn σ)).2.1.1
    have r0 := hr.1
    rw [hn] at r0
    refine ⟨V, J, z2, z3, ?_, hr, DK.rf V, hM, fun _ _ => rfl⟩
    rw [D168_2]
    simp (maxSteps := 2000000) (disch := omega) only [e_inl, e_goto, e_fall, e_if, e_icmp, e_iret, e_zret, e_lret, e_vret, e_call0_0, e_call0_1, e_call0_2, e_call0_3, e_call0_4, e_call1_0, e_call1_1, e_call1_2, e_call1_3, e_call1_4, e_call2_0, e_call2_1, e_call2_2, e_call2_3, e_call2_4, e_call3_0, e_call3_1, e_call3_2, e_call3_3, e_call3_4, e_call4_0, e_call4_1, e_call4_2, e_call4_3, e_call4_4, e_call5_0, e_call5_1, e_call5_2, e_call5_3, e_call5_4, e_call6_0, e_call6_1, e_call6_2, e_call6_3, e_call6_4, xP, xld, xst1, xst2, xis2, xii, xid, xll, xlv, xls, xlc, xil, xli, xrd, xdup, xdup2, xc1, xpu, c_eq, c_ne, c_lt, c_ge, c_gt, c_le, Option.bind_some, Option.map_some, List.length_nil, List.length_cons, Nat.reduceAdd, Nat.reduceLeDiff, Int.reduceToNat, Bool.and_self, Bool.false_eq_true, if_true, if_false, o_m, g_m_0, g_m_1, g_m_2, g_m_3, g_m_4, g_m_5, g_m_6, g_m_7, g_m_8, g_m_9, g_m_10, g_m_11, g_m_12, g_m_13, g_m_14, g_m_15, g_m_16, g_m_17, g_m_18, g_m_19, g_m_20, g_m_21, p_m_3, p_m_7, p_m_8, p_m_11, p_m_13, p_m_15, p_m_16, p_m_17, p_m_18, p_m_21, p_m_5_0, p_m_5_1, r_m0, s_m0, r_m1, s_m1, r_m2, s_m2, r_m4, s_m4, r_m6, s_m6, r_m9, s_m9, r_m10, s_m10, r_m12, s_m12, r_m14, s_m14, r_m19, s_m19, r_m20, s_m20, Nat.reduceEqDiff, decide_true, decide_false, Bool.true_and, Bool.false_and, Bool.and_true, Bool.and_false, zB_tt, zB_ff, not_false_eq_true, not_true_eq_false, n_lit, n_mul, nI_add, n_sub, x_in, nI_clamp, nI_ltI, nI_leI, nI_eq, and_self, true_and, and_true, t_fields, r0, Nat.le_refl]
  | succ j ih =>
    intro p V J z2 z3 hj hr hB hM h13
    obtain ⟨o1, o2, o3, o4, o5⟩ := ioS_ok hw hm hs p
    have hn := o2.1
    have hO : mO (ioS σ m s p).1 p = mO σ p := by
      have := o2.2.2
      show (ioS σ m s p).1.2.2.2.1 p = σ.2.2.2.1 p
      rw [this]
    obtain ⟨V1, z2', z3', e1, g1, g2, g3⟩ := t_io_step (q := q) (S := S) (P := P) (A := A) (D := D) (K := K) (X := X) (E := E) (Z := Z) (I := I) (J := J) (V := V) (z2 := z2) (z3 := z3) (p := p) (f := mO σ p) o1 hr o4 (fun x hx => hsub x (o3 x hx)) hB hM o5 h13 (by omega) hO
    have e9 : ioS σ m s (p + 1) = ioT (mO σ p) (ioS σ m s p) := rfl
    obtain ⟨V2, J2, z2'', z3'', e2, k1, k2, k3, k4⟩ := ih (p + 1) V1 (vp_updL J 13 (lN (sd (ioS σ m s p).2.2))) z2' z3' (by omega) g1 (hB.dk g2) g3 (l_s _ _ _)
    refine ⟨V2, J2, z2'', z3'', e1.trans e2, k1, g2.tr k2, k3, fun k hk => (k4 k hk).trans (l_n _ _ hk)⟩
set_option maxRecDepth 100000 in
theorem t_io_86 {B m : Nat → Bool} (hm : some1 m) (hsub : ∀ x, m x = true → B x = true) (hM : MayI B m V) {z1 z2 z3 : Option Value} : den 168 86 [some (.ref 163), z1, z2, z3] [] (hp q S P A D K X E Z I J V) = some (some (.int (nI (fb_ct B (fa_first m 4096)))), (hp q S P A D K X E Z I J V)) := by
  obtain ⟨k1, k2⟩ := first_some hm
  have hN := fb_ct_le B 4096
  have hct := ct_in k1 (hsub _ k2)
  rw [D168_86]
  simp (maxSteps := 2000000) (disch := omega) only [e_inl, e_goto, e_fall, e_if, e_icmp, e_iret, e_zret, e_lret, e_vret, e_call0_0, e_call0_1, e_call0_2, e_call0_3, e_call0_4, e_call1_0, e_call1_1, e_call1_2, e_call1_3, e_call1_4, e_call2_0, e_call2_1, e_call2_2, e_call2_3, e_call2_4, e_call3_0, e_call3_1, e_call3_2, e_call3_3, e_call3_4, e_call4_0, e_call4_1, e_call4_2, e_call4_3, e_call4_4, e_call5_0, e_call5_1, e_call5_2, e_call5_3, e_call5_4, e_call6_0, e_call6_1, e_call6_2, e_call6_3, e_call6_4, xP, xld, xst1, xst2, xis2, xii, xid, xll, xlv, xls, xlc, xil, xli, xrd, xdup, xdup2, xc1, xpu, c_eq, c_ne, c_lt, c_ge, c_gt, c_le, Option.bind_some, Option.map_some, List.length_nil, List.length_cons, Nat.reduceAdd, Nat.reduceLeDiff, Int.reduceToNat, Bool.and_self, Bool.false_eq_true, if_true, if_false, Nat.reduceEqDiff, decide_true, decide_false, Bool.true_and, Bool.false_and, Bool.and_true, Bool.and_false, zB_tt, zB_ff, not_false_eq_true, not_true_eq_false, n_lit, n_mul, nI_add, n_sub, x_in, nI_clamp, nI_ltI, nI_leI, nI_eq, and_self, true_and, and_true]
  have hl := x_loop (i := 168) (pc := 88) (fun k => [some (.ref 163), some (.int (nI k)), z2, z3]) (fun _ => (hp q S P A D K X E Z I J V)) (fb_ct B (fa_first m 4096)) (fun k hk => by
    rw [D168_88]
    have hkB : k < fb_ct B 4096 := by omega
    obtain ⟨f1, f2, f3⟩ := flw_mem hkB
    have hb : m (flw B k) = false := by
      apply fa_first_no m 4096
      apply Nat.lt_of_not_le
      intro hge
      have := fb_ct_mono B hge
      omega
    have e12 := hM k hkB
    simp (maxSteps := 2000000) (disch := omega) only [e_inl, e_goto, e_fall, e_if, e_icmp, e_iret, e_zret, e_lret, e_vret, e_call0_0, e_call0_1, e_call0_2, e_call0_3, e_call0_4, e_call1_0, e_call1_1, e_call1_2, e_call1_3, e_call1_4, e_call2_0, e_call2_1, e_call2_2, e_call2_3, e_call2_4, e_call3_0, e_call3_1, e_call3_2, e_call3_3, e_call3_4, e_call4_0, e_call4_1, e_call4_2, e_call4_3, e_call4_4, e_call5_0, e_call5_1, e_call5_2, e_call5_3, e_call5_4, e_call6_0, e_call6_1, e_call6_2, e_call6_3, e_call6_4, xP, xld, xst1, xst2, xis2, xii, xid, xll, xlv, xls, xlc, xil, xli, xrd, xdup, xdup2, xc1, xpu, c_eq, c_ne, c_lt, c_ge, c_gt, c_le, Option.bind_some, Option.map_some, List.length_nil, List.length_cons, Nat.reduceAdd, Nat.reduceLeDiff, Int.reduceToNat, Bool.and_self, Bool.false_eq_true, if_true, if_false, o_m, g_m_0, g_m_1, g_m_2, g_m_3, g_m_4, g_m_5, g_m_6, g_m_7, g_m_8, g_m_9, g_m_10, g_m_11, g_m_12, g_m_13, g_m_14, g_m_15, g_m_16, g_m_17, g_m_18, g_m_19, g_m_20, g_m_21, p_m_3, p_m_7, p_m_8, p_m_11, p_m_13, p_m_15, p_m_16, p_m_17, p_m_18, p_m_21, p_m_5_0, p_m_5_1, r_m0, s_m0, r_m1, s_m1, r_m2, s_m2, r_m4, s_m4, r_m6, s_m6, r_m9, s_m9, r_m10, s_m10, r_m12, s_m12, r_m14, s_m14, r_m19, s_m19, r_m20, s_m20, Nat.reduceEqDiff, decide_true, decide_false, Bool.true_and, Bool.false_and, Bool.and_true, Bool.and_false, zB_tt, zB_ff, not_false_eq_true, not_true_eq_false, n_lit, n_mul, nI_add, n_sub, x_in, nI_clamp, nI_ltI, nI_leI, nI_eq, and_self, true_and, and_true, e12, hb, n_0])
  rw [hl, D168_88]
  have e12 := hM _ hct
  rw [flw_get k1 (hsub _ k2), k2] at e12
  simp (maxSteps := 2000000) (disch := omega) only [e_inl, e_goto, e_fall, e_if, e_icmp, e_iret, e_zret, e_lret, e_vret, e_call0_0, e_call0_1, e_call0_2, e_call0_3, e_call0_4, e_call1_0, e_call1_1, e_call1_2, e_call1_3, e_call1_4, e_call2_0, e_call2_1, e_call2_2, e_call2_3, e_call2_4, e_call3_0, e_call3_1, e_call3_2, e_call3_3, e_call3_4, e_call4_0, e_call4_1, e_call4_2, e_call4_3, e_call4_4, e_call5_0, e_call5_1, e_call5_2, e_call5_3, e_call5_4, e_call6_0, e_call6_1, e_call6_2, e_call6_3, e_call6_4, xP, xld, xst1, xst2, xis2, xii, xid, xll, xlv, xls, xlc, xil, xli, xrd, xdup, xdup2, xc1, xpu, c_eq, c_ne, c_lt, c_ge, c_gt, c_le, Option.bind_some, Option.map_some, List.length_nil, List.length_cons, Nat.reduceAdd, Nat.reduceLeDiff, Int.reduceToNat, Bool.and_self, Bool.false_eq_true, if_true, if_false, D168_103, o_m, g_m_0, g_m_1, g_m_2, g_m_3, g_m_4, g_m_5, g_m_6, g_m_7, g_m_8, g_m_9, g_m_10, g_m_11, g_m_12, g_m_13, g_m_14, g_m_15, g_m_16, g_m_17, g_m_18, g_m_19, g_m_20, g_m_21, p_m_3, p_m_7, p_m_8, p_m_11, p_m_13, p_m_15, p_m_16, p_m_17, p_m_18, p_m_21, p_m_5_0, p_m_5_1, r_m0, s_m0, r_m1, s_m1, r_m2, s_m2, r_m4, s_m4, r_m6, s_m6, r_m9, s_m9, r_m10, s_m10, r_m12, s_m12, r_m14, s_m14, r_m19, s_m19, r_m20, s_m20, Nat.reduceEqDiff, decide_true, decide_false, Bool.true_and, Bool.false_and, Bool.and_true, Bool.and_false, zB_tt, zB_ff, not_false_eq_true, not_true_eq_false, n_lit, n_mul, nI_add, n_sub, x_in, nI_clamp, nI_ltI, nI_leI, nI_eq, and_self, true_and, and_true, e12, n_0, Nat.one_ne_zero]
set_option maxRecDepth 100000 in
theorem t_takeInOrder {σ : mS} (hw : wf σ) (hr : rpA σ (V 0)) {B m : Nat → Bool} (hm : some1 m) (hsub : ∀ x, m x = true → B x = true) (hB : LB B I V) (hM : MayI B m V) {s : Nat} (hs : s < 2 ^ 31) (h13 : J 13 = lN s) : ∃ (V' : Nat → Nat → Int32) (J' : Nat → Int64), xcall 168 [.ref 163] (hp q S P A D K X E Z I J V) = some (some (.int (nI (fb_ct B (ioX σ m s)))), (hp q S P A D K X E Z I (J') (V'))) ∧ rpA (ioS σ m s (mn σ)).1 (V' 0) ∧ DK V V' ∧ ∀ k, k ≠ 13 → J' k = J k := by
  obtain ⟨V', J', z2, z3, e, g1, g2, g3, g4⟩ := t_io_loop (q := q) (S := S) (P := P) (A := A) (D := D) (K := K) (X := X) (E := E) (Z := Z) (I := I) hw hm hsub hs (mn σ) 0 V J none none (by omega) hr hB hM h13
  obtain ⟨o1, o2, o3, o4, o5⟩ := ioS_ok hw hm hs (mn σ)
  refine ⟨V', J', ?_, g1, g2, g4⟩
  rw [N168 _ _ (o_m ..), D168_0]
  simp (maxSteps := 2000000) (disch := omega) only [e_inl, e_goto, e_fall, e_if, e_icmp, e_iret, e_zret, e_lret, e_vret, e_call0_0, e_call0_1, e_call0_2, e_call0_3, e_call0_4, e_call1_0, e_call1_1, e_call1_2, e_call1_3, e_call1_4, e_call2_0, e_call2_1, e_call2_2, e_call2_3, e_call2_4, e_call3_0, e_call3_1, e_call3_2, e_call3_3, e_call3_4, e_call4_0, e_call4_1, e_call4_2, e_call4_3, e_call4_4, e_call5_0, e_call5_1, e_call5_2, e_call5_3, e_call5_4, e_call6_0, e_call6_1, e_call6_2, e_call6_3, e_call6_4, xP, xld, xst1, xst2, xis2, xii, xid, xll, xlv, xls, xlc, xil, xli, xrd, xdup, xdup2, xc1, xpu, c_eq, c_ne, c_lt, c_ge, c_gt, c_le, Option.bind_some, Option.map_some, List.length_nil, List.length_cons, Nat.reduceAdd, Nat.reduceLeDiff, Int.reduceToNat, Bool.and_self, Bool.false_eq_true, if_true, if_false, Nat.reduceEqDiff, decide_true, decide_false, Bool.true_and, Bool.false_and, Bool.and_true, Bool.and_false, zB_tt, zB_ff, not_false_eq_true, not_true_eq_false, n_lit, n_mul, nI_add, n_sub, x_in, nI_clamp, nI_ltI, nI_leI, nI_eq, and_self, true_and, and_true]
  rw [e, t_io_86 o4 (fun x hx => hsub x (o3 x hx)) g3]
  rfl
end
