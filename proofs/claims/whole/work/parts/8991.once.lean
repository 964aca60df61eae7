/-! ===== the class: a row drawn at once ===== -/
theorem lim_all {m : Nat → Bool} {f x : Nat} (hx : x < 4096) : lim m f (valS m f) x = m x := by
  unfold lim
  cases h : m x
  · rfl
  · rw [Bool.true_and]
    exact (valS_bit m f (vl x f)).mpr ⟨vl_lt x f, x, hx, h, rfl⟩
theorem RS.limA {m : Nat → Bool} {f : Nat} {W : Nat → Int64} (h : RS (lim m f (valS m f)) W) : RS m W := fun w hw => by
  rw [h w hw]
  congr 1
  exact wdN_cong (fun b hb => lim_all (by omega))
theorem gW_1 {σ : mS} {m : Nat → Bool} (h0 : tW σ m = 0) (x : Nat) : gW σ m x = if m x = true then 1 else 0 := by
  unfold gW
  rw [if_neg (show ¬ 0 < tW σ m by omega)]
theorem gW_w {σ : mS} (hw : wf σ) {m : Nat → Bool} (h0 : ¬ tW σ m = 0) (x : Nat) : gW σ m x = wG σ m x := by
  unfold gW wG
  rw [if_pos (show 0 < tW σ m by omega), wP_4 hw]
theorem fb_sm_mn (f : Nat → Nat) {a b : Nat} (h : a ≤ b) : fb_sm f a ≤ fb_sm f b := by
  have := fb_sm_mono f a (b - a)
  rw [show a + (b - a) = b by omega] at this
  exact this
section
variable {q : Nat × (Nat → Int32)} {S : Nat → xSt} {P : Int32 × (Nat → Nat)} {A : (Nat → Int64) × Int32 × Int32 × (Nat → Int64) × (Nat → Nat → Int64)} {D : (Nat → Int64) × Int64} {K : Nat → Int64} {X : Int32 × Int32 × Int32 × (Nat → Int32) × (Nat → Int32)} {E Z : Nat → Int32} {I : Nat → Int32} {J : Nat → Int64} {V : Nat → Nat → Int32}
set_option maxRecDepth 100000 in
theorem c_ro_6 {σ : mS} (hw : wf σ) (hs : rpS σ (S 0)) {m : Nat → Bool} (hR : RS m D.1) {w v x : Nat} (hw64 : w < 64) (hx : x < 64) (hv : v < 2 ^ 29) (p1 : fb_sm (fun b => gW σ m (64 * w + b)) x ≤ v) (p2 : v < fb_sm (fun b => gW σ m (64 * w + b)) (x + 1)) {z3 : Int32} (j : Nat) : ∀ (k : Nat) (z : Option Value), k + j = x → den 3 6 [some (.ref 153), some (.ref 3), some (.int (nI w)), some (.int z3), some (.int (zB (decide (tW σ m = 0)))), some (.int (nI (v - fb_sm (fun b => gW σ m (64 * w + b)) k))), some (.int (nI k)), z] [] (hp q S P A D K X E Z I J V) = some (some (.int (nI (w * 64 + x))), (hp q S P A D K X E Z I J V)) := by
  have h10 : (nI 1 = nI 0) = False := eq_false (by decide)
  have er : xlald (hp q S P A D K X E Z I J V) 155 (nI w) = some (.long (lN (wdN m w))) := by rw [r_mayBe, if_pos ⟨x_in hw64 (by omega), by omega⟩, nI_clamp (by omega), hR w hw64]
  induction j with
  | zero =>
    intro k z hk
    have hkx : k = x := by omega
    subst hkx
    have h1 : ¬ 64 ≤ k := by omega
    have eb := m_bit0 (wdN_lt m w) hx
    rw [wdN_bit hx] at eb
    have hx2 : w * 64 + k < 4096 := by omega
    rw [fb_sm_succ] at p2
    have hgl := gW_le hw m (64 * w + k)
    rw [D3_6]
    generalize fb_sm (fun b => gW σ m (64 * w + b)) k = u at *
    have hg0 : 0 < gW σ m (64 * w + k) := by
      have : v < u + gW σ m (64 * w + k) := p2
      omega
    have hb := gW_yes hg0
    have eb2 : ¬ lg_cmp (((lN (wdN m w)).toUInt64 >>> ((nI k).toInt64.toUInt64 &&& Int64.toUInt64 63)).toInt64 &&& Int64.ofInt 1) (Int64.ofInt 0) = nI 0 := by rw [eb, hb]; decide
    have p3 : v < u + gW σ m (64 * w + k) := p2
    by_cases h0 : tW σ m = 0
    · have eg : gW σ m (64 * w + k) = 1 := by rw [gW_1 h0, if_pos hb]
      rw [eg] at p3
      have hge := n_subge (a := v - u) (b := 1) (c := 0) (by omega) (by omega) (by omega)
      have hn : ¬ 0 + 1 ≤ v - u := by omega
      rw [decide_eq_true h0, zB_tt]
      simp (maxSteps := 2000000) (disch := omega) only [e_inl, e_goto, e_fall, e_if, e_icmp, e_iret, e_zret, e_lret, e_vret, e_call0_0, e_call0_1, e_call0_2, e_call0_3, e_call0_4, e_call1_0, e_call1_1, e_call1_2, e_call1_3, e_call1_4, e_call2_0, e_call2_1, e_call2_2, e_call2_3, e_call2_4, e_call3_0, e_call3_1, e_call3_2, e_call3_3, e_call3_4, e_call4_0, e_call4_1, e_call4_2, e_call4_3, e_call4_4, e_call5_0, e_call5_1, e_call5_2, e_call5_3, e_call5_4, e_call6_0, e_call6_1, e_call6_2, e_call6_3, e_call6_4, xP, xld, xst1, xst2, xis2, xii, xid, xll, xlv, xls, xlc, xil, xli, xrd, xdup, xdup2, xc1, xpu, c_eq, c_ne, c_lt, c_ge, c_gt, c_le, Option.bind_some, Option.map_some, List.length_nil, List.length_cons, Nat.reduceAdd, Nat.reduceLeDiff, Int.reduceToNat, Bool.and_self, Bool.false_eq_true, if_true, if_false, D3_58, g_drawer_0, g_mayBe_0, n_lit, nI_leI, h1, er, n_0, eb2, n_mul, nI_add, h10, hge, hn]
    · have eg : gW σ m (64 * w + k) = wP σ (64 * w + k) 4 := by rw [gW_w hw h0]; unfold wG; rw [if_pos hb]
      rw [eg] at p3 hgl
      have ewr := c_weightOfRow (q := q) (S := S) (P := P) (A := A) (D := D) (K := K) (X := X) (E := E) (Z := Z) (I := I) (J := J) (V := V) hw hs hx2
      rw [show 64 * w + k = w * 64 + k by omega] at p3 hgl
      have hge := n_subge (a := v - u) (b := wP σ (w * 64 + k) 4) (c := 0) (by omega) (by omega) (by omega)
      have hn : ¬ 0 + wP σ (w * 64 + k) 4 ≤ v - u := by omega
      rw [decide_eq_false h0, zB_ff]
      simp (maxSteps := 2000000) (disch := omega) only [e_inl, e_goto, e_fall, e_if, e_icmp, e_iret, e_zret, e_lret, e_vret, e_call0_0, e_call0_1, e_call0_2, e_call0_3, e_call0_4, e_call1_0, e_call1_1, e_call1_2, e_call1_3, e_call1_4, e_call2_0, e_call2_1, e_call2_2, e_call2_3, e_call2_4, e_call3_0, e_call3_1, e_call3_2, e_call3_3, e_call3_4, e_call4_0, e_call4_1, e_call4_2, e_call4_3, e_call4_4, e_call5_0, e_call5_1, e_call5_2, e_call5_3, e_call5_4, e_call6_0, e_call6_1, e_call6_2, e_call6_3, e_call6_4, xP, xld, xst1, xst2, xis2, xii, xid, xll, xlv, xls, xlc, xil, xli, xrd, xdup, xdup2, xc1, xpu, c_eq, c_ne, c_lt, c_ge, c_gt, c_le, Option.bind_some, Option.map_some, List.length_nil, List.length_cons, Nat.reduceAdd, Nat.reduceLeDiff, Int.reduceToNat, Bool.and_self, Bool.false_eq_true, if_true, if_false, D3_52, D3_58, g_drawer_0, g_mayBe_0, n_lit, nI_leI, h1, er, n_0, eb2, n_mul, nI_add, ewr, hge, hn]
  | succ j ih =>
    intro k z hk
    have h1 : ¬ 64 ≤ k := by omega
    have hk64 : k < 64 := by omega
    have eb := m_bit0 (wdN_lt m w) hk64
    rw [wdN_bit hk64] at eb
    have hmn := fb_sm_mn (fun b => gW σ m (64 * w + b)) (show k + 1 ≤ x by omega)
    have ih2 := fun z => ih (k + 1) z (by omega)
    rw [fb_sm_succ] at hmn
    rw [fb_sm_succ] at ih2
    have hx2 : w * 64 + k < 4096 := by omega
    have hgl := gW_le hw m (64 * w + k)
    rw [D3_6]
    generalize fb_sm (fun b => gW σ m (64 * w + b)) k = u at *
    have hmn2 : u + gW σ m (64 * w + k) ≤ v := by
      have : u + gW σ m (64 * w + k) ≤ fb_sm (fun b => gW σ m (64 * w + b)) x := hmn
      omega
    have ih3 : ∀ z : Option Value, den 3 6 [some (.ref 153), some (.ref 3), some (.int (nI w)), some (.int z3), some (.int (zB (decide (tW σ m = 0)))), some (.int (nI (v - (u + gW σ m (64 * w + k))))), some (.int (nI (k + 1))), z] [] (hp q S P A D K X E Z I J V) = some (some (.int (nI (w * 64 + x))), (hp q S P A D K X E Z I J V)) := ih2
    clear ih2 hmn ih
    by_cases hb : m (64 * w + k) = true
    · have eb2 : ¬ lg_cmp (((lN (wdN m w)).toUInt64 >>> ((nI k).toInt64.toUInt64 &&& Int64.toUInt64 63)).toInt64 &&& Int64.ofInt 1) (Int64.ofInt 0) = nI 0 := by rw [eb, hb]; decide
      by_cases h0 : tW σ m = 0
      · have eg : gW σ m (64 * w + k) = 1 := by rw [gW_1 h0, if_pos hb]
        rw [eg] at hmn2 ih3
        have hsub : v - u - 1 = v - (u + 1) := by omega
        rw [decide_eq_true h0, zB_tt] at ih3 ⊢
        simp (maxSteps := 2000000) (disch := omega) only [e_inl, e_goto, e_fall, e_if, e_icmp, e_iret, e_zret, e_lret, e_vret, e_call0_0, e_call0_1, e_call0_2, e_call0_3, e_call0_4, e_call1_0, e_call1_1, e_call1_2, e_call1_3, e_call1_4, e_call2_0, e_call2_1, e_call2_2, e_call2_3, e_call2_4, e_call3_0, e_call3_1, e_call3_2, e_call3_3, e_call3_4, e_call4_0, e_call4_1, e_call4_2, e_call4_3, e_call4_4, e_call5_0, e_call5_1, e_call5_2, e_call5_3, e_call5_4, e_call6_0, e_call6_1, e_call6_2, e_call6_3, e_call6_4, xP, xld, xst1, xst2, xis2, xii, xid, xll, xlv, xls, xlc, xil, xli, xrd, xdup, xdup2, xc1, xpu, c_eq, c_ne, c_lt, c_ge, c_gt, c_le, Option.bind_some, Option.map_some, List.length_nil, List.length_cons, Nat.reduceAdd, Nat.reduceLeDiff, Int.reduceToNat, Bool.and_self, Bool.false_eq_true, if_true, if_false, D3_58, D3_69, g_drawer_0, g_mayBe_0, n_lit, nI_leI, h1, er, n_0, eb2, n_mul, nI_add, h10, n_sub, hsub, Nat.zero_le, ih3]
      · have eg : gW σ m (64 * w + k) = wP σ (w * 64 + k) 4 := by rw [gW_w hw h0]; unfold wG; rw [if_pos hb, Nat.mul_comm]
        rw [eg] at hmn2 ih3
        have ewr := c_weightOfRow (q := q) (S := S) (P := P) (A := A) (D := D) (K := K) (X := X) (E := E) (Z := Z) (I := I) (J := J) (V := V) hw hs hx2
        have hsub : v - u - wP σ (w * 64 + k) 4 = v - (u + wP σ (w * 64 + k) 4) := by omega
        rw [decide_eq_false h0, zB_ff] at ih3 ⊢
        simp (maxSteps := 2000000) (disch := omega) only [e_inl, e_goto, e_fall, e_if, e_icmp, e_iret, e_zret, e_lret, e_vret, e_call0_0, e_call0_1, e_call0_2, e_call0_3, e_call0_4, e_call1_0, e_call1_1, e_call1_2, e_call1_3, e_call1_4, e_call2_0, e_call2_1, e_call2_2, e_call2_3, e_call2_4, e_call3_0, e_call3_1, e_call3_2, e_call3_3, e_call3_4, e_call4_0, e_call4_1, e_call4_2, e_call4_3, e_call4_4, e_call5_0, e_call5_1, e_call5_2, e_call5_3, e_call5_4, e_call6_0, e_call6_1, e_call6_2, e_call6_3, e_call6_4, xP, xld, xst1, xst2, xis2, xii, xid, xll, xlv, xls, xlc, xil, xli, xrd, xdup, xdup2, xc1, xpu, c_eq, c_ne, c_lt, c_ge, c_gt, c_le, Option.bind_some, Option.map_some, List.length_nil, List.length_cons, Nat.reduceAdd, Nat.reduceLeDiff, Int.reduceToNat, Bool.and_self, Bool.false_eq_true, if_true, if_false, D3_52, D3_58, D3_69, g_drawer_0, g_mayBe_0, n_lit, nI_leI, h1, er, n_0, eb2, n_mul, nI_add, ewr, n_sub, hsub, Nat.zero_le, ih3]
    · have eb2 : lg_cmp (((lN (wdN m w)).toUInt64 >>> ((nI k).toInt64.toUInt64 &&& Int64.toUInt64 63)).toInt64 &&& Int64.ofInt 1) (Int64.ofInt 0) = nI 0 := by rw [eb]; exact Bool.eq_false_iff.mpr hb
      have eg : gW σ m (64 * w + k) = 0 := by unfold gW; rw [if_neg hb]
      rw [eg, Nat.add_zero] at ih3
      simp (maxSteps := 2000000) (disch := omega) only [e_inl, e_goto, e_fall, e_if, e_icmp, e_iret, e_zret, e_lret, e_vret, e_call0_0, e_call0_1, e_call0_2, e_call0_3, e_call0_4, e_call1_0, e_call1_1, e_call1_2, e_call1_3, e_call1_4, e_call2_0, e_call2_1, e_call2_2, e_call2_3, e_call2_4, e_call3_0, e_call3_1, e_call3_2, e_call3_3, e_call3_4, e_call4_0, e_call4_1, e_call4_2, e_call4_3, e_call4_4, e_call5_0, e_call5_1, e_call5_2, e_call5_3, e_call5_4, e_call6_0, e_call6_1, e_call6_2, e_call6_3, e_call6_4, xP, xld, xst1, xst2, xis2, xii, xid, xll, xlv, xls, xlc, xil, xli, xrd, xdup, xdup2, xc1, xpu, c_eq, c_ne, c_lt, c_ge, c_gt, c_le, Option.bind_some, Option.map_some, List.length_nil, List.length_cons, Nat.reduceAdd, Nat.reduceLeDiff, Int.reduceToNat, Bool.and_self, Bool.false_eq_true, if_true, if_false, D3_69, g_drawer_0, g_mayBe_0, n_lit, nI_leI, h1, er, n_0, eb2, nI_add, ih3]
set_option maxRecDepth 100000 in
theorem c_rowOfWord {σ : mS} (hw : wf σ) (hs : rpS σ (S 0)) {m : Nat → Bool} (hR : RS m D.1) {w v x : Nat} (hw64 : w < 64) (hx : x < 64) (hv : v < 2 ^ 29) (p1 : fb_sm (fun b => gW σ m (64 * w + b)) x ≤ v) (p2 : v < fb_sm (fun b => gW σ m (64 * w + b)) (x + 1)) : xcall 3 [.ref 153, .ref 3, .int (nI w), .int (nI v), .int (zB (decide (tW σ m = 0)))] (hp q S P A D K X E Z I J V) = some (some (.int (nI (w * 64 + x))), (hp q S P A D K X E Z I J V)) := by
  have e := c_ro_6 (q := q) (S := S) (P := P) (A := A) (D := D) (K := K) (X := X) (E := E) (Z := Z) (I := I) (J := J) (V := V) hw hs hR hw64 hx hv p1 p2 (z3 := nI v) x 0 none (by omega)
  have e0 : fb_sm (fun b => gW σ m (64 * w + b)) 0 = 0 := rfl
  rw [e0, Nat.sub_zero] at e
  rw [N3 _ _ _ _ _ _ (o_drawer ..), D3_0]
  simp (maxSteps := 2000000) (disch := omega) only [e_inl, e_goto, e_fall, e_if, e_icmp, e_iret, e_zret, e_lret, e_vret, e_call0_0, e_call0_1, e_call0_2, e_call0_3, e_call0_4, e_call1_0, e_call1_1, e_call1_2, e_call1_3, e_call1_4, e_call2_0, e_call2_1, e_call2_2, e_call2_3, e_call2_4, e_call3_0, e_call3_1, e_call3_2, e_call3_3, e_call3_4, e_call4_0, e_call4_1, e_call4_2, e_call4_3, e_call4_4, e_call5_0, e_call5_1, e_call5_2, e_call5_3, e_call5_4, e_call6_0, e_call6_1, e_call6_2, e_call6_3, e_call6_4, xP, xld, xst1, xst2, xis2, xii, xid, xll, xlv, xls, xlc, xil, xli, xrd, xdup, xdup2, xc1, xpu, c_eq, c_ne, c_lt, c_ge, c_gt, c_le, Option.bind_some, Option.map_some, List.length_nil, List.length_cons, Nat.reduceAdd, Nat.reduceLeDiff, Int.reduceToNat, Bool.and_self, Bool.false_eq_true, if_true, if_false, n_lit]
  exact e
end
