/-! ===== the class: weights of rows by words ===== -/
theorem n_and255 (c : Nat) : nI c &&& nI 255 = nI (c % 256) := fa_mask c 8
theorem sm_mul (c : Nat) (f : Nat → Nat) : ∀ n, c * fb_sm f n = fb_sm (fun k => c * f k) n
  | 0 => rfl
  | n + 1 => by rw [fb_sm_succ, fb_sm_succ, Nat.mul_add, sm_mul c f n]
def wG (σ : mS) (m : Nat → Bool) (x : Nat) : Nat := if m x = true then wP σ x 4 else 0
def wH (σ : mS) (m : Nat → Bool) (w b : Nat) : Nat := if m (64 * w + b) = true then mW σ 2 (b / 8) * mW σ 3 (b % 8) else 0
theorem wG_tW {σ : mS} (hw : wf σ) (m : Nat → Bool) : fb_sm (wG σ m) 4096 = tW σ m := by
  unfold tW
  apply fb_sm_cong
  intro x _
  unfold wG
  rw [wP_4 hw]
theorem wd_byte (m : Nat → Bool) (w : Nat) {k j : Nat} (hk : k < 8) (hj : j < 8) : (wdN m w / 2 ^ (8 * k) % 256).testBit j = m (64 * w + (8 * k + j)) := by
  have e := Nat.testBit_mod_two_pow (wdN m w / 2 ^ (8 * k)) 8 j
  have e2 := Nat.testBit_div_two_pow (n := 8 * k) (wdN m w) j
  have e3 : (wdN m w / 2 ^ (8 * k) % 256).testBit j = (decide (j < 8) && (wdN m w / 2 ^ (8 * k)).testBit j) := e
  rw [e3, decide_eq_true hj, Bool.true_and, e2, wdN_bit (by omega)]
  congr 1
  omega
theorem vW_0 (σ : mS) (f : Nat) : vW σ f 0 = 0 := by
  unfold vW
  have e := fb_sm_cong (f := fun v => if (0 : Nat).testBit v = true then mW σ f v else 0) (g := fun _ => 0) (n := 8) (fun v _ => by
    show (if (0 : Nat).testBit v = true then mW σ f v else 0) = 0
    rw [Nat.zero_testBit]
    exact if_neg (by decide))
  rw [e, fb_sm_const]
theorem wH_step (σ : mS) (m : Nat → Bool) (w : Nat) {k : Nat} (hk : k < 8) : fb_sm (wH σ m w) (8 * (k + 1)) = fb_sm (wH σ m w) (8 * k) + mW σ 2 k * vW σ 3 (wdN m w / 2 ^ (8 * k) % 256) := by
  rw [Nat.mul_succ, fb_sm_split]
  congr 1
  unfold vW
  rw [sm_mul]
  apply fb_sm_cong
  intro j hj
  have e := wd_byte m w hk hj
  unfold wH
  rw [e, show (8 * k + j) / 8 = k by omega, show (8 * k + j) % 8 = j by omega]
  by_cases h : m (64 * w + (8 * k + j)) = true
  · rw [if_pos h, if_pos h]
  · rw [if_neg h, if_neg h, Nat.mul_zero]
theorem wH_all (σ : mS) (m : Nat → Bool) {w : Nat} (hw : w < 64) : mW σ 0 (w / 8) * mW σ 1 (w % 8) * fb_sm (wH σ m w) 64 = fb_sm (fun b => wG σ m (64 * w + b)) 64 := by
  rw [sm_mul]
  apply fb_sm_cong
  intro b hb
  obtain ⟨v0, v1, v2, v3⟩ := vl_w hw hb
  unfold wH wG
  by_cases h : m (64 * w + b) = true
  · rw [if_pos h, if_pos h]
    show _ = 1 * mW σ 0 (vl (64 * w + b) 0) * mW σ 1 (vl (64 * w + b) 1) * mW σ 2 (vl (64 * w + b) 2) * mW σ 3 (vl (64 * w + b) 3)
    rw [v0, v1, v2, v3, Nat.one_mul]
    exact (Nat.mul_assoc _ _ _).symm
  · rw [if_neg h, if_neg h, Nat.mul_zero]
section
variable {q : Nat × (Nat → Int32)} {S : Nat → xSt} {P : Int32 × (Nat → Nat)} {A : (Nat → Int64) × Int32 × Int32 × (Nat → Int64) × (Nat → Nat → Int64)} {D : (Nat → Int64) × Int64} {K : Nat → Int64} {X : Int32 × Int32 × Int32 × (Nat → Int32) × (Nat → Int32)} {E Z : Nat → Int32} {I : Nat → Int32} {J : Nat → Int64} {V : Nat → Nat → Int32}
set_option maxRecDepth 100000 in
theorem c_ww_52 {σ : mS} (hw : wf σ) (hs : rpS σ (S 0)) (m : Nat → Bool) {w : Nat} (o : Nat) (j : Nat) : ∀ (k : Nat) (z : Option Value), k + j = 8 → den 58 52 [some (.ref 3), some (.int (nI w)), some (.long (lN (wdN m w))), none, some (.int (nI o)), some (.int (nI (fb_sm (wH σ m w) (8 * k)))), some (.int (nI k)), z] [] (hp q S P A D K X E Z I J V) = some (some (.int (nI (o * fb_sm (wH σ m w) 64))), (hp q S P A D K X E Z I J V)) := by
  induction j with
  | zero =>
    intro k z hk
    have hk8 : k = 8 := by omega
    subst hk8
    rw [D58_52]
    simp (maxSteps := 2000000) (disch := omega) only [e_inl, e_goto, e_fall, e_if, e_icmp, e_iret, e_zret, e_lret, e_vret, e_call0_0, e_call0_1, e_call0_2, e_call0_3, e_call0_4, e_call1_0, e_call1_1, e_call1_2, e_call1_3, e_call1_4, e_call2_0, e_call2_1, e_call2_2, e_call2_3, e_call2_4, e_call3_0, e_call3_1, e_call3_2, e_call3_3, e_call3_4, e_call4_0, e_call4_1, e_call4_2, e_call4_3, e_call4_4, e_call5_0, e_call5_1, e_call5_2, e_call5_3, e_call5_4, e_call6_0, e_call6_1, e_call6_2, e_call6_3, e_call6_4, xP, xld, xst1, xst2, xis2, xii, xid, xll, xlv, xls, xlc, xil, xli, xrd, xdup, xdup2, xc1, xpu, c_eq, c_ne, c_lt, c_ge, c_gt, c_le, Option.bind_some, Option.map_some, List.length_nil, List.length_cons, Nat.reduceAdd, Nat.reduceLeDiff, Int.reduceToNat, Bool.and_self, Bool.false_eq_true, if_true, if_false, D58_113, n_lit, nI_leI, Nat.le_refl, n_mul, Nat.reduceMul]
  | succ j ih =>
    intro k z hk
    have h1 : ¬ 8 ≤ k := by omega
    have hk8 : k < 8 := by omega
    have e1 := wb_shr (wdN_lt m w) (show 8 * k < 64 by omega)
    have hb := Nat.mod_lt (wdN m w / 2 ^ (8 * k)) (show 256 > 0 by decide)
    have ev := c_weightOfValues (q := q) (S := S) (P := P) (A := A) (D := D) (K := K) (X := X) (E := E) (Z := Z) (I := I) (J := J) (V := V) hw hs (show 3 < 4 by omega) hb
    have er : xiald (hp q S P A D K X E Z I J V) (9 + 2 * 2) (nI k) = some (.int (nI (mW σ 2 k))) := by rw [r_W _ _ _ _ _ _ _ _ _ _ _ _ 2 (by omega), if_pos (x_in hk8 (by omega)), nI_clamp (by omega), hs.2.2.1 2 k (by omega) hk8]
    have e2 := ih (k + 1) (some (.int (nI (wdN m w / 2 ^ (8 * k) % 256)))) (by omega)
    have e3 := wH_step σ m w hk8
    rw [e3] at e2
    refine Eq.trans ?_ e2
    have ea := n_and255 (wdN m w / 2 ^ (8 * k))
    rw [D58_52]
    by_cases hz : wdN m w / 2 ^ (8 * k) % 256 = 0
    · rw [hz, vW_0, Nat.mul_zero, Nat.add_zero]
      rw [hz] at ea
      generalize fb_sm (wH σ m w) (8 * k) = g at *
      simp (maxSteps := 2000000) (disch := omega) only [e_inl, e_goto, e_fall, e_if, e_icmp, e_iret, e_zret, e_lret, e_vret, e_call0_0, e_call0_1, e_call0_2, e_call0_3, e_call0_4, e_call1_0, e_call1_1, e_call1_2, e_call1_3, e_call1_4, e_call2_0, e_call2_1, e_call2_2, e_call2_3, e_call2_4, e_call3_0, e_call3_1, e_call3_2, e_call3_3, e_call3_4, e_call4_0, e_call4_1, e_call4_2, e_call4_3, e_call4_4, e_call5_0, e_call5_1, e_call5_2, e_call5_3, e_call5_4, e_call6_0, e_call6_1, e_call6_2, e_call6_3, e_call6_4, xP, xld, xst1, xst2, xis2, xii, xid, xll, xlv, xls, xlc, xil, xli, xrd, xdup, xdup2, xc1, xpu, c_eq, c_ne, c_lt, c_ge, c_gt, c_le, Option.bind_some, Option.map_some, List.length_nil, List.length_cons, Nat.reduceAdd, Nat.reduceLeDiff, Int.reduceToNat, Bool.and_self, Bool.false_eq_true, if_true, if_false, D58_107, n_lit, nI_leI, h1, n_mul, e1, lN_i, ea, n_0, nI_add]
    · generalize fb_sm (wH σ m w) (8 * k) = g at *
      generalize wdN m w / 2 ^ (8 * k) % 256 = y at *
      simp (maxSteps := 2000000) (disch := omega) only [e_inl, e_goto, e_fall, e_if, e_icmp, e_iret, e_zret, e_lret, e_vret, e_call0_0, e_call0_1, e_call0_2, e_call0_3, e_call0_4, e_call1_0, e_call1_1, e_call1_2, e_call1_3, e_call1_4, e_call2_0, e_call2_1, e_call2_2, e_call2_3, e_call2_4, e_call3_0, e_call3_1, e_call3_2, e_call3_3, e_call3_4, e_call4_0, e_call4_1, e_call4_2, e_call4_3, e_call4_4, e_call5_0, e_call5_1, e_call5_2, e_call5_3, e_call5_4, e_call6_0, e_call6_1, e_call6_2, e_call6_3, e_call6_4, xP, xld, xst1, xst2, xis2, xii, xid, xll, xlv, xls, xlc, xil, xli, xrd, xdup, xdup2, xc1, xpu, c_eq, c_ne, c_lt, c_ge, c_gt, c_le, Option.bind_some, Option.map_some, List.length_nil, List.length_cons, Nat.reduceAdd, Nat.reduceLeDiff, Int.reduceToNat, Bool.and_self, Bool.false_eq_true, if_true, if_false, D58_107, g_S_1, rd0F, g_F_4, n_lit, nI_leI, h1, n_mul, e1, lN_i, ea, n_0, nI_eq, hz, er, ev, nI_add]
set_option maxRecDepth 100000 in
theorem c_weightOfWord {σ : mS} (hw : wf σ) (hs : rpS σ (S 0)) (m : Nat → Bool) {w : Nat} (hw64 : w < 64) : xcall 58 [.ref 3, .int (nI w), .long (lN (wdN m w))] (hp q S P A D K X E Z I J V) = some (some (.int (nI (fb_sm (fun b => wG σ m (64 * w + b)) 64))), (hp q S P A D K X E Z I J V)) := by
  have hb := wdN_lt m w
  have m0 := m_cmp0 hb
  have er0 : xiald (hp q S P A D K X E Z I J V) (9 + 2 * 0) (nI (wv w 0)) = some (.int (nI (mW σ 0 (w / 8)))) := by rw [r_W _ _ _ _ _ _ _ _ _ _ _ _ 0 (by omega), if_pos (x_in (wv_lt hw64 0) (by omega)), nI_clamp (by have := wv_lt hw64 0; omega), hs.2.2.1 0 _ (by omega) (wv_lt hw64 0)]; rfl
  have er1 : xiald (hp q S P A D K X E Z I J V) (9 + 2 * 1) (nI (wv w 1)) = some (.int (nI (mW σ 1 (w % 8)))) := by rw [r_W _ _ _ _ _ _ _ _ _ _ _ _ 1 (by omega), if_pos (x_in (wv_lt hw64 1) (by omega)), nI_clamp (by have := wv_lt hw64 1; omega), hs.2.2.1 1 _ (by omega) (wv_lt hw64 1)]; rfl
  have h9 := hw.2.2.1 0 (w / 8) (by omega) (by omega)
  have h91 := hw.2.2.1 1 (w % 8) (by omega) (by omega)
  have ew0 := c_wordValue hw64 (show 0 < 4 by omega) (hp q S P A D K X E Z I J V)
  have ew1 := c_wordValue hw64 (show 1 < 4 by omega) (hp q S P A D K X E Z I J V)
  have ho : mW σ 0 (w / 8) * mW σ 1 (w % 8) ≤ 9 * 9 := Nat.mul_le_mul h9 h91
  have ea := wH_all σ m hw64
  have e52 := c_ww_52 (q := q) (S := S) (P := P) (A := A) (D := D) (K := K) (X := X) (E := E) (Z := Z) (I := I) (J := J) (V := V) hw hs m (w := w) (mW σ 0 (w / 8) * mW σ 1 (w % 8)) 8 0 none (by omega)
  have e0 : fb_sm (wH σ m w) (8 * 0) = 0 := rfl
  rw [e0, ea] at e52
  rw [N58 _ _ _ _ (o_S ..), D58_0]
  by_cases h0 : wdN m w = 0
  · have es : fb_sm (fun b => wG σ m (64 * w + b)) 64 = 0 := by
      have e := fb_sm_cong (f := fun b => wG σ m (64 * w + b)) (g := fun _ => 0) (n := 64) (fun b hb => by
        show wG σ m (64 * w + b) = 0
        unfold wG
        rw [wdN_z h0 hb]
        exact if_neg (by decide))
      rw [e, fb_sm_const]
    have m1 : lg_cmp (lN (wdN m w)) (Int64.ofInt 0) = nI 0 := by rw [← n_0, m0]; exact h0
    rw [es]
    simp (maxSteps := 2000000) (disch := omega) only [e_inl, e_goto, e_fall, e_if, e_icmp, e_iret, e_zret, e_lret, e_vret, e_call0_0, e_call0_1, e_call0_2, e_call0_3, e_call0_4, e_call1_0, e_call1_1, e_call1_2, e_call1_3, e_call1_4, e_call2_0, e_call2_1, e_call2_2, e_call2_3, e_call2_4, e_call3_0, e_call3_1, e_call3_2, e_call3_3, e_call3_4, e_call4_0, e_call4_1, e_call4_2, e_call4_3, e_call4_4, e_call5_0, e_call5_1, e_call5_2, e_call5_3, e_call5_4, e_call6_0, e_call6_1, e_call6_2, e_call6_3, e_call6_4, xP, xld, xst1, xst2, xis2, xii, xid, xll, xlv, xls, xlc, xil, xli, xrd, xdup, xdup2, xc1, xpu, c_eq, c_ne, c_lt, c_ge, c_gt, c_le, Option.bind_some, Option.map_some, List.length_nil, List.length_cons, Nat.reduceAdd, Nat.reduceLeDiff, Int.reduceToNat, Bool.and_self, Bool.false_eq_true, if_true, if_false, D58_44, g_S_1, rd0F, g_F_4, n_lit, ew0, ew1, er0, er1, n_mul, n_0, m1]
  · have m1 : (lg_cmp (lN (wdN m w)) (Int64.ofInt 0) = nI 0) = False := by rw [← n_0, m0]; exact eq_false h0
    generalize fb_sm (fun b => wG σ m (64 * w + b)) 64 = g at *
    by_cases ho0 : mW σ 0 (w / 8) * mW σ 1 (w % 8) = 0
    · rw [ho0, Nat.zero_mul] at ea
      subst ea
      simp (maxSteps := 2000000) (disch := omega) only [e_inl, e_goto, e_fall, e_if, e_icmp, e_iret, e_zret, e_lret, e_vret, e_call0_0, e_call0_1, e_call0_2, e_call0_3, e_call0_4, e_call1_0, e_call1_1, e_call1_2, e_call1_3, e_call1_4, e_call2_0, e_call2_1, e_call2_2, e_call2_3, e_call2_4, e_call3_0, e_call3_1, e_call3_2, e_call3_3, e_call3_4, e_call4_0, e_call4_1, e_call4_2, e_call4_3, e_call4_4, e_call5_0, e_call5_1, e_call5_2, e_call5_3, e_call5_4, e_call6_0, e_call6_1, e_call6_2, e_call6_3, e_call6_4, xP, xld, xst1, xst2, xis2, xii, xid, xll, xlv, xls, xlc, xil, xli, xrd, xdup, xdup2, xc1, xpu, c_eq, c_ne, c_lt, c_ge, c_gt, c_le, Option.bind_some, Option.map_some, List.length_nil, List.length_cons, Nat.reduceAdd, Nat.reduceLeDiff, Int.reduceToNat, Bool.and_self, Bool.false_eq_true, if_true, if_false, D58_44, g_S_1, rd0F, g_F_4, n_lit, ew0, ew1, er0, er1, n_mul, m1, ho0, n_0, not_true_eq_false]
    · have hne : (nI (mW σ 0 (w / 8) * mW σ 1 (w % 8)) = nI 0) = False := by rw [nI_eq (by omega) (by omega)]; exact eq_false ho0
      simp (maxSteps := 2000000) (disch := omega) only [e_inl, e_goto, e_fall, e_if, e_icmp, e_iret, e_zret, e_lret, e_vret, e_call0_0, e_call0_1, e_call0_2, e_call0_3, e_call0_4, e_call1_0, e_call1_1, e_call1_2, e_call1_3, e_call1_4, e_call2_0, e_call2_1, e_call2_2, e_call2_3, e_call2_4, e_call3_0, e_call3_1, e_call3_2, e_call3_3, e_call3_4, e_call4_0, e_call4_1, e_call4_2, e_call4_3, e_call4_4, e_call5_0, e_call5_1, e_call5_2, e_call5_3, e_call5_4, e_call6_0, e_call6_1, e_call6_2, e_call6_3, e_call6_4, xP, xld, xst1, xst2, xis2, xii, xid, xll, xlv, xls, xlc, xil, xli, xrd, xdup, xdup2, xc1, xpu, c_eq, c_ne, c_lt, c_ge, c_gt, c_le, Option.bind_some, Option.map_some, List.length_nil, List.length_cons, Nat.reduceAdd, Nat.reduceLeDiff, Int.reduceToNat, Bool.and_self, Bool.false_eq_true, if_true, if_false, D58_46, g_S_1, rd0F, g_F_4, n_lit, ew0, ew1, er0, er1, n_mul, m1, n_0, hne, not_false_eq_true]
      exact e52
set_option maxRecDepth 100000 in
theorem c_weightOfRows {σ : mS} (hw : wf σ) (hs : rpS σ (S 0)) {a : Nat} {m : Nat → Bool} (hg : xget (hp q S P A D K X E Z I J V) a 128 = some (.ref (a + 1))) (hr : ∀ w, w < 64 → xlald (hp q S P A D K X E Z I J V) (a + 1) (nI w) = some (.long (lN (wdN m w)))) : xcall 57 [.ref 3, .ref a] (hp q S P A D K X E Z I J V) = some (some (.int (nI (tW σ m))), (hp q S P A D K X E Z I J V)) := by
  rw [N57 _ _ _ (o_S ..), D57_0]
  have hl := x_loop (i := 57) (pc := 4) (fun k => [some (.ref 3), some (.ref a), some (.int (nI (fb_sm (wG σ m) (64 * k)))), some (.int (nI k))]) (fun _ => (hp q S P A D K X E Z I J V)) 64 (fun k hk => by
    have h1 : ¬ 64 ≤ k := by omega
    have er := hr k hk
    have ew := c_weightOfWord (q := q) (S := S) (P := P) (A := A) (D := D) (K := K) (X := X) (E := E) (Z := Z) (I := I) (J := J) (V := V) hw hs m hk
    rw [D57_4, Nat.mul_succ, fb_sm_split]
    generalize fb_sm (fun b => wG σ m (64 * k + b)) 64 = g at *
    generalize fb_sm (wG σ m) (64 * k) = u at *
    simp (maxSteps := 2000000) (disch := omega) only [e_inl, e_goto, e_fall, e_if, e_icmp, e_iret, e_zret, e_lret, e_vret, e_call0_0, e_call0_1, e_call0_2, e_call0_3, e_call0_4, e_call1_0, e_call1_1, e_call1_2, e_call1_3, e_call1_4, e_call2_0, e_call2_1, e_call2_2, e_call2_3, e_call2_4, e_call3_0, e_call3_1, e_call3_2, e_call3_3, e_call3_4, e_call4_0, e_call4_1, e_call4_2, e_call4_3, e_call4_4, e_call5_0, e_call5_1, e_call5_2, e_call5_3, e_call5_4, e_call6_0, e_call6_1, e_call6_2, e_call6_3, e_call6_4, xP, xld, xst1, xst2, xis2, xii, xid, xll, xlv, xls, xlc, xil, xli, xrd, xdup, xdup2, xc1, xpu, c_eq, c_ne, c_lt, c_ge, c_gt, c_le, Option.bind_some, Option.map_some, List.length_nil, List.length_cons, Nat.reduceAdd, Nat.reduceLeDiff, Int.reduceToNat, Bool.and_self, Bool.false_eq_true, if_true, if_false, n_lit, nI_leI, h1, hg, er, ew, nI_add])
  have e0 : fb_sm (wG σ m) (64 * 0) = 0 := rfl
  have e1 : fb_sm (wG σ m) (64 * 64) = tW σ m := wG_tW hw m
  rw [e0, e1] at hl
  simp (maxSteps := 2000000) (disch := omega) only [e_inl, e_goto, e_fall, e_if, e_icmp, e_iret, e_zret, e_lret, e_vret, e_call0_0, e_call0_1, e_call0_2, e_call0_3, e_call0_4, e_call1_0, e_call1_1, e_call1_2, e_call1_3, e_call1_4, e_call2_0, e_call2_1, e_call2_2, e_call2_3, e_call2_4, e_call3_0, e_call3_1, e_call3_2, e_call3_3, e_call3_4, e_call4_0, e_call4_1, e_call4_2, e_call4_3, e_call4_4, e_call5_0, e_call5_1, e_call5_2, e_call5_3, e_call5_4, e_call6_0, e_call6_1, e_call6_2, e_call6_3, e_call6_4, xP, xld, xst1, xst2, xis2, xii, xid, xll, xlv, xls, xlc, xil, xli, xrd, xdup, xdup2, xc1, xpu, c_eq, c_ne, c_lt, c_ge, c_gt, c_le, Option.bind_some, Option.map_some, List.length_nil, List.length_cons, Nat.reduceAdd, Nat.reduceLeDiff, Int.reduceToNat, Bool.and_self, Bool.false_eq_true, if_true, if_false, n_lit]
  rw [hl, D57_4]
  simp (maxSteps := 2000000) (disch := omega) only [e_inl, e_goto, e_fall, e_if, e_icmp, e_iret, e_zret, e_lret, e_vret, e_call0_0, e_call0_1, e_call0_2, e_call0_3, e_call0_4, e_call1_0, e_call1_1, e_call1_2, e_call1_3, e_call1_4, e_call2_0, e_call2_1, e_call2_2, e_call2_3, e_call2_4, e_call3_0, e_call3_1, e_call3_2, e_call3_3, e_call3_4, e_call4_0, e_call4_1, e_call4_2, e_call4_3, e_call4_4, e_call5_0, e_call5_1, e_call5_2, e_call5_3, e_call5_4, e_call6_0, e_call6_1, e_call6_2, e_call6_3, e_call6_4, xP, xld, xst1, xst2, xis2, xii, xid, xll, xlv, xls, xlc, xil, xli, xrd, xdup, xdup2, xc1, xpu, c_eq, c_ne, c_lt, c_ge, c_gt, c_le, Option.bind_some, Option.map_some, List.length_nil, List.length_cons, Nat.reduceAdd, Nat.reduceLeDiff, Int.reduceToNat, Bool.and_self, Bool.false_eq_true, if_true, if_false, D57_30, n_lit, nI_leI, Nat.le_refl]
end
