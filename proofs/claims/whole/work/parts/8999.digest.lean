/-! ===== public calls of the class (6): digest ===== -/
theorem mxF_s (f : Nat → Int32) (h : Int64) (k : Nat) : mxF f h (k + 1) = Int64.ofInt 31 * mxF f h k + (f k).toInt64 := rfl
section
variable {q : Nat × (Nat → Int32)} {S : Nat → xSt} {P : Int32 × (Nat → Nat)} {A : (Nat → Int64) × Int32 × Int32 × (Nat → Int64) × (Nat → Nat → Int64)} {D : (Nat → Int64) × Int64} {K : Nat → Int64} {X : Int32 × Int32 × Int32 × (Nat → Int32) × (Nat → Int32)} {E Z : Nat → Int32} {I : Nat → Int32} {J : Nat → Int64} {V : Nat → Nat → Int32}
set_option maxRecDepth 100000 in
theorem c_df_6 {σ : mS} (hw : wf σ) (hs : rpS σ (S 0)) {f : Nat} (hf : f < mn σ) {y : Value} (h : Int64) : den 96 6 [some (.ref 2), some y, none, some (.int (nI f)), some (.long h), none, some (.int (nI 0))] [] (hp q S P A D K X E Z I J V) = den 96 38 [some (.ref 2), some y, none, some (.int (nI f)), some (.long (mxF (aOf σ f) h 6)), none, some (.int (nI 6))] [] (hp q S P A D K X E Z I J V) := by
  have hl := x_loop (i := 96) (pc := 6) (fun k => [some (.ref 2), some y, none, some (.int (nI f)), some (.long (mxF (aOf σ f) h k)), none, some (.int (nI k))]) (fun _ => (hp q S P A D K X E Z I J V)) 6 (fun k hk => by
    have h1 : ¬ 5 < k := by omega
    have e := c_factOfField (q := q) (S := S) (P := P) (A := A) (D := D) (K := K) (X := X) (E := E) (Z := Z) (I := I) (J := J) (V := V) hw hs hf (show k ≤ 5 by omega)
    rw [D96_6, mxF_s]
    generalize mxF (aOf σ f) h k = x
    simp (maxSteps := 2000000) (disch := omega) only [e_inl, e_goto, e_fall, e_if, e_icmp, e_iret, e_zret, e_lret, e_vret, e_call0_0, e_call0_1, e_call0_2, e_call0_3, e_call0_4, e_call1_0, e_call1_1, e_call1_2, e_call1_3, e_call1_4, e_call2_0, e_call2_1, e_call2_2, e_call2_3, e_call2_4, e_call3_0, e_call3_1, e_call3_2, e_call3_3, e_call3_4, e_call4_0, e_call4_1, e_call4_2, e_call4_3, e_call4_4, e_call5_0, e_call5_1, e_call5_2, e_call5_3, e_call5_4, e_call6_0, e_call6_1, e_call6_2, e_call6_3, e_call6_4, xP, xld, xst1, xst2, xis2, xii, xid, xll, xlv, xls, xlc, xil, xli, xrd, xdup, xdup2, xc1, xpu, c_eq, c_ne, c_lt, c_ge, c_gt, c_le, Option.bind_some, Option.map_some, List.length_nil, List.length_cons, Nat.reduceAdd, Nat.reduceLeDiff, Int.reduceToNat, Bool.and_self, Bool.false_eq_true, if_true, if_false, g_x_0, n_lit, nI_ltI, nI_add, h1, e])
  have e0 : mxF (aOf σ f) h 0 = h := rfl
  rw [e0] at hl
  have h1 : 5 < 6 := by omega
  rw [hl, D96_6]
  generalize mxF (aOf σ f) h 6 = x
  simp (maxSteps := 2000000) (disch := omega) only [e_inl, e_goto, e_fall, e_if, e_icmp, e_iret, e_zret, e_lret, e_vret, e_call0_0, e_call0_1, e_call0_2, e_call0_3, e_call0_4, e_call1_0, e_call1_1, e_call1_2, e_call1_3, e_call1_4, e_call2_0, e_call2_1, e_call2_2, e_call2_3, e_call2_4, e_call3_0, e_call3_1, e_call3_2, e_call3_3, e_call3_4, e_call4_0, e_call4_1, e_call4_2, e_call4_3, e_call4_4, e_call5_0, e_call5_1, e_call5_2, e_call5_3, e_call5_4, e_call6_0, e_call6_1, e_call6_2, e_call6_3, e_call6_4, xP, xld, xst1, xst2, xis2, xii, xid, xll, xlv, xls, xlc, xil, xli, xrd, xdup, xdup2, xc1, xpu, c_eq, c_ne, c_lt, c_ge, c_gt, c_le, Option.bind_some, Option.map_some, List.length_nil, List.length_cons, Nat.reduceAdd, Nat.reduceLeDiff, Int.reduceToNat, Bool.and_self, Bool.false_eq_true, if_true, if_false, n_lit, nI_ltI, h1]
set_option maxRecDepth 100000 in
theorem c_df_41 {σ : mS} (hw : wf σ) (hs : rpS σ (S 0)) {f : Nat} (hf : f < mn σ) {y : Value} (h : Int64) : den 96 41 [some (.ref 2), some y, none, some (.int (nI f)), some (.long h), none, some (.int (nI 0))] [] (hp q S P A D K X E Z I J V) = some (some (.long (mxF (fun v => nI (mW σ f v)) h 8)), (hp q S P A D K X E Z I J V)) := by
  have w1 := hw.1
  have hl := x_loop (i := 96) (pc := 41) (fun k => [some (.ref 2), some y, none, some (.int (nI f)), some (.long (mxF (fun v => nI (mW σ f v)) h k)), none, some (.int (nI k))]) (fun _ => (hp q S P A D K X E Z I J V)) 8 (fun k hk => by
    have h1 : ¬ 8 ≤ k := by omega
    have ew := hs.2.2.1 f k (by omega) hk
    have er : xiald (hp q S P A D K X E Z I J V) (9 + 2 * f) (nI k) = some (.int (nI (mW σ f k))) := by rw [r_W _ _ _ _ _ _ _ _ _ _ _ _ f (by omega), if_pos (x_in hk (by omega)), nI_clamp (by omega), ew]
    rw [D96_41, mxF_s]
    generalize mxF (fun v => nI (mW σ f v)) h k = x
    simp (maxSteps := 2000000) (disch := omega) only [e_inl, e_goto, e_fall, e_if, e_icmp, e_iret, e_zret, e_lret, e_vret, e_call0_0, e_call0_1, e_call0_2, e_call0_3, e_call0_4, e_call1_0, e_call1_1, e_call1_2, e_call1_3, e_call1_4, e_call2_0, e_call2_1, e_call2_2, e_call2_3, e_call2_4, e_call3_0, e_call3_1, e_call3_2, e_call3_3, e_call3_4, e_call4_0, e_call4_1, e_call4_2, e_call4_3, e_call4_4, e_call5_0, e_call5_1, e_call5_2, e_call5_3, e_call5_4, e_call6_0, e_call6_1, e_call6_2, e_call6_3, e_call6_4, xP, xld, xst1, xst2, xis2, xii, xid, xll, xlv, xls, xlc, xil, xli, xrd, xdup, xdup2, xc1, xpu, c_eq, c_ne, c_lt, c_ge, c_gt, c_le, Option.bind_some, Option.map_some, List.length_nil, List.length_cons, Nat.reduceAdd, Nat.reduceLeDiff, Int.reduceToNat, Bool.and_self, Bool.false_eq_true, if_true, if_false, g_x_0, g_S_1, rd0F, g_F_4, n_lit, nI_leI, nI_add, h1, er])
  have e0 : mxF (fun v => nI (mW σ f v)) h 0 = h := rfl
  rw [e0] at hl
  rw [hl, D96_41]
  generalize mxF (fun v => nI (mW σ f v)) h 8 = x
  simp (maxSteps := 2000000) (disch := omega) only [e_inl, e_goto, e_fall, e_if, e_icmp, e_iret, e_zret, e_lret, e_vret, e_call0_0, e_call0_1, e_call0_2, e_call0_3, e_call0_4, e_call1_0, e_call1_1, e_call1_2, e_call1_3, e_call1_4, e_call2_0, e_call2_1, e_call2_2, e_call2_3, e_call2_4, e_call3_0, e_call3_1, e_call3_2, e_call3_3, e_call3_4, e_call4_0, e_call4_1, e_call4_2, e_call4_3, e_call4_4, e_call5_0, e_call5_1, e_call5_2, e_call5_3, e_call5_4, e_call6_0, e_call6_1, e_call6_2, e_call6_3, e_call6_4, xP, xld, xst1, xst2, xis2, xii, xid, xll, xlv, xls, xlc, xil, xli, xrd, xdup, xdup2, xc1, xpu, c_eq, c_ne, c_lt, c_ge, c_gt, c_le, Option.bind_some, Option.map_some, List.length_nil, List.length_cons, Nat.reduceAdd, Nat.reduceLeDiff, Int.reduceToNat, Bool.and_self, Bool.false_eq_true, if_true, if_false, D96_79, n_lit, nI_leI, Nat.le_refl]
set_option maxRecDepth 100000 in
theorem c_digestOfField {σ : mS} (hw : wf σ) (hs : rpS σ (S 0)) {f : Nat} (hf : f < mn σ) (h : Int64) : xcall 96 [.ref 2, .long h, .int (nI f)] (hp q S P A D K X E Z I J V) = some (some (.long (mxF (fun v => nI (mW σ f v)) (mxF (aOf σ f) h 6) 8)), (hp q S P A D K X E Z I J V)) := by
  have e6 := c_df_6 (q := q) (S := S) (P := P) (A := A) (D := D) (K := K) (X := X) (E := E) (Z := Z) (I := I) (J := J) (V := V) hw hs hf (y := .long h) h
  have e41 := c_df_41 (q := q) (S := S) (P := P) (A := A) (D := D) (K := K) (X := X) (E := E) (Z := Z) (I := I) (J := J) (V := V) hw hs hf (y := .long h) (mxF (aOf σ f) h 6)
  rw [N96 _ _ _ _ (o_x ..), D96_0]
  simp (maxSteps := 2000000) (disch := omega) only [e_inl, e_goto, e_fall, e_if, e_icmp, e_iret, e_zret, e_lret, e_vret, e_call0_0, e_call0_1, e_call0_2, e_call0_3, e_call0_4, e_call1_0, e_call1_1, e_call1_2, e_call1_3, e_call1_4, e_call2_0, e_call2_1, e_call2_2, e_call2_3, e_call2_4, e_call3_0, e_call3_1, e_call3_2, e_call3_3, e_call3_4, e_call4_0, e_call4_1, e_call4_2, e_call4_3, e_call4_4, e_call5_0, e_call5_1, e_call5_2, e_call5_3, e_call5_4, e_call6_0, e_call6_1, e_call6_2, e_call6_3, e_call6_4, xP, xld, xst1, xst2, xis2, xii, xid, xll, xlv, xls, xlc, xil, xli, xrd, xdup, xdup2, xc1, xpu, c_eq, c_ne, c_lt, c_ge, c_gt, c_le, Option.bind_some, Option.map_some, List.length_nil, List.length_cons, Nat.reduceAdd, Nat.reduceLeDiff, Int.reduceToNat, Bool.and_self, Bool.false_eq_true, if_true, if_false, n_lit]
  rw [e6, D96_38]
  simp (maxSteps := 2000000) (disch := omega) only [e_inl, e_goto, e_fall, e_if, e_icmp, e_iret, e_zret, e_lret, e_vret, e_call0_0, e_call0_1, e_call0_2, e_call0_3, e_call0_4, e_call1_0, e_call1_1, e_call1_2, e_call1_3, e_call1_4, e_call2_0, e_call2_1, e_call2_2, e_call2_3, e_call2_4, e_call3_0, e_call3_1, e_call3_2, e_call3_3, e_call3_4, e_call4_0, e_call4_1, e_call4_2, e_call4_3, e_call4_4, e_call5_0, e_call5_1, e_call5_2, e_call5_3, e_call5_4, e_call6_0, e_call6_1, e_call6_2, e_call6_3, e_call6_4, xP, xld, xst1, xst2, xis2, xii, xid, xll, xlv, xls, xlc, xil, xli, xrd, xdup, xdup2, xc1, xpu, c_eq, c_ne, c_lt, c_ge, c_gt, c_le, Option.bind_some, Option.map_some, List.length_nil, List.length_cons, Nat.reduceAdd, Nat.reduceLeDiff, Int.reduceToNat, Bool.and_self, Bool.false_eq_true, if_true, if_false, n_lit]
  exact e41
set_option maxRecDepth 100000 in
theorem c_dd_33 {σ : mS} (hw : wf σ) (hs : rpS σ (S 0)) {i : Nat} (hi : i < mu σ) {y : Value} (h : Int64) : den 97 33 [some (.ref 2), some y, none, some (.long h), none, some (.int (nI i)), some (.int (nI 0))] [] (hp q S P A D K X E Z I J V) = den 97 74 [some (.ref 2), some y, none, some (.long (mxF (fun f => nI (vl (mU σ i) f)) h (mn σ))), none, some (.int (nI i)), some (.int (nI (mn σ)))] [] (hp q S P A D K X E Z I J V) := by
  have w1 := hw.1
  have w10 := hw.2.2.2.2.2.2.2.2.2.1
  have hx := hw.2.2.2.2.2.2.2.2.2.2 i hi
  have r0 := hs.1
  have rU := hs.2.2.2.2.2.2.2.2.2 i hi
  have er : xiald (hp q S P A D K X E Z I J V) 7 (nI i) = some (.int (nI (mU σ i))) := by rw [r_unlike, if_pos (x_in (by omega) (by omega)), nI_clamp (by omega), rU]
  have hl := x_loop (i := 97) (pc := 33) (fun k => [some (.ref 2), some y, none, some (.long (mxF (fun f => nI (vl (mU σ i) f)) h k)), none, some (.int (nI i)), some (.int (nI k))]) (fun _ => (hp q S P A D K X E Z I J V)) (mn σ) (fun k hk => by
    have h1 : ¬ mn σ ≤ k := by omega
    rw [D97_33, mxF_s]
    generalize mxF (fun f => nI (vl (mU σ i) f)) h k = x
    simp (maxSteps := 2000000) (disch := omega) only [e_inl, e_goto, e_fall, e_if, e_icmp, e_iret, e_zret, e_lret, e_vret, e_call0_0, e_call0_1, e_call0_2, e_call0_3, e_call0_4, e_call1_0, e_call1_1, e_call1_2, e_call1_3, e_call1_4, e_call2_0, e_call2_1, e_call2_2, e_call2_3, e_call2_4, e_call3_0, e_call3_1, e_call3_2, e_call3_3, e_call3_4, e_call4_0, e_call4_1, e_call4_2, e_call4_3, e_call4_4, e_call5_0, e_call5_1, e_call5_2, e_call5_3, e_call5_4, e_call6_0, e_call6_1, e_call6_2, e_call6_3, e_call6_4, xP, xld, xst1, xst2, xis2, xii, xid, xll, xlv, xls, xlc, xil, xli, xrd, xdup, xdup2, xc1, xpu, c_eq, c_ne, c_lt, c_ge, c_gt, c_le, Option.bind_some, Option.map_some, List.length_nil, List.length_cons, Nat.reduceAdd, Nat.reduceLeDiff, Int.reduceToNat, Bool.and_self, Bool.false_eq_true, if_true, if_false, g_x_0, g_S_0, g_S_7, n_lit, nI_leI, nI_add, r0, h1, er, c_valueIn])
  have e0 : mxF (fun f => nI (vl (mU σ i) f)) h 0 = h := rfl
  rw [e0] at hl
  rw [hl, D97_33]
  generalize mxF (fun f => nI (vl (mU σ i) f)) h (mn σ) = x
  simp (maxSteps := 2000000) (disch := omega) only [e_inl, e_goto, e_fall, e_if, e_icmp, e_iret, e_zret, e_lret, e_vret, e_call0_0, e_call0_1, e_call0_2, e_call0_3, e_call0_4, e_call1_0, e_call1_1, e_call1_2, e_call1_3, e_call1_4, e_call2_0, e_call2_1, e_call2_2, e_call2_3, e_call2_4, e_call3_0, e_call3_1, e_call3_2, e_call3_3, e_call3_4, e_call4_0, e_call4_1, e_call4_2, e_call4_3, e_call4_4, e_call5_0, e_call5_1, e_call5_2, e_call5_3, e_call5_4, e_call6_0, e_call6_1, e_call6_2, e_call6_3, e_call6_4, xP, xld, xst1, xst2, xis2, xii, xid, xll, xlv, xls, xlc, xil, xli, xrd, xdup, xdup2, xc1, xpu, c_eq, c_ne, c_lt, c_ge, c_gt, c_le, Option.bind_some, Option.map_some, List.length_nil, List.length_cons, Nat.reduceAdd, Nat.reduceLeDiff, Int.reduceToNat, Bool.and_self, Bool.false_eq_true, if_true, if_false, g_x_0, g_S_0, nI_leI, r0, Nat.le_refl]
set_option maxRecDepth 100000 in
theorem c_dd_18 {σ : mS} (hw : wf σ) (hs : rpS σ (S 0)) {y : Value} (h : Int64) (j : Nat) : ∀ (i : Nat) (z : Option Value), i + j = mu σ → den 97 18 [some (.ref 2), some y, none, some (.long (mxD σ h i)), none, some (.int (nI i)), z] [] (hp q S P A D K X E Z I J V) = some (some (.long (mxD σ h (mu σ))), (hp q S P A D K X E Z I J V)) := by
  have w10 := hw.2.2.2.2.2.2.2.2.2.1
  have r6 := hs.2.2.2.2.2.2.2.2.1
  induction j with
  | zero =>
    intro i z hi
    have hin : i = mu σ := by omega
    subst hin
    rw [D97_18]
    simp (maxSteps := 2000000) (disch := omega) only [e_inl, e_goto, e_fall, e_if, e_icmp, e_iret, e_zret, e_lret, e_vret, e_call0_0, e_call0_1, e_call0_2, e_call0_3, e_call0_4, e_call1_0, e_call1_1, e_call1_2, e_call1_3, e_call1_4, e_call2_0, e_call2_1, e_call2_2, e_call2_3, e_call2_4, e_call3_0, e_call3_1, e_call3_2, e_call3_3, e_call3_4, e_call4_0, e_call4_1, e_call4_2, e_call4_3, e_call4_4, e_call5_0, e_call5_1, e_call5_2, e_call5_3, e_call5_4, e_call6_0, e_call6_1, e_call6_2, e_call6_3, e_call6_4, xP, xld, xst1, xst2, xis2, xii, xid, xll, xlv, xls, xlc, xil, xli, xrd, xdup, xdup2, xc1, xpu, c_eq, c_ne, c_lt, c_ge, c_gt, c_le, Option.bind_some, Option.map_some, List.length_nil, List.length_cons, Nat.reduceAdd, Nat.reduceLeDiff, Int.reduceToNat, Bool.and_self, Bool.false_eq_true, if_true, if_false, D97_80, g_x_0, g_S_6, nI_leI, r6, Nat.le_refl]
  | succ j ih =>
    intro i z hi
    have h1 : ¬ mu σ ≤ i := by omega
    have e33 := c_dd_33 (q := q) (S := S) (P := P) (A := A) (D := D) (K := K) (X := X) (E := E) (Z := Z) (I := I) (J := J) (V := V) hw hs (show i < mu σ by omega) (y := y) (mxD σ h i)
    have em : mxF (fun f => nI (vl (mU σ i) f)) (mxD σ h i) (mn σ) = mxD σ h (i + 1) := rfl
    rw [em] at e33
    have ih2 := ih (i + 1) (some (.int (nI (mn σ)))) (by omega)
    rw [D97_18]
    simp (maxSteps := 2000000) (disch := omega) only [e_inl, e_goto, e_fall, e_if, e_icmp, e_iret, e_zret, e_lret, e_vret, e_call0_0, e_call0_1, e_call0_2, e_call0_3, e_call0_4, e_call1_0, e_call1_1, e_call1_2, e_call1_3, e_call1_4, e_call2_0, e_call2_1, e_call2_2, e_call2_3, e_call2_4, e_call3_0, e_call3_1, e_call3_2, e_call3_3, e_call3_4, e_call4_0, e_call4_1, e_call4_2, e_call4_3, e_call4_4, e_call5_0, e_call5_1, e_call5_2, e_call5_3, e_call5_4, e_call6_0, e_call6_1, e_call6_2, e_call6_3, e_call6_4, xP, xld, xst1, xst2, xis2, xii, xid, xll, xlv, xls, xlc, xil, xli, xrd, xdup, xdup2, xc1, xpu, c_eq, c_ne, c_lt, c_ge, c_gt, c_le, Option.bind_some, Option.map_some, List.length_nil, List.length_cons, Nat.reduceAdd, Nat.reduceLeDiff, Int.reduceToNat, Bool.and_self, Bool.false_eq_true, if_true, if_false, g_x_0, g_S_6, n_lit, nI_leI, r6, h1]
    rw [e33, D97_74]
    simp (maxSteps := 2000000) (disch := omega) only [e_inl, e_goto, e_fall, e_if, e_icmp, e_iret, e_zret, e_lret, e_vret, e_call0_0, e_call0_1, e_call0_2, e_call0_3, e_call0_4, e_call1_0, e_call1_1, e_call1_2, e_call1_3, e_call1_4, e_call2_0, e_call2_1, e_call2_2, e_call2_3, e_call2_4, e_call3_0, e_call3_1, e_call3_2, e_call3_3, e_call3_4, e_call4_0, e_call4_1, e_call4_2, e_call4_3, e_call4_4, e_call5_0, e_call5_1, e_call5_2, e_call5_3, e_call5_4, e_call6_0, e_call6_1, e_call6_2, e_call6_3, e_call6_4, xP, xld, xst1, xst2, xis2, xii, xid, xll, xlv, xls, xlc, xil, xli, xrd, xdup, xdup2, xc1, xpu, c_eq, c_ne, c_lt, c_ge, c_gt, c_le, Option.bind_some, Option.map_some, List.length_nil, List.length_cons, Nat.reduceAdd, Nat.reduceLeDiff, Int.reduceToNat, Bool.and_self, Bool.false_eq_true, if_true, if_false, n_lit, nI_add]
    exact ih2
set_option maxRecDepth 100000 in
theorem c_digestOfDrawn {σ : mS} (hw : wf σ) (hs : rpS σ (S 0)) (h : Int64) : xcall 97 [.ref 2, .long h] (hp q S P A D K X E Z I J V) = some (some (.long (mxD σ (mx h (nI (mu σ))) (mu σ))), (hp q S P A D K X E Z I J V)) := by
  have r6 := hs.2.2.2.2.2.2.2.2.1
  have e18 := c_dd_18 (q := q) (S := S) (P := P) (A := A) (D := D) (K := K) (X := X) (E := E) (Z := Z) (I := I) (J := J) (V := V) hw hs (y := .long h) (mx h (nI (mu σ))) (mu σ) 0 none (by omega)
  have e0 : mxD σ (mx h (nI (mu σ))) 0 = Int64.ofInt 31 * h + (nI (mu σ)).toInt64 := rfl
  rw [e0] at e18
  rw [N97 _ _ _ (o_x ..), D97_0]
  simp (maxSteps := 2000000) (disch := omega) only [e_inl, e_goto, e_fall, e_if, e_icmp, e_iret, e_zret, e_lret, e_vret, e_call0_0, e_call0_1, e_call0_2, e_call0_3, e_call0_4, e_call1_0, e_call1_1, e_call1_2, e_call1_3, e_call1_4, e_call2_0, e_call2_1, e_call2_2, e_call2_3, e_call2_4, e_call3_0, e_call3_1, e_call3_2, e_call3_3, e_call3_4, e_call4_0, e_call4_1, e_call4_2, e_call4_3, e_call4_4, e_call5_0, e_call5_1, e_call5_2, e_call5_3, e_call5_4, e_call6_0, e_call6_1, e_call6_2, e_call6_3, e_call6_4, xP, xld, xst1, xst2, xis2, xii, xid, xll, xlv, xls, xlc, xil, xli, xrd, xdup, xdup2, xc1, xpu, c_eq, c_ne, c_lt, c_ge, c_gt, c_le, Option.bind_some, Option.map_some, List.length_nil, List.length_cons, Nat.reduceAdd, Nat.reduceLeDiff, Int.reduceToNat, Bool.and_self, Bool.false_eq_true, if_true, if_false, g_x_0, g_S_6, r6, n_lit]
  exact e18
set_option maxRecDepth 100000 in
theorem c_dg_17 {M : mM} (hI : ClsI M S P A X E) (h : Int64) {z : Option Value} : den 91 17 [some (.ref 2), some (.long h), none, some (.int (nI 0)), z] [] (hp q S P A D K X E Z I J V) = den 91 42 [some (.ref 2), some (.long (mxF (tdI M) h 7)), none, some (.int (nI 7)), z] [] (hp q S P A D K X E Z I J V) := by
  have hl := x_loop (i := 91) (pc := 17) (fun k => [some (.ref 2), some (.long (mxF (tdI M) h k)), none, some (.int (nI k)), z]) (fun _ => (hp q S P A D K X E Z I J V)) 7 (fun k hk => by
    have h1 : ¬ 6 < k := by omega
    have e := c_factOfAll (q := q) (S := S) (P := P) (A := A) (D := D) (K := K) (X := X) (E := E) (Z := Z) (I := I) (J := J) (V := V) hI (show k ≤ 6 by omega)
    rw [D91_17, mxF_s]
    generalize mxF (tdI M) h k = x
    simp (maxSteps := 2000000) (disch := omega) only [e_inl, e_goto, e_fall, e_if, e_icmp, e_iret, e_zret, e_lret, e_vret, e_call0_0, e_call0_1, e_call0_2, e_call0_3, e_call0_4, e_call1_0, e_call1_1, e_call1_2, e_call1_3, e_call1_4, e_call2_0, e_call2_1, e_call2_2, e_call2_3, e_call2_4, e_call3_0, e_call3_1, e_call3_2, e_call3_3, e_call3_4, e_call4_0, e_call4_1, e_call4_2, e_call4_3, e_call4_4, e_call5_0, e_call5_1, e_call5_2, e_call5_3, e_call5_4, e_call6_0, e_call6_1, e_call6_2, e_call6_3, e_call6_4, xP, xld, xst1, xst2, xis2, xii, xid, xll, xlv, xls, xlc, xil, xli, xrd, xdup, xdup2, xc1, xpu, c_eq, c_ne, c_lt, c_ge, c_gt, c_le, Option.bind_some, Option.map_some, List.length_nil, List.length_cons, Nat.reduceAdd, Nat.reduceLeDiff, Int.reduceToNat, Bool.and_self, Bool.false_eq_true, if_true, if_false, n_lit, nI_ltI, nI_add, h1, e])
  have e0 : mxF (tdI M) h 0 = h := rfl
  rw [e0] at hl
  have h1 : 6 < 7 := by omega
  rw [hl, D91_17]
  generalize mxF (tdI M) h 7 = x
  simp (maxSteps := 2000000) (disch := omega) only [e_inl, e_goto, e_fall, e_if, e_icmp, e_iret, e_zret, e_lret, e_vret, e_call0_0, e_call0_1, e_call0_2, e_call0_3, e_call0_4, e_call1_0, e_call1_1, e_call1_2, e_call1_3, e_call1_4, e_call2_0, e_call2_1, e_call2_2, e_call2_3, e_call2_4, e_call3_0, e_call3_1, e_call3_2, e_call3_3, e_call3_4, e_call4_0, e_call4_1, e_call4_2, e_call4_3, e_call4_4, e_call5_0, e_call5_1, e_call5_2, e_call5_3, e_call5_4, e_call6_0, e_call6_1, e_call6_2, e_call6_3, e_call6_4, xP, xld, xst1, xst2, xis2, xii, xid, xll, xlv, xls, xlc, xil, xli, xrd, xdup, xdup2, xc1, xpu, c_eq, c_ne, c_lt, c_ge, c_gt, c_le, Option.bind_some, Option.map_some, List.length_nil, List.length_cons, Nat.reduceAdd, Nat.reduceLeDiff, Int.reduceToNat, Bool.and_self, Bool.false_eq_true, if_true, if_false, n_lit, nI_ltI, h1]
set_option maxRecDepth 100000 in
theorem c_dg_44 {σ : mS} (hw : wf σ) (hs : rpS σ (S 0)) (h : Int64) {z : Option Value} : den 91 44 [some (.ref 2), some (.long h), none, some (.int (nI 0)), z] [] (hp q S P A D K X E Z I J V) = den 91 68 [some (.ref 2), some (.long (mxA σ h (mn σ))), none, some (.int (nI (mn σ))), z] [] (hp q S P A D K X E Z I J V) := by
  have w1 := hw.1
  have r0 := hs.1
  have hl := x_loop (i := 91) (pc := 44) (fun k => [some (.ref 2), some (.long (mxA σ h k)), none, some (.int (nI k)), z]) (fun _ => (hp q S P A D K X E Z I J V)) (mn σ) (fun k hk => by
    have h1 : ¬ mn σ ≤ k := by omega
    have e := c_digestOfField (q := q) (S := S) (P := P) (A := A) (D := D) (K := K) (X := X) (E := E) (Z := Z) (I := I) (J := J) (V := V) hw hs hk (mxA σ h k)
    have em : mxF (fun v => nI (mW σ k v)) (mxF (aOf σ k) (mxA σ h k) 6) 8 = mxA σ h (k + 1) := rfl
    rw [em] at e
    rw [D91_44]
    generalize mxA σ h (k + 1) = x at *
    generalize mxA σ h k = x0 at *
    simp (maxSteps := 2000000) (disch := omega) only [e_inl, e_goto, e_fall, e_if, e_icmp, e_iret, e_zret, e_lret, e_vret, e_call0_0, e_call0_1, e_call0_2, e_call0_3, e_call0_4, e_call1_0, e_call1_1, e_call1_2, e_call1_3, e_call1_4, e_call2_0, e_call2_1, e_call2_2, e_call2_3, e_call2_4, e_call3_0, e_call3_1, e_call3_2, e_call3_3, e_call3_4, e_call4_0, e_call4_1, e_call4_2, e_call4_3, e_call4_4, e_call5_0, e_call5_1, e_call5_2, e_call5_3, e_call5_4, e_call6_0, e_call6_1, e_call6_2, e_call6_3, e_call6_4, xP, xld, xst1, xst2, xis2, xii, xid, xll, xlv, xls, xlc, xil, xli, xrd, xdup, xdup2, xc1, xpu, c_eq, c_ne, c_lt, c_ge, c_gt, c_le, Option.bind_some, Option.map_some, List.length_nil, List.length_cons, Nat.reduceAdd, Nat.reduceLeDiff, Int.reduceToNat, Bool.and_self, Bool.false_eq_true, if_true, if_false, g_x_0, g_S_0, n_lit, nI_leI, nI_add, r0, h1, e])
  have e0 : mxA σ h 0 = h := rfl
  rw [e0] at hl
  rw [hl, D91_44]
  generalize mxA σ h (mn σ) = x
  simp (maxSteps := 2000000) (disch := omega) only [e_inl, e_goto, e_fall, e_if, e_icmp, e_iret, e_zret, e_lret, e_vret, e_call0_0, e_call0_1, e_call0_2, e_call0_3, e_call0_4, e_call1_0, e_call1_1, e_call1_2, e_call1_3, e_call1_4, e_call2_0, e_call2_1, e_call2_2, e_call2_3, e_call2_4, e_call3_0, e_call3_1, e_call3_2, e_call3_3, e_call3_4, e_call4_0, e_call4_1, e_call4_2, e_call4_3, e_call4_4, e_call5_0, e_call5_1, e_call5_2, e_call5_3, e_call5_4, e_call6_0, e_call6_1, e_call6_2, e_call6_3, e_call6_4, xP, xld, xst1, xst2, xis2, xii, xid, xll, xlv, xls, xlc, xil, xli, xrd, xdup, xdup2, xc1, xpu, c_eq, c_ne, c_lt, c_ge, c_gt, c_le, Option.bind_some, Option.map_some, List.length_nil, List.length_cons, Nat.reduceAdd, Nat.reduceLeDiff, Int.reduceToNat, Bool.and_self, Bool.false_eq_true, if_true, if_false, g_x_0, g_S_0, nI_leI, r0, Nat.le_refl]
set_option maxRecDepth 100000 in
theorem c_dg_84 {σ : mS} (hw : wf σ) (hs : rpS σ (S 0)) (hA : LawK σ A) {k : Nat} (hk : k < mK σ) (h : Int64) : den 91 84 [some (.ref 2), some (.long h), none, some (.int (nI k)), some (.int (nI 0))] [] (hp q S P A D K X E Z I J V) = den 91 111 [some (.ref 2), some (.long (mxF (aAb σ k) h 6)), none, some (.int (nI k)), some (.int (nI 6))] [] (hp q S P A D K X E Z I J V) := by
  have hl := x_loop (i := 91) (pc := 84) (fun i => [some (.ref 2), some (.long (mxF (aAb σ k) h i)), none, some (.int (nI k)), some (.int (nI i))]) (fun _ => (hp q S P A D K X E Z I J V)) 6 (fun i hi => by
    have h1 : ¬ 5 < i := by omega
    have e := c_factOfRule (q := q) (S := S) (P := P) (A := A) (D := D) (K := K) (X := X) (E := E) (Z := Z) (I := I) (J := J) (V := V) hw hs hA hk (show i ≤ 5 by omega)
    rw [D91_84, mxF_s]
    generalize mxF (aAb σ k) h i = x
    simp (maxSteps := 2000000) (disch := omega) only [e_inl, e_goto, e_fall, e_if, e_icmp, e_iret, e_zret, e_lret, e_vret, e_call0_0, e_call0_1, e_call0_2, e_call0_3, e_call0_4, e_call1_0, e_call1_1, e_call1_2, e_call1_3, e_call1_4, e_call2_0, e_call2_1, e_call2_2, e_call2_3, e_call2_4, e_call3_0, e_call3_1, e_call3_2, e_call3_3, e_call3_4, e_call4_0, e_call4_1, e_call4_2, e_call4_3, e_call4_4, e_call5_0, e_call5_1, e_call5_2, e_call5_3, e_call5_4, e_call6_0, e_call6_1, e_call6_2, e_call6_3, e_call6_4, xP, xld, xst1, xst2, xis2, xii, xid, xll, xlv, xls, xlc, xil, xli, xrd, xdup, xdup2, xc1, xpu, c_eq, c_ne, c_lt, c_ge, c_gt, c_le, Option.bind_some, Option.map_some, List.length_nil, List.length_cons, Nat.reduceAdd, Nat.reduceLeDiff, Int.reduceToNat, Bool.and_self, Bool.false_eq_true, if_true, if_false, n_lit, nI_ltI, nI_add, h1, e])
  have e0 : mxF (aAb σ k) h 0 = h := rfl
  rw [e0] at hl
  have h1 : 5 < 6 := by omega
  rw [hl, D91_84]
  generalize mxF (aAb σ k) h 6 = x
  simp (maxSteps := 2000000) (disch := omega) only [e_inl, e_goto, e_fall, e_if, e_icmp, e_iret, e_zret, e_lret, e_vret, e_call0_0, e_call0_1, e_call0_2, e_call0_3, e_call0_4, e_call1_0, e_call1_1, e_call1_2, e_call1_3, e_call1_4, e_call2_0, e_call2_1, e_call2_2, e_call2_3, e_call2_4, e_call3_0, e_call3_1, e_call3_2, e_call3_3, e_call3_4, e_call4_0, e_call4_1, e_call4_2, e_call4_3, e_call4_4, e_call5_0, e_call5_1, e_call5_2, e_call5_3, e_call5_4, e_call6_0, e_call6_1, e_call6_2, e_call6_3, e_call6_4, xP, xld, xst1, xst2, xis2, xii, xid, xll, xlv, xls, xlc, xil, xli, xrd, xdup, xdup2, xc1, xpu, c_eq, c_ne, c_lt, c_ge, c_gt, c_le, Option.bind_some, Option.map_some, List.length_nil, List.length_cons, Nat.reduceAdd, Nat.reduceLeDiff, Int.reduceToNat, Bool.and_self, Bool.false_eq_true, if_true, if_false, n_lit, nI_ltI, h1]
set_option maxRecDepth 100000 in
theorem c_dg_70 {σ : mS} (hw : wf σ) (hs : rpS σ (S 0)) (hA : LawK σ A) (h : Int64) (j : Nat) : ∀ (k : Nat) (z : Option Value), k + j = mK σ → ∃ z' : Option Value, den 91 70 [some (.ref 2), some (.long (mxU σ h k)), none, some (.int (nI k)), z] [] (hp q S P A D K X E Z I J V) = den 91 117 [some (.ref 2), some (.long (mxU σ h (mK σ))), none, some (.int (nI (mK σ))), z'] [] (hp q S P A D K X E Z I J V) := by
  have w7 := hw.2.2.2.2.2.2.1
  have h3 := hs.2.2.2.2.1
  induction j with
  | zero =>
    intro k z hk
    have hkn : k = mK σ := by omega
    subst hkn
    refine ⟨z, ?_⟩
    rw [D91_70]
    simp (maxSteps := 2000000) (disch := omega) only [e_inl, e_goto, e_fall, e_if, e_icmp, e_iret, e_zret, e_lret, e_vret, e_call0_0, e_call0_1, e_call0_2, e_call0_3, e_call0_4, e_call1_0, e_call1_1, e_call1_2, e_call1_3, e_call1_4, e_call2_0, e_call2_1, e_call2_2, e_call2_3, e_call2_4, e_call3_0, e_call3_1, e_call3_2, e_call3_3, e_call3_4, e_call4_0, e_call4_1, e_call4_2, e_call4_3, e_call4_4, e_call5_0, e_call5_1, e_call5_2, e_call5_3, e_call5_4, e_call6_0, e_call6_1, e_call6_2, e_call6_3, e_call6_4, xP, xld, xst1, xst2, xis2, xii, xid, xll, xlv, xls, xlc, xil, xli, xrd, xdup, xdup2, xc1, xpu, c_eq, c_ne, c_lt, c_ge, c_gt, c_le, Option.bind_some, Option.map_some, List.length_nil, List.length_cons, Nat.reduceAdd, Nat.reduceLeDiff, Int.reduceToNat, Bool.and_self, Bool.false_eq_true, if_true, if_false, g_x_0, g_S_3, nI_leI, h3, Nat.le_refl]
  | succ j ih =>
    intro k z hk
    have h1 : ¬ mK σ ≤ k := by omega
    have e84 := c_dg_84 (q := q) (S := S) (P := P) (A := A) (D := D) (K := K) (X := X) (E := E) (Z := Z) (I := I) (J := J) (V := V) hw hs hA (show k < mK σ by omega) (mxU σ h k)
    have em : mxF (aAb σ k) (mxU σ h k) 6 = mxU σ h (k + 1) := rfl
    rw [em] at e84
    obtain ⟨z', ih2⟩ := ih (k + 1) (some (.int (nI 6))) (by omega)
    refine ⟨z', ?_⟩
    rw [D91_70]
    simp (maxSteps := 2000000) (disch := omega) only [e_inl, e_goto, e_fall, e_if, e_icmp, e_iret, e_zret, e_lret, e_vret, e_call0_0, e_call0_1, e_call0_2, e_call0_3, e_call0_4, e_call1_0, e_call1_1, e_call1_2, e_call1_3, e_call1_4, e_call2_0, e_call2_1, e_call2_2, e_call2_3, e_call2_4, e_call3_0, e_call3_1, e_call3_2, e_call3_3, e_call3_4, e_call4_0, e_call4_1, e_call4_2, e_call4_3, e_call4_4, e_call5_0, e_call5_1, e_call5_2, e_call5_3, e_call5_4, e_call6_0, e_call6_1, e_call6_2, e_call6_3, e_call6_4, xP, xld, xst1, xst2, xis2, xii, xid, xll, xlv, xls, xlc, xil, xli, xrd, xdup, xdup2, xc1, xpu, c_eq, c_ne, c_lt, c_ge, c_gt, c_le, Option.bind_some, Option.map_some, List.length_nil, List.length_cons, Nat.reduceAdd, Nat.reduceLeDiff, Int.reduceToNat, Bool.and_self, Bool.false_eq_true, if_true, if_false, g_x_0, g_S_3, n_lit, nI_leI, h3, h1]
    rw [e84, D91_111]
    simp (maxSteps := 2000000) (disch := omega) only [e_inl, e_goto, e_fall, e_if, e_icmp, e_iret, e_zret, e_lret, e_vret, e_call0_0, e_call0_1, e_call0_2, e_call0_3, e_call0_4, e_call1_0, e_call1_1, e_call1_2, e_call1_3, e_call1_4, e_call2_0, e_call2_1, e_call2_2, e_call2_3, e_call2_4, e_call3_0, e_call3_1, e_call3_2, e_call3_3, e_call3_4, e_call4_0, e_call4_1, e_call4_2, e_call4_3, e_call4_4, e_call5_0, e_call5_1, e_call5_2, e_call5_3, e_call5_4, e_call6_0, e_call6_1, e_call6_2, e_call6_3, e_call6_4, xP, xld, xst1, xst2, xis2, xii, xid, xll, xlv, xls, xlc, xil, xli, xrd, xdup, xdup2, xc1, xpu, c_eq, c_ne, c_lt, c_ge, c_gt, c_le, Option.bind_some, Option.map_some, List.length_nil, List.length_cons, Nat.reduceAdd, Nat.reduceLeDiff, Int.reduceToNat, Bool.and_self, Bool.false_eq_true, if_true, if_false, n_lit, nI_add]
    exact ih2
set_option maxRecDepth 100000 in
theorem c_dg_117 {σ : mS} (hw : wf σ) (hs : rpS σ (S 0)) (hA : LawK σ A) (h : Int64) {z3 z : Option Value} : den 91 117 [some (.ref 2), some (.long h), none, z3, z] [] (hp q S P A D K X E Z I J V) = some (some (.long (mxD σ (mx (mx (mx (mx h (nI (lwN σ))) (nI (hvN σ (fun _ => true)))) (nI (coreN σ))) (nI (mu σ))) (mu σ))), (hp q S P A D K X E Z I J V)) := by
  have e1 := c_size (isLawful (q := q) (S := S) (P := P) (A := A) (D := D) (K := K) (X := X) (E := E) (Z := Z) (I := I) (J := J) (V := V)) hA.1
  have e1' : xcall 32 [.ref 132] (hp q S P A D K X E Z I J V) = some (some (.int (nI (lwN σ))), (hp q S P A D K X E Z I J V)) := e1
  have e2 := c_weightOfRows (q := q) (S := S) (P := P) (A := A) (D := D) (K := K) (X := X) (E := E) (Z := Z) (I := I) (J := J) (V := V) (a := 132) hw hs (g_lawful_0 ..) (m := lawB σ) (fun w hw64 => by rw [r_lawful, if_pos ⟨x_in hw64 (by omega), by omega⟩, nI_clamp (by omega), hA.1 w hw64])
  rw [hv_all] at e2
  have e3 := hA.2.2
  have e4 := c_digestOfDrawn (q := q) (S := S) (P := P) (A := A) (D := D) (K := K) (X := X) (E := E) (Z := Z) (I := I) (J := J) (V := V) hw hs (mx (mx (mx h (nI (lwN σ))) (nI (hvN σ (fun _ => true)))) (nI (coreN σ)))
  generalize lwN σ = a1 at *
  generalize hvN σ (fun _ => true) = a2 at *
  generalize coreN σ = a3 at *
  have b1 : ∀ (h : Int64) (t : List xI), xB xcall (den 91) (.inl (.sipush 31) :: .inl (.lload 1) :: .inl .lmul :: .inl (.aload 0) :: .inl (.getfield 258) :: .inl (.getfield 64) :: .inr (.invokeinterface 32 1) :: .inl .i2l :: .inl .ladd :: .inl (.lstore 1) :: t) [some (.ref 2), some (.long h), none, z3, z] [] (hp q S P A D K X E Z I J V) = xB xcall (den 91) t [some (.ref 2), some (.long (mx h (nI a1))), none, z3, z] [] (hp q S P A D K X E Z I J V) := by
    intro h t
    simp (maxSteps := 2000000) (disch := omega) only [e_inl, e_goto, e_fall, e_if, e_icmp, e_iret, e_zret, e_lret, e_vret, e_call0_0, e_call0_1, e_call0_2, e_call0_3, e_call0_4, e_call1_0, e_call1_1, e_call1_2, e_call1_3, e_call1_4, e_call2_0, e_call2_1, e_call2_2, e_call2_3, e_call2_4, e_call3_0, e_call3_1, e_call3_2, e_call3_3, e_call3_4, e_call4_0, e_call4_1, e_call4_2, e_call4_3, e_call4_4, e_call5_0, e_call5_1, e_call5_2, e_call5_3, e_call5_4, e_call6_0, e_call6_1, e_call6_2, e_call6_3, e_call6_4, xP, xld, xst1, xst2, xis2, xii, xid, xll, xlv, xls, xlc, xil, xli, xrd, xdup, xdup2, xc1, xpu, c_eq, c_ne, c_lt, c_ge, c_gt, c_le, Option.bind_some, Option.map_some, List.length_nil, List.length_cons, Nat.reduceAdd, Nat.reduceLeDiff, Int.reduceToNat, Bool.and_self, Bool.false_eq_true, if_true, if_false, g_x_2, g_law_0, e1', mx]
  have b2 : ∀ (h : Int64) (t : List xI), xB xcall (den 91) (.inl (.sipush 31) :: .inl (.lload 1) :: .inl .lmul :: .inl (.aload 0) :: .inl (.getfield 256) :: .inl (.aload 0) :: .inl (.getfield 258) :: .inl (.getfield 64) :: .inr (.invokeinterface 57 2) :: .inl .i2l :: .inl .ladd :: .inl (.lstore 1) :: t) [some (.ref 2), some (.long h), none, z3, z] [] (hp q S P A D K X E Z I J V) = xB xcall (den 91) t [some (.ref 2), some (.long (mx h (nI a2))), none, z3, z] [] (hp q S P A D K X E Z I J V) := by
    intro h t
    simp (maxSteps := 2000000) (disch := omega) only [e_inl, e_goto, e_fall, e_if, e_icmp, e_iret, e_zret, e_lret, e_vret, e_call0_0, e_call0_1, e_call0_2, e_call0_3, e_call0_4, e_call1_0, e_call1_1, e_call1_2, e_call1_3, e_call1_4, e_call2_0, e_call2_1, e_call2_2, e_call2_3, e_call2_4, e_call3_0, e_call3_1, e_call3_2, e_call3_3, e_call3_4, e_call4_0, e_call4_1, e_call4_2, e_call4_3, e_call4_4, e_call5_0, e_call5_1, e_call5_2, e_call5_3, e_call5_4, e_call6_0, e_call6_1, e_call6_2, e_call6_3, e_call6_4, xP, xld, xst1, xst2, xis2, xii, xid, xll, xlv, xls, xlc, xil, xli, xrd, xdup, xdup2, xc1, xpu, c_eq, c_ne, c_lt, c_ge, c_gt, c_le, Option.bind_some, Option.map_some, List.length_nil, List.length_cons, Nat.reduceAdd, Nat.reduceLeDiff, Int.reduceToNat, Bool.and_self, Bool.false_eq_true, if_true, if_false, g_x_0, g_x_2, g_law_0, e2, mx]
  have b3 : ∀ (h : Int64) (t : List xI), xB xcall (den 91) (.inl (.sipush 31) :: .inl (.lload 1) :: .inl .lmul :: .inl (.aload 0) :: .inl (.getfield 258) :: .inl (.getfield 66) :: .inl .i2l :: .inl .ladd :: .inl (.lstore 1) :: t) [some (.ref 2), some (.long h), none, z3, z] [] (hp q S P A D K X E Z I J V) = xB xcall (den 91) t [some (.ref 2), some (.long (mx h (nI a3))), none, z3, z] [] (hp q S P A D K X E Z I J V) := by
    intro h t
    simp (maxSteps := 2000000) (disch := omega) only [e_inl, e_goto, e_fall, e_if, e_icmp, e_iret, e_zret, e_lret, e_vret, e_call0_0, e_call0_1, e_call0_2, e_call0_3, e_call0_4, e_call1_0, e_call1_1, e_call1_2, e_call1_3, e_call1_4, e_call2_0, e_call2_1, e_call2_2, e_call2_3, e_call2_4, e_call3_0, e_call3_1, e_call3_2, e_call3_3, e_call3_4, e_call4_0, e_call4_1, e_call4_2, e_call4_3, e_call4_4, e_call5_0, e_call5_1, e_call5_2, e_call5_3, e_call5_4, e_call6_0, e_call6_1, e_call6_2, e_call6_3, e_call6_4, xP, xld, xst1, xst2, xis2, xii, xid, xll, xlv, xls, xlc, xil, xli, xrd, xdup, xdup2, xc1, xpu, c_eq, c_ne, c_lt, c_ge, c_gt, c_le, Option.bind_some, Option.map_some, List.length_nil, List.length_cons, Nat.reduceAdd, Nat.reduceLeDiff, Int.reduceToNat, Bool.and_self, Bool.false_eq_true, if_true, if_false, g_x_2, g_law_2, e3, mx]
  rw [D91_117, b1, b2, b3]
  generalize mx (mx (mx h (nI a1)) (nI a2)) (nI a3) = x at *
  simp (maxSteps := 2000000) (disch := omega) only [e_inl, e_goto, e_fall, e_if, e_icmp, e_iret, e_zret, e_lret, e_vret, e_call0_0, e_call0_1, e_call0_2, e_call0_3, e_call0_4, e_call1_0, e_call1_1, e_call1_2, e_call1_3, e_call1_4, e_call2_0, e_call2_1, e_call2_2, e_call2_3, e_call2_4, e_call3_0, e_call3_1, e_call3_2, e_call3_3, e_call3_4, e_call4_0, e_call4_1, e_call4_2, e_call4_3, e_call4_4, e_call5_0, e_call5_1, e_call5_2, e_call5_3, e_call5_4, e_call6_0, e_call6_1, e_call6_2, e_call6_3, e_call6_4, xP, xld, xst1, xst2, xis2, xii, xid, xll, xlv, xls, xlc, xil, xli, xrd, xdup, xdup2, xc1, xpu, c_eq, c_ne, c_lt, c_ge, c_gt, c_le, Option.bind_some, Option.map_some, List.length_nil, List.length_cons, Nat.reduceAdd, Nat.reduceLeDiff, Int.reduceToNat, Bool.and_self, Bool.false_eq_true, if_true, if_false, e4]
set_option maxRecDepth 100000 in
theorem C_digest {M : mM} (hI : ClsI M S P A X E) : ∃ (S' : Nat → xSt) (A' : (Nat → Int64) × Int32 × Int32 × (Nat → Int64) × (Nat → Nat → Int64)), xcall 91 [.ref 2] (hp q S P A D K X E Z I J V) = some (some (.long (oDigest M)), (hp q (S') P (A') D K X E Z I J V)) ∧ ClsI M S' P A' X E := by
  obtain ⟨s, A', e1, hs, h8, hA⟩ := c_look (q := q) (S := S) (P := P) (A := A) (D := D) (K := K) (X := X) (E := E) (Z := Z) (I := I) (J := J) (V := V) hI.1 hI.2.1 hI.2.2.1
  have hI2 := hI.look hs h8 hA
  refine ⟨_, A', ?_, hI2⟩
  have hs2 : rpS M.1 (vf_upd S 0 s 0) := by rw [vu_s]; exact hs
  have e17 := c_dg_17 (q := q) (D := D) (K := K) (Z := Z) (I := I) (J := J) (V := V) hI2 (Int64.ofInt 2423) (z := none)
  have e44 := c_dg_44 (q := q) (S := vf_upd S 0 s) (P := P) (A := A') (D := D) (K := K) (X := X) (E := E) (Z := Z) (I := I) (J := J) (V := V) hI.1 hs2 (mxF (tdI M) (Int64.ofInt 2423) 7) (z := none)
  obtain ⟨z', e70⟩ := c_dg_70 (q := q) (S := vf_upd S 0 s) (P := P) (A := A') (D := D) (K := K) (X := X) (E := E) (Z := Z) (I := I) (J := J) (V := V) hI.1 hs2 hA (mxA M.1 (mxF (tdI M) (Int64.ofInt 2423) 7) (mn M.1)) (mK M.1) 0 none (by omega)
  have e117 := c_dg_117 (q := q) (S := vf_upd S 0 s) (P := P) (A := A') (D := D) (K := K) (X := X) (E := E) (Z := Z) (I := I) (J := J) (V := V) hI.1 hs2 hA (dg1 M) (z3 := some (.int (nI (mK M.1)))) (z := z')
  have ex : mxU M.1 (mxA M.1 (mxF (tdI M) (Int64.ofInt 2423) 7) (mn M.1)) (mK M.1) = dg1 M := rfl
  have ey : mxU M.1 (mxA M.1 (mxF (tdI M) (Int64.ofInt 2423) 7) (mn M.1)) 0 = mxA M.1 (mxF (tdI M) (Int64.ofInt 2423) 7) (mn M.1) := rfl
  have ez : mxD M.1 (mx (mx (mx (mx (dg1 M) (nI (lwN M.1))) (nI (hvN M.1 (fun _ => true)))) (nI (coreN M.1))) (nI (mu M.1))) (mu M.1) = oDigest M := rfl
  rw [ex, ey] at e70
  rw [ez] at e117
  clear ex ey ez
  generalize oDigest M = y at *
  generalize dg1 M = y1 at *
  rw [N91 _ _ (o_x ..), D91_0]
  simp (maxSteps := 2000000) (disch := omega) only [e_inl, e_goto, e_fall, e_if, e_icmp, e_iret, e_zret, e_lret, e_vret, e_call0_0, e_call0_1, e_call0_2, e_call0_3, e_call0_4, e_call1_0, e_call1_1, e_call1_2, e_call1_3, e_call1_4, e_call2_0, e_call2_1, e_call2_2, e_call2_3, e_call2_4, e_call3_0, e_call3_1, e_call3_2, e_call3_3, e_call3_4, e_call4_0, e_call4_1, e_call4_2, e_call4_3, e_call4_4, e_call5_0, e_call5_1, e_call5_2, e_call5_3, e_call5_4, e_call6_0, e_call6_1, e_call6_2, e_call6_3, e_call6_4, xP, xld, xst1, xst2, xis2, xii, xid, xll, xlv, xls, xlc, xil, xli, xrd, xdup, xdup2, xc1, xpu, c_eq, c_ne, c_lt, c_ge, c_gt, c_le, Option.bind_some, Option.map_some, List.length_nil, List.length_cons, Nat.reduceAdd, Nat.reduceLeDiff, Int.reduceToNat, Bool.and_self, Bool.false_eq_true, if_true, if_false, g_x_0, g_x_2, e1, n_lit]
  rw [e17, D91_42]
  generalize mxF (tdI M) (Int64.ofInt 2423) 7 = y2 at *
  simp (maxSteps := 2000000) (disch := omega) only [e_inl, e_goto, e_fall, e_if, e_icmp, e_iret, e_zret, e_lret, e_vret, e_call0_0, e_call0_1, e_call0_2, e_call0_3, e_call0_4, e_call1_0, e_call1_1, e_call1_2, e_call1_3, e_call1_4, e_call2_0, e_call2_1, e_call2_2, e_call2_3, e_call2_4, e_call3_0, e_call3_1, e_call3_2, e_call3_3, e_call3_4, e_call4_0, e_call4_1, e_call4_2, e_call4_3, e_call4_4, e_call5_0, e_call5_1, e_call5_2, e_call5_3, e_call5_4, e_call6_0, e_call6_1, e_call6_2, e_call6_3, e_call6_4, xP, xld, xst1, xst2, xis2, xii, xid, xll, xlv, xls, xlc, xil, xli, xrd, xdup, xdup2, xc1, xpu, c_eq, c_ne, c_lt, c_ge, c_gt, c_le, Option.bind_some, Option.map_some, List.length_nil, List.length_cons, Nat.reduceAdd, Nat.reduceLeDiff, Int.reduceToNat, Bool.and_self, Bool.false_eq_true, if_true, if_false, n_lit]
  rw [e44, D91_68]
  generalize mxA M.1 y2 (mn M.1) = y3 at *
  simp (maxSteps := 2000000) (disch := omega) only [e_inl, e_goto, e_fall, e_if, e_icmp, e_iret, e_zret, e_lret, e_vret, e_call0_0, e_call0_1, e_call0_2, e_call0_3, e_call0_4, e_call1_0, e_call1_1, e_call1_2, e_call1_3, e_call1_4, e_call2_0, e_call2_1, e_call2_2, e_call2_3, e_call2_4, e_call3_0, e_call3_1, e_call3_2, e_call3_3, e_call3_4, e_call4_0, e_call4_1, e_call4_2, e_call4_3, e_call4_4, e_call5_0, e_call5_1, e_call5_2, e_call5_3, e_call5_4, e_call6_0, e_call6_1, e_call6_2, e_call6_3, e_call6_4, xP, xld, xst1, xst2, xis2, xii, xid, xll, xlv, xls, xlc, xil, xli, xrd, xdup, xdup2, xc1, xpu, c_eq, c_ne, c_lt, c_ge, c_gt, c_le, Option.bind_some, Option.map_some, List.length_nil, List.length_cons, Nat.reduceAdd, Nat.reduceLeDiff, Int.reduceToNat, Bool.and_self, Bool.false_eq_true, if_true, if_false, n_lit]
  rw [e70]
  exact e117
end
