/-! ===== the class: a row drawn at once (2) ===== -/
section
variable {q : Nat × (Nat → Int32)} {S : Nat → xSt} {P : Int32 × (Nat → Nat)} {A : (Nat → Int64) × Int32 × Int32 × (Nat → Int64) × (Nat → Nat → Int64)} {D : (Nat → Int64) × Int64} {K : Nat → Int64} {X : Int32 × Int32 × Int32 × (Nat → Int32) × (Nat → Int32)} {E Z : Nat → Int32} {I : Nat → Int32} {J : Nat → Int64} {V : Nat → Nat → Int32}
set_option maxRecDepth 100000 in
theorem c_dt_97 {σ : mS} (hw : wf σ) (hs : rpS σ (S 0)) {m : Nat → Bool} (hR : RS m D.1) {v x : Nat} (hx : x < 4096) (hv : v < 2 ^ 29) (p1 : fb_sm (gW σ m) x ≤ v) (p2 : v < fb_sm (gW σ m) (x + 1)) {z2 : Int32} (j : Nat) : ∀ (k : Nat) (z6 z7 z8 : Option Value), k + j = x / 64 → den 2 97 [some (.ref 153), some (.ref 3), some (.int z2), some (.int (zB (decide (tW σ m = 0)))), some (.int (nI (v - fb_sm (gW σ m) (64 * k)))), some (.int (nI k)), z6, z7, z8] [] (hp q S P A D K X E Z I J V) = some (some (.int (nI x)), (hp q S P A D K X E Z I J V)) := by
  have h10 : (nI 1 = nI 0) = False := eq_false (by decide)
  have er : ∀ w, w < 64 → xlald (hp q S P A D K X E Z I J V) 155 (nI w) = some (.long (lN (wdN m w))) := fun w hw64 => by rw [r_mayBe, if_pos ⟨x_in hw64 (by omega), by omega⟩, nI_clamp (by omega), hR w hw64]
  have eh : ∀ w, w < 64 → tW σ m = 0 → xcall 187 [.long (lN (wdN m w))] (hp q S P A D K X E Z I J V) = some (some (.int (nI (fb_sm (fun b => gW σ m (64 * w + b)) 64))), (hp q S P A D K X E Z I J V)) := fun w hw64 h0 => by
    rw [c_bcW, fb_sm_cong (fun b _ => gW_1 h0 (64 * w + b)), ← ct_sm]
  have eh2 : ∀ w, w < 64 → ¬ tW σ m = 0 → xcall 58 [.ref 3, .int (nI w), .long (lN (wdN m w))] (hp q S P A D K X E Z I J V) = some (some (.int (nI (fb_sm (fun b => gW σ m (64 * w + b)) 64))), (hp q S P A D K X E Z I J V)) := fun w hw64 h0 => by
    rw [c_weightOfWord hw hs m hw64, fb_sm_cong (fun b _ => gW_w hw h0 (64 * w + b))]
  have hsp : ∀ w, fb_sm (gW σ m) (64 * (w + 1)) = fb_sm (gW σ m) (64 * w) + fb_sm (fun b => gW σ m (64 * w + b)) 64 := fun w => by rw [Nat.mul_succ, fb_sm_split]
  have hbd : ∀ w, fb_sm (fun b => gW σ m (64 * w + b)) 64 ≤ 64 * 6561 := fun w => fb_sm_bound (fun b _ => gW_le hw m (64 * w + b))
  induction j with
  | zero =>
    intro k z6 z7 z8 hk
    have hk64 : k < 64 := by omega
    have h1 : ¬ 64 ≤ k := by omega
    have er1 := er k hk64
    have s1 := fb_sm_split (gW σ m) (64 * k) (x - 64 * k)
    have s2 := fb_sm_split (gW σ m) (64 * k) (x - 64 * k + 1)
    rw [show 64 * k + (x - 64 * k) = x by omega] at s1
    rw [show 64 * k + (x - 64 * k + 1) = x + 1 by omega] at s2
    have q1 : fb_sm (fun b => gW σ m (64 * k + b)) (x - 64 * k) ≤ v - fb_sm (gW σ m) (64 * k) := by omega
    have q2 : v - fb_sm (gW σ m) (64 * k) < fb_sm (fun b => gW σ m (64 * k + b)) (x - 64 * k + 1) := by omega
    have q3 := fb_sm_mn (fun b => gW σ m (64 * k + b)) (show x - 64 * k + 1 ≤ 64 by omega)
    have ero := c_rowOfWord (q := q) (S := S) (P := P) (A := A) (D := D) (K := K) (X := X) (E := E) (Z := Z) (I := I) (J := J) (V := V) hw hs hR hk64 (show x - 64 * k < 64 by omega) (show v - fb_sm (gW σ m) (64 * k) < 2 ^ 29 by omega) q1 q2
    rw [show k * 64 + (x - 64 * k) = x by omega] at ero
    have hb := hbd k
    have e1 := eh k hk64
    have e2 := eh2 k hk64
    rw [D2_97]
    clear s1 s2 q1 er eh eh2 hsp hbd p1 p2
    generalize fb_sm (fun b => gW σ m (64 * k + b)) (x - 64 * k + 1) = g1 at *
    generalize fb_sm (fun b => gW σ m (64 * k + b)) 64 = g at *
    generalize v - fb_sm (gW σ m) (64 * k) = y at *
    have hy : ¬ g ≤ y := by omega
    by_cases h0 : tW σ m = 0
    · have e1' := e1 h0
      rw [decide_eq_true h0, zB_tt] at ero ⊢
      simp (maxSteps := 2000000) (disch := omega) only [e_inl, e_goto, e_fall, e_if, e_icmp, e_iret, e_zret, e_lret, e_vret, e_call0_0, e_call0_1, e_call0_2, e_call0_3, e_call0_4, e_call1_0, e_call1_1, e_call1_2, e_call1_3, e_call1_4, e_call2_0, e_call2_1, e_call2_2, e_call2_3, e_call2_4, e_call3_0, e_call3_1, e_call3_2, e_call3_3, e_call3_4, e_call4_0, e_call4_1, e_call4_2, e_call4_3, e_call4_4, e_call5_0, e_call5_1, e_call5_2, e_call5_3, e_call5_4, e_call6_0, e_call6_1, e_call6_2, e_call6_3, e_call6_4, xP, xld, xst1, xst2, xis2, xii, xid, xll, xlv, xls, xlc, xil, xli, xrd, xdup, xdup2, xc1, xpu, c_eq, c_ne, c_lt, c_ge, c_gt, c_le, Option.bind_some, Option.map_some, List.length_nil, List.length_cons, Nat.reduceAdd, Nat.reduceLeDiff, Int.reduceToNat, Bool.and_self, Bool.false_eq_true, if_true, if_false, D2_136, g_drawer_0, g_mayBe_0, n_lit, nI_leI, h1, er1, n_0, h10, e1', hy, ero]
    · have e2' := e2 h0
      rw [decide_eq_false h0, zB_ff] at ero ⊢
      simp (maxSteps := 2000000) (disch := omega) only [e_inl, e_goto, e_fall, e_if, e_icmp, e_iret, e_zret, e_lret, e_vret, e_call0_0, e_call0_1, e_call0_2, e_call0_3, e_call0_4, e_call1_0, e_call1_1, e_call1_2, e_call1_3, e_call1_4, e_call2_0, e_call2_1, e_call2_2, e_call2_3, e_call2_4, e_call3_0, e_call3_1, e_call3_2, e_call3_3, e_call3_4, e_call4_0, e_call4_1, e_call4_2, e_call4_3, e_call4_4, e_call5_0, e_call5_1, e_call5_2, e_call5_3, e_call5_4, e_call6_0, e_call6_1, e_call6_2, e_call6_3, e_call6_4, xP, xld, xst1, xst2, xis2, xii, xid, xll, xlv, xls, xlc, xil, xli, xrd, xdup, xdup2, xc1, xpu, c_eq, c_ne, c_lt, c_ge, c_gt, c_le, Option.bind_some, Option.map_some, List.length_nil, List.length_cons, Nat.reduceAdd, Nat.reduceLeDiff, Int.reduceToNat, Bool.and_self, Bool.false_eq_true, if_true, if_false, D2_128, D2_136, g_drawer_0, g_mayBe_0, n_lit, nI_leI, h1, er1, n_0, e2', hy, ero]
  | succ j ih =>
    intro k z6 z7 z8 hk
    have hk64 : k < 64 := by omega
    have h1 : ¬ 64 ≤ k := by omega
    have er1 := er k hk64
    have q3 := fb_sm_mn (gW σ m) (show 64 * (k + 1) ≤ x by omega)
    have ih2 := ih (k + 1)
    rw [hsp k] at q3 ih2
    have hb := hbd k
    have e1 := eh k hk64
    have e2 := eh2 k hk64
    rw [D2_97]
    clear er eh eh2 hsp hbd ih
    generalize fb_sm (fun b => gW σ m (64 * k + b)) 64 = g at *
    generalize fb_sm (gW σ m) (64 * k) = u at *
    have hy : g ≤ v - u := by omega
    have hsub : v - u - g = v - (u + g) := by omega
    have ih3 := fun z6 z7 z8 => ih2 z6 z7 z8 (by omega)
    by_cases h0 : tW σ m = 0
    · have e1' := e1 h0
      rw [decide_eq_true h0, zB_tt] at ih3 ⊢
      simp (maxSteps := 2000000) (disch := omega) only [e_inl, e_goto, e_fall, e_if, e_icmp, e_iret, e_zret, e_lret, e_vret, e_call0_0, e_call0_1, e_call0_2, e_call0_3, e_call0_4, e_call1_0, e_call1_1, e_call1_2, e_call1_3, e_call1_4, e_call2_0, e_call2_1, e_call2_2, e_call2_3, e_call2_4, e_call3_0, e_call3_1, e_call3_2, e_call3_3, e_call3_4, e_call4_0, e_call4_1, e_call4_2, e_call4_3, e_call4_4, e_call5_0, e_call5_1, e_call5_2, e_call5_3, e_call5_4, e_call6_0, e_call6_1, e_call6_2, e_call6_3, e_call6_4, xP, xld, xst1, xst2, xis2, xii, xid, xll, xlv, xls, xlc, xil, xli, xrd, xdup, xdup2, xc1, xpu, c_eq, c_ne, c_lt, c_ge, c_gt, c_le, Option.bind_some, Option.map_some, List.length_nil, List.length_cons, Nat.reduceAdd, Nat.reduceLeDiff, Int.reduceToNat, Bool.and_self, Bool.false_eq_true, if_true, if_false, D2_136, D2_156, g_drawer_0, g_mayBe_0, n_lit, nI_leI, nI_add, h1, er1, n_0, h10, e1', hy, n_sub, hsub, ih3]
    · have e2' := e2 h0
      rw [decide_eq_false h0, zB_ff] at ih3 ⊢
      simp (maxSteps := 2000000) (disch := omega) only [e_inl, e_goto, e_fall, e_if, e_icmp, e_iret, e_zret, e_lret, e_vret, e_call0_0, e_call0_1, e_call0_2, e_call0_3, e_call0_4, e_call1_0, e_call1_1, e_call1_2, e_call1_3, e_call1_4, e_call2_0, e_call2_1, e_call2_2, e_call2_3, e_call2_4, e_call3_0, e_call3_1, e_call3_2, e_call3_3, e_call3_4, e_call4_0, e_call4_1, e_call4_2, e_call4_3, e_call4_4, e_call5_0, e_call5_1, e_call5_2, e_call5_3, e_call5_4, e_call6_0, e_call6_1, e_call6_2, e_call6_3, e_call6_4, xP, xld, xst1, xst2, xis2, xii, xid, xll, xlv, xls, xlc, xil, xli, xrd, xdup, xdup2, xc1, xpu, c_eq, c_ne, c_lt, c_ge, c_gt, c_le, Option.bind_some, Option.map_some, List.length_nil, List.length_cons, Nat.reduceAdd, Nat.reduceLeDiff, Int.reduceToNat, Bool.and_self, Bool.false_eq_true, if_true, if_false, D2_128, D2_136, D2_156, g_drawer_0, g_mayBe_0, n_lit, nI_leI, nI_add, h1, er1, n_0, e2', hy, n_sub, hsub, ih3]
set_option maxRecDepth 100000 in
theorem c_dt_54 {σ : mS} (hw : wf σ) (hs : rpS σ (S 0)) {m : Nat → Bool} (hm : some1 m) (hR : RS m D.1) {s : Nat} (hs2 : s < 2 ^ 31) (hD : D.2 = lN s) {z2 : Int32} : den 2 54 [some (.ref 153), some (.ref 3), some (.int z2), none, none, none, none, none, none] [] (hp q S P A D K X E Z I J V) = some (some (.int (nI (pkX (gW σ m) 4096 (ch s (wtW σ m))))), (hp q S P A ((D.1, lN (sd s))) K X E Z I J V)) := by
  have h10 : (nI 1 = nI 0) = False := eq_false (by decide)
  have hp0 := wtW_pos (σ := σ) hm
  have hlt := wtW_lt hw m
  have hv := ch_lt s hp0
  have htw := tW_le hw m
  have hcl := fb_ct_le m 4096
  have hv2 : ch s (wtW σ m) < fb_sm (gW σ m) 4096 := by rw [gW_sm]; exact hv
  have hv3 : ch s (wtW σ m) < 2 ^ 29 := by
    have : wtW σ m ≤ 26873856 := by
      unfold wtW
      split <;> omega
    omega
  obtain ⟨p0, p1, p2⟩ := pkX_ok hv2
  have ew := c_weightOfRows (q := q) (S := S) (P := P) (A := A) (D := D) (K := K) (X := X) (E := E) (Z := Z) (I := I) (J := J) (V := V) (a := 154) hw hs (g_mayBe_0 ..) (m := m) (fun w hw64 => by rw [r_mayBe, if_pos ⟨x_in hw64 (by omega), by omega⟩, nI_clamp (by omega), hR w hw64])
  have es := c_size (isMayBe (q := q) (S := S) (P := P) (A := A) (D := D) (K := K) (X := X) (E := E) (Z := Z) (I := I) (J := J) (V := V)) hR
  have es' : xcall 32 [.ref 154] (hp q S P A D K X E Z I J V) = some (some (.int (nI (fb_ct m 4096))), (hp q S P A D K X E Z I J V)) := es
  have ec := c_chanceBelow (q := q) (S := S) (P := P) (A := A) (D := D) (K := K) (X := X) (E := E) (Z := Z) (I := I) (J := J) (V := V) hs2 hp0 hlt hD
  have e97 := c_dt_97 (q := q) (S := S) (P := P) (A := A) (D := (D.1, lN (sd s))) (K := K) (X := X) (E := E) (Z := Z) (I := I) (J := J) (V := V) hw hs hR p0 hv3 p1 p2 (z2 := nI (tW σ m)) (pkX (gW σ m) 4096 (ch s (wtW σ m)) / 64) 0 none none none (by omega)
  have e0 : fb_sm (gW σ m) (64 * 0) = 0 := rfl
  rw [e0, Nat.sub_zero] at e97
  clear p1 p2 hv2 hv es
  rw [D2_54]
  by_cases h0 : tW σ m = 0
  · have et : wtW σ m = fb_ct m 4096 := if_neg (by omega)
    rw [decide_eq_true h0, zB_tt] at e97
    rw [et] at ec e97 ⊢
    rw [h0] at e97 ew
    generalize pkX (gW σ m) 4096 (ch s (fb_ct m 4096)) = x at *
    simp (maxSteps := 2000000) (disch := omega) only [e_inl, e_goto, e_fall, e_if, e_icmp, e_iret, e_zret, e_lret, e_vret, e_call0_0, e_call0_1, e_call0_2, e_call0_3, e_call0_4, e_call1_0, e_call1_1, e_call1_2, e_call1_3, e_call1_4, e_call2_0, e_call2_1, e_call2_2, e_call2_3, e_call2_4, e_call3_0, e_call3_1, e_call3_2, e_call3_3, e_call3_4, e_call4_0, e_call4_1, e_call4_2, e_call4_3, e_call4_4, e_call5_0, e_call5_1, e_call5_2, e_call5_3, e_call5_4, e_call6_0, e_call6_1, e_call6_2, e_call6_3, e_call6_4, xP, xld, xst1, xst2, xis2, xii, xid, xll, xlv, xls, xlc, xil, xli, xrd, xdup, xdup2, xc1, xpu, c_eq, c_ne, c_lt, c_ge, c_gt, c_le, Option.bind_some, Option.map_some, List.length_nil, List.length_cons, Nat.reduceAdd, Nat.reduceLeDiff, Int.reduceToNat, Bool.and_self, Bool.false_eq_true, if_true, if_false, D2_72, D2_89, g_drawer_0, ew, n_lit, n_0, not_true_eq_false, h10, es', ec, e97]
  · have et : wtW σ m = tW σ m := if_pos (by omega)
    rw [decide_eq_false h0, zB_ff] at e97
    rw [et] at ec e97 ⊢
    generalize pkX (gW σ m) 4096 (ch s (tW σ m)) = x at *
    simp (maxSteps := 2000000) (disch := omega) only [e_inl, e_goto, e_fall, e_if, e_icmp, e_iret, e_zret, e_lret, e_vret, e_call0_0, e_call0_1, e_call0_2, e_call0_3, e_call0_4, e_call1_0, e_call1_1, e_call1_2, e_call1_3, e_call1_4, e_call2_0, e_call2_1, e_call2_2, e_call2_3, e_call2_4, e_call3_0, e_call3_1, e_call3_2, e_call3_3, e_call3_4, e_call4_0, e_call4_1, e_call4_2, e_call4_3, e_call4_4, e_call5_0, e_call5_1, e_call5_2, e_call5_3, e_call5_4, e_call6_0, e_call6_1, e_call6_2, e_call6_3, e_call6_4, xP, xld, xst1, xst2, xis2, xii, xid, xll, xlv, xls, xlc, xil, xli, xrd, xdup, xdup2, xc1, xpu, c_eq, c_ne, c_lt, c_ge, c_gt, c_le, Option.bind_some, Option.map_some, List.length_nil, List.length_cons, Nat.reduceAdd, Nat.reduceLeDiff, Int.reduceToNat, Bool.and_self, Bool.false_eq_true, if_true, if_false, D2_71, D2_72, D2_88, D2_89, g_drawer_0, ew, n_lit, n_0, nI_eq, h0, not_false_eq_true, ec, e97]
set_option maxRecDepth 100000 in
theorem c_dt_2 {σ : mS} (hw : wf σ) {m : Nat → Bool} (hm : some1 m) (j : Nat) : ∀ (k : Nat) (S : Nat → xSt) (D : (Nat → Int64) × Int64), k + j = mn σ → rpS (ttS σ m k).1 (S 0) → RS (ttS σ m k).2 D.1 → ∃ (u : xSt) (W' : Nat → Int64), den 2 2 [some (.ref 153), some (.ref 3), some (.int (nI k)), none, none, none, none, none, none] [] (hp q S P A D K X E Z I J V) = den 2 54 [some (.ref 153), some (.ref 3), some (.int (nI (mn σ))), none, none, none, none, none, none] [] (hp q (vf_upd S 0 u) P A ((W', D.2)) K X E Z I J V) ∧ rpS (ttS σ m (mn σ)).1 u ∧ RS (ttS σ m (mn σ)).2 W' ∧ u.1 8 = (S 0).1 8 := by
  have w1 := hw.1
  induction j with
  | zero =>
    intro k S D hk hr hR
    have hkn : k = mn σ := by omega
    subst hkn
    obtain ⟨k1, k2, k3, k4⟩ := ttS_ok hw hm (mn σ)
    have r0 : (S 0).1 0 = nI (mn σ) := by rw [hr.1, k2.1]
    refine ⟨S 0, D.1, ?_, hr, hR, rfl⟩
    rw [vu_id, D2_2]
    simp (maxSteps := 2000000) (disch := omega) only [e_inl, e_goto, e_fall, e_if, e_icmp, e_iret, e_zret, e_lret, e_vret, e_call0_0, e_call0_1, e_call0_2, e_call0_3, e_call0_4, e_call1_0, e_call1_1, e_call1_2, e_call1_3, e_call1_4, e_call2_0, e_call2_1, e_call2_2, e_call2_3, e_call2_4, e_call3_0, e_call3_1, e_call3_2, e_call3_3, e_call3_4, e_call4_0, e_call4_1, e_call4_2, e_call4_3, e_call4_4, e_call5_0, e_call5_1, e_call5_2, e_call5_3, e_call5_4, e_call6_0, e_call6_1, e_call6_2, e_call6_3, e_call6_4, xP, xld, xst1, xst2, xis2, xii, xid, xll, xlv, xls, xlc, xil, xli, xrd, xdup, xdup2, xc1, xpu, c_eq, c_ne, c_lt, c_ge, c_gt, c_le, Option.bind_some, Option.map_some, List.length_nil, List.length_cons, Nat.reduceAdd, Nat.reduceLeDiff, Int.reduceToNat, Bool.and_self, Bool.false_eq_true, if_true, if_false, g_S_0, r0, nI_leI, Nat.le_refl]
  | succ j ih =>
    intro k S D hk hr hR
    have hkn : ¬ mn σ ≤ k := by omega
    have hk4 : k < 4 := by omega
    obtain ⟨k1, k2, k3, k4⟩ := ttS_ok hw hm k
    have r0 : (S 0).1 0 = nI (mn σ) := by rw [hr.1, k2.1]
    have r2 := hr.2.1 k 2 hk4 (by omega)
    have f2 := (k1.2.1 k hk4).2.2.1
    by_cases h2 : mF (ttS σ m k).1 k 2 = 1
    · have ev := c_valuesAt (isMayBe (q := q) (S := S) (P := P) (A := A) (D := D) (K := K) (X := X) (E := E) (Z := Z) (I := I) (J := J) (V := V)) hR hk4
      have ev' : xcall 33 [.ref 154, .int (nI k)] (hp q S P A D K X E Z I J V) = some (some (.int (nI (valS (ttS σ m k).2 k))), (hp q S P A D K X E Z I J V)) := ev
      obtain ⟨u1, et, hu1, hu8⟩ := c_inTurn (q := q) (S := S) (P := P) (A := A) (D := D) (K := K) (X := X) (E := E) (Z := Z) (I := I) (J := J) (V := V) k1 hr hk4 (valS_lt (ttS σ m k).2 k)
      obtain ⟨i1, i2, i3, i4, i5⟩ := inT_ok k1 k2 (f := k) (valS_lt (ttS σ m k).2 k) (valS_ne k4 k)
      obtain ⟨W1, ew, hW⟩ := c_keepValues (isMayBe (q := q) (S := vf_upd S 0 u1) (P := P) (A := A) (D := D) (K := K) (X := X) (E := E) (Z := Z) (I := I) (J := J) (V := V)) hR hk4 i3
      have ew' : xcall 30 [.ref 154, .int (nI k), .int (nI (inT (ttS σ m k).1 k (valS (ttS σ m k).2 k)).2)] (hp q (vf_upd S 0 u1) P A D K X E Z I J V) = some (none, (hp q (vf_upd S 0 u1) P A ((W1, D.2)) K X E Z I J V)) := ew
      have hn1 : rpS (ttS σ m (k + 1)).1 u1 ∧ RS (ttS σ m (k + 1)).2 W1 := by
        rw [ttS, if_pos h2]
        unfold inT at hu1 hW
        rw [if_pos h2] at hu1 hW
        by_cases h3 : valS (ttS σ m k).2 k ^^^ (valS (ttS σ m k).2 k &&& mF (ttS σ m k).1 k 3) = 0
        · rw [if_pos h3] at hu1 hW ⊢
          exact ⟨hu1, hW.limA⟩
        · rw [if_neg h3] at hu1 hW ⊢
          exact ⟨hu1, hW⟩
      obtain ⟨u, W', e, h3, h4, h5⟩ := ih (k + 1) (vf_upd S 0 u1) (W1, D.2) (by omega) (by rw [vu_s]; exact hn1.1) hn1.2
      rw [vu_vu] at e
      rw [vu_s] at h5
      refine ⟨u, W', Eq.trans ?_ e, h3, h4, h5.trans hu8⟩
      rw [h2] at r2
      generalize (inT (ttS σ m k).1 k (valS (ttS σ m k).2 k)).2 = can at *
      rw [D2_2]
      simp (maxSteps := 2000000) (disch := omega) only [e_inl, e_goto, e_fall, e_if, e_icmp, e_iret, e_zret, e_lret, e_vret, e_call0_0, e_call0_1, e_call0_2, e_call0_3, e_call0_4, e_call1_0, e_call1_1, e_call1_2, e_call1_3, e_call1_4, e_call2_0, e_call2_1, e_call2_2, e_call2_3, e_call2_4, e_call3_0, e_call3_1, e_call3_2, e_call3_3, e_call3_4, e_call4_0, e_call4_1, e_call4_2, e_call4_3, e_call4_4, e_call5_0, e_call5_1, e_call5_2, e_call5_3, e_call5_4, e_call6_0, e_call6_1, e_call6_2, e_call6_3, e_call6_4, xP, xld, xst1, xst2, xis2, xii, xid, xll, xlv, xls, xlc, xil, xli, xrd, xdup, xdup2, xc1, xpu, c_eq, c_ne, c_lt, c_ge, c_gt, c_le, Option.bind_some, Option.map_some, List.length_nil, List.length_cons, Nat.reduceAdd, Nat.reduceLeDiff, Int.reduceToNat, Bool.and_self, Bool.false_eq_true, if_true, if_false, D2_48, g_S_0, g_S_1, rd0F, g_F_2, g_drawer_0, r0, r2, nI_leI, hkn, n_lit, nI_add, not_true_eq_false, ev', et, ew']
    · have hn1 : ttS σ m (k + 1) = ttS σ m k := by rw [ttS, if_neg h2]
      obtain ⟨u, W', e, h3, h4, h5⟩ := ih (k + 1) S D (by omega) (by rw [hn1]; exact hr) (by rw [hn1]; exact hR)
      refine ⟨u, W', Eq.trans ?_ e, h3, h4, h5⟩
      rw [D2_2]
      simp (maxSteps := 2000000) (disch := omega) only [e_inl, e_goto, e_fall, e_if, e_icmp, e_iret, e_zret, e_lret, e_vret, e_call0_0, e_call0_1, e_call0_2, e_call0_3, e_call0_4, e_call1_0, e_call1_1, e_call1_2, e_call1_3, e_call1_4, e_call2_0, e_call2_1, e_call2_2, e_call2_3, e_call2_4, e_call3_0, e_call3_1, e_call3_2, e_call3_3, e_call3_4, e_call4_0, e_call4_1, e_call4_2, e_call4_3, e_call4_4, e_call5_0, e_call5_1, e_call5_2, e_call5_3, e_call5_4, e_call6_0, e_call6_1, e_call6_2, e_call6_3, e_call6_4, xP, xld, xst1, xst2, xis2, xii, xid, xll, xlv, xls, xlc, xil, xli, xrd, xdup, xdup2, xc1, xpu, c_eq, c_ne, c_lt, c_ge, c_gt, c_le, Option.bind_some, Option.map_some, List.length_nil, List.length_cons, Nat.reduceAdd, Nat.reduceLeDiff, Int.reduceToNat, Bool.and_self, Bool.false_eq_true, if_true, if_false, D2_48, g_S_0, g_S_1, rd0F, g_F_2, r0, r2, nI_leI, hkn, n_lit, nI_add, nI_eq, h2, not_false_eq_true]
set_option maxRecDepth 100000 in
theorem c_drawTogether {σ : mS} (hw : wf σ) (hs : rpS σ (S 0)) {m : Nat → Bool} (hm : some1 m) (hR : RS m D.1) {s : Nat} (hs2 : s < 2 ^ 31) (hD : D.2 = lN s) : ∃ (u : xSt) (D' : (Nat → Int64) × Int64), xcall 2 [.ref 153, .ref 3] (hp q S P A D K X E Z I J V) = some (some (.int (nI (tgX σ m s))), (hp q (vf_upd S 0 u) P A (D') K X E Z I J V)) ∧ rpS (ttS σ m (mn σ)).1 u ∧ u.1 8 = (S 0).1 8 := by
  obtain ⟨u, W', e, h1, h2, h3⟩ := c_dt_2 (q := q) (P := P) (A := A) (K := K) (X := X) (E := E) (Z := Z) (I := I) (J := J) (V := V) hw hm (mn σ) 0 S D (by omega) hs hR
  obtain ⟨k1, k2, k3, k4⟩ := ttS_ok hw hm (mn σ)
  have e54 := c_dt_54 (q := q) (S := vf_upd S 0 u) (P := P) (A := A) (D := (W', D.2)) (K := K) (X := X) (E := E) (Z := Z) (I := I) (J := J) (V := V) (z2 := nI (mn σ)) k1 (by rw [vu_s]; exact h1) k4 h2 hs2 hD
  refine ⟨u, (W', lN (sd s)), ?_, h1, h3⟩
  rw [N2 _ _ _ (o_drawer ..), D2_0]
  simp (maxSteps := 2000000) (disch := omega) only [e_inl, e_goto, e_fall, e_if, e_icmp, e_iret, e_zret, e_lret, e_vret, e_call0_0, e_call0_1, e_call0_2, e_call0_3, e_call0_4, e_call1_0, e_call1_1, e_call1_2, e_call1_3, e_call1_4, e_call2_0, e_call2_1, e_call2_2, e_call2_3, e_call2_4, e_call3_0, e_call3_1, e_call3_2, e_call3_3, e_call3_4, e_call4_0, e_call4_1, e_call4_2, e_call4_3, e_call4_4, e_call5_0, e_call5_1, e_call5_2, e_call5_3, e_call5_4, e_call6_0, e_call6_1, e_call6_2, e_call6_3, e_call6_4, xP, xld, xst1, xst2, xis2, xii, xid, xll, xlv, xls, xlc, xil, xli, xrd, xdup, xdup2, xc1, xpu, c_eq, c_ne, c_lt, c_ge, c_gt, c_le, Option.bind_some, Option.map_some, List.length_nil, List.length_cons, Nat.reduceAdd, Nat.reduceLeDiff, Int.reduceToNat, Bool.and_self, Bool.false_eq_true, if_true, if_false, n_lit]
  rw [e]
  exact e54
end
