/-! ===== the class: a row drawn field by field ===== -/
theorem flw_0 {m : Nat → Bool} (hm : some1 m) : 0 < fb_ct m 4096 ∧ flw m 0 = fa_first m 4096 := by
  obtain ⟨h1, h2⟩ := first_some hm
  refine ⟨fb_ct_pos.mpr hm, ?_⟩
  have e := flw_get h1 h2
  rw [fb_ct_zero.mpr (fun k hk => fa_first_no m 4096 k hk)] at e
  exact e
section
variable {q : Nat × (Nat → Int32)} {S : Nat → xSt} {P : Int32 × (Nat → Nat)} {A : (Nat → Int64) × Int32 × Int32 × (Nat → Int64) × (Nat → Nat → Int64)} {D : (Nat → Int64) × Int64} {K : Nat → Int64} {X : Int32 × Int32 × Int32 × (Nat → Int32) × (Nat → Int32)} {E Z : Nat → Int32} {I : Nat → Int32} {J : Nat → Int64} {V : Nat → Nat → Int32}
set_option maxRecDepth 100000 in
theorem c_io_2 {σ : mS} (hw : wf σ) {m : Nat → Bool} (hm : some1 m) {s : Nat} (hs2 : s < 2 ^ 31) (j : Nat) : ∀ (p : Nat) (S : Nat → xSt) (D : (Nat → Int64) × Int64) (z3 z4 : Option Value), p + j = mn σ → rpS (ioS σ m s p).1 (S 0) → RS (ioS σ m s p).2.1 D.1 → D.2 = lN (ioS σ m s p).2.2 → ∃ (u : xSt) (D' : (Nat → Int64) × Int64), den 4 2 [some (.ref 153), some (.ref 3), some (.int (nI p)), z3, z4] [] (hp q S P A D K X E Z I J V) = some (some (.int (nI (ioX σ m s))), (hp q (vf_upd S 0 u) P A (D') K X E Z I J V)) ∧ rpS (ioS σ m s (mn σ)).1 u ∧ u.1 8 = (S 0).1 8 := by
  have w1 := hw.1
  induction j with
  | zero =>
    intro p S D z3 z4 hp1 hr hR hD
    have hpn : p = mn σ := by omega
    subst hpn
    obtain ⟨k1, k2, k3, k4, k5⟩ := ioS_ok hw hm hs2 (mn σ)
    obtain ⟨c1, c2⟩ := flw_0 k4
    have e1 := c_codeAt (i := 0) (isMayBe (q := q) (S := S) (P := P) (A := A) (D := D) (K := K) (X := X) (E := E) (Z := Z) (I := I) (J := J) (V := V)) hR (by omega)
    rw [if_pos c1, c2] at e1
    have e1' : xcall 35 [.ref 154, .int (nI 0)] (hp q S P A D K X E Z I J V) = some (some (.int (nI (ioX σ m s))), (hp q S P A D K X E Z I J V)) := e1
    have r0 : (S 0).1 0 = nI (mn σ) := by rw [hr.1, k2.1]
    refine ⟨S 0, D, ?_, hr, rfl⟩
    rw [vu_id, D4_2]
    simp (maxSteps := 2000000) (disch := omega) only [e_inl, e_goto, e_fall, e_if, e_icmp, e_iret, e_zret, e_lret, e_vret, e_call0_0, e_call0_1, e_call0_2, e_call0_3, e_call0_4, e_call1_0, e_call1_1, e_call1_2, e_call1_3, e_call1_4, e_call2_0, e_call2_1, e_call2_2, e_call2_3, e_call2_4, e_call3_0, e_call3_1, e_call3_2, e_call3_3, e_call3_4, e_call4_0, e_call4_1, e_call4_2, e_call4_3, e_call4_4, e_call5_0, e_call5_1, e_call5_2, e_call5_3, e_call5_4, e_call6_0, e_call6_1, e_call6_2, e_call6_3, e_call6_4, xP, xld, xst1, xst2, xis2, xii, xid, xll, xlv, xls, xlc, xil, xli, xrd, xdup, xdup2, xc1, xpu, c_eq, c_ne, c_lt, c_ge, c_gt, c_le, Option.bind_some, Option.map_some, List.length_nil, List.length_cons, Nat.reduceAdd, Nat.reduceLeDiff, Int.reduceToNat, Bool.and_self, Bool.false_eq_true, if_true, if_false, D4_64, g_S_0, g_drawer_0, r0, nI_leI, Nat.le_refl, n_lit, e1']
  | succ j ih =>
    intro p S D z3 z4 hp1 hr hR hD
    have hpn : ¬ mn σ ≤ p := by omega
    obtain ⟨k1, k2, k3, k4, k5⟩ := ioS_ok hw hm hs2 p
    have hf : mO σ p < mn σ := hw.2.2.2.2.1 p (by omega)
    have hf4 : mO σ p < 4 := by omega
    have r0 : (S 0).1 0 = nI (mn σ) := by rw [hr.1, k2.1]
    have eo : mO (ioS σ m s p).1 = mO σ := by
      have h := k2.2.2
      unfold mO
      rw [h]
    have ro : (S 0).2.2.2.1 p = nI (mO σ p) := by rw [hr.2.2.2.1 p (by rw [k2.1]; omega), eo]
    have er : xiald (hp q S P A D K X E Z I J V) 5 (nI p) = some (.int (nI (mO σ p))) := by rw [r_order, if_pos (x_in (by omega) (by omega)), nI_clamp (by omega), ro]
    have ev := c_valuesAt (isMayBe (q := q) (S := S) (P := P) (A := A) (D := D) (K := K) (X := X) (E := E) (Z := Z) (I := I) (J := J) (V := V)) hR hf4
    have ev' : xcall 33 [.ref 154, .int (nI (mO σ p))] (hp q S P A D K X E Z I J V) = some (some (.int (nI (valS (ioS σ m s p).2.1 (mO σ p)))), (hp q S P A D K X E Z I J V)) := ev
    obtain ⟨u1, et, hu1, hu8⟩ := c_inTurn (q := q) (S := S) (P := P) (A := A) (D := D) (K := K) (X := X) (E := E) (Z := Z) (I := I) (J := J) (V := V) k1 hr hf4 (valS_lt (ioS σ m s p).2.1 (mO σ p))
    obtain ⟨i1, i2, i3, i4, i5⟩ := inT_ok k1 k2 (f := mO σ p) (valS_lt (ioS σ m s p).2.1 (mO σ p)) (valS_ne k4 (mO σ p))
    have ek := c_takeValue (q := q) (S := vf_upd S 0 u1) (P := P) (A := A) (D := D) (K := K) (X := X) (E := E) (Z := Z) (I := I) (J := J) (V := V) i1 (by rw [vu_s]; exact hu1) hf4 i3 i4 k5 hD
    have hv := vdX_ok (σ := (inT (ioS σ m s p).1 (mO σ p) (valS (ioS σ m s p).2.1 (mO σ p))).1) (f := mO σ p) i3 i4 (ioS σ m s p).2.2
    have hp2 : 2 ^ vdX (inT (ioS σ m s p).1 (mO σ p) (valS (ioS σ m s p).2.1 (mO σ p))).1 (mO σ p) (inT (ioS σ m s p).1 (mO σ p) (valS (ioS σ m s p).2.1 (mO σ p))).2 (ioS σ m s p).2.2 < 256 := Nat.pow_lt_pow_right (n := 8) (by decide) hv.1
    obtain ⟨W', ew, hW⟩ := c_keepValues (isMayBe (q := q) (S := vf_upd S 0 u1) (P := P) (A := A) (D := (D.1, lN (sd (ioS σ m s p).2.2))) (K := K) (X := X) (E := E) (Z := Z) (I := I) (J := J) (V := V)) hR hf4 hp2
    obtain ⟨u, D', e, h2, h3⟩ := ih (p + 1) (vf_upd S 0 u1) (W', lN (sd (ioS σ m s p).2.2)) (some (.int (nI (mO σ p)))) (some (.int (nI (inT (ioS σ m s p).1 (mO σ p) (valS (ioS σ m s p).2.1 (mO σ p))).2))) (by omega) (by rw [vu_s]; exact hu1) hW rfl
    rw [vu_vu] at e
    rw [vu_s] at h3
    refine ⟨u, D', Eq.trans ?_ e, h2, h3.trans hu8⟩
    generalize (inT (ioS σ m s p).1 (mO σ p) (valS (ioS σ m s p).2.1 (mO σ p))).2 = can at *
    generalize vdX (inT (ioS σ m s p).1 (mO σ p) (valS (ioS σ m s p).2.1 (mO σ p))).1 (mO σ p) can (ioS σ m s p).2.2 = vx at *
    have ew' : xcall 30 [.ref 154, .int (nI (mO σ p)), .int (nI (2 ^ vx))] (hp q (vf_upd S 0 u1) P A ((D.1, lN (sd (ioS σ m s p).2.2))) K X E Z I J V) = some (none, (hp q (vf_upd S 0 u1) P A ((W', lN (sd (ioS σ m s p).2.2))) K X E Z I J V)) := ew
    have ep := n_pow hv.1
    rw [D4_2]
    simp (maxSteps := 2000000) (disch := omega) only [e_inl, e_goto, e_fall, e_if, e_icmp, e_iret, e_zret, e_lret, e_vret, e_call0_0, e_call0_1, e_call0_2, e_call0_3, e_call0_4, e_call1_0, e_call1_1, e_call1_2, e_call1_3, e_call1_4, e_call2_0, e_call2_1, e_call2_2, e_call2_3, e_call2_4, e_call3_0, e_call3_1, e_call3_2, e_call3_3, e_call3_4, e_call4_0, e_call4_1, e_call4_2, e_call4_3, e_call4_4, e_call5_0, e_call5_1, e_call5_2, e_call5_3, e_call5_4, e_call6_0, e_call6_1, e_call6_2, e_call6_3, e_call6_4, xP, xld, xst1, xst2, xis2, xii, xid, xll, xlv, xls, xlc, xil, xli, xrd, xdup, xdup2, xc1, xpu, c_eq, c_ne, c_lt, c_ge, c_gt, c_le, Option.bind_some, Option.map_some, List.length_nil, List.length_cons, Nat.reduceAdd, Nat.reduceLeDiff, Int.reduceToNat, Bool.and_self, Bool.false_eq_true, if_true, if_false, g_S_0, g_S_1, g_S_2, rd0F, g_drawer_0, r0, nI_leI, hpn, er, n_lit, nI_add, ev', et, ek, ep, ew']
set_option maxRecDepth 100000 in
theorem c_drawInOrder {σ : mS} (hw : wf σ) (hs : rpS σ (S 0)) {m : Nat → Bool} (hm : some1 m) (hR : RS m D.1) {s : Nat} (hs2 : s < 2 ^ 31) (hD : D.2 = lN s) : ∃ (u : xSt) (D' : (Nat → Int64) × Int64), xcall 4 [.ref 153, .ref 3] (hp q S P A D K X E Z I J V) = some (some (.int (nI (ioX σ m s))), (hp q (vf_upd S 0 u) P A (D') K X E Z I J V)) ∧ rpS (ioS σ m s (mn σ)).1 u ∧ u.1 8 = (S 0).1 8 := by
  obtain ⟨u, D', e, h1, h2⟩ := c_io_2 (q := q) (P := P) (A := A) (K := K) (X := X) (E := E) (Z := Z) (I := I) (J := J) (V := V) hw hm hs2 (mn σ) 0 S D none none (by omega) hs hR hD
  refine ⟨u, D', ?_, h1, h2⟩
  rw [N4 _ _ _ (o_drawer ..), D4_0]
  simp (maxSteps := 2000000) (disch := omega) only [e_inl, e_goto, e_fall, e_if, e_icmp, e_iret, e_zret, e_lret, e_vret, e_call0_0, e_call0_1, e_call0_2, e_call0_3, e_call0_4, e_call1_0, e_call1_1, e_call1_2, e_call1_3, e_call1_4, e_call2_0, e_call2_1, e_call2_2, e_call2_3, e_call2_4, e_call3_0, e_call3_1, e_call3_2, e_call3_3, e_call3_4, e_call4_0, e_call4_1, e_call4_2, e_call4_3, e_call4_4, e_call5_0, e_call5_1, e_call5_2, e_call5_3, e_call5_4, e_call6_0, e_call6_1, e_call6_2, e_call6_3, e_call6_4, xP, xld, xst1, xst2, xis2, xii, xid, xll, xlv, xls, xlc, xil, xli, xrd, xdup, xdup2, xc1, xpu, c_eq, c_ne, c_lt, c_ge, c_gt, c_le, Option.bind_some, Option.map_some, List.length_nil, List.length_cons, Nat.reduceAdd, Nat.reduceLeDiff, Int.reduceToNat, Bool.and_self, Bool.false_eq_true, if_true, if_false, n_lit]
  exact e
end
