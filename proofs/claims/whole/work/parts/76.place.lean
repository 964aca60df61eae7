/-! ===== the class: the order of fields ===== -/
def upO (o : Nat → Int32) (w k : Nat) : Nat → Int32 := fun j => if w ≤ j ∧ j < k then o (j + 1) else o j
theorem upO_0 (o : Nat → Int32) (w : Nat) : upO o w w = o := funext fun j => if_neg (by omega)
theorem upO_at (o : Nat → Int32) (w k : Nat) : upO o w k (k + 1) = o (k + 1) := if_neg (by omega)
theorem upO_succ (o : Nat → Int32) {w k : Nat} (h : w ≤ k) : upd (upO o w k) k (o (k + 1)) = upO o w (k + 1) := by
  funext j
  unfold upd upO
  by_cases h1 : j = k
  · subst h1
    rw [if_pos rfl, if_pos (by omega)]
  · rw [if_neg h1]
    by_cases h2 : w ≤ j ∧ j < k
    · rw [if_pos h2, if_pos (by omega)]
    · rw [if_neg h2, if_neg (by omega)]
def dnO (o : Nat → Int32) (w k : Nat) : Nat → Int32 := fun j => if k < j ∧ j ≤ w then o (j - 1) else o j
theorem dnO_0 (o : Nat → Int32) (w : Nat) : dnO o w w = o := funext fun j => if_neg (by omega)
theorem dnO_at (o : Nat → Int32) {w k : Nat} : dnO o w (k + 1) k = o k := if_neg (by omega)
theorem dnO_succ (o : Nat → Int32) {w k : Nat} (h : k + 1 ≤ w) : upd (dnO o w (k + 1)) (k + 1) (o k) = dnO o w k := by
  funext j
  unfold upd dnO
  by_cases h1 : j = k + 1
  · subst h1
    rw [if_pos rfl, if_pos (by omega)]
    rfl
  · rw [if_neg h1]
    by_cases h2 : k + 1 < j ∧ j ≤ w
    · rw [if_pos h2, if_pos (by omega)]
    · rw [if_neg h2, if_neg (by omega)]
theorem sO_sO (s : xSt) (a b : Nat → Int32) : sO (sO s a) b = sO s b := rfl
theorem sO_O (s : xSt) (a : Nat → Int32) : (sO s a).2.2.2.1 = a := rfl
theorem sO_id (s : xSt) : sO s s.2.2.2.1 = s := rfl
theorem or_rs {σ : mS} (hw : wf σ) {s : xSt} (h : rpS σ s) {f p : Nat} (hf : f < mn σ) (hp1 : p < mn σ) : rpS (orS σ f p) (sO s (upd (if plc σ f ≤ p then upO s.2.2.2.1 (plc σ f) p else dnO s.2.2.2.1 (plc σ f) p) p (nI f))) := by
  obtain ⟨q1, q2, -⟩ := plc_lt hw hf
  obtain ⟨r0, r1, r2, r3, r4⟩ := h
  refine ⟨r0, r1, r2, fun j hj => ?_, r4⟩
  have hj : j < mn σ := hj
  show upd (if plc σ f ≤ p then upO s.2.2.2.1 (plc σ f) p else dnO s.2.2.2.1 (plc σ f) p) p (nI f) j = nI (mO σ (ixO (plc σ f) p j))
  unfold ixO
  by_cases e : j = p
  · subst e
    rw [u_s, if_pos rfl, q2]
  · rw [u_n _ _ e, if_neg e]
    by_cases e1 : plc σ f ≤ p
    · rw [if_pos e1, if_pos e1]
      unfold upO
      by_cases e2 : plc σ f ≤ j ∧ j < p
      · rw [if_pos e2, if_pos e2]
        exact r3 (j + 1) (by omega)
      · rw [if_neg e2, if_neg e2]
        exact r3 j hj
    · rw [if_neg e1, if_neg e1]
      unfold dnO
      by_cases e2 : p < j ∧ j ≤ plc σ f
      · rw [if_pos e2, if_pos e2]
        exact r3 (j - 1) (by omega)
      · rw [if_neg e2, if_neg e2]
        exact r3 j hj
section
variable {q : Nat × (Nat → Int32)} {S : Nat → xSt} {P : Int32 × (Nat → Nat)} {A : (Nat → Int64) × Int32 × Int32 × (Nat → Int64) × (Nat → Nat → Int64)} {D : (Nat → Int64) × Int64} {K : Nat → Int64} {X : Int32 × Int32 × Int32 × (Nat → Int32) × (Nat → Int32)} {E Z : Nat → Int32} {I : Nat → Int32} {J : Nat → Int64} {V : Nat → Nat → Int32}
theorem rd0O {p : Nat} (h : p < 4) : xiald (hp q S P A D K X E Z I J V) 5 (nI p) = some (.int ((S 0).2.2.2.1 p)) := by
  rw [r_order, if_pos (x_in h (by omega)), nI_clamp (by omega)]
theorem wr0O {p : Nat} (h : p < 4) (x : Int32) : xiast (hp q S P A D K X E Z I J V) 5 (nI p) x = some (hp q (vf_upd S 0 (sO (S 0) (upd (S 0).2.2.2.1 p x))) P A D K X E Z I J V) := by
  rw [s_order, if_pos ⟨x_in h (by omega), by omega⟩, nI_clamp (by omega)]
set_option maxRecDepth 100000 in
theorem c_placeInOrder {σ : mS} (hw : wf σ) (hs : rpS σ (S 0)) {f : Nat} (hf : f < mn σ) : xcall 52 [.ref 3, .int (nI f)] (hp q S P A D K X E Z I J V) = some (some (.int (nI (plc σ f))), (hp q S P A D K X E Z I J V)) := by
  have w1 := hw.1
  obtain ⟨q1, q2, q3⟩ := plc_lt hw hf
  have h0 := hs.1
  have hO := hs.2.2.2.1
  rw [N52 _ _ _ (o_S ..), D52_0]
  simp (maxSteps := 2000000) (disch := omega) only [e_inl, e_goto, e_fall, e_if, e_icmp, e_iret, e_zret, e_lret, e_vret, e_call0_0, e_call0_1, e_call0_2, e_call0_3, e_call0_4, e_call1_0, e_call1_1, e_call1_2, e_call1_3, e_call1_4, e_call2_0, e_call2_1, e_call2_2, e_call2_3, e_call2_4, e_call3_0, e_call3_1, e_call3_2, e_call3_3, e_call3_4, e_call4_0, e_call4_1, e_call4_2, e_call4_3, e_call4_4, e_call5_0, e_call5_1, e_call5_2, e_call5_3, e_call5_4, e_call6_0, e_call6_1, e_call6_2, e_call6_3, e_call6_4, xP, xld, xst1, xst2, xis2, xii, xid, xll, xlv, xls, xlc, xil, xli, xrd, xdup, xdup2, xc1, xpu, c_eq, c_ne, c_lt, c_ge, c_gt, c_le, Option.bind_some, Option.map_some, List.length_nil, List.length_cons, Nat.reduceAdd, Nat.reduceLeDiff, Int.reduceToNat, Bool.and_self, Bool.false_eq_true, if_true, if_false, n_lit]
  have hl := x_loop (i := 52) (pc := 2) (fun k => [some (.ref 3), some (.int (nI f)), some (.int (nI k))]) (fun _ => (hp q S P A D K X E Z I J V)) (plc σ f) (fun k hk => by
    rw [D52_2]
    have h1 : ¬ mn σ ≤ k := by omega
    have eO := hO k (by omega)
    have hlt := hw.2.2.2.2.1 k (by omega)
    have hne := q3 k hk
    simp (maxSteps := 2000000) (disch := omega) only [e_inl, e_goto, e_fall, e_if, e_icmp, e_iret, e_zret, e_lret, e_vret, e_call0_0, e_call0_1, e_call0_2, e_call0_3, e_call0_4, e_call1_0, e_call1_1, e_call1_2, e_call1_3, e_call1_4, e_call2_0, e_call2_1, e_call2_2, e_call2_3, e_call2_4, e_call3_0, e_call3_1, e_call3_2, e_call3_3, e_call3_4, e_call4_0, e_call4_1, e_call4_2, e_call4_3, e_call4_4, e_call5_0, e_call5_1, e_call5_2, e_call5_3, e_call5_4, e_call6_0, e_call6_1, e_call6_2, e_call6_3, e_call6_4, xP, xld, xst1, xst2, xis2, xii, xid, xll, xlv, xls, xlc, xil, xli, xrd, xdup, xdup2, xc1, xpu, c_eq, c_ne, c_lt, c_ge, c_gt, c_le, Option.bind_some, Option.map_some, List.length_nil, List.length_cons, Nat.reduceAdd, Nat.reduceLeDiff, Int.reduceToNat, Bool.and_self, Bool.false_eq_true, if_true, if_false, D52_22, g_S_0, g_S_2, n_lit, nI_leI, nI_add, nI_eq, h0, h1, rd0O, eO, hne, not_false_eq_true])
  rw [hl, D52_2]
  have h1 : ¬ mn σ ≤ plc σ f := by omega
  have eO := hO _ q1
  rw [q2] at eO
  simp (maxSteps := 2000000) (disch := omega) only [e_inl, e_goto, e_fall, e_if, e_icmp, e_iret, e_zret, e_lret, e_vret, e_call0_0, e_call0_1, e_call0_2, e_call0_3, e_call0_4, e_call1_0, e_call1_1, e_call1_2, e_call1_3, e_call1_4, e_call2_0, e_call2_1, e_call2_2, e_call2_3, e_call2_4, e_call3_0, e_call3_1, e_call3_2, e_call3_3, e_call3_4, e_call4_0, e_call4_1, e_call4_2, e_call4_3, e_call4_4, e_call5_0, e_call5_1, e_call5_2, e_call5_3, e_call5_4, e_call6_0, e_call6_1, e_call6_2, e_call6_3, e_call6_4, xP, xld, xst1, xst2, xis2, xii, xid, xll, xlv, xls, xlc, xil, xli, xrd, xdup, xdup2, xc1, xpu, c_eq, c_ne, c_lt, c_ge, c_gt, c_le, Option.bind_some, Option.map_some, List.length_nil, List.length_cons, Nat.reduceAdd, Nat.reduceLeDiff, Int.reduceToNat, Bool.and_self, Bool.false_eq_true, if_true, if_false, g_S_0, g_S_2, n_lit, nI_leI, nI_add, nI_eq, h0, h1, rd0O, eO, not_true_eq_false]
set_option maxRecDepth 100000 in
theorem c_mv_9 {f p w m : Nat} (hw : w < 4) (hp4 : p < 4) (hm : m = if w ≤ p then p else w) : den 53 9 [some (.ref 3), some (.int (nI f)), some (.int (nI p)), some (.int (nI w)), some (.int (nI w))] [] (hp q S P A D K X E Z I J V) = den 53 42 [some (.ref 3), some (.int (nI f)), some (.int (nI p)), some (.int (nI w)), some (.int (nI m))] [] (hp q (vf_upd S 0 (sO (S 0) (upO (S 0).2.2.2.1 w m))) P A D K X E Z I J V) := by
  have hl := x_loop (i := 53) (pc := 9) (fun k => [some (.ref 3), some (.int (nI f)), some (.int (nI p)), some (.int (nI w)), some (.int (nI (w + k)))]) (fun k => (hp q (vf_upd S 0 (sO (S 0) (upO (S 0).2.2.2.1 w (w + k)))) P A D K X E Z I J V)) (m - w) (fun k hk => by
    rw [D53_9]
    have h1 : ¬ p ≤ w + k := by split at hm <;> omega
    have h0 : ¬ w + k < 0 := by omega
    have h2 := upO_succ (S 0).2.2.2.1 (w := w) (k := w + k) (by omega)
    have h3 := upO_at (S 0).2.2.2.1 w (w + k)
    have ea : w + (k + 1) = w + k + 1 := rfl
    rw [ea]
    have er := rd0O (q := q) (S := vf_upd S 0 (sO (S 0) (upO (S 0).2.2.2.1 w (w + k)))) (P := P) (A := A) (D := D) (K := K) (X := X) (E := E) (Z := Z) (I := I) (J := J) (V := V) (p := w + k + 1) (by split at hm <;> omega)
    have es := wr0O (q := q) (S := vf_upd S 0 (sO (S 0) (upO (S 0).2.2.2.1 w (w + k)))) (P := P) (A := A) (D := D) (K := K) (X := X) (E := E) (Z := Z) (I := I) (J := J) (V := V) (p := w + k) (by split at hm <;> omega) ((S 0).2.2.2.1 (w + k + 1))
    rw [vu_s, sO_O, h3] at er
    rw [vu_s, sO_O, h2, vu_vu, sO_sO] at es
    simp (maxSteps := 2000000) (disch := omega) only [e_inl, e_goto, e_fall, e_if, e_icmp, e_iret, e_zret, e_lret, e_vret, e_call0_0, e_call0_1, e_call0_2, e_call0_3, e_call0_4, e_call1_0, e_call1_1, e_call1_2, e_call1_3, e_call1_4, e_call2_0, e_call2_1, e_call2_2, e_call2_3, e_call2_4, e_call3_0, e_call3_1, e_call3_2, e_call3_3, e_call3_4, e_call4_0, e_call4_1, e_call4_2, e_call4_3, e_call4_4, e_call5_0, e_call5_1, e_call5_2, e_call5_3, e_call5_4, e_call6_0, e_call6_1, e_call6_2, e_call6_3, e_call6_4, xP, xld, xst1, xst2, xis2, xii, xid, xll, xlv, xls, xlc, xil, xli, xrd, xdup, xdup2, xc1, xpu, c_eq, c_ne, c_lt, c_ge, c_gt, c_le, Option.bind_some, Option.map_some, List.length_nil, List.length_cons, Nat.reduceAdd, Nat.reduceLeDiff, Int.reduceToNat, Bool.and_self, Bool.false_eq_true, if_true, if_false, g_S_2, n_lit, n_0, nI_leI, nI_ltI, nI_add, h0, h1, er, es])
  have e0 : vf_upd S 0 (sO (S 0) (upO (S 0).2.2.2.1 w w)) = S := by rw [upO_0, sO_id, vu_id]
  simp only [Nat.add_zero, e0] at hl
  have e : w + (m - w) = m := by split at hm <;> omega
  have h4 : p ≤ m := by split at hm <;> omega
  have hm4 : m < 4 := by split at hm <;> omega
  have h0 : ¬ m < 0 := by omega
  rw [hl, e, D53_9]
  simp (maxSteps := 2000000) (disch := omega) only [e_inl, e_goto, e_fall, e_if, e_icmp, e_iret, e_zret, e_lret, e_vret, e_call0_0, e_call0_1, e_call0_2, e_call0_3, e_call0_4, e_call1_0, e_call1_1, e_call1_2, e_call1_3, e_call1_4, e_call2_0, e_call2_1, e_call2_2, e_call2_3, e_call2_4, e_call3_0, e_call3_1, e_call3_2, e_call3_3, e_call3_4, e_call4_0, e_call4_1, e_call4_2, e_call4_3, e_call4_4, e_call5_0, e_call5_1, e_call5_2, e_call5_3, e_call5_4, e_call6_0, e_call6_1, e_call6_2, e_call6_3, e_call6_4, xP, xld, xst1, xst2, xis2, xii, xid, xll, xlv, xls, xlc, xil, xli, xrd, xdup, xdup2, xc1, xpu, c_eq, c_ne, c_lt, c_ge, c_gt, c_le, Option.bind_some, Option.map_some, List.length_nil, List.length_cons, Nat.reduceAdd, Nat.reduceLeDiff, Int.reduceToNat, Bool.and_self, Bool.false_eq_true, if_true, if_false, n_lit, n_0, nI_leI, nI_ltI, h0, h4]
set_option maxRecDepth 100000 in
theorem c_mv_45 {f p w m : Nat} (hw : w < 4) (hp4 : p < 4) (hm : m = if p ≤ w then p else w) : den 53 45 [some (.ref 3), some (.int (nI f)), some (.int (nI p)), some (.int (nI w)), some (.int (nI w))] [] (hp q S P A D K X E Z I J V) = den 53 73 [some (.ref 3), some (.int (nI f)), some (.int (nI p)), some (.int (nI w)), some (.int (nI m))] [] (hp q (vf_upd S 0 (sO (S 0) (dnO (S 0).2.2.2.1 w m))) P A D K X E Z I J V) := by
  have hl := x_loop (i := 53) (pc := 45) (fun k => [some (.ref 3), some (.int (nI f)), some (.int (nI p)), some (.int (nI w)), some (.int (nI (w - k)))]) (fun k => (hp q (vf_upd S 0 (sO (S 0) (dnO (S 0).2.2.2.1 w (w - k)))) P A D K X E Z I J V)) (w - m) (fun k hk => by
    rw [D53_45]
    obtain ⟨d, hd⟩ : ∃ d, w - k = d + 1 := ⟨w - k - 1, by omega⟩
    have hd2 : w - (k + 1) = d := by omega
    have h1 : ¬ d + 1 ≤ p := by split at hm <;> omega
    rw [hd, hd2]
    have h2 := dnO_succ (S 0).2.2.2.1 (w := w) (k := d) (by omega)
    have h3 := dnO_at (S 0).2.2.2.1 (w := w) (k := d)
    have h4 := n_m1 d
    have er := rd0O (q := q) (S := vf_upd S 0 (sO (S 0) (dnO (S 0).2.2.2.1 w (d + 1)))) (P := P) (A := A) (D := D) (K := K) (X := X) (E := E) (Z := Z) (I := I) (J := J) (V := V) (p := d) (by omega)
    have es := wr0O (q := q) (S := vf_upd S 0 (sO (S 0) (dnO (S 0).2.2.2.1 w (d + 1)))) (P := P) (A := A) (D := D) (K := K) (X := X) (E := E) (Z := Z) (I := I) (J := J) (V := V) (p := d + 1) (by omega) ((S 0).2.2.2.1 d)
    rw [vu_s, sO_O, h3] at er
    rw [vu_s, sO_O, h2, vu_vu, sO_sO] at es
    simp (maxSteps := 2000000) (disch := omega) only [e_inl, e_goto, e_fall, e_if, e_icmp, e_iret, e_zret, e_lret, e_vret, e_call0_0, e_call0_1, e_call0_2, e_call0_3, e_call0_4, e_call1_0, e_call1_1, e_call1_2, e_call1_3, e_call1_4, e_call2_0, e_call2_1, e_call2_2, e_call2_3, e_call2_4, e_call3_0, e_call3_1, e_call3_2, e_call3_3, e_call3_4, e_call4_0, e_call4_1, e_call4_2, e_call4_3, e_call4_4, e_call5_0, e_call5_1, e_call5_2, e_call5_3, e_call5_4, e_call6_0, e_call6_1, e_call6_2, e_call6_3, e_call6_4, xP, xld, xst1, xst2, xis2, xii, xid, xll, xlv, xls, xlc, xil, xli, xrd, xdup, xdup2, xc1, xpu, c_eq, c_ne, c_lt, c_ge, c_gt, c_le, Option.bind_some, Option.map_some, List.length_nil, List.length_cons, Nat.reduceAdd, Nat.reduceLeDiff, Int.reduceToNat, Bool.and_self, Bool.false_eq_true, if_true, if_false, g_S_2, n_lit, nI_leI, n_sub, Nat.add_sub_cancel, h1, er, es, h4])
  have e0 : vf_upd S 0 (sO (S 0) (dnO (S 0).2.2.2.1 w w)) = S := by rw [dnO_0, sO_id, vu_id]
  simp only [Nat.sub_zero, e0] at hl
  have e : w - (w - m) = m := by split at hm <;> omega
  have h4 : m ≤ p := by split at hm <;> omega
  have hm4 : m < 4 := by split at hm <;> omega
  rw [hl, e, D53_45]
  simp (maxSteps := 2000000) (disch := omega) only [e_inl, e_goto, e_fall, e_if, e_icmp, e_iret, e_zret, e_lret, e_vret, e_call0_0, e_call0_1, e_call0_2, e_call0_3, e_call0_4, e_call1_0, e_call1_1, e_call1_2, e_call1_3, e_call1_4, e_call2_0, e_call2_1, e_call2_2, e_call2_3, e_call2_4, e_call3_0, e_call3_1, e_call3_2, e_call3_3, e_call3_4, e_call4_0, e_call4_1, e_call4_2, e_call4_3, e_call4_4, e_call5_0, e_call5_1, e_call5_2, e_call5_3, e_call5_4, e_call6_0, e_call6_1, e_call6_2, e_call6_3, e_call6_4, xP, xld, xst1, xst2, xis2, xii, xid, xll, xlv, xls, xlc, xil, xli, xrd, xdup, xdup2, xc1, xpu, c_eq, c_ne, c_lt, c_ge, c_gt, c_le, Option.bind_some, Option.map_some, List.length_nil, List.length_cons, Nat.reduceAdd, Nat.reduceLeDiff, Int.reduceToNat, Bool.and_self, Bool.false_eq_true, if_true, if_false, nI_leI, h4]
set_option maxRecDepth 100000 in
theorem c_moveInOrder {σ : mS} (hw : wf σ) (hs : rpS σ (S 0)) {f p : Nat} (hf : f < mn σ) (hp1 : p < mn σ) : xcall 53 [.ref 3, .int (nI f), .int (nI p)] (hp q S P A D K X E Z I J V) = some (some (.int (nI (plc σ f))), (hp q (vf_upd S 0 (sO (S 0) (upd (if plc σ f ≤ p then upO (S 0).2.2.2.1 (plc σ f) p else dnO (S 0).2.2.2.1 (plc σ f) p) p (nI f)))) P A D K X E Z I J V)) := by
  have w1 := hw.1
  obtain ⟨q1, -, -⟩ := plc_lt hw hf
  have ep := c_placeInOrder (q := q) (S := S) (P := P) (A := A) (D := D) (K := K) (X := X) (E := E) (Z := Z) (I := I) (J := J) (V := V) hw hs hf
  generalize plc σ f = w at *
  rw [N53 _ _ _ _ (o_S ..), D53_0]
  simp (maxSteps := 2000000) (disch := omega) only [e_inl, e_goto, e_fall, e_if, e_icmp, e_iret, e_zret, e_lret, e_vret, e_call0_0, e_call0_1, e_call0_2, e_call0_3, e_call0_4, e_call1_0, e_call1_1, e_call1_2, e_call1_3, e_call1_4, e_call2_0, e_call2_1, e_call2_2, e_call2_3, e_call2_4, e_call3_0, e_call3_1, e_call3_2, e_call3_3, e_call3_4, e_call4_0, e_call4_1, e_call4_2, e_call4_3, e_call4_4, e_call5_0, e_call5_1, e_call5_2, e_call5_3, e_call5_4, e_call6_0, e_call6_1, e_call6_2, e_call6_3, e_call6_4, xP, xld, xst1, xst2, xis2, xii, xid, xll, xlv, xls, xlc, xil, xli, xrd, xdup, xdup2, xc1, xpu, c_eq, c_ne, c_lt, c_ge, c_gt, c_le, Option.bind_some, Option.map_some, List.length_nil, List.length_cons, Nat.reduceAdd, Nat.reduceLeDiff, Int.reduceToNat, Bool.and_self, Bool.false_eq_true, if_true, if_false, ep]
  rw [c_mv_9 (m := if w ≤ p then p else w) (by omega) (by omega) rfl, D53_42]
  simp (maxSteps := 2000000) (disch := omega) only [e_inl, e_goto, e_fall, e_if, e_icmp, e_iret, e_zret, e_lret, e_vret, e_call0_0, e_call0_1, e_call0_2, e_call0_3, e_call0_4, e_call1_0, e_call1_1, e_call1_2, e_call1_3, e_call1_4, e_call2_0, e_call2_1, e_call2_2, e_call2_3, e_call2_4, e_call3_0, e_call3_1, e_call3_2, e_call3_3, e_call3_4, e_call4_0, e_call4_1, e_call4_2, e_call4_3, e_call4_4, e_call5_0, e_call5_1, e_call5_2, e_call5_3, e_call5_4, e_call6_0, e_call6_1, e_call6_2, e_call6_3, e_call6_4, xP, xld, xst1, xst2, xis2, xii, xid, xll, xlv, xls, xlc, xil, xli, xrd, xdup, xdup2, xc1, xpu, c_eq, c_ne, c_lt, c_ge, c_gt, c_le, Option.bind_some, Option.map_some, List.length_nil, List.length_cons, Nat.reduceAdd, Nat.reduceLeDiff, Int.reduceToNat, Bool.and_self, Bool.false_eq_true, if_true, if_false]
  rw [c_mv_45 (m := if p ≤ w then p else w) (by omega) (by omega) rfl, vu_s, vu_vu, sO_sO, sO_O]
  have eo : dnO (upO (S 0).2.2.2.1 w (if w ≤ p then p else w)) w (if p ≤ w then p else w) = if w ≤ p then upO (S 0).2.2.2.1 w p else dnO (S 0).2.2.2.1 w p := by
    by_cases h1 : w ≤ p
    · rw [if_pos h1, if_pos h1]
      by_cases h2 : p ≤ w
      · have e : w = p := by omega
        subst e
        rw [if_pos h2, upO_0, dnO_0]
      · rw [if_neg h2, dnO_0]
    · rw [if_neg h1, if_neg h1, if_pos (by omega), upO_0]
  rw [eo, D53_73]
  have es := wr0O (q := q) (S := vf_upd S 0 (sO (S 0) (if w ≤ p then upO (S 0).2.2.2.1 w p else dnO (S 0).2.2.2.1 w p))) (P := P) (A := A) (D := D) (K := K) (X := X) (E := E) (Z := Z) (I := I) (J := J) (V := V) (p := p) (by omega) (nI f)
  rw [vu_s, sO_O, vu_vu, sO_sO] at es
  simp (maxSteps := 2000000) (disch := omega) only [e_inl, e_goto, e_fall, e_if, e_icmp, e_iret, e_zret, e_lret, e_vret, e_call0_0, e_call0_1, e_call0_2, e_call0_3, e_call0_4, e_call1_0, e_call1_1, e_call1_2, e_call1_3, e_call1_4, e_call2_0, e_call2_1, e_call2_2, e_call2_3, e_call2_4, e_call3_0, e_call3_1, e_call3_2, e_call3_3, e_call3_4, e_call4_0, e_call4_1, e_call4_2, e_call4_3, e_call4_4, e_call5_0, e_call5_1, e_call5_2, e_call5_3, e_call5_4, e_call6_0, e_call6_1, e_call6_2, e_call6_3, e_call6_4, xP, xld, xst1, xst2, xis2, xii, xid, xll, xlv, xls, xlc, xil, xli, xrd, xdup, xdup2, xc1, xpu, c_eq, c_ne, c_lt, c_ge, c_gt, c_le, Option.bind_some, Option.map_some, List.length_nil, List.length_cons, Nat.reduceAdd, Nat.reduceLeDiff, Int.reduceToNat, Bool.and_self, Bool.false_eq_true, if_true, if_false, g_S_2, es]
set_option maxRecDepth 100000 in
theorem c_tryPlace {σ : mS} (hw : wf σ) (hs : rpS σ (S 0)) (f p : Int32) : ∃ s : xSt, xcall 104 [.ref 2, .int f, .int p] (hp q S P A D K X E Z I J V) = some (some (.int (dP σ f p).1), (hp q (vf_upd S 0 s) P A D K X E Z I J V)) ∧ rpS (dP σ f p).2 s ∧ s.1 8 = (S 0).1 8 := by
  have w1 := hw.1
  have h0 := hs.1
  have h10 : (nI 1 = nI 0) = False := eq_false (by decide)
  rw [N104 _ _ _ _ (o_x ..), D104_0]
  unfold dP
  by_cases h1 : isF (mn σ) f = true
  · by_cases h2 : isF (mn σ) p = true
    · rw [h1, h2, Bool.true_and, if_pos rfl]
      have h1' := h1
      obtain ⟨g, hg, rfl⟩ := isF_of (by omega) h1
      obtain ⟨u, hu, rfl⟩ := isF_of (by omega) h2
      rw [nI_clamp (n := g) (by omega), nI_clamp (n := u) (by omega)]
      have em := c_moveInOrder (q := q) (S := S) (P := P) (A := A) (D := D) (K := K) (X := X) (E := E) (Z := Z) (I := I) (J := J) (V := V) hw hs hg hu
      refine ⟨_, ?_, or_rs hw hs hg hu, rfl⟩
      have hl0 : ¬ nI u < nI 0 := by rw [nI_ltI (by omega) (by omega)]; omega
      have hl1 : nI u < nI (mn σ) := by rw [nI_ltI (by omega) (by omega)]; exact hu
      simp (maxSteps := 2000000) (disch := omega) only [e_inl, e_goto, e_fall, e_if, e_icmp, e_iret, e_zret, e_lret, e_vret, e_call0_0, e_call0_1, e_call0_2, e_call0_3, e_call0_4, e_call1_0, e_call1_1, e_call1_2, e_call1_3, e_call1_4, e_call2_0, e_call2_1, e_call2_2, e_call2_3, e_call2_4, e_call3_0, e_call3_1, e_call3_2, e_call3_3, e_call3_4, e_call4_0, e_call4_1, e_call4_2, e_call4_3, e_call4_4, e_call5_0, e_call5_1, e_call5_2, e_call5_3, e_call5_4, e_call6_0, e_call6_1, e_call6_2, e_call6_3, e_call6_4, xP, xld, xst1, xst2, xis2, xii, xid, xll, xlv, xls, xlc, xil, xli, xrd, xdup, xdup2, xc1, xpu, c_eq, c_ne, c_lt, c_ge, c_gt, c_le, Option.bind_some, Option.map_some, List.length_nil, List.length_cons, Nat.reduceAdd, Nat.reduceLeDiff, Int.reduceToNat, Bool.and_self, Bool.false_eq_true, if_true, if_false, D104_29, g_x_0, g_x_1, g_x_2, g_x_3, g_x_4, g_x_5, g_x_6, g_x_7, g_S_0, g_S_1, g_S_2, g_S_3, g_S_4, g_S_5, g_S_6, g_S_7, g_S_8, p_S_0, p_S_3, p_S_5, p_S_6, p_S_8_0, p_S_8_1, r_order, s_order, r_unlike, s_unlike, g_F_0, g_F_1, g_F_2, g_F_3, g_F_4, p_F_0, p_F_1, p_F_2, p_F_3, r_W, s_W, g_R_0, g_R_1, g_R_2, g_R_3, g_R_4, p_R_0, p_R_1, p_R_2, p_R_3, p_R_4, rd0F, rd0R, r_refusals, s_refusals, n_0, c_hasField w1 h0, h1', zB_tt, h10, hl0, h0, hl1, em]
    · rw [Bool.eq_false_iff.mpr h2, Bool.and_false, if_neg (by decide)]
      refine ⟨S 0, ?_, hs, rfl⟩
      rw [vu_id]
      rw [ltF (by omega)] at h2
      by_cases h3 : p < nI 0
      · simp (maxSteps := 2000000) (disch := omega) only [e_inl, e_goto, e_fall, e_if, e_icmp, e_iret, e_zret, e_lret, e_vret, e_call0_0, e_call0_1, e_call0_2, e_call0_3, e_call0_4, e_call1_0, e_call1_1, e_call1_2, e_call1_3, e_call1_4, e_call2_0, e_call2_1, e_call2_2, e_call2_3, e_call2_4, e_call3_0, e_call3_1, e_call3_2, e_call3_3, e_call3_4, e_call4_0, e_call4_1, e_call4_2, e_call4_3, e_call4_4, e_call5_0, e_call5_1, e_call5_2, e_call5_3, e_call5_4, e_call6_0, e_call6_1, e_call6_2, e_call6_3, e_call6_4, xP, xld, xst1, xst2, xis2, xii, xid, xll, xlv, xls, xlc, xil, xli, xrd, xdup, xdup2, xc1, xpu, c_eq, c_ne, c_lt, c_ge, c_gt, c_le, Option.bind_some, Option.map_some, List.length_nil, List.length_cons, Nat.reduceAdd, Nat.reduceLeDiff, Int.reduceToNat, Bool.and_self, Bool.false_eq_true, if_true, if_false, D104_26, g_x_0, g_x_1, g_x_2, g_x_3, g_x_4, g_x_5, g_x_6, g_x_7, g_S_0, g_S_1, g_S_2, g_S_3, g_S_4, g_S_5, g_S_6, g_S_7, g_S_8, p_S_0, p_S_3, p_S_5, p_S_6, p_S_8_0, p_S_8_1, r_order, s_order, r_unlike, s_unlike, g_F_0, g_F_1, g_F_2, g_F_3, g_F_4, p_F_0, p_F_1, p_F_2, p_F_3, r_W, s_W, g_R_0, g_R_1, g_R_2, g_R_3, g_R_4, p_R_0, p_R_1, p_R_2, p_R_3, p_R_4, rd0F, rd0R, r_refusals, s_refusals, n_0, c_hasField w1 h0, h1, zB_tt, h10, h3]
      · have h4 : ¬ p < nI (mn σ) := fun h4 => h2 (by rw [decide_eq_true h3, decide_eq_true (Int32.not_le.mpr h4)]; rfl)
        simp (maxSteps := 2000000) (disch := omega) only [e_inl, e_goto, e_fall, e_if, e_icmp, e_iret, e_zret, e_lret, e_vret, e_call0_0, e_call0_1, e_call0_2, e_call0_3, e_call0_4, e_call1_0, e_call1_1, e_call1_2, e_call1_3, e_call1_4, e_call2_0, e_call2_1, e_call2_2, e_call2_3, e_call2_4, e_call3_0, e_call3_1, e_call3_2, e_call3_3, e_call3_4, e_call4_0, e_call4_1, e_call4_2, e_call4_3, e_call4_4, e_call5_0, e_call5_1, e_call5_2, e_call5_3, e_call5_4, e_call6_0, e_call6_1, e_call6_2, e_call6_3, e_call6_4, xP, xld, xst1, xst2, xis2, xii, xid, xll, xlv, xls, xlc, xil, xli, xrd, xdup, xdup2, xc1, xpu, c_eq, c_ne, c_lt, c_ge, c_gt, c_le, Option.bind_some, Option.map_some, List.length_nil, List.length_cons, Nat.reduceAdd, Nat.reduceLeDiff, Int.reduceToNat, Bool.and_self, Bool.false_eq_true, if_true, if_false, D104_26, g_x_0, g_x_1, g_x_2, g_x_3, g_x_4, g_x_5, g_x_6, g_x_7, g_S_0, g_S_1, g_S_2, g_S_3, g_S_4, g_S_5, g_S_6, g_S_7, g_S_8, p_S_0, p_S_3, p_S_5, p_S_6, p_S_8_0, p_S_8_1, r_order, s_order, r_unlike, s_unlike, g_F_0, g_F_1, g_F_2, g_F_3, g_F_4, p_F_0, p_F_1, p_F_2, p_F_3, r_W, s_W, g_R_0, g_R_1, g_R_2, g_R_3, g_R_4, p_R_0, p_R_1, p_R_2, p_R_3, p_R_4, rd0F, rd0R, r_refusals, s_refusals, n_0, c_hasField w1 h0, h1, zB_tt, h10, h3, h0, h4]
  · rw [Bool.eq_false_iff.mpr h1, Bool.false_and, if_neg (by decide)]
    refine ⟨S 0, ?_, hs, rfl⟩
    rw [vu_id]
    simp (maxSteps := 2000000) (disch := omega) only [e_inl, e_goto, e_fall, e_if, e_icmp, e_iret, e_zret, e_lret, e_vret, e_call0_0, e_call0_1, e_call0_2, e_call0_3, e_call0_4, e_call1_0, e_call1_1, e_call1_2, e_call1_3, e_call1_4, e_call2_0, e_call2_1, e_call2_2, e_call2_3, e_call2_4, e_call3_0, e_call3_1, e_call3_2, e_call3_3, e_call3_4, e_call4_0, e_call4_1, e_call4_2, e_call4_3, e_call4_4, e_call5_0, e_call5_1, e_call5_2, e_call5_3, e_call5_4, e_call6_0, e_call6_1, e_call6_2, e_call6_3, e_call6_4, xP, xld, xst1, xst2, xis2, xii, xid, xll, xlv, xls, xlc, xil, xli, xrd, xdup, xdup2, xc1, xpu, c_eq, c_ne, c_lt, c_ge, c_gt, c_le, Option.bind_some, Option.map_some, List.length_nil, List.length_cons, Nat.reduceAdd, Nat.reduceLeDiff, Int.reduceToNat, Bool.and_self, Bool.false_eq_true, if_true, if_false, D104_26, g_x_0, g_x_1, g_x_2, g_x_3, g_x_4, g_x_5, g_x_6, g_x_7, g_S_0, g_S_1, g_S_2, g_S_3, g_S_4, g_S_5, g_S_6, g_S_7, g_S_8, p_S_0, p_S_3, p_S_5, p_S_6, p_S_8_0, p_S_8_1, r_order, s_order, r_unlike, s_unlike, g_F_0, g_F_1, g_F_2, g_F_3, g_F_4, p_F_0, p_F_1, p_F_2, p_F_3, r_W, s_W, g_R_0, g_R_1, g_R_2, g_R_3, g_R_4, p_R_0, p_R_1, p_R_2, p_R_3, p_R_4, rd0F, rd0R, r_refusals, s_refusals, n_0, c_hasField w1 h0, Bool.eq_false_iff.mpr h1, zB_ff]
end
