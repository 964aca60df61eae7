/-! ===== the class: states kept ===== -/
section
variable {q : Nat × (Nat → Int32)} {S : Nat → xSt} {P : Int32 × (Nat → Nat)} {A : (Nat → Int64) × Int32 × Int32 × (Nat → Int64) × (Nat → Nat → Int64)} {D : (Nat → Int64) × Int64} {K : Nat → Int64} {X : Int32 × Int32 × Int32 × (Nat → Int32) × (Nat → Int32)} {E Z : Nat → Int32} {I : Nat → Int32} {J : Nat → Int64} {V : Nat → Nat → Int32}
theorem s_slots0 (i v : Nat) (hi : i < 5) (hv : 2 ≤ v) (ho : xobj (hp q S P A D K X E Z I J V) v 6 = true) : xaast (hp q S P A D K X E Z I J V) 25 (nI i) v = some (List.set (hp q S P A D K X E Z I J V) 25 (.inl (16, 5, .inr (.inr (.inr (.inr (va_up (fun j => if j < 5 then some (sb (P.2 j)) else none) i (some v)))))))) := by
  have e : xaast (hp q S P A D K X E Z I J V) 25 (nI i) v = if xin (nI i) 5 ∧ 2 ≤ 25 ∧ xra 16 = true ∧ 2 ≤ v ∧ xobj (hp q S P A D K X E Z I J V) v (16 - 10) = true then some (List.set (hp q S P A D K X E Z I J V) 25 (.inl (16, 5, .inr (.inr (.inr (.inr (va_up (fun j => if j < 5 then some (sb (P.2 j)) else none) (nI i).toNatClampNeg (some v)))))))) else none := rfl
  rw [e, if_pos ⟨x_in hi (by omega), by omega, rfl, hv, ho⟩, nI_clamp (by omega)]
theorem s_slots {i s : Nat} (hi : i < 5) (hs : s < 6) : xaast (hp q S P A D K X E Z I J V) 25 (nI i) (sb s) = some (hp q S ((P.1, vf_upd P.2 i s)) A D K X E Z I J V) := by
  have hf : va_up (fun j => if j < 5 then some (sb (P.2 j)) else none) i (some (sb s)) = fun j => if j < 5 then some (sb (vf_upd P.2 i s j)) else none := by
    funext j
    unfold va_up vf_upd
    by_cases h : j = i
    · subst h
      rw [if_pos rfl, if_pos hi, if_pos rfl]
    · rw [if_neg h, if_neg h]
  have := sb_ge s
  rw [s_slots0 i (sb s) hi (by omega) (oT _ _ _ _ _ _ _ _ _ _ _ _ s hs), hf]
  rfl
set_option maxRecDepth 100000 in
theorem c_mark {c n u : Nat} (hc : c < 5) (hP : P.1 = nI c) (hp1 : 1 ≤ P.2 c ∧ P.2 c < 6) (hn : n ≤ 8) (hu : u ≤ 16) (h3 : (S 0).1 3 = nI n) (h6 : (S 0).1 6 = nI u) : xcall 19 [.ref 24, .ref 3] (hp q S P A D K X E Z I J V) = some (none, (hp q (vf_upd S (P.2 c) (stB (S (P.2 c)) (S 0) n u)) P A D K X E Z I J V)) := by
  have eb : xcall 44 [.ref (sb (P.2 c)), .ref 3] (hp q S P A D K X E Z I J V) = some (none, (hp q (vf_upd S (P.2 c) (stB (S (P.2 c)) (S 0) n u)) P A D K X E Z I J V)) := c_becomes (j := 0) hp1.2 (by omega) (by omega) hn hu h3 h6
  rw [N19 _ _ _ (o_past ..)]
  simp (maxSteps := 2000000) (disch := omega) only [e_inl, e_goto, e_fall, e_if, e_icmp, e_iret, e_zret, e_lret, e_vret, e_call0_0, e_call0_1, e_call0_2, e_call0_3, e_call0_4, e_call1_0, e_call1_1, e_call1_2, e_call1_3, e_call1_4, e_call2_0, e_call2_1, e_call2_2, e_call2_3, e_call2_4, e_call3_0, e_call3_1, e_call3_2, e_call3_3, e_call3_4, e_call4_0, e_call4_1, e_call4_2, e_call4_3, e_call4_4, e_call5_0, e_call5_1, e_call5_2, e_call5_3, e_call5_4, e_call6_0, e_call6_1, e_call6_2, e_call6_3, e_call6_4, xP, xld, xst1, xst2, xis2, xii, xid, xll, xlv, xls, xlc, xil, xli, xrd, xdup, xdup2, xc1, xpu, c_eq, c_ne, c_lt, c_ge, c_gt, c_le, Option.bind_some, Option.map_some, List.length_nil, List.length_cons, Nat.reduceAdd, Nat.reduceLeDiff, Int.reduceToNat, Bool.and_self, Bool.false_eq_true, if_true, if_false, D19_0, g_past_0, g_past_1, hP, rdS0, eb]
set_option maxRecDepth 100000 in
theorem c_keepMark_lt {c : Nat} (hc : c < 4) (hP : P.1 = nI c) : xcall 20 [.ref 24] (hp q S P A D K X E Z I J V) = some (none, (hp q S ((nI (c + 1), P.2)) A D K X E Z I J V)) := by
  rw [N20 _ _ (o_past ..)]
  have h1 : ¬ 4 ≤ c := by omega
  simp (maxSteps := 2000000) (disch := omega) only [e_inl, e_goto, e_fall, e_if, e_icmp, e_iret, e_zret, e_lret, e_vret, e_call0_0, e_call0_1, e_call0_2, e_call0_3, e_call0_4, e_call1_0, e_call1_1, e_call1_2, e_call1_3, e_call1_4, e_call2_0, e_call2_1, e_call2_2, e_call2_3, e_call2_4, e_call3_0, e_call3_1, e_call3_2, e_call3_3, e_call3_4, e_call4_0, e_call4_1, e_call4_2, e_call4_3, e_call4_4, e_call5_0, e_call5_1, e_call5_2, e_call5_3, e_call5_4, e_call6_0, e_call6_1, e_call6_2, e_call6_3, e_call6_4, xP, xld, xst1, xst2, xis2, xii, xid, xll, xlv, xls, xlc, xil, xli, xrd, xdup, xdup2, xc1, xpu, c_eq, c_ne, c_lt, c_ge, c_gt, c_le, Option.bind_some, Option.map_some, List.length_nil, List.length_cons, Nat.reduceAdd, Nat.reduceLeDiff, Int.reduceToNat, Bool.and_self, Bool.false_eq_true, if_true, if_false, D20_0, n_lit, nI_leI, nI_add, g_past_0, p_past_0, hP, h1]
/-- the first k slots one nearer -/
def rot (p : Nat → Nat) (k : Nat) : Nat → Nat := fun j => if j < k then p (j + 1) else p j
theorem rot_0 (p : Nat → Nat) : rot p 0 = p := funext fun j => if_neg (Nat.not_lt_zero j)
theorem rot_at (p : Nat → Nat) (k : Nat) : rot p k (k + 1) = p (k + 1) := if_neg (by omega)
theorem rot_succ (p : Nat → Nat) (k : Nat) : vf_upd (rot p k) k (p (k + 1)) = rot p (k + 1) := by
  funext j
  unfold vf_upd rot
  by_cases h : j = k
  · subst h
    rw [if_pos rfl, if_pos (by omega)]
  · rw [if_neg h]
    by_cases h2 : j < k
    · rw [if_pos h2, if_pos (by omega)]
    · rw [if_neg h2, if_neg (by omega)]
set_option maxRecDepth 100000 in
theorem c_keepMark_4 (hP : P.1 = nI 4) (hp1 : ∀ k, k < 5 → P.2 k < 6) : xcall 20 [.ref 24] (hp q S P A D K X E Z I J V) = some (none, (hp q S ((P.1, vf_upd (rot P.2 4) 4 (P.2 0))) A D K X E Z I J V)) := by
  rw [N20 _ _ (o_past ..)]
  have h00 := rdS0 (q := q) (S := S) (P := P) (A := A) (D := D) (K := K) (X := X) (E := E) (Z := Z) (I := I) (J := J) (V := V) (k := 0) (by omega)
  simp (maxSteps := 2000000) (disch := omega) only [e_inl, e_goto, e_fall, e_if, e_icmp, e_iret, e_zret, e_lret, e_vret, e_call0_0, e_call0_1, e_call0_2, e_call0_3, e_call0_4, e_call1_0, e_call1_1, e_call1_2, e_call1_3, e_call1_4, e_call2_0, e_call2_1, e_call2_2, e_call2_3, e_call2_4, e_call3_0, e_call3_1, e_call3_2, e_call3_3, e_call3_4, e_call4_0, e_call4_1, e_call4_2, e_call4_3, e_call4_4, e_call5_0, e_call5_1, e_call5_2, e_call5_3, e_call5_4, e_call6_0, e_call6_1, e_call6_2, e_call6_3, e_call6_4, xP, xld, xst1, xst2, xis2, xii, xid, xll, xlv, xls, xlc, xil, xli, xrd, xdup, xdup2, xc1, xpu, c_eq, c_ne, c_lt, c_ge, c_gt, c_le, Option.bind_some, Option.map_some, List.length_nil, List.length_cons, Nat.reduceAdd, Nat.reduceLeDiff, Int.reduceToNat, Bool.and_self, Bool.false_eq_true, if_true, if_false, D20_0, D20_19, n_lit, nI_leI, g_past_0, g_past_1, hP, Nat.le_refl, h00]
  have hl := x_loop (i := 20) (pc := 28) (fun k => [some (.ref 24), some (.ref (sb (P.2 0))), some (.int (nI k))]) (fun k => (hp q S ((P.1, rot P.2 k)) A D K X E Z I J V)) 4 (fun k hk => by
    rw [D20_28]
    have h1 : ¬ 4 ≤ k := by omega
    have er := rdS0 (q := q) (S := S) (P := (P.1, rot P.2 k)) (A := A) (D := D) (K := K) (X := X) (E := E) (Z := Z) (I := I) (J := J) (V := V) (k := k + 1) (by omega)
    have er2 : xaald (hp q S (P.1, rot P.2 k) A D K X E Z I J V) 25 (nI (k + 1)) = some (.ref (sb (P.2 (k + 1)))) := by
      rw [er]
      show some (Value.ref (sb (rot P.2 k (k + 1)))) = _
      rw [rot_at]
    have es := s_slots (q := q) (S := S) (P := (P.1, rot P.2 k)) (A := A) (D := D) (K := K) (X := X) (E := E) (Z := Z) (I := I) (J := J) (V := V) (i := k) (s := P.2 (k + 1)) (by omega) (hp1 _ (by omega))
    have es2 : xaast (hp q S (P.1, rot P.2 k) A D K X E Z I J V) 25 (nI k) (sb (P.2 (k + 1))) = some (hp q S (P.1, rot P.2 (k + 1)) A D K X E Z I J V) := by
      rw [es]
      show some (hp q S (P.1, vf_upd (rot P.2 k) k (P.2 (k + 1))) A D K X E Z I J V) = _
      rw [rot_succ]
    simp (maxSteps := 2000000) (disch := omega) only [e_inl, e_goto, e_fall, e_if, e_icmp, e_iret, e_zret, e_lret, e_vret, e_call0_0, e_call0_1, e_call0_2, e_call0_3, e_call0_4, e_call1_0, e_call1_1, e_call1_2, e_call1_3, e_call1_4, e_call2_0, e_call2_1, e_call2_2, e_call2_3, e_call2_4, e_call3_0, e_call3_1, e_call3_2, e_call3_3, e_call3_4, e_call4_0, e_call4_1, e_call4_2, e_call4_3, e_call4_4, e_call5_0, e_call5_1, e_call5_2, e_call5_3, e_call5_4, e_call6_0, e_call6_1, e_call6_2, e_call6_3, e_call6_4, xP, xld, xst1, xst2, xis2, xii, xid, xll, xlv, xls, xlc, xil, xli, xrd, xdup, xdup2, xc1, xpu, c_eq, c_ne, c_lt, c_ge, c_gt, c_le, Option.bind_some, Option.map_some, List.length_nil, List.length_cons, Nat.reduceAdd, Nat.reduceLeDiff, Int.reduceToNat, Bool.and_self, Bool.false_eq_true, if_true, if_false, n_lit, nI_leI, nI_add, h1, g_past_1, er2, es2])
  rw [rot_0] at hl
  have hl' : den 20 28 [some (.ref 24), some (.ref (sb (P.2 0))), some (.int (nI 0))] [] (hp q S P A D K X E Z I J V) = _ := hl
  rw [hl', D20_28]
  have es := s_slots (q := q) (S := S) (P := (P.1, rot P.2 4)) (A := A) (D := D) (K := K) (X := X) (E := E) (Z := Z) (I := I) (J := J) (V := V) (i := 4) (s := P.2 0) (by omega) (hp1 _ (by omega))
  simp (maxSteps := 2000000) (disch := omega) only [e_inl, e_goto, e_fall, e_if, e_icmp, e_iret, e_zret, e_lret, e_vret, e_call0_0, e_call0_1, e_call0_2, e_call0_3, e_call0_4, e_call1_0, e_call1_1, e_call1_2, e_call1_3, e_call1_4, e_call2_0, e_call2_1, e_call2_2, e_call2_3, e_call2_4, e_call3_0, e_call3_1, e_call3_2, e_call3_3, e_call3_4, e_call4_0, e_call4_1, e_call4_2, e_call4_3, e_call4_4, e_call5_0, e_call5_1, e_call5_2, e_call5_3, e_call5_4, e_call6_0, e_call6_1, e_call6_2, e_call6_3, e_call6_4, xP, xld, xst1, xst2, xis2, xii, xid, xll, xlv, xls, xlc, xil, xli, xrd, xdup, xdup2, xc1, xpu, c_eq, c_ne, c_lt, c_ge, c_gt, c_le, Option.bind_some, Option.map_some, List.length_nil, List.length_cons, Nat.reduceAdd, Nat.reduceLeDiff, Int.reduceToNat, Bool.and_self, Bool.false_eq_true, if_true, if_false, D20_53, n_lit, nI_leI, Nat.le_refl, g_past_1, es]
  rw [hP]
set_option maxRecDepth 100000 in
theorem c_restore_0 (hP : P.1 = nI 0) : xcall 21 [.ref 24, .ref 3] (hp q S P A D K X E Z I J V) = some (some (.int (Int32.ofInt (-3))), (hp q S P A D K X E Z I J V)) := by
  rw [N21 _ _ _ (o_past ..)]
  simp (maxSteps := 2000000) (disch := omega) only [e_inl, e_goto, e_fall, e_if, e_icmp, e_iret, e_zret, e_lret, e_vret, e_call0_0, e_call0_1, e_call0_2, e_call0_3, e_call0_4, e_call1_0, e_call1_1, e_call1_2, e_call1_3, e_call1_4, e_call2_0, e_call2_1, e_call2_2, e_call2_3, e_call2_4, e_call3_0, e_call3_1, e_call3_2, e_call3_3, e_call3_4, e_call4_0, e_call4_1, e_call4_2, e_call4_3, e_call4_4, e_call5_0, e_call5_1, e_call5_2, e_call5_3, e_call5_4, e_call6_0, e_call6_1, e_call6_2, e_call6_3, e_call6_4, xP, xld, xst1, xst2, xis2, xii, xid, xll, xlv, xls, xlc, xil, xli, xrd, xdup, xdup2, xc1, xpu, c_eq, c_ne, c_lt, c_ge, c_gt, c_le, Option.bind_some, Option.map_some, List.length_nil, List.length_cons, Nat.reduceAdd, Nat.reduceLeDiff, Int.reduceToNat, Bool.and_self, Bool.false_eq_true, if_true, if_false, D21_0, g_past_0, hP, n_0, not_true_eq_false]
set_option maxRecDepth 100000 in
theorem c_restore {c n u : Nat} (hc : c < 4) (hP : P.1 = nI (c + 1)) (hp1 : 1 ≤ P.2 c ∧ P.2 c < 6) (hn : n ≤ 8) (hu : u ≤ 16) (h3 : (S (P.2 c)).1 3 = nI n) (h6 : (S (P.2 c)).1 6 = nI u) : xcall 21 [.ref 24, .ref 3] (hp q S P A D K X E Z I J V) = some (some (.int (nI c)), (hp q (vf_upd S 0 (stB (S 0) (S (P.2 c)) n u)) ((nI c, P.2)) A D K X E Z I J V)) := by
  have eb : xcall 44 [.ref 3, .ref (sb (P.2 c))] (hp q S ((nI c, P.2)) A D K X E Z I J V) = some (none, (hp q (vf_upd S 0 (stB (S 0) (S (P.2 c)) n u)) ((nI c, P.2)) A D K X E Z I J V)) := c_becomes (i := 0) (by omega) hp1.2 (by omega) hn hu h3 h6
  have er := rdS0 (q := q) (S := S) (P := (nI c, P.2)) (A := A) (D := D) (K := K) (X := X) (E := E) (Z := Z) (I := I) (J := J) (V := V) (k := c) (by omega)
  have er2 : xaald (hp q S (nI c, P.2) A D K X E Z I J V) 25 (nI c) = some (.ref (sb (P.2 c))) := er
  have h0 : ¬ nI (c + 1) = nI 0 := by rw [nI_eq (by omega) (by omega)]; omega
  rw [N21 _ _ _ (o_past ..)]
  simp (maxSteps := 2000000) (disch := omega) only [e_inl, e_goto, e_fall, e_if, e_icmp, e_iret, e_zret, e_lret, e_vret, e_call0_0, e_call0_1, e_call0_2, e_call0_3, e_call0_4, e_call1_0, e_call1_1, e_call1_2, e_call1_3, e_call1_4, e_call2_0, e_call2_1, e_call2_2, e_call2_3, e_call2_4, e_call3_0, e_call3_1, e_call3_2, e_call3_3, e_call3_4, e_call4_0, e_call4_1, e_call4_2, e_call4_3, e_call4_4, e_call5_0, e_call5_1, e_call5_2, e_call5_3, e_call5_4, e_call6_0, e_call6_1, e_call6_2, e_call6_3, e_call6_4, xP, xld, xst1, xst2, xis2, xii, xid, xll, xlv, xls, xlc, xil, xli, xrd, xdup, xdup2, xc1, xpu, c_eq, c_ne, c_lt, c_ge, c_gt, c_le, Option.bind_some, Option.map_some, List.length_nil, List.length_cons, Nat.reduceAdd, Nat.reduceLeDiff, Int.reduceToNat, Bool.and_self, Bool.false_eq_true, if_true, if_false, D21_0, D21_10, n_lit, n_sub, Nat.add_sub_cancel, g_past_0, g_past_1, p_past_0, hP, n_0, h0, not_false_eq_true, er2, eb]
end
