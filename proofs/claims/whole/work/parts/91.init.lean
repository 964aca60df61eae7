/-! ===== constructors: cells laid behind a heap ===== -/
theorem ap_i (h c : xH) (k : Nat) : (h ++ c)[h.length + k]? = c[k]? := by
  rw [List.getElem?_append_right (by omega), Nat.add_sub_cancel_left]
theorem ap_set (h c : xH) (k : Nat) (x : xC) : (h ++ c).set (h.length + k) x = h ++ c.set k x := by
  rw [List.set_append_right _ _ (by omega), Nat.add_sub_cancel_left]
theorem ap_get (h c : xH) (k f : Nat) : xget (h ++ c) (h.length + k) f = xget c k f := by
  unfold xget
  rw [ap_i]
theorem ap_put (h c : xH) (k f : Nat) (v : Value) : xput (h ++ c) (h.length + k) f v = (xput c k f v).map (fun c' => h ++ c') := by
  unfold xput
  rw [ap_i]
  cases c[k]? with
  | none => rfl
  | some x =>
    cases x with
    | inl a => rfl
    | inr a =>
      obtain ⟨cl, fs⟩ := a
      dsimp only
      split
      · rw [ap_set]
        rfl
      · rfl
theorem ap_get0 (h c : xH) (f : Nat) : xget (h ++ c) h.length f = xget c 0 f := ap_get h c 0 f
theorem ap_put0 (h c : xH) (f : Nat) (v : Value) : xput (h ++ c) h.length f v = (xput c 0 f v).map (fun c' => h ++ c') := ap_put h c 0 f v
theorem ap_iast {h c : xH} {k n : Nat} {f : Nat → Int32} (hc : c[k]? = some (.inl (0, n, .inl f))) (h2 : 2 ≤ h.length) {i : Nat} (hi : i < n) (hn : n ≤ 100000) (x : Int32) : xiast (h ++ c) (h.length + k) (nI i) x = some (h ++ c.set k (.inl (0, n, .inl (upd f i x)))) := by
  unfold xiast
  rw [ap_i, hc]
  show (if xin (nI i) n = true ∧ 2 ≤ h.length + k then some ((h ++ c).set (h.length + k) (.inl (0, n, .inl (upd f (nI i).toNatClampNeg x)))) else none) = _
  rw [if_pos ⟨x_in hi hn, by omega⟩, ap_set, nI_clamp (by omega)]
theorem ap_aast {h c : xH} {k m t n : Nat} {f : Nat → Option Nat} {fs : List Value} (hc : c[k]? = some (.inl (t, n, .inr (.inr (.inr (.inr f)))))) (hm : c[m]? = some (.inr (t - 10, fs))) (ht : xra t = true) (h2 : 2 ≤ h.length) {i : Nat} (hi : i < n) (hn : n ≤ 100000) : xaast (h ++ c) (h.length + k) (nI i) (h.length + m) = some (h ++ c.set k (.inl (t, n, .inr (.inr (.inr (.inr (va_up f i (some (h.length + m))))))))) := by
  have ho : xobj (h ++ c) (h.length + m) (t - 10) = true := by
    unfold xobj
    rw [ap_i, hm]
    exact beq_self_eq_true _
  unfold xaast
  rw [ap_i, hc]
  dsimp only
  rw [if_pos ⟨x_in hi hn, by omega, ht, by omega, ho⟩, ap_set, nI_clamp (by omega)]
theorem ap_newI (h c : xH) {n : Nat} (hn : n ≤ 100000) (hl : h.length + c.length < 100000) : xnewa (h ++ c) .int (nI n) = some (h ++ (c ++ [.inl (0, n, .inl (fun _ => 0))])) := by
  unfold xnewa
  rw [if_pos ⟨by rw [n_0]; exact (nI_leI (by omega) (by omega)).mpr (Nat.zero_le _), by rw [nI_clamp (by omega)]; exact hn, by rw [List.length_append]; exact hl⟩, nI_clamp (by omega)]
  exact congrArg some (List.append_assoc _ _ _)
theorem ap_newL (h c : xH) {n : Nat} (hn : n ≤ 100000) (hl : h.length + c.length < 100000) : xnewa (h ++ c) .long (nI n) = some (h ++ (c ++ [.inl (1, n, .inr (.inl (fun _ => 0)))])) := by
  unfold xnewa
  rw [if_pos ⟨by rw [n_0]; exact (nI_leI (by omega) (by omega)).mpr (Nat.zero_le _), by rw [nI_clamp (by omega)]; exact hn, by rw [List.length_append]; exact hl⟩, nI_clamp (by omega)]
  exact congrArg some (List.append_assoc _ _ _)
theorem ap_newZ (h c : xH) {n : Nat} (hn : n ≤ 100000) (hl : h.length + c.length < 100000) : xnewa (h ++ c) .boolean (nI n) = some (h ++ (c ++ [.inl (2, n, .inl (fun _ => 0))])) := by
  unfold xnewa
  rw [if_pos ⟨by rw [n_0]; exact (nI_leI (by omega) (by omega)).mpr (Nat.zero_le _), by rw [nI_clamp (by omega)]; exact hn, by rw [List.length_append]; exact hl⟩, nI_clamp (by omega)]
  exact congrArg some (List.append_assoc _ _ _)
theorem ap_newR (h c : xH) {cl n : Nat} (hr : xra (10 + cl) = true) (hn : n ≤ 100000) (hl : h.length + c.length < 100000) : xanew (h ++ c) cl (nI n) = some (h ++ (c ++ [.inl (10 + cl, n, .inr (.inr (.inr (.inr (fun _ => none)))))])) := by
  unfold xanew
  rw [if_pos ⟨by rw [n_0]; exact (nI_leI (by omega) (by omega)).mpr (Nat.zero_le _), by rw [nI_clamp (by omega)]; exact hn, by rw [List.length_append]; exact hl, hr⟩, nI_clamp (by omega), List.append_assoc]
theorem ap_newO (h : xH) {cl : Nat} {ks : List Nat} (hk : xkinds[cl]? = some ks) (hl : h.length < 100000) : xnewo h cl = some (h ++ [.inr (cl, ks.map xdef)]) := by
  unfold xnewo
  rw [if_pos (show h.length < xmost from hl), hk]
  rfl
/-! ===== small objects ===== -/
def cL0 : xC := .inl (1, 64, .inr (.inl (fun _ => 0)))
def cW8 (k : Nat) : xC := .inl (0, 8, .inl (fa_fill (fun _ => nI 1) (fun _ => 0) k))
def cF (r : Nat) : xC := .inr (1, [.int 0, .int 0, .int 0, .int 0, .ref r])
def cR0 : xC := .inr (5, [.int 0, .int 0, .int 0, .int 0, .int 0])
set_option maxRecDepth 100000 in
theorem c_nRowSet (h : xH) (hl : h.length < 5000) : xcall 22 [.ref h.length] (h ++ [.inr (4, [.null])]) = some (none, h ++ [.inr (4, [.ref (h.length + 1)]), cL0]) := by
  have a1 : xnewa (h ++ [.inr (4, [.null])]) .long (nI 64) = some (h ++ [.inr (4, [.null]), cL0]) := ap_newL h _ (by omega) (by simp only [List.length_cons, List.length_nil]; omega)
  have p1 : xput (h ++ [.inr (4, [.null]), cL0]) h.length 128 (.ref (h.length + 1)) = some (h ++ [.inr (4, [.ref (h.length + 1)]), cL0]) := by
    rw [ap_put0]
    rfl
  rw [N22]
  simp (maxSteps := 2000000) (disch := omega) only [e_inl, e_goto, e_fall, e_if, e_icmp, e_iret, e_zret, e_lret, e_vret, e_call0_0, e_call0_1, e_call0_2, e_call0_3, e_call0_4, e_call1_0, e_call1_1, e_call1_2, e_call1_3, e_call1_4, e_call2_0, e_call2_1, e_call2_2, e_call2_3, e_call2_4, e_call3_0, e_call3_1, e_call3_2, e_call3_3, e_call3_4, e_call4_0, e_call4_1, e_call4_2, e_call4_3, e_call4_4, e_call5_0, e_call5_1, e_call5_2, e_call5_3, e_call5_4, e_call6_0, e_call6_1, e_call6_2, e_call6_3, e_call6_4, xP, xld, xst1, xst2, xis2, xii, xid, xll, xlv, xls, xlc, xil, xli, xrd, xdup, xdup2, xc1, xpu, c_eq, c_ne, c_lt, c_ge, c_gt, c_le, Option.bind_some, Option.map_some, List.length_nil, List.length_cons, Nat.reduceAdd, Nat.reduceLeDiff, Int.reduceToNat, Bool.and_self, Bool.false_eq_true, if_true, if_false, D22_0, n_lit, Nat.zero_le, List.length_append, a1, p1]
set_option maxRecDepth 100000 in
theorem c_nRule (h : xH) (a : Nat) : xcall 39 [.ref a] h = some (none, h) := by
  rw [N39]
  simp (maxSteps := 2000000) (disch := omega) only [e_inl, e_goto, e_fall, e_if, e_icmp, e_iret, e_zret, e_lret, e_vret, e_call0_0, e_call0_1, e_call0_2, e_call0_3, e_call0_4, e_call1_0, e_call1_1, e_call1_2, e_call1_3, e_call1_4, e_call2_0, e_call2_1, e_call2_2, e_call2_3, e_call2_4, e_call3_0, e_call3_1, e_call3_2, e_call3_3, e_call3_4, e_call4_0, e_call4_1, e_call4_2, e_call4_3, e_call4_4, e_call5_0, e_call5_1, e_call5_2, e_call5_3, e_call5_4, e_call6_0, e_call6_1, e_call6_2, e_call6_3, e_call6_4, xP, xld, xst1, xst2, xis2, xii, xid, xll, xlv, xls, xlc, xil, xli, xrd, xdup, xdup2, xc1, xpu, c_eq, c_ne, c_lt, c_ge, c_gt, c_le, Option.bind_some, Option.map_some, List.length_nil, List.length_cons, Nat.reduceAdd, Nat.reduceLeDiff, Int.reduceToNat, Bool.and_self, Bool.false_eq_true, if_true, if_false, D39_0, Nat.zero_le]
set_option maxRecDepth 100000 in
theorem c_nBegin (h : xH) (h2 : 2 ≤ h.length) (hl : h.length < 5000) (r : Nat) (hr : r = h.length + 1) : xcall 8 [.ref h.length, .int (nI 0), .int (nI 0)] (h ++ [cF r, cW8 0]) = some (none, h ++ [cF r, cW8 8]) := by
  have o : xobj (h ++ [cF r, cW8 0]) h.length 1 = true := by
    unfold xobj
    have := ap_i h [cF r, cW8 0] 0
    rw [Nat.add_zero] at this
    rw [this]
    rfl
  have p0 : ∀ c : xC, xput (h ++ [cF r, c]) h.length 32 (.int (nI 0)) = some (h ++ [cF r, c]) := fun c => by
    rw [ap_put0]
    rfl
  have p1 : ∀ c : xC, xput (h ++ [cF r, c]) h.length 33 (.int (nI 0)) = some (h ++ [cF r, c]) := fun c => by
    rw [ap_put0]
    rfl
  have p2 : ∀ c : xC, xput (h ++ [cF r, c]) h.length 34 (.int (nI 0)) = some (h ++ [cF r, c]) := fun c => by
    rw [ap_put0]
    rfl
  have p3 : ∀ c : xC, xput (h ++ [cF r, c]) h.length 35 (.int (nI 0)) = some (h ++ [cF r, c]) := fun c => by
    rw [ap_put0]
    rfl
  have g4 : ∀ c : xC, xget (h ++ [cF r, c]) h.length 36 = some (.ref r) := fun c => by
    rw [ap_get0]
    rfl
  have hlp := x_loop (i := 8) (pc := 22) (fun k => [some (.ref h.length), some (.int (nI 0)), some (.int (nI 0)), some (.int (nI k))]) (fun k => h ++ [cF r, cW8 k]) 8 (fun k hk => by
    have h1 : ¬ 8 ≤ k := by omega
    have es : xiast (h ++ [cF r, cW8 k]) r (nI k) (nI 1) = some (h ++ [cF r, cW8 (k + 1)]) := by
      rw [hr, ap_iast (c := [cF (h.length + 1), cW8 k]) (k := 1) (n := 8) rfl h2 hk (by omega), fa_fill_succ]
      rfl
    rw [D8_22]
    simp (maxSteps := 2000000) (disch := omega) only [e_inl, e_goto, e_fall, e_if, e_icmp, e_iret, e_zret, e_lret, e_vret, e_call0_0, e_call0_1, e_call0_2, e_call0_3, e_call0_4, e_call1_0, e_call1_1, e_call1_2, e_call1_3, e_call1_4, e_call2_0, e_call2_1, e_call2_2, e_call2_3, e_call2_4, e_call3_0, e_call3_1, e_call3_2, e_call3_3, e_call3_4, e_call4_0, e_call4_1, e_call4_2, e_call4_3, e_call4_4, e_call5_0, e_call5_1, e_call5_2, e_call5_3, e_call5_4, e_call6_0, e_call6_1, e_call6_2, e_call6_3, e_call6_4, xP, xld, xst1, xst2, xis2, xii, xid, xll, xlv, xls, xlc, xil, xli, xrd, xdup, xdup2, xc1, xpu, c_eq, c_ne, c_lt, c_ge, c_gt, c_le, Option.bind_some, Option.map_some, List.length_nil, List.length_cons, Nat.reduceAdd, Nat.reduceLeDiff, Int.reduceToNat, Bool.and_self, Bool.false_eq_true, if_true, if_false, n_lit, nI_leI, nI_add, h1, g4, es])
  rw [N8 _ _ _ _ o, D8_0]
  simp (maxSteps := 2000000) (disch := omega) only [e_inl, e_goto, e_fall, e_if, e_icmp, e_iret, e_zret, e_lret, e_vret, e_call0_0, e_call0_1, e_call0_2, e_call0_3, e_call0_4, e_call1_0, e_call1_1, e_call1_2, e_call1_3, e_call1_4, e_call2_0, e_call2_1, e_call2_2, e_call2_3, e_call2_4, e_call3_0, e_call3_1, e_call3_2, e_call3_3, e_call3_4, e_call4_0, e_call4_1, e_call4_2, e_call4_3, e_call4_4, e_call5_0, e_call5_1, e_call5_2, e_call5_3, e_call5_4, e_call6_0, e_call6_1, e_call6_2, e_call6_3, e_call6_4, xP, xld, xst1, xst2, xis2, xii, xid, xll, xlv, xls, xlc, xil, xli, xrd, xdup, xdup2, xc1, xpu, c_eq, c_ne, c_lt, c_ge, c_gt, c_le, Option.bind_some, Option.map_some, List.length_nil, List.length_cons, Nat.reduceAdd, Nat.reduceLeDiff, Int.reduceToNat, Bool.and_self, Bool.false_eq_true, if_true, if_false, n_lit, p0, p1, p2, p3]
  rw [hlp, D8_22]
  simp (maxSteps := 2000000) (disch := omega) only [e_inl, e_goto, e_fall, e_if, e_icmp, e_iret, e_zret, e_lret, e_vret, e_call0_0, e_call0_1, e_call0_2, e_call0_3, e_call0_4, e_call1_0, e_call1_1, e_call1_2, e_call1_3, e_call1_4, e_call2_0, e_call2_1, e_call2_2, e_call2_3, e_call2_4, e_call3_0, e_call3_1, e_call3_2, e_call3_3, e_call3_4, e_call4_0, e_call4_1, e_call4_2, e_call4_3, e_call4_4, e_call5_0, e_call5_1, e_call5_2, e_call5_3, e_call5_4, e_call6_0, e_call6_1, e_call6_2, e_call6_3, e_call6_4, xP, xld, xst1, xst2, xis2, xii, xid, xll, xlv, xls, xlc, xil, xli, xrd, xdup, xdup2, xc1, xpu, c_eq, c_ne, c_lt, c_ge, c_gt, c_le, Option.bind_some, Option.map_some, List.length_nil, List.length_cons, Nat.reduceAdd, Nat.reduceLeDiff, Int.reduceToNat, Bool.and_self, Bool.false_eq_true, if_true, if_false, D8_41, n_lit, nI_leI, Nat.le_refl]
set_option maxRecDepth 100000 in
theorem c_nField (h : xH) (h2 : 2 ≤ h.length) (hl : h.length < 5000) : xcall 7 [.ref h.length] (h ++ [.inr (1, [.int 0, .int 0, .int 0, .int 0, .null])]) = some (none, h ++ [cF (h.length + 1), cW8 8]) := by
  have ez : cW8 0 = .inl (0, 8, .inl (fun _ => 0)) := by
    unfold cW8
    rw [fa_fill_0]
  have a1 : xnewa (h ++ [.inr (1, [.int 0, .int 0, .int 0, .int 0, .null])]) .int (nI 8) = some (h ++ [.inr (1, [.int 0, .int 0, .int 0, .int 0, .null]), cW8 0]) := by
    rw [ez]
    exact ap_newI h _ (by omega) (by simp only [List.length_cons, List.length_nil]; omega)
  have p1 : xput (h ++ [.inr (1, [.int 0, .int 0, .int 0, .int 0, .null]), cW8 0]) h.length 36 (.ref (h.length + 1)) = some (h ++ [cF (h.length + 1), cW8 0]) := by
    rw [ap_put0]
    rfl
  have e8 := c_nBegin h h2 hl _ rfl
  rw [N7]
  simp (maxSteps := 2000000) (disch := omega) only [e_inl, e_goto, e_fall, e_if, e_icmp, e_iret, e_zret, e_lret, e_vret, e_call0_0, e_call0_1, e_call0_2, e_call0_3, e_call0_4, e_call1_0, e_call1_1, e_call1_2, e_call1_3, e_call1_4, e_call2_0, e_call2_1, e_call2_2, e_call2_3, e_call2_4, e_call3_0, e_call3_1, e_call3_2, e_call3_3, e_call3_4, e_call4_0, e_call4_1, e_call4_2, e_call4_3, e_call4_4, e_call5_0, e_call5_1, e_call5_2, e_call5_3, e_call5_4, e_call6_0, e_call6_1, e_call6_2, e_call6_3, e_call6_4, xP, xld, xst1, xst2, xis2, xii, xid, xll, xlv, xls, xlc, xil, xli, xrd, xdup, xdup2, xc1, xpu, c_eq, c_ne, c_lt, c_ge, c_gt, c_le, Option.bind_some, Option.map_some, List.length_nil, List.length_cons, Nat.reduceAdd, Nat.reduceLeDiff, Int.reduceToNat, Bool.and_self, Bool.false_eq_true, if_true, if_false, D7_0, n_lit, Nat.zero_le, List.length_append, a1, p1, e8]
/-! ===== pieces of a constructor ===== -/
set_option maxRecDepth 100000 in
theorem c_sgP {L : xL} {n : Nat} {jmp : Nat → xL → xS → xH → xR} {h : xH} (l0 : xld L 0 = some (.ref n)) (t : List xI) : xB xcall jmp (.inl (.aload 0) :: .inl .pop :: t) L [] h = xB xcall jmp t L [] h := by
  simp (maxSteps := 2000000) (disch := omega) only [e_inl, e_goto, e_fall, e_if, e_icmp, e_iret, e_zret, e_lret, e_vret, e_call0_0, e_call0_1, e_call0_2, e_call0_3, e_call0_4, e_call1_0, e_call1_1, e_call1_2, e_call1_3, e_call1_4, e_call2_0, e_call2_1, e_call2_2, e_call2_3, e_call2_4, e_call3_0, e_call3_1, e_call3_2, e_call3_3, e_call3_4, e_call4_0, e_call4_1, e_call4_2, e_call4_3, e_call4_4, e_call5_0, e_call5_1, e_call5_2, e_call5_3, e_call5_4, e_call6_0, e_call6_1, e_call6_2, e_call6_3, e_call6_4, xP, xld, xst1, xst2, xis2, xii, xid, xll, xlv, xls, xlc, xil, xli, xrd, xdup, xdup2, xc1, xpu, c_eq, c_ne, c_lt, c_ge, c_gt, c_le, Option.bind_some, Option.map_some, List.length_nil, List.length_cons, Nat.reduceAdd, Nat.reduceLeDiff, Int.reduceToNat, Bool.and_self, Bool.false_eq_true, if_true, if_false, l0, Nat.zero_le]
set_option maxRecDepth 100000 in
theorem c_sgA {L : xL} {n cl f k a : Nat} {jmp : Nat → xL → xS → xH → xR} {h0 h1 h2 : xH} (z : Int) (l0 : xld L 0 = some (.ref n)) (hz : Int32.ofInt z = nI k) (e1 : xanew h0 cl (nI k) = some h1) (ha : h0.length = a) (e2 : xput h1 n f (.ref a) = some h2) (t : List xI) : xB xcall jmp (.inl (.aload 0) :: .inl (.iconst z) :: .inl (.anewarray cl) :: .inl (.putfield f) :: t) L [] h0 = xB xcall jmp t L [] h2 := by
  simp (maxSteps := 2000000) (disch := omega) only [e_inl, e_goto, e_fall, e_if, e_icmp, e_iret, e_zret, e_lret, e_vret, e_call0_0, e_call0_1, e_call0_2, e_call0_3, e_call0_4, e_call1_0, e_call1_1, e_call1_2, e_call1_3, e_call1_4, e_call2_0, e_call2_1, e_call2_2, e_call2_3, e_call2_4, e_call3_0, e_call3_1, e_call3_2, e_call3_3, e_call3_4, e_call4_0, e_call4_1, e_call4_2, e_call4_3, e_call4_4, e_call5_0, e_call5_1, e_call5_2, e_call5_3, e_call5_4, e_call6_0, e_call6_1, e_call6_2, e_call6_3, e_call6_4, xP, xld, xst1, xst2, xis2, xii, xid, xll, xlv, xls, xlc, xil, xli, xrd, xdup, xdup2, xc1, xpu, c_eq, c_ne, c_lt, c_ge, c_gt, c_le, Option.bind_some, Option.map_some, List.length_nil, List.length_cons, Nat.reduceAdd, Nat.reduceLeDiff, Int.reduceToNat, Bool.and_self, Bool.false_eq_true, if_true, if_false, l0, hz, e1, ha, e2]
set_option maxRecDepth 100000 in
theorem c_sgN {L : xL} {n f k a : Nat} {ty : ArrayType} {jmp : Nat → xL → xS → xH → xR} {h0 h1 h2 : xH} (z : Int) (l0 : xld L 0 = some (.ref n)) (hz : Int32.ofInt z = nI k) (e1 : xnewa h0 ty (nI k) = some h1) (ha : h0.length = a) (e2 : xput h1 n f (.ref a) = some h2) (t : List xI) : xB xcall jmp (.inl (.aload 0) :: .inl (.iconst z) :: .inl (.newarray ty) :: .inl (.putfield f) :: t) L [] h0 = xB xcall jmp t L [] h2 := by
  simp (maxSteps := 2000000) (disch := omega) only [e_inl, e_goto, e_fall, e_if, e_icmp, e_iret, e_zret, e_lret, e_vret, e_call0_0, e_call0_1, e_call0_2, e_call0_3, e_call0_4, e_call1_0, e_call1_1, e_call1_2, e_call1_3, e_call1_4, e_call2_0, e_call2_1, e_call2_2, e_call2_3, e_call2_4, e_call3_0, e_call3_1, e_call3_2, e_call3_3, e_call3_4, e_call4_0, e_call4_1, e_call4_2, e_call4_3, e_call4_4, e_call5_0, e_call5_1, e_call5_2, e_call5_3, e_call5_4, e_call6_0, e_call6_1, e_call6_2, e_call6_3, e_call6_4, xP, xld, xst1, xst2, xis2, xii, xid, xll, xlv, xls, xlc, xil, xli, xrd, xdup, xdup2, xc1, xpu, c_eq, c_ne, c_lt, c_ge, c_gt, c_le, Option.bind_some, Option.map_some, List.length_nil, List.length_cons, Nat.reduceAdd, Nat.reduceLeDiff, Int.reduceToNat, Bool.and_self, Bool.false_eq_true, if_true, if_false, l0, hz, e1, ha, e2]
set_option maxRecDepth 100000 in
theorem c_sgV {L : xL} {n f : Nat} {jmp : Nat → xL → xS → xH → xR} {h0 h2 : xH} (z : Int) (l0 : xld L 0 = some (.ref n)) (e2 : xput h0 n f (.int (Int32.ofInt z)) = some h2) (t : List xI) : xB xcall jmp (.inl (.aload 0) :: .inl (.iconst z) :: .inl (.putfield f) :: t) L [] h0 = xB xcall jmp t L [] h2 := by
  simp (maxSteps := 2000000) (disch := omega) only [e_inl, e_goto, e_fall, e_if, e_icmp, e_iret, e_zret, e_lret, e_vret, e_call0_0, e_call0_1, e_call0_2, e_call0_3, e_call0_4, e_call1_0, e_call1_1, e_call1_2, e_call1_3, e_call1_4, e_call2_0, e_call2_1, e_call2_2, e_call2_3, e_call2_4, e_call3_0, e_call3_1, e_call3_2, e_call3_3, e_call3_4, e_call4_0, e_call4_1, e_call4_2, e_call4_3, e_call4_4, e_call5_0, e_call5_1, e_call5_2, e_call5_3, e_call5_4, e_call6_0, e_call6_1, e_call6_2, e_call6_3, e_call6_4, xP, xld, xst1, xst2, xis2, xii, xid, xll, xlv, xls, xlc, xil, xli, xrd, xdup, xdup2, xc1, xpu, c_eq, c_ne, c_lt, c_ge, c_gt, c_le, Option.bind_some, Option.map_some, List.length_nil, List.length_cons, Nat.reduceAdd, Nat.reduceLeDiff, Int.reduceToNat, Bool.and_self, Bool.false_eq_true, if_true, if_false, l0, e2]
set_option maxRecDepth 100000 in
theorem c_sgO {L : xL} {n cl f m a : Nat} {jmp : Nat → xL → xS → xH → xR} {h0 h1 h2 h3 : xH} (l0 : xld L 0 = some (.ref n)) (e1 : xnewo h0 cl = some h1) (ha : h0.length = a) (e2 : xcall m [.ref a] h1 = some (none, h2)) (e3 : xput h2 n f (.ref a) = some h3) (t : List xI) : xB xcall jmp (.inl (.aload 0) :: .inl (.new cl) :: .inl .dup :: .inr (.invokeinterface m 1) :: .inl (.putfield f) :: t) L [] h0 = xB xcall jmp t L [] h3 := by
  simp (maxSteps := 2000000) (disch := omega) only [e_inl, e_goto, e_fall, e_if, e_icmp, e_iret, e_zret, e_lret, e_vret, e_call0_0, e_call0_1, e_call0_2, e_call0_3, e_call0_4, e_call1_0, e_call1_1, e_call1_2, e_call1_3, e_call1_4, e_call2_0, e_call2_1, e_call2_2, e_call2_3, e_call2_4, e_call3_0, e_call3_1, e_call3_2, e_call3_3, e_call3_4, e_call4_0, e_call4_1, e_call4_2, e_call4_3, e_call4_4, e_call5_0, e_call5_1, e_call5_2, e_call5_3, e_call5_4, e_call6_0, e_call6_1, e_call6_2, e_call6_3, e_call6_4, xP, xld, xst1, xst2, xis2, xii, xid, xll, xlv, xls, xlc, xil, xli, xrd, xdup, xdup2, xc1, xpu, c_eq, c_ne, c_lt, c_ge, c_gt, c_le, Option.bind_some, Option.map_some, List.length_nil, List.length_cons, Nat.reduceAdd, Nat.reduceLeDiff, Int.reduceToNat, Bool.and_self, Bool.false_eq_true, if_true, if_false, l0, e1, ha, e2, e3]
