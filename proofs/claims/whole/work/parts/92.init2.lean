/-! ===== constructors (2): a state ===== -/
def cSt (n : Nat) : xC := .inr (6, [.int 0, .ref (n + 1), .ref (n + 2), .int 0, .ref (n + 3), .int (Int32.ofInt (-1)), .int 0, .ref (n + 4), .int 0])
def cRf (t k : Nat) (f : Nat → Option Nat) : xC := .inl (t, k, .inr (.inr (.inr (.inr f))))
def cI0 (k : Nat) : xC := .inl (0, k, .inl (fun _ => 0))
def stQ (n : Nat) (fa ra : Nat → Option Nat) (tl : xH) : xH := [cSt n, cRf 11 4 fa, cI0 4, cRf 15 8 ra, cI0 16] ++ tl
def rfK (a d k : Nat) : Nat → Option Nat := fun j => if j < k then some (a + d * j) else none
theorem rfK_0 (a d : Nat) : (fun _ => none) = rfK a d 0 := by
  funext j
  exact (if_neg (Nat.not_lt_zero j)).symm
theorem rfK_s (a d k : Nat) : va_up (rfK a d k) k (some (a + d * k)) = rfK a d (k + 1) := by
  funext j
  unfold va_up rfK
  by_cases e : j = k
  · rw [if_pos e, e, if_pos (by omega)]
  · rw [if_neg e]
    by_cases h : j < k
    · rw [if_pos h, if_pos (by omega)]
    · rw [if_neg h, if_neg (by omega)]
def fC (n : Nat) : Nat → xH
  | 0 => []
  | k + 1 => fC n k ++ [cF (n + 5 + 2 * k + 1), cW8 8]
def rC : Nat → xH
  | 0 => []
  | k + 1 => rC k ++ [cR0]
theorem fC_len (n : Nat) : ∀ k, (fC n k).length = 2 * k
  | 0 => rfl
  | k + 1 => by
    rw [fC, List.length_append, fC_len n k]
    rfl
theorem rC_len : ∀ k, (rC k).length = k
  | 0 => rfl
  | k + 1 => by
    rw [rC, List.length_append, rC_len k]
    rfl
theorem stQ_len (n : Nat) (fa ra : Nat → Option Nat) (tl : xH) : (stQ n fa ra tl).length = 5 + tl.length := by
  unfold stQ
  rw [List.length_append]
  rfl
theorem stQ_app (n : Nat) (fa ra : Nat → Option Nat) (tl d : xH) : stQ n fa ra tl ++ d = stQ n fa ra (tl ++ d) := by
  unfold stQ
  rw [List.append_assoc]
theorem stQ_at (n : Nat) (fa ra : Nat → Option Nat) (tl : xH) (x : xC) (d : xH) : (stQ n fa ra (tl ++ (x :: d)))[5 + tl.length]? = some x := by
  rw [← stQ_app, List.getElem?_append_right (by rw [stQ_len]; omega), stQ_len, Nat.sub_self]
  rfl
set_option maxRecDepth 100000 in
theorem c_stF (h : xH) (h2 : 2 ≤ h.length) (hl : h.length < 4000) (fa ra : Nat → Option Nat) {k : Nat} (hk : k < 4) : den 43 43 [some (.ref h.length), some (.int (nI k))] [] (h ++ stQ h.length (rfK (h.length + 5) 2 k) ra (fC h.length k)) = den 43 43 [some (.ref h.length), some (.int (nI (k + 1)))] [] (h ++ stQ h.length (rfK (h.length + 5) 2 (k + 1)) ra (fC h.length (k + 1))) := by
  have h1 : ¬ 4 ≤ k := by omega
  have el : (h ++ stQ h.length (rfK (h.length + 5) 2 k) ra (fC h.length k)).length = h.length + (5 + 2 * k) := by rw [List.length_append, stQ_len, fC_len]
  have g1 : xget (h ++ stQ h.length (rfK (h.length + 5) 2 k) ra (fC h.length k)) h.length 193 = some (.ref (h.length + 1)) := by
    rw [ap_get0]
    rfl
  have a1 : xnewo (h ++ stQ h.length (rfK (h.length + 5) 2 k) ra (fC h.length k)) 1 = some ((h ++ stQ h.length (rfK (h.length + 5) 2 k) ra (fC h.length k)) ++ [.inr (1, [.int 0, .int 0, .int 0, .int 0, .null])]) := ap_newO _ (ks := [0, 0, 0, 0, 3]) rfl (by rw [el]; omega)
  have e7 := c_nField (h ++ stQ h.length (rfK (h.length + 5) 2 k) ra (fC h.length k)) (by rw [el]; omega) (by rw [el]; omega)
  have es : xaast ((h ++ stQ h.length (rfK (h.length + 5) 2 k) ra (fC h.length k)) ++ [cF (h.length + (5 + 2 * k) + 1), cW8 8]) (h.length + 1) (nI k) (h.length + (5 + 2 * k)) = some (h ++ stQ h.length (rfK (h.length + 5) 2 (k + 1)) ra (fC h.length (k + 1))) := by
    rw [List.append_assoc, stQ_app, ap_aast (k := 1) (m := 5 + 2 * k) (t := 11) (n := 4) (fs := [.int 0, .int 0, .int 0, .int 0, .ref (h.length + (5 + 2 * k) + 1)]) rfl (by have := stQ_at h.length (rfK (h.length + 5) 2 k) ra (fC h.length k) (cF (h.length + (5 + 2 * k) + 1)) [cW8 8]; rw [fC_len] at this; exact this) rfl h2 hk (by omega)]
    have ee : h.length + (5 + 2 * k) = h.length + 5 + 2 * k := by omega
    rw [ee, rfK_s]
    rfl
  rw [el] at e7
  generalize hX1 : h ++ stQ h.length (rfK (h.length + 5) 2 (k + 1)) ra (fC h.length (k + 1)) = h3 at *
  generalize hX0 : h ++ stQ h.length (rfK (h.length + 5) 2 k) ra (fC h.length k) = h0 at *
  rw [D43_43]
  simp (maxSteps := 2000000) (disch := omega) only [e_inl, e_goto, e_fall, e_if, e_icmp, e_iret, e_zret, e_lret, e_vret, e_call0_0, e_call0_1, e_call0_2, e_call0_3, e_call0_4, e_call1_0, e_call1_1, e_call1_2, e_call1_3, e_call1_4, e_call2_0, e_call2_1, e_call2_2, e_call2_3, e_call2_4, e_call3_0, e_call3_1, e_call3_2, e_call3_3, e_call3_4, e_call4_0, e_call4_1, e_call4_2, e_call4_3, e_call4_4, e_call5_0, e_call5_1, e_call5_2, e_call5_3, e_call5_4, e_call6_0, e_call6_1, e_call6_2, e_call6_3, e_call6_4, xP, xld, xst1, xst2, xis2, xii, xid, xll, xlv, xls, xlc, xil, xli, xrd, xdup, xdup2, xc1, xpu, c_eq, c_ne, c_lt, c_ge, c_gt, c_le, Option.bind_some, Option.map_some, List.length_nil, List.length_cons, Nat.reduceAdd, Nat.reduceLeDiff, Int.reduceToNat, Bool.and_self, Bool.false_eq_true, if_true, if_false, n_lit, nI_leI, nI_add, h1, g1, a1, el, e7, es]
set_option maxRecDepth 100000 in
theorem c_stR (h : xH) (h2 : 2 ≤ h.length) (hl : h.length < 4000) (fa : Nat → Option Nat) (tl : xH) (ht : tl.length = 8) {k : Nat} (hk : k < 8) : den 43 69 [some (.ref h.length), some (.int (nI k))] [] (h ++ stQ h.length fa (rfK (h.length + 13) 1 k) (tl ++ rC k)) = den 43 69 [some (.ref h.length), some (.int (nI (k + 1)))] [] (h ++ stQ h.length fa (rfK (h.length + 13) 1 (k + 1)) (tl ++ rC (k + 1))) := by
  have h1 : ¬ 8 ≤ k := by omega
  have el : (h ++ stQ h.length fa (rfK (h.length + 13) 1 k) (tl ++ rC k)).length = h.length + (13 + k) := by rw [List.length_append, stQ_len, List.length_append, ht, rC_len]; omega
  have g1 : xget (h ++ stQ h.length fa (rfK (h.length + 13) 1 k) (tl ++ rC k)) h.length 196 = some (.ref (h.length + 3)) := by
    rw [ap_get0]
    rfl
  have a1 : xnewo (h ++ stQ h.length fa (rfK (h.length + 13) 1 k) (tl ++ rC k)) 5 = some ((h ++ stQ h.length fa (rfK (h.length + 13) 1 k) (tl ++ rC k)) ++ [cR0]) := ap_newO _ (ks := [0, 0, 0, 0, 0]) rfl (by rw [el]; omega)
  have es : xaast ((h ++ stQ h.length fa (rfK (h.length + 13) 1 k) (tl ++ rC k)) ++ [cR0]) (h.length + 3) (nI k) (h.length + (13 + k)) = some (h ++ stQ h.length fa (rfK (h.length + 13) 1 (k + 1)) (tl ++ rC (k + 1))) := by
    rw [List.append_assoc, stQ_app, ap_aast (k := 3) (m := 13 + k) (t := 15) (n := 8) (fs := [.int 0, .int 0, .int 0, .int 0, .int 0]) rfl (by have := stQ_at h.length fa (rfK (h.length + 13) 1 k) (tl ++ rC k) cR0 []; rw [List.length_append, ht, rC_len, show 5 + (8 + k) = 13 + k by omega] at this; exact this) rfl h2 hk (by omega)]
    have ee : h.length + (13 + k) = h.length + 13 + 1 * k := by omega
    rw [ee, rfK_s, List.append_assoc]
    rfl
  generalize hX1 : h ++ stQ h.length fa (rfK (h.length + 13) 1 (k + 1)) (tl ++ rC (k + 1)) = h3 at *
  generalize hX0 : h ++ stQ h.length fa (rfK (h.length + 13) 1 k) (tl ++ rC k) = h0 at *
  rw [D43_69]
  simp (maxSteps := 2000000) (disch := omega) only [e_inl, e_goto, e_fall, e_if, e_icmp, e_iret, e_zret, e_lret, e_vret, e_call0_0, e_call0_1, e_call0_2, e_call0_3, e_call0_4, e_call1_0, e_call1_1, e_call1_2, e_call1_3, e_call1_4, e_call2_0, e_call2_1, e_call2_2, e_call2_3, e_call2_4, e_call3_0, e_call3_1, e_call3_2, e_call3_3, e_call3_4, e_call4_0, e_call4_1, e_call4_2, e_call4_3, e_call4_4, e_call5_0, e_call5_1, e_call5_2, e_call5_3, e_call5_4, e_call6_0, e_call6_1, e_call6_2, e_call6_3, e_call6_4, xP, xld, xst1, xst2, xis2, xii, xid, xll, xlv, xls, xlc, xil, xli, xrd, xdup, xdup2, xc1, xpu, c_eq, c_ne, c_lt, c_ge, c_gt, c_le, Option.bind_some, Option.map_some, List.length_nil, List.length_cons, Nat.reduceAdd, Nat.reduceLeDiff, Int.reduceToNat, Bool.and_self, Bool.false_eq_true, if_true, if_false, n_lit, nI_leI, nI_add, h1, g1, a1, el, c_nRule, es]
theorem rf1 (a k : Nat) : rfK a 1 k = fun j => if j < k then some (a + j) else none := by
  funext j
  unfold rfK
  rw [Nat.one_mul]
def stL (n : Nat) : xH := stQ n (rfK (n + 5) 2 4) (fun j => if j < 8 then some (n + 13 + j) else none) (fC n 4 ++ rC 8)
theorem stL_len (n : Nat) : (stL n).length = 21 := by
  unfold stL
  rw [stQ_len, List.length_append, fC_len, rC_len]
set_option maxRecDepth 100000 in
theorem c_nState (h : xH) (h2 : 2 ≤ h.length) (hl : h.length < 4000) : xcall 43 [.ref h.length] (h ++ [.inr (6, [.int 0, .null, .null, .int 0, .null, .int 0, .int 0, .null, .int 0])]) = some (none, h ++ stL h.length) := by
  have a1 : xanew (h ++ [.inr (6, [.int 0, .null, .null, .int 0, .null, .int 0, .int 0, .null, .int 0])]) 1 (nI 4) = some (h ++ [.inr (6, [.int 0, .null, .null, .int 0, .null, .int 0, .int 0, .null, .int 0]), cRf 11 4 (fun _ => none)]) := ap_newR h _ rfl (by omega) (by simp only [List.length_cons, List.length_nil]; omega)
  have p1 : xput (h ++ [.inr (6, [.int 0, .null, .null, .int 0, .null, .int 0, .int 0, .null, .int 0]), cRf 11 4 (fun _ => none)]) h.length 193 (.ref (h.length + 1)) = some (h ++ [.inr (6, [.int 0, .ref (h.length + 1), .null, .int 0, .null, .int 0, .int 0, .null, .int 0]), cRf 11 4 (fun _ => none)]) := by
    rw [ap_put0]
    rfl
  have a2 : xnewa (h ++ [.inr (6, [.int 0, .ref (h.length + 1), .null, .int 0, .null, .int 0, .int 0, .null, .int 0]), cRf 11 4 (fun _ => none)]) .int (nI 4) = some (h ++ [.inr (6, [.int 0, .ref (h.length + 1), .null, .int 0, .null, .int 0, .int 0, .null, .int 0]), cRf 11 4 (fun _ => none), cI0 4]) := ap_newI h _ (by omega) (by simp only [List.length_cons, List.length_nil]; omega)
  have p2 : xput (h ++ [.inr (6, [.int 0, .ref (h.length + 1), .null, .int 0, .null, .int 0, .int 0, .null, .int 0]), cRf 11 4 (fun _ => none), cI0 4]) h.length 194 (.ref (h.length + 2)) = some (h ++ [.inr (6, [.int 0, .ref (h.length + 1), .ref (h.length + 2), .int 0, .null, .int 0, .int 0, .null, .int 0]), cRf 11 4 (fun _ => none), cI0 4]) := by
    rw [ap_put0]
    rfl
  have a3 : xanew (h ++ [.inr (6, [.int 0, .ref (h.length + 1), .ref (h.length + 2), .int 0, .null, .int 0, .int 0, .null, .int 0]), cRf 11 4 (fun _ => none), cI0 4]) 5 (nI 8) = some (h ++ [.inr (6, [.int 0, .ref (h.length + 1), .ref (h.length + 2), .int 0, .null, .int 0, .int 0, .null, .int 0]), cRf 11 4 (fun _ => none), cI0 4, cRf 15 8 (fun _ => none)]) := ap_newR h _ rfl (by omega) (by simp only [List.length_cons, List.length_nil]; omega)
  have p3 : xput (h ++ [.inr (6, [.int 0, .ref (h.length + 1), .ref (h.length + 2), .int 0, .null, .int 0, .int 0, .null, .int 0]), cRf 11 4 (fun _ => none), cI0 4, cRf 15 8 (fun _ => none)]) h.length 196 (.ref (h.length + 3)) = some (h ++ [.inr (6, [.int 0, .ref (h.length + 1), .ref (h.length + 2), .int 0, .ref (h.length + 3), .int 0, .int 0, .null, .int 0]), cRf 11 4 (fun _ => none), cI0 4, cRf 15 8 (fun _ => none)]) := by
    rw [ap_put0]
    rfl
  have p4 : xput (h ++ [.inr (6, [.int 0, .ref (h.length + 1), .ref (h.length + 2), .int 0, .ref (h.length + 3), .int 0, .int 0, .null, .int 0]), cRf 11 4 (fun _ => none), cI0 4, cRf 15 8 (fun _ => none)]) h.length 197 (.int (Int32.ofInt (-1))) = some (h ++ [.inr (6, [.int 0, .ref (h.length + 1), .ref (h.length + 2), .int 0, .ref (h.length + 3), .int (Int32.ofInt (-1)), .int 0, .null, .int 0]), cRf 11 4 (fun _ => none), cI0 4, cRf 15 8 (fun _ => none)]) := by
    rw [ap_put0]
    rfl
  have a5 : xnewa (h ++ [.inr (6, [.int 0, .ref (h.length + 1), .ref (h.length + 2), .int 0, .ref (h.length + 3), .int (Int32.ofInt (-1)), .int 0, .null, .int 0]), cRf 11 4 (fun _ => none), cI0 4, cRf 15 8 (fun _ => none)]) .int (nI 16) = some (h ++ [.inr (6, [.int 0, .ref (h.length + 1), .ref (h.length + 2), .int 0, .ref (h.length + 3), .int (Int32.ofInt (-1)), .int 0, .null, .int 0]), cRf 11 4 (fun _ => none), cI0 4, cRf 15 8 (fun _ => none), cI0 16]) := ap_newI h _ (by omega) (by simp only [List.length_cons, List.length_nil]; omega)
  have p5 : xput (h ++ [.inr (6, [.int 0, .ref (h.length + 1), .ref (h.length + 2), .int 0, .ref (h.length + 3), .int (Int32.ofInt (-1)), .int 0, .null, .int 0]), cRf 11 4 (fun _ => none), cI0 4, cRf 15 8 (fun _ => none), cI0 16]) h.length 199 (.ref (h.length + 4)) = some (h ++ stQ h.length (fun _ => none) (fun _ => none) []) := by
    rw [ap_put0]
    rfl
  have l1 : ∀ (a : xC), (h ++ [a]).length = h.length + 1 := fun a => by rw [List.length_append]; rfl
  have l2 : ∀ (a b : xC), (h ++ [a, b]).length = h.length + 2 := fun a b => by rw [List.length_append]; rfl
  have l3 : ∀ (a b c : xC), (h ++ [a, b, c]).length = h.length + 3 := fun a b c => by rw [List.length_append]; rfl
  have l4 : ∀ (a b c d : xC), (h ++ [a, b, c, d]).length = h.length + 4 := fun a b c d => by rw [List.length_append]; rfl
  have e1 : den 43 0 [some (.ref h.length), none] [] (h ++ [.inr (6, [.int 0, .null, .null, .int 0, .null, .int 0, .int 0, .null, .int 0])]) = den 43 43 [some (.ref h.length), some (.int (nI 0))] [] (h ++ stQ h.length (fun _ => none) (fun _ => none) []) := by
    rw [D43_0, c_sgP rfl, c_sgA 4 rfl rfl a1 (l1 _) p1, c_sgN 4 rfl rfl a2 (l2 _ _) p2, c_sgA 8 rfl rfl a3 (l3 _ _ _) p3, c_sgV (-1) rfl p4, c_sgN 16 rfl rfl a5 (l4 _ _ _ _) p5]
    simp (maxSteps := 2000000) (disch := omega) only [e_inl, e_goto, e_fall, e_if, e_icmp, e_iret, e_zret, e_lret, e_vret, e_call0_0, e_call0_1, e_call0_2, e_call0_3, e_call0_4, e_call1_0, e_call1_1, e_call1_2, e_call1_3, e_call1_4, e_call2_0, e_call2_1, e_call2_2, e_call2_3, e_call2_4, e_call3_0, e_call3_1, e_call3_2, e_call3_3, e_call3_4, e_call4_0, e_call4_1, e_call4_2, e_call4_3, e_call4_4, e_call5_0, e_call5_1, e_call5_2, e_call5_3, e_call5_4, e_call6_0, e_call6_1, e_call6_2, e_call6_3, e_call6_4, xP, xld, xst1, xst2, xis2, xii, xid, xll, xlv, xls, xlc, xil, xli, xrd, xdup, xdup2, xc1, xpu, c_eq, c_ne, c_lt, c_ge, c_gt, c_le, Option.bind_some, Option.map_some, List.length_nil, List.length_cons, Nat.reduceAdd, Nat.reduceLeDiff, Int.reduceToNat, Bool.and_self, Bool.false_eq_true, if_true, if_false, n_lit]
  have hlF := x_loop (i := 43) (pc := 43) (fun k => [some (.ref h.length), some (.int (nI k))]) (fun k => h ++ stQ h.length (rfK (h.length + 5) 2 k) (fun _ => none) (fC h.length k)) 4 (fun k hk => c_stF h h2 hl (fun _ => none) (fun _ => none) hk)
  have hlR := x_loop (i := 43) (pc := 69) (fun k => [some (.ref h.length), some (.int (nI k))]) (fun k => h ++ stQ h.length (rfK (h.length + 5) 2 4) (rfK (h.length + 13) 1 k) (fC h.length 4 ++ rC k)) 8 (fun k hk => c_stR h h2 hl _ (fC h.length 4) (fC_len _ _) hk)
  have z1 : h ++ stQ h.length (rfK (h.length + 5) 2 0) (fun _ => none) (fC h.length 0) = h ++ stQ h.length (fun _ => none) (fun _ => none) [] := by
    rw [rfK_0 (h.length + 5) 2]
    rfl
  have z2 : h ++ stQ h.length (rfK (h.length + 5) 2 4) (rfK (h.length + 13) 1 0) (fC h.length 4 ++ rC 0) = h ++ stQ h.length (rfK (h.length + 5) 2 4) (fun _ => none) (fC h.length 4) := by
    rw [rfK_0 (h.length + 13) 1]
    have : fC h.length 4 ++ rC 0 = fC h.length 4 := List.append_nil _
    rw [this]
  have z3 : h ++ stQ h.length (rfK (h.length + 5) 2 4) (rfK (h.length + 13) 1 8) (fC h.length 4 ++ rC 8) = h ++ stL h.length := by
    unfold stL
    rw [rf1]
  rw [z1] at hlF
  rw [z2, z3] at hlR
  clear z1 z2 z3 a1 a2 a3 a5 p1 p2 p3 p4 p5
  rw [N43, e1, hlF, D43_43]
  generalize h ++ stL h.length = y at *
  generalize h ++ stQ h.length (rfK (h.length + 5) 2 4) (fun _ => none) (fC h.length 4) = y4 at *
  simp (maxSteps := 2000000) (disch := omega) only [e_inl, e_goto, e_fall, e_if, e_icmp, e_iret, e_zret, e_lret, e_vret, e_call0_0, e_call0_1, e_call0_2, e_call0_3, e_call0_4, e_call1_0, e_call1_1, e_call1_2, e_call1_3, e_call1_4, e_call2_0, e_call2_1, e_call2_2, e_call2_3, e_call2_4, e_call3_0, e_call3_1, e_call3_2, e_call3_3, e_call3_4, e_call4_0, e_call4_1, e_call4_2, e_call4_3, e_call4_4, e_call5_0, e_call5_1, e_call5_2, e_call5_3, e_call5_4, e_call6_0, e_call6_1, e_call6_2, e_call6_3, e_call6_4, xP, xld, xst1, xst2, xis2, xii, xid, xll, xlv, xls, xlc, xil, xli, xrd, xdup, xdup2, xc1, xpu, c_eq, c_ne, c_lt, c_ge, c_gt, c_le, Option.bind_some, Option.map_some, List.length_nil, List.length_cons, Nat.reduceAdd, Nat.reduceLeDiff, Int.reduceToNat, Bool.and_self, Bool.false_eq_true, if_true, if_false, n_lit, nI_leI, Nat.le_refl]
  rw [D43_67]
  simp (maxSteps := 2000000) (disch := omega) only [e_inl, e_goto, e_fall, e_if, e_icmp, e_iret, e_zret, e_lret, e_vret, e_call0_0, e_call0_1, e_call0_2, e_call0_3, e_call0_4, e_call1_0, e_call1_1, e_call1_2, e_call1_3, e_call1_4, e_call2_0, e_call2_1, e_call2_2, e_call2_3, e_call2_4, e_call3_0, e_call3_1, e_call3_2, e_call3_3, e_call3_4, e_call4_0, e_call4_1, e_call4_2, e_call4_3, e_call4_4, e_call5_0, e_call5_1, e_call5_2, e_call5_3, e_call5_4, e_call6_0, e_call6_1, e_call6_2, e_call6_3, e_call6_4, xP, xld, xst1, xst2, xis2, xii, xid, xll, xlv, xls, xlc, xil, xli, xrd, xdup, xdup2, xc1, xpu, c_eq, c_ne, c_lt, c_ge, c_gt, c_le, Option.bind_some, Option.map_some, List.length_nil, List.length_cons, Nat.reduceAdd, Nat.reduceLeDiff, Int.reduceToNat, Bool.and_self, Bool.false_eq_true, if_true, if_false, n_lit]
  rw [hlR, D43_69]
  simp (maxSteps := 2000000) (disch := omega) only [e_inl, e_goto, e_fall, e_if, e_icmp, e_iret, e_zret, e_lret, e_vret, e_call0_0, e_call0_1, e_call0_2, e_call0_3, e_call0_4, e_call1_0, e_call1_1, e_call1_2, e_call1_3, e_call1_4, e_call2_0, e_call2_1, e_call2_2, e_call2_3, e_call2_4, e_call3_0, e_call3_1, e_call3_2, e_call3_3, e_call3_4, e_call4_0, e_call4_1, e_call4_2, e_call4_3, e_call4_4, e_call5_0, e_call5_1, e_call5_2, e_call5_3, e_call5_4, e_call6_0, e_call6_1, e_call6_2, e_call6_3, e_call6_4, xP, xld, xst1, xst2, xis2, xii, xid, xll, xlv, xls, xlc, xil, xli, xrd, xdup, xdup2, xc1, xpu, c_eq, c_ne, c_lt, c_ge, c_gt, c_le, Option.bind_some, Option.map_some, List.length_nil, List.length_cons, Nat.reduceAdd, Nat.reduceLeDiff, Int.reduceToNat, Bool.and_self, Bool.false_eq_true, if_true, if_false, D43_94, n_lit, nI_leI, Nat.le_refl]
