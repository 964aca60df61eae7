/-! ===== constructors (3): past, law, drawer, text ===== -/
def paQ (n : Nat) (sl : Nat → Option Nat) (tl : xH) : xH := [.inr (3, [.int 0, .ref (n + 1)]), cRf 16 5 sl] ++ tl
def sC (n : Nat) : Nat → xH
  | 0 => []
  | k + 1 => sC n k ++ stL (n + (2 + 21 * k))
theorem sC_len (n : Nat) : ∀ k, (sC n k).length = 21 * k
  | 0 => rfl
  | k + 1 => by
    rw [sC, List.length_append, sC_len n k, stL_len]
    omega
theorem paQ_len (n : Nat) (sl : Nat → Option Nat) (tl : xH) : (paQ n sl tl).length = 2 + tl.length := by
  unfold paQ
  rw [List.length_append]
  rfl
theorem paQ_app (n : Nat) (sl : Nat → Option Nat) (tl d : xH) : paQ n sl tl ++ d = paQ n sl (tl ++ d) := by
  unfold paQ
  rw [List.append_assoc]
theorem paQ_at (n : Nat) (sl : Nat → Option Nat) (tl : xH) (x : xC) (d : xH) : (paQ n sl (tl ++ (x :: d)))[2 + tl.length]? = some x := by
  rw [← paQ_app, List.getElem?_append_right (by rw [paQ_len]; omega), paQ_len, Nat.sub_self]
  rfl
theorem stL_hd (n : Nat) : ∃ d : xH, stL n = cSt n :: d := ⟨_, rfl⟩
set_option maxRecDepth 100000 in
theorem c_paS (h : xH) (h2 : 2 ≤ h.length) (hl : h.length < 3000) {k : Nat} (hk : k < 5) : den 18 14 [some (.ref h.length), some (.int (nI k))] [] (h ++ paQ h.length (rfK (h.length + 2) 21 k) (sC h.length k)) = den 18 14 [some (.ref h.length), some (.int (nI (k + 1)))] [] (h ++ paQ h.length (rfK (h.length + 2) 21 (k + 1)) (sC h.length (k + 1))) := by
  have h1 : ¬ 4 < k := by omega
  have el : (h ++ paQ h.length (rfK (h.length + 2) 21 k) (sC h.length k)).length = h.length + (2 + 21 * k) := by rw [List.length_append, paQ_len, sC_len]
  have g1 : xget (h ++ paQ h.length (rfK (h.length + 2) 21 k) (sC h.length k)) h.length 97 = some (.ref (h.length + 1)) := by
    rw [ap_get0]
    rfl
  have a1 : xnewo (h ++ paQ h.length (rfK (h.length + 2) 21 k) (sC h.length k)) 6 = some ((h ++ paQ h.length (rfK (h.length + 2) 21 k) (sC h.length k)) ++ [.inr (6, [.int 0, .null, .null, .int 0, .null, .int 0, .int 0, .null, .int 0])]) := ap_newO _ (ks := [0, 3, 3, 0, 3, 0, 0, 3, 2]) rfl (by rw [el]; omega)
  have e7 := c_nState (h ++ paQ h.length (rfK (h.length + 2) 21 k) (sC h.length k)) (by rw [el]; omega) (by rw [el]; omega)
  have es : xaast ((h ++ paQ h.length (rfK (h.length + 2) 21 k) (sC h.length k)) ++ stL (h.length + (2 + 21 * k))) (h.length + 1) (nI k) (h.length + (2 + 21 * k)) = some (h ++ paQ h.length (rfK (h.length + 2) 21 (k + 1)) (sC h.length (k + 1))) := by
    obtain ⟨d, hd⟩ := stL_hd (h.length + (2 + 21 * k))
    rw [List.append_assoc, paQ_app, ap_aast (k := 1) (m := 2 + 21 * k) (t := 16) (n := 5) (fs := [.int 0, .ref (h.length + (2 + 21 * k) + 1), .ref (h.length + (2 + 21 * k) + 2), .int 0, .ref (h.length + (2 + 21 * k) + 3), .int (Int32.ofInt (-1)), .int 0, .ref (h.length + (2 + 21 * k) + 4), .int 0]) rfl (by rw [hd]; have := paQ_at h.length (rfK (h.length + 2) 21 k) (sC h.length k) (cSt (h.length + (2 + 21 * k))) d; rw [sC_len] at this; exact this) rfl h2 hk (by omega)]
    have er : va_up (rfK (h.length + 2) 21 k) k (some (h.length + (2 + 21 * k))) = rfK (h.length + 2) 21 (k + 1) := by
      rw [show h.length + (2 + 21 * k) = h.length + 2 + 21 * k by omega, rfK_s]
    rw [er]
    rfl
  rw [el] at e7
  generalize hX1 : h ++ paQ h.length (rfK (h.length + 2) 21 (k + 1)) (sC h.length (k + 1)) = h3 at *
  generalize hX0 : h ++ paQ h.length (rfK (h.length + 2) 21 k) (sC h.length k) = h0 at *
  rw [D18_14]
  simp (maxSteps := 2000000) (disch := omega) only [e_inl, e_goto, e_fall, e_if, e_icmp, e_iret, e_zret, e_lret, e_vret, e_call0_0, e_call0_1, e_call0_2, e_call0_3, e_call0_4, e_call1_0, e_call1_1, e_call1_2, e_call1_3, e_call1_4, e_call2_0, e_call2_1, e_call2_2, e_call2_3, e_call2_4, e_call3_0, e_call3_1, e_call3_2, e_call3_3, e_call3_4, e_call4_0, e_call4_1, e_call4_2, e_call4_3, e_call4_4, e_call5_0, e_call5_1, e_call5_2, e_call5_3, e_call5_4, e_call6_0, e_call6_1, e_call6_2, e_call6_3, e_call6_4, xP, xld, xst1, xst2, xis2, xii, xid, xll, xlv, xls, xlc, xil, xli, xrd, xdup, xdup2, xc1, xpu, c_eq, c_ne, c_lt, c_ge, c_gt, c_le, Option.bind_some, Option.map_some, List.length_nil, List.length_cons, Nat.reduceAdd, Nat.reduceLeDiff, Int.reduceToNat, Bool.and_self, Bool.false_eq_true, if_true, if_false, n_lit, nI_ltI, nI_add, h1, g1, a1, el, e7, es]
def paL (n : Nat) : xH := paQ n (rfK (n + 2) 21 5) (sC n 5)
theorem paL_len (n : Nat) : (paL n).length = 107 := by
  unfold paL
  rw [paQ_len, sC_len]
set_option maxRecDepth 100000 in
theorem c_nPast (h : xH) (h2 : 2 ≤ h.length) (hl : h.length < 3000) : xcall 18 [.ref h.length] (h ++ [.inr (3, [.int 0, .null])]) = some (none, h ++ paL h.length) := by
  have a1 : xanew (h ++ [.inr (3, [.int 0, .null])]) 6 (nI 5) = some (h ++ [.inr (3, [.int 0, .null]), cRf 16 5 (fun _ => none)]) := ap_newR h _ rfl (by omega) (by simp only [List.length_cons, List.length_nil]; omega)
  have p1 : xput (h ++ [.inr (3, [.int 0, .null]), cRf 16 5 (fun _ => none)]) h.length 97 (.ref (h.length + 1)) = some (h ++ paQ h.length (fun _ => none) []) := by
    rw [ap_put0]
    rfl
  have l1 : ∀ (a : xC), (h ++ [a]).length = h.length + 1 := fun a => by rw [List.length_append]; rfl
  have e1 : den 18 0 [some (.ref h.length), none] [] (h ++ [.inr (3, [.int 0, .null])]) = den 18 14 [some (.ref h.length), some (.int (nI 0))] [] (h ++ paQ h.length (fun _ => none) []) := by
    rw [D18_0, c_sgP rfl, c_sgA 5 rfl rfl a1 (l1 _) p1]
    simp (maxSteps := 2000000) (disch := omega) only [e_inl, e_goto, e_fall, e_if, e_icmp, e_iret, e_zret, e_lret, e_vret, e_call0_0, e_call0_1, e_call0_2, e_call0_3, e_call0_4, e_call1_0, e_call1_1, e_call1_2, e_call1_3, e_call1_4, e_call2_0, e_call2_1, e_call2_2, e_call2_3, e_call2_4, e_call3_0, e_call3_1, e_call3_2, e_call3_3, e_call3_4, e_call4_0, e_call4_1, e_call4_2, e_call4_3, e_call4_4, e_call5_0, e_call5_1, e_call5_2, e_call5_3, e_call5_4, e_call6_0, e_call6_1, e_call6_2, e_call6_3, e_call6_4, xP, xld, xst1, xst2, xis2, xii, xid, xll, xlv, xls, xlc, xil, xli, xrd, xdup, xdup2, xc1, xpu, c_eq, c_ne, c_lt, c_ge, c_gt, c_le, Option.bind_some, Option.map_some, List.length_nil, List.length_cons, Nat.reduceAdd, Nat.reduceLeDiff, Int.reduceToNat, Bool.and_self, Bool.false_eq_true, if_true, if_false, n_lit]
  have hlF := x_loop (i := 18) (pc := 14) (fun k => [some (.ref h.length), some (.int (nI k))]) (fun k => h ++ paQ h.length (rfK (h.length + 2) 21 k) (sC h.length k)) 5 (fun k hk => c_paS h h2 hl hk)
  have z1 : h ++ paQ h.length (rfK (h.length + 2) 21 0) (sC h.length 0) = h ++ paQ h.length (fun _ => none) [] := by
    rw [rfK_0 (h.length + 2) 21]
    rfl
  have z3 : h ++ paQ h.length (rfK (h.length + 2) 21 5) (sC h.length 5) = h ++ paL h.length := rfl
  rw [z1, z3] at hlF
  clear z1 z3 a1 p1
  have h5 : 4 < 5 := by omega
  rw [N18, e1, hlF, D18_14]
  generalize h ++ paL h.length = y at *
  simp (maxSteps := 2000000) (disch := omega) only [e_inl, e_goto, e_fall, e_if, e_icmp, e_iret, e_zret, e_lret, e_vret, e_call0_0, e_call0_1, e_call0_2, e_call0_3, e_call0_4, e_call1_0, e_call1_1, e_call1_2, e_call1_3, e_call1_4, e_call2_0, e_call2_1, e_call2_2, e_call2_3, e_call2_4, e_call3_0, e_call3_1, e_call3_2, e_call3_3, e_call3_4, e_call4_0, e_call4_1, e_call4_2, e_call4_3, e_call4_4, e_call5_0, e_call5_1, e_call5_2, e_call5_3, e_call5_4, e_call6_0, e_call6_1, e_call6_2, e_call6_3, e_call6_4, xP, xld, xst1, xst2, xis2, xii, xid, xll, xlv, xls, xlc, xil, xli, xrd, xdup, xdup2, xc1, xpu, c_eq, c_ne, c_lt, c_ge, c_gt, c_le, Option.bind_some, Option.map_some, List.length_nil, List.length_cons, Nat.reduceAdd, Nat.reduceLeDiff, Int.reduceToNat, Bool.and_self, Bool.false_eq_true, if_true, if_false, D18_38, n_lit, nI_ltI, h5]
/-! the law -/
def laQ (n : Nat) (ke : Nat → Option Nat) (tl : xH) : xH := [.inr (2, [.ref (n + 1), .int 0, .int 0, .ref (n + 3), .ref (n + 5)]), .inr (4, [.ref (n + 2)]), cL0, .inr (4, [.ref (n + 4)]), cL0, cRf 14 8 ke] ++ tl
def kC (n : Nat) : Nat → xH
  | 0 => []
  | k + 1 => kC n k ++ [.inr (4, [.ref (n + (6 + 2 * k) + 1)]), cL0]
theorem kC_len (n : Nat) : ∀ k, (kC n k).length = 2 * k
  | 0 => rfl
  | k + 1 => by
    rw [kC, List.length_append, kC_len n k]
    rfl
theorem laQ_len (n : Nat) (ke : Nat → Option Nat) (tl : xH) : (laQ n ke tl).length = 6 + tl.length := by
  unfold laQ
  rw [List.length_append]
  rfl
theorem laQ_app (n : Nat) (ke : Nat → Option Nat) (tl d : xH) : laQ n ke tl ++ d = laQ n ke (tl ++ d) := by
  unfold laQ
  rw [List.append_assoc]
theorem laQ_at (n : Nat) (ke : Nat → Option Nat) (tl : xH) (x : xC) (d : xH) : (laQ n ke (tl ++ (x :: d)))[6 + tl.length]? = some x := by
  rw [← laQ_app, List.getElem?_append_right (by rw [laQ_len]; omega), laQ_len, Nat.sub_self]
  rfl
set_option maxRecDepth 100000 in
theorem c_laK (h : xH) (h2 : 2 ≤ h.length) (hl : h.length < 3000) {k : Nat} (hk : k < 8) : den 13 37 [some (.ref h.length), some (.int (nI k))] [] (h ++ laQ h.length (rfK (h.length + 6) 2 k) (kC h.length k)) = den 13 37 [some (.ref h.length), some (.int (nI (k + 1)))] [] (h ++ laQ h.length (rfK (h.length + 6) 2 (k + 1)) (kC h.length (k + 1))) := by
  have h1 : ¬ 8 ≤ k := by omega
  have el : (h ++ laQ h.length (rfK (h.length + 6) 2 k) (kC h.length k)).length = h.length + (6 + 2 * k) := by rw [List.length_append, laQ_len, kC_len]
  have g1 : xget (h ++ laQ h.length (rfK (h.length + 6) 2 k) (kC h.length k)) h.length 68 = some (.ref (h.length + 5)) := by
    rw [ap_get0]
    rfl
  have a1 : xnewo (h ++ laQ h.length (rfK (h.length + 6) 2 k) (kC h.length k)) 4 = some ((h ++ laQ h.length (rfK (h.length + 6) 2 k) (kC h.length k)) ++ [.inr (4, [.null])]) := ap_newO _ (ks := [3]) rfl (by rw [el]; omega)
  have e7 := c_nRowSet (h ++ laQ h.length (rfK (h.length + 6) 2 k) (kC h.length k)) (by rw [el]; omega)
  have es : xaast ((h ++ laQ h.length (rfK (h.length + 6) 2 k) (kC h.length k)) ++ [.inr (4, [.ref (h.length + (6 + 2 * k) + 1)]), cL0]) (h.length + 5) (nI k) (h.length + (6 + 2 * k)) = some (h ++ laQ h.length (rfK (h.length + 6) 2 (k + 1)) (kC h.length (k + 1))) := by
    rw [List.append_assoc, laQ_app, ap_aast (k := 5) (m := 6 + 2 * k) (t := 14) (n := 8) (fs := [.ref (h.length + (6 + 2 * k) + 1)]) rfl (by have := laQ_at h.length (rfK (h.length + 6) 2 k) (kC h.length k) (.inr (4, [.ref (h.length + (6 + 2 * k) + 1)])) [cL0]; rw [kC_len] at this; exact this) rfl h2 hk (by omega)]
    have er : va_up (rfK (h.length + 6) 2 k) k (some (h.length + (6 + 2 * k))) = rfK (h.length + 6) 2 (k + 1) := by
      rw [show h.length + (6 + 2 * k) = h.length + 6 + 2 * k by omega, rfK_s]
    rw [er]
    rfl
  rw [el] at e7
  generalize hX1 : h ++ laQ h.length (rfK (h.length + 6) 2 (k + 1)) (kC h.length (k + 1)) = h3 at *
  generalize hX0 : h ++ laQ h.length (rfK (h.length + 6) 2 k) (kC h.length k) = h0 at *
  rw [D13_37]
  simp (maxSteps := 2000000) (disch := omega) only [e_inl, e_goto, e_fall, e_if, e_icmp, e_iret, e_zret, e_lret, e_vret, e_call0_0, e_call0_1, e_call0_2, e_call0_3, e_call0_4, e_call1_0, e_call1_1, e_call1_2, e_call1_3, e_call1_4, e_call2_0, e_call2_1, e_call2_2, e_call2_3, e_call2_4, e_call3_0, e_call3_1, e_call3_2, e_call3_3, e_call3_4, e_call4_0, e_call4_1, e_call4_2, e_call4_3, e_call4_4, e_call5_0, e_call5_1, e_call5_2, e_call5_3, e_call5_4, e_call6_0, e_call6_1, e_call6_2, e_call6_3, e_call6_4, xP, xld, xst1, xst2, xis2, xii, xid, xll, xlv, xls, xlc, xil, xli, xrd, xdup, xdup2, xc1, xpu, c_eq, c_ne, c_lt, c_ge, c_gt, c_le, Option.bind_some, Option.map_some, List.length_nil, List.length_cons, Nat.reduceAdd, Nat.reduceLeDiff, Int.reduceToNat, Bool.and_self, Bool.false_eq_true, if_true, if_false, n_lit, nI_leI, nI_add, h1, g1, a1, el, e7, es]
def laL (n : Nat) : xH := laQ n (rfK (n + 6) 2 8) (kC n 8)
theorem laL_len (n : Nat) : (laL n).length = 22 := by
  unfold laL
  rw [laQ_len, kC_len]
set_option maxRecDepth 100000 in
theorem c_nLaw (h : xH) (h2 : 2 ≤ h.length) (hl : h.length < 3000) : xcall 13 [.ref h.length] (h ++ [.inr (2, [.null, .int 0, .int 0, .null, .null])]) = some (none, h ++ laL h.length) := by
  have l1 : ∀ (a : xC), (h ++ [a]).length = h.length + 1 := fun a => by rw [List.length_append]; rfl
  have l3 : ∀ (a b c : xC), (h ++ [a, b, c]).length = h.length + 3 := fun a b c => by rw [List.length_append]; rfl
  have l5 : ∀ (a b c d e : xC), (h ++ [a, b, c, d, e]).length = h.length + 5 := fun a b c d e => by rw [List.length_append]; rfl
  have a1 := ap_newO (h ++ [.inr (2, [.null, .int 0, .int 0, .null, .null])]) (cl := 4) (ks := [3]) rfl (by rw [l1]; omega)
  have b1 := c_nRowSet (h ++ [.inr (2, [.null, .int 0, .int 0, .null, .null])]) (by rw [l1]; omega)
  rw [l1] at b1
  have p1 : xput ((h ++ [.inr (2, [.null, .int 0, .int 0, .null, .null])]) ++ [.inr (4, [.ref (h.length + 1 + 1)]), cL0]) h.length 64 (.ref (h.length + 1)) = some (h ++ [.inr (2, [.ref (h.length + 1), .int 0, .int 0, .null, .null]), .inr (4, [.ref (h.length + 2)]), cL0]) := by
    rw [List.append_assoc, ap_put0]
    rfl
  have a2 := ap_newO (h ++ [.inr (2, [.ref (h.length + 1), .int 0, .int 0, .null, .null]), .inr (4, [.ref (h.length + 2)]), cL0]) (cl := 4) (ks := [3]) rfl (by rw [l3]; omega)
  have b2 := c_nRowSet (h ++ [.inr (2, [.ref (h.length + 1), .int 0, .int 0, .null, .null]), .inr (4, [.ref (h.length + 2)]), cL0]) (by rw [l3]; omega)
  rw [l3] at b2
  have p2 : xput ((h ++ [.inr (2, [.ref (h.length + 1), .int 0, .int 0, .null, .null]), .inr (4, [.ref (h.length + 2)]), cL0]) ++ [.inr (4, [.ref (h.length + 3 + 1)]), cL0]) h.length 67 (.ref (h.length + 3)) = some (h ++ [.inr (2, [.ref (h.length + 1), .int 0, .int 0, .ref (h.length + 3), .null]), .inr (4, [.ref (h.length + 2)]), cL0, .inr (4, [.ref (h.length + 4)]), cL0]) := by
    rw [List.append_assoc, ap_put0]
    rfl
  have a3 : xanew (h ++ [.inr (2, [.ref (h.length + 1), .int 0, .int 0, .ref (h.length + 3), .null]), .inr (4, [.ref (h.length + 2)]), cL0, .inr (4, [.ref (h.length + 4)]), cL0]) 4 (nI 8) = some (h ++ [.inr (2, [.ref (h.length + 1), .int 0, .int 0, .ref (h.length + 3), .null]), .inr (4, [.ref (h.length + 2)]), cL0, .inr (4, [.ref (h.length + 4)]), cL0, cRf 14 8 (fun _ => none)]) := ap_newR h _ rfl (by omega) (by simp only [List.length_cons, List.length_nil]; omega)
  have p3 : xput (h ++ [.inr (2, [.ref (h.length + 1), .int 0, .int 0, .ref (h.length + 3), .null]), .inr (4, [.ref (h.length + 2)]), cL0, .inr (4, [.ref (h.length + 4)]), cL0, cRf 14 8 (fun _ => none)]) h.length 68 (.ref (h.length + 5)) = some (h ++ laQ h.length (fun _ => none) []) := by
    rw [ap_put0]
    rfl
  have e1 : den 13 0 [some (.ref h.length), none] [] (h ++ [.inr (2, [.null, .int 0, .int 0, .null, .null])]) = den 13 37 [some (.ref h.length), some (.int (nI 0))] [] (h ++ laQ h.length (fun _ => none) []) := by
    rw [D13_0, c_sgP rfl, c_sgO rfl a1 (l1 _) b1 p1, c_sgO rfl a2 (l3 _ _ _) b2 p2, c_sgA 8 rfl rfl a3 (l5 _ _ _ _ _) p3]
    simp (maxSteps := 2000000) (disch := omega) only [e_inl, e_goto, e_fall, e_if, e_icmp, e_iret, e_zret, e_lret, e_vret, e_call0_0, e_call0_1, e_call0_2, e_call0_3, e_call0_4, e_call1_0, e_call1_1, e_call1_2, e_call1_3, e_call1_4, e_call2_0, e_call2_1, e_call2_2, e_call2_3, e_call2_4, e_call3_0, e_call3_1, e_call3_2, e_call3_3, e_call3_4, e_call4_0, e_call4_1, e_call4_2, e_call4_3, e_call4_4, e_call5_0, e_call5_1, e_call5_2, e_call5_3, e_call5_4, e_call6_0, e_call6_1, e_call6_2, e_call6_3, e_call6_4, xP, xld, xst1, xst2, xis2, xii, xid, xll, xlv, xls, xlc, xil, xli, xrd, xdup, xdup2, xc1, xpu, c_eq, c_ne, c_lt, c_ge, c_gt, c_le, Option.bind_some, Option.map_some, List.length_nil, List.length_cons, Nat.reduceAdd, Nat.reduceLeDiff, Int.reduceToNat, Bool.and_self, Bool.false_eq_true, if_true, if_false, n_lit]
  have hlF := x_loop (i := 13) (pc := 37) (fun k => [some (.ref h.length), some (.int (nI k))]) (fun k => h ++ laQ h.length (rfK (h.length + 6) 2 k) (kC h.length k)) 8 (fun k hk => c_laK h h2 hl hk)
  have z1 : h ++ laQ h.length (rfK (h.length + 6) 2 0) (kC h.length 0) = h ++ laQ h.length (fun _ => none) [] := by
    rw [rfK_0 (h.length + 6) 2]
    rfl
  have z3 : h ++ laQ h.length (rfK (h.length + 6) 2 8) (kC h.length 8) = h ++ laL h.length := rfl
  rw [z1, z3] at hlF
  clear z1 z3 a1 b1 p1 a2 b2 p2 a3 p3
  rw [N13, e1, hlF, D13_37]
  generalize h ++ laL h.length = y at *
  simp (maxSteps := 2000000) (disch := omega) only [e_inl, e_goto, e_fall, e_if, e_icmp, e_iret, e_zret, e_lret, e_vret, e_call0_0, e_call0_1, e_call0_2, e_call0_3, e_call0_4, e_call1_0, e_call1_1, e_call1_2, e_call1_3, e_call1_4, e_call2_0, e_call2_1, e_call2_2, e_call2_3, e_call2_4, e_call3_0, e_call3_1, e_call3_2, e_call3_3, e_call3_4, e_call4_0, e_call4_1, e_call4_2, e_call4_3, e_call4_4, e_call5_0, e_call5_1, e_call5_2, e_call5_3, e_call5_4, e_call6_0, e_call6_1, e_call6_2, e_call6_3, e_call6_4, xP, xld, xst1, xst2, xis2, xii, xid, xll, xlv, xls, xlc, xil, xli, xrd, xdup, xdup2, xc1, xpu, c_eq, c_ne, c_lt, c_ge, c_gt, c_le, Option.bind_some, Option.map_some, List.length_nil, List.length_cons, Nat.reduceAdd, Nat.reduceLeDiff, Int.reduceToNat, Bool.and_self, Bool.false_eq_true, if_true, if_false, D13_62, n_lit, nI_leI, Nat.le_refl]
def drL (n : Nat) : xH := [.inr (0, [.ref (n + 1), .long 0]), .inr (4, [.ref (n + 2)]), cL0]
set_option maxRecDepth 100000 in
theorem c_nDrawer (h : xH) (hl : h.length < 3000) : xcall 0 [.ref h.length] (h ++ [.inr (0, [.null, .long 0])]) = some (none, h ++ drL h.length) := by
  have l1 : ∀ (a : xC), (h ++ [a]).length = h.length + 1 := fun a => by rw [List.length_append]; rfl
  have a1 := ap_newO (h ++ [.inr (0, [.null, .long 0])]) (cl := 4) (ks := [3]) rfl (by rw [l1]; omega)
  have b1 := c_nRowSet (h ++ [.inr (0, [.null, .long 0])]) (by rw [l1]; omega)
  rw [l1] at b1
  have p1 : xput ((h ++ [.inr (0, [.null, .long 0])]) ++ [.inr (4, [.ref (h.length + 1 + 1)]), cL0]) h.length 0 (.ref (h.length + 1)) = some (h ++ drL h.length) := by
    rw [List.append_assoc, ap_put0]
    rfl
  rw [N0, D0_0, c_sgP rfl, c_sgO rfl a1 (l1 _) b1 p1]
  simp (maxSteps := 2000000) (disch := omega) only [e_inl, e_goto, e_fall, e_if, e_icmp, e_iret, e_zret, e_lret, e_vret, e_call0_0, e_call0_1, e_call0_2, e_call0_3, e_call0_4, e_call1_0, e_call1_1, e_call1_2, e_call1_3, e_call1_4, e_call2_0, e_call2_1, e_call2_2, e_call2_3, e_call2_4, e_call3_0, e_call3_1, e_call3_2, e_call3_3, e_call3_4, e_call4_0, e_call4_1, e_call4_2, e_call4_3, e_call4_4, e_call5_0, e_call5_1, e_call5_2, e_call5_3, e_call5_4, e_call6_0, e_call6_1, e_call6_2, e_call6_3, e_call6_4, xP, xld, xst1, xst2, xis2, xii, xid, xll, xlv, xls, xlc, xil, xli, xrd, xdup, xdup2, xc1, xpu, c_eq, c_ne, c_lt, c_ge, c_gt, c_le, Option.bind_some, Option.map_some, List.length_nil, List.length_cons, Nat.reduceAdd, Nat.reduceLeDiff, Int.reduceToNat, Bool.and_self, Bool.false_eq_true, if_true, if_false]
def txL (n : Nat) : xH := [.inr (7, [.int 0, .int 0, .int 0, .ref (n + 1), .ref (n + 2)]), cI0 5, cI0 150]
set_option maxRecDepth 100000 in
theorem c_nText (h : xH) (hl : h.length < 3000) : xcall 59 [.ref h.length] (h ++ [.inr (7, [.int 0, .int 0, .int 0, .null, .null])]) = some (none, h ++ txL h.length) := by
  have l1 : ∀ (a : xC), (h ++ [a]).length = h.length + 1 := fun a => by rw [List.length_append]; rfl
  have l2 : ∀ (a b : xC), (h ++ [a, b]).length = h.length + 2 := fun a b => by rw [List.length_append]; rfl
  have a1 : xnewa (h ++ [.inr (7, [.int 0, .int 0, .int 0, .null, .null])]) .int (nI 5) = some (h ++ [.inr (7, [.int 0, .int 0, .int 0, .null, .null]), cI0 5]) := ap_newI h _ (by omega) (by simp only [List.length_cons, List.length_nil]; omega)
  have p1 : xput (h ++ [.inr (7, [.int 0, .int 0, .int 0, .null, .null]), cI0 5]) h.length 227 (.ref (h.length + 1)) = some (h ++ [.inr (7, [.int 0, .int 0, .int 0, .ref (h.length + 1), .null]), cI0 5]) := by
    rw [ap_put0]
    rfl
  have a2 : xnewa (h ++ [.inr (7, [.int 0, .int 0, .int 0, .ref (h.length + 1), .null]), cI0 5]) .int (nI 150) = some (h ++ [.inr (7, [.int 0, .int 0, .int 0, .ref (h.length + 1), .null]), cI0 5, cI0 150]) := ap_newI h _ (by omega) (by simp only [List.length_cons, List.length_nil]; omega)
  have p2 : xput (h ++ [.inr (7, [.int 0, .int 0, .int 0, .ref (h.length + 1), .null]), cI0 5, cI0 150]) h.length 228 (.ref (h.length + 2)) = some (h ++ txL h.length) := by
    rw [ap_put0]
    rfl
  rw [N59, D59_0, c_sgP rfl, c_sgN 5 rfl rfl a1 (l1 _) p1, c_sgN 150 rfl rfl a2 (l2 _ _) p2]
  simp (maxSteps := 2000000) (disch := omega) only [e_inl, e_goto, e_fall, e_if, e_icmp, e_iret, e_zret, e_lret, e_vret, e_call0_0, e_call0_1, e_call0_2, e_call0_3, e_call0_4, e_call1_0, e_call1_1, e_call1_2, e_call1_3, e_call1_4, e_call2_0, e_call2_1, e_call2_2, e_call2_3, e_call2_4, e_call3_0, e_call3_1, e_call3_2, e_call3_3, e_call3_4, e_call4_0, e_call4_1, e_call4_2, e_call4_3, e_call4_4, e_call5_0, e_call5_1, e_call5_2, e_call5_3, e_call5_4, e_call6_0, e_call6_1, e_call6_2, e_call6_3, e_call6_4, xP, xld, xst1, xst2, xis2, xii, xid, xll, xlv, xls, xlc, xil, xli, xrd, xdup, xdup2, xc1, xpu, c_eq, c_ne, c_lt, c_ge, c_gt, c_le, Option.bind_some, Option.map_some, List.length_nil, List.length_cons, Nat.reduceAdd, Nat.reduceLeDiff, Int.reduceToNat, Bool.and_self, Bool.false_eq_true, if_true, if_false]
