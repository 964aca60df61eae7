/-! ===== constructors (4): both objects; all that is at the start ===== -/
def cX (r : List Value) : xC := .inr (8, r)
def xT1 (n : Nat) : xH := stL (n + 1)
def xT2 (n : Nat) : xH := xT1 n ++ paL (n + 22)
def xT3 (n : Nat) : xH := xT2 n ++ laL (n + 129)
def xT4 (n : Nat) : xH := xT3 n ++ drL (n + 151)
def xT5 (n : Nat) : xH := xT4 n ++ [.inr (4, [.ref (n + 155)]), cL0]
def xT6 (n : Nat) : xH := xT5 n ++ txL (n + 156)
def xT7 (n : Nat) : xH := xT6 n ++ [cI0 3]
def xT8 (n : Nat) : xH := xT7 n ++ [cI0 29]
theorem xT1_len (n : Nat) : (xT1 n).length = 21 := stL_len _
theorem xT2_len (n : Nat) : (xT2 n).length = 128 := by rw [xT2, List.length_append, xT1_len, paL_len]
theorem xT3_len (n : Nat) : (xT3 n).length = 150 := by rw [xT3, List.length_append, xT2_len, laL_len]
theorem xT4_len (n : Nat) : (xT4 n).length = 153 := by
  rw [xT4, List.length_append, xT3_len]
  rfl
theorem xT5_len (n : Nat) : (xT5 n).length = 155 := by
  rw [xT5, List.length_append, xT4_len]
  rfl
theorem xT6_len (n : Nat) : (xT6 n).length = 158 := by
  rw [xT6, List.length_append, xT5_len]
  rfl
theorem xT7_len (n : Nat) : (xT7 n).length = 159 := by
  rw [xT7, List.length_append, xT6_len]
  rfl
theorem xT8_len (n : Nat) : (xT8 n).length = 160 := by
  rw [xT8, List.length_append, xT7_len]
  rfl
theorem hx_len (h : xH) (x : xC) (tl : xH) : (h ++ (x :: tl)).length = h.length + (tl.length + 1) := by
  rw [List.length_append, List.length_cons]
theorem hx_app (h : xH) (x : xC) (tl d : xH) : (h ++ (x :: tl)) ++ d = h ++ (x :: (tl ++ d)) := by
  rw [List.append_assoc]
  rfl
theorem hx_put (h : xH) (r r' : List Value) (tl : xH) (f : Nat) (v : Value) (e : ∀ d : xH, xput (cX r :: d) 0 f v = some (cX r' :: d)) : xput (h ++ (cX r :: tl)) h.length f v = some (h ++ (cX r' :: tl)) := by
  rw [ap_put0, e]
  rfl
def xLL (n : Nat) : xH := cX [.ref (n + 1), .ref (n + 22), .ref (n + 129), .ref (n + 151), .ref (n + 154), .ref (n + 156), .ref (n + 159), .ref (n + 160)] :: xT8 n
set_option maxRecDepth 100000 in
theorem c_nX (h : xH) (h2 : 2 ≤ h.length) (hl : h.length < 1000) : xcall 67 [.ref h.length] (h ++ [cX [.null, .null, .null, .null, .null, .null, .null, .null]]) = some (none, h ++ xLL h.length) := by
  have l1 : (h ++ [cX [.null, .null, .null, .null, .null, .null, .null, .null]]).length = h.length + 1 := hx_len h _ []
  have a1 := ap_newO (h ++ [cX [.null, .null, .null, .null, .null, .null, .null, .null]]) (cl := 6) (ks := [0, 3, 3, 0, 3, 0, 0, 3, 2]) rfl (by rw [l1]; omega)
  have b1 := c_nState (h ++ [cX [.null, .null, .null, .null, .null, .null, .null, .null]]) (by rw [l1]; omega) (by rw [l1]; omega)
  rw [l1] at b1
  have p1 : xput ((h ++ [cX [.null, .null, .null, .null, .null, .null, .null, .null]]) ++ stL (h.length + 1)) h.length 256 (.ref (h.length + 1)) = some (h ++ (cX [.ref (h.length + 1), .null, .null, .null, .null, .null, .null, .null] :: xT1 h.length)) := by
    rw [hx_app, List.nil_append]
    exact hx_put h _ _ _ _ _ (fun d => rfl)
  have l2 : (h ++ (cX [.ref (h.length + 1), .null, .null, .null, .null, .null, .null, .null] :: xT1 h.length)).length = h.length + 22 := by rw [hx_len, xT1_len]
  have a2 := ap_newO (h ++ (cX [.ref (h.length + 1), .null, .null, .null, .null, .null, .null, .null] :: xT1 h.length)) (cl := 3) (ks := [0, 3]) rfl (by rw [l2]; omega)
  have b2 := c_nPast (h ++ (cX [.ref (h.length + 1), .null, .null, .null, .null, .null, .null, .null] :: xT1 h.length)) (by rw [l2]; omega) (by rw [l2]; omega)
  rw [l2] at b2
  have p2 : xput ((h ++ (cX [.ref (h.length + 1), .null, .null, .null, .null, .null, .null, .null] :: xT1 h.length)) ++ paL (h.length + 22)) h.length 257 (.ref (h.length + 22)) = some (h ++ (cX [.ref (h.length + 1), .ref (h.length + 22), .null, .null, .null, .null, .null, .null] :: xT2 h.length)) := by
    rw [hx_app]
    exact hx_put h _ _ _ _ _ (fun d => rfl)
  have l3 : (h ++ (cX [.ref (h.length + 1), .ref (h.length + 22), .null, .null, .null, .null, .null, .null] :: xT2 h.length)).length = h.length + 129 := by rw [hx_len, xT2_len]
  have a3 := ap_newO (h ++ (cX [.ref (h.length + 1), .ref (h.length + 22), .null, .null, .null, .null, .null, .null] :: xT2 h.length)) (cl := 2) (ks := [3, 0, 0, 3, 3]) rfl (by rw [l3]; omega)
  have b3 := c_nLaw (h ++ (cX [.ref (h.length + 1), .ref (h.length + 22), .null, .null, .null, .null, .null, .null] :: xT2 h.length)) (by rw [l3]; omega) (by rw [l3]; omega)
  rw [l3] at b3
  have p3 : xput ((h ++ (cX [.ref (h.length + 1), .ref (h.length + 22), .null, .null, .null, .null, .null, .null] :: xT2 h.length)) ++ laL (h.length + 129)) h.length 258 (.ref (h.length + 129)) = some (h ++ (cX [.ref (h.length + 1), .ref (h.length + 22), .ref (h.length + 129), .null, .null, .null, .null, .null] :: xT3 h.length)) := by
    rw [hx_app]
    exact hx_put h _ _ _ _ _ (fun d => rfl)
  have l4 : (h ++ (cX [.ref (h.length + 1), .ref (h.length + 22), .ref (h.length + 129), .null, .null, .null, .null, .null] :: xT3 h.length)).length = h.length + 151 := by rw [hx_len, xT3_len]
  have a4 := ap_newO (h ++ (cX [.ref (h.length + 1), .ref (h.length + 22), .ref (h.length + 129), .null, .null, .null, .null, .null] :: xT3 h.length)) (cl := 0) (ks := [3, 1]) rfl (by rw [l4]; omega)
  have b4 := c_nDrawer (h ++ (cX [.ref (h.length + 1), .ref (h.length + 22), .ref (h.length + 129), .null, .null, .null, .null, .null] :: xT3 h.length)) (by rw [l4]; omega)
  rw [l4] at b4
  have p4 : xput ((h ++ (cX [.ref (h.length + 1), .ref (h.length + 22), .ref (h.length + 129), .null, .null, .null, .null, .null] :: xT3 h.length)) ++ drL (h.length + 151)) h.length 259 (.ref (h.length + 151)) = some (h ++ (cX [.ref (h.length + 1), .ref (h.length + 22), .ref (h.length + 129), .ref (h.length + 151), .null, .null, .null, .null] :: xT4 h.length)) := by
    rw [hx_app]
    exact hx_put h _ _ _ _ _ (fun d => rfl)
  have l5 : (h ++ (cX [.ref (h.length + 1), .ref (h.length + 22), .ref (h.length + 129), .ref (h.length + 151), .null, .null, .null, .null] :: xT4 h.length)).length = h.length + 154 := by rw [hx_len, xT4_len]
  have a5 := ap_newO (h ++ (cX [.ref (h.length + 1), .ref (h.length + 22), .ref (h.length + 129), .ref (h.length + 151), .null, .null, .null, .null] :: xT4 h.length)) (cl := 4) (ks := [3]) rfl (by rw [l5]; omega)
  have b5 := c_nRowSet (h ++ (cX [.ref (h.length + 1), .ref (h.length + 22), .ref (h.length + 129), .ref (h.length + 151), .null, .null, .null, .null] :: xT4 h.length)) (by rw [l5]; omega)
  rw [l5] at b5
  have p5 : xput ((h ++ (cX [.ref (h.length + 1), .ref (h.length + 22), .ref (h.length + 129), .ref (h.length + 151), .null, .null, .null, .null] :: xT4 h.length)) ++ [.inr (4, [.ref (h.length + 154 + 1)]), cL0]) h.length 260 (.ref (h.length + 154)) = some (h ++ (cX [.ref (h.length + 1), .ref (h.length + 22), .ref (h.length + 129), .ref (h.length + 151), .ref (h.length + 154), .null, .null, .null] :: xT5 h.length)) := by
    rw [hx_app]
    exact hx_put h _ _ _ _ _ (fun d => rfl)
  have l6 : (h ++ (cX [.ref (h.length + 1), .ref (h.length + 22), .ref (h.length + 129), .ref (h.length + 151), .ref (h.length + 154), .null, .null, .null] :: xT5 h.length)).length = h.length + 156 := by rw [hx_len, xT5_len]
  have a6 := ap_newO (h ++ (cX [.ref (h.length + 1), .ref (h.length + 22), .ref (h.length + 129), .ref (h.length + 151), .ref (h.length + 154), .null, .null, .null] :: xT5 h.length)) (cl := 7) (ks := [0, 0, 0, 3, 3]) rfl (by rw [l6]; omega)
  have b6 := c_nText (h ++ (cX [.ref (h.length + 1), .ref (h.length + 22), .ref (h.length + 129), .ref (h.length + 151), .ref (h.length + 154), .null, .null, .null] :: xT5 h.length)) (by rw [l6]; omega)
  rw [l6] at b6
  have p6 : xput ((h ++ (cX [.ref (h.length + 1), .ref (h.length + 22), .ref (h.length + 129), .ref (h.length + 151), .ref (h.length + 154), .null, .null, .null] :: xT5 h.length)) ++ txL (h.length + 156)) h.length 261 (.ref (h.length + 156)) = some (h ++ (cX [.ref (h.length + 1), .ref (h.length + 22), .ref (h.length + 129), .ref (h.length + 151), .ref (h.length + 154), .ref (h.length + 156), .null, .null] :: xT6 h.length)) := by
    rw [hx_app]
    exact hx_put h _ _ _ _ _ (fun d => rfl)
  have l7 : (h ++ (cX [.ref (h.length + 1), .ref (h.length + 22), .ref (h.length + 129), .ref (h.length + 151), .ref (h.length + 154), .ref (h.length + 156), .null, .null] :: xT6 h.length)).length = h.length + 159 := by rw [hx_len, xT6_len]
  have a7 : xnewa (h ++ (cX [.ref (h.length + 1), .ref (h.length + 22), .ref (h.length + 129), .ref (h.length + 151), .ref (h.length + 154), .ref (h.length + 156), .null, .null] :: xT6 h.length)) .int (nI 3) = some (h ++ (cX [.ref (h.length + 1), .ref (h.length + 22), .ref (h.length + 129), .ref (h.length + 151), .ref (h.length + 154), .ref (h.length + 156), .null, .null] :: xT7 h.length)) := ap_newI h _ (by omega) (by rw [List.length_cons, xT6_len]; omega)
  have p7 : xput (h ++ (cX [.ref (h.length + 1), .ref (h.length + 22), .ref (h.length + 129), .ref (h.length + 151), .ref (h.length + 154), .ref (h.length + 156), .null, .null] :: xT7 h.length)) h.length 262 (.ref (h.length + 159)) = some (h ++ (cX [.ref (h.length + 1), .ref (h.length + 22), .ref (h.length + 129), .ref (h.length + 151), .ref (h.length + 154), .ref (h.length + 156), .ref (h.length + 159), .null] :: xT7 h.length)) := hx_put h _ _ _ _ _ (fun d => rfl)
  have l8 : (h ++ (cX [.ref (h.length + 1), .ref (h.length + 22), .ref (h.length + 129), .ref (h.length + 151), .ref (h.length + 154), .ref (h.length + 156), .ref (h.length + 159), .null] :: xT7 h.length)).length = h.length + 160 := by rw [hx_len, xT7_len]
  have a8 : xnewa (h ++ (cX [.ref (h.length + 1), .ref (h.length + 22), .ref (h.length + 129), .ref (h.length + 151), .ref (h.length + 154), .ref (h.length + 156), .ref (h.length + 159), .null] :: xT7 h.length)) .int (nI 29) = some (h ++ (cX [.ref (h.length + 1), .ref (h.length + 22), .ref (h.length + 129), .ref (h.length + 151), .ref (h.length + 154), .ref (h.length + 156), .ref (h.length + 159), .null] :: xT8 h.length)) := ap_newI h _ (by omega) (by rw [List.length_cons, xT7_len]; omega)
  have p8 : xput (h ++ (cX [.ref (h.length + 1), .ref (h.length + 22), .ref (h.length + 129), .ref (h.length + 151), .ref (h.length + 154), .ref (h.length + 156), .ref (h.length + 159), .null] :: xT8 h.length)) h.length 263 (.ref (h.length + 160)) = some (h ++ xLL h.length) := hx_put h _ _ _ _ _ (fun d => rfl)
  rw [N67, D67_0, c_sgP rfl, c_sgO rfl a1 l1 b1 p1, c_sgO rfl a2 l2 b2 p2, c_sgO rfl a3 l3 b3 p3, c_sgO rfl a4 l4 b4 p4, c_sgO rfl a5 l5 b5 p5, c_sgO rfl a6 l6 b6 p6, c_sgN 3 rfl rfl a7 l7 p7, c_sgN 29 rfl rfl a8 l8 p8]
  simp (maxSteps := 2000000) (disch := omega) only [e_inl, e_goto, e_fall, e_if, e_icmp, e_iret, e_zret, e_lret, e_vret, e_call0_0, e_call0_1, e_call0_2, e_call0_3, e_call0_4, e_call1_0, e_call1_1, e_call1_2, e_call1_3, e_call1_4, e_call2_0, e_call2_1, e_call2_2, e_call2_3, e_call2_4, e_call3_0, e_call3_1, e_call3_2, e_call3_3, e_call3_4, e_call4_0, e_call4_1, e_call4_2, e_call4_3, e_call4_4, e_call5_0, e_call5_1, e_call5_2, e_call5_3, e_call5_4, e_call6_0, e_call6_1, e_call6_2, e_call6_3, e_call6_4, xP, xld, xst1, xst2, xis2, xii, xid, xll, xlv, xls, xlc, xil, xli, xrd, xdup, xdup2, xc1, xpu, c_eq, c_ne, c_lt, c_ge, c_gt, c_le, Option.bind_some, Option.map_some, List.length_nil, List.length_cons, Nat.reduceAdd, Nat.reduceLeDiff, Int.reduceToNat, Bool.and_self, Bool.false_eq_true, if_true, if_false]
