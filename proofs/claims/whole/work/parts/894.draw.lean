/-! ===== the class: a row's weight; chance ===== -/
section
variable {q : Nat × (Nat → Int32)} {S : Nat → xSt} {P : Int32 × (Nat → Nat)} {A : (Nat → Int64) × Int32 × Int32 × (Nat → Int64) × (Nat → Nat → Int64)} {D : (Nat → Int64) × Int64} {K : Nat → Int64} {X : Int32 × Int32 × Int32 × (Nat → Int32) × (Nat → Int32)} {E Z : Nat → Int32} {I : Nat → Int32} {J : Nat → Int64} {V : Nat → Nat → Int32}
set_option maxRecDepth 100000 in
theorem c_weightOfRow {σ : mS} (hw : wf σ) (hs : rpS σ (S 0)) {x : Nat} (hx : x < 4096) : xcall 56 [.ref 3, .int (nI x)] (hp q S P A D K X E Z I J V) = some (some (.int (nI (wP σ x 4))), (hp q S P A D K X E Z I J V)) := by
  rw [N56 _ _ _ (o_S ..), D56_0]
  have hl := x_loop (i := 56) (pc := 4) (fun k => [some (.ref 3), some (.int (nI x)), some (.int (nI (wP σ x k))), some (.int (nI k))]) (fun _ => (hp q S P A D K X E Z I J V)) 4 (fun k hk => by
    rw [D56_4]
    have h1 : ¬ 4 ≤ k := by omega
    have hv := vl_lt x k
    have ew := hs.2.2.1 k (vl x k) hk hv
    have er : xiald (hp q S P A D K X E Z I J V) (9 + 2 * k) (nI (vl x k)) = some (.int (nI (mW σ k (vl x k)))) := by rw [r_W _ _ _ _ _ _ _ _ _ _ _ _ k hk, if_pos (x_in hv (by omega)), nI_clamp (by omega), ew]
    have e5 : wP σ x (k + 1) = wP σ x k * mW σ k (vl x k) := rfl
    rw [e5]
    simp (maxSteps := 2000000) (disch := omega) only [e_inl, e_goto, e_fall, e_if, e_icmp, e_iret, e_zret, e_lret, e_vret, e_call0_0, e_call0_1, e_call0_2, e_call0_3, e_call0_4, e_call1_0, e_call1_1, e_call1_2, e_call1_3, e_call1_4, e_call2_0, e_call2_1, e_call2_2, e_call2_3, e_call2_4, e_call3_0, e_call3_1, e_call3_2, e_call3_3, e_call3_4, e_call4_0, e_call4_1, e_call4_2, e_call4_3, e_call4_4, e_call5_0, e_call5_1, e_call5_2, e_call5_3, e_call5_4, e_call6_0, e_call6_1, e_call6_2, e_call6_3, e_call6_4, xP, xld, xst1, xst2, xis2, xii, xid, xll, xlv, xls, xlc, xil, xli, xrd, xdup, xdup2, xc1, xpu, c_eq, c_ne, c_lt, c_ge, c_gt, c_le, Option.bind_some, Option.map_some, List.length_nil, List.length_cons, Nat.reduceAdd, Nat.reduceLeDiff, Int.reduceToNat, Bool.and_self, Bool.false_eq_true, if_true, if_false, g_S_1, rd0F, g_F_4, n_lit, nI_leI, nI_add, n_mul, h1, c_valueIn, er])
  have e0 : wP σ x 0 = 1 := rfl
  rw [e0] at hl
  simp (maxSteps := 2000000) (disch := omega) only [e_inl, e_goto, e_fall, e_if, e_icmp, e_iret, e_zret, e_lret, e_vret, e_call0_0, e_call0_1, e_call0_2, e_call0_3, e_call0_4, e_call1_0, e_call1_1, e_call1_2, e_call1_3, e_call1_4, e_call2_0, e_call2_1, e_call2_2, e_call2_3, e_call2_4, e_call3_0, e_call3_1, e_call3_2, e_call3_3, e_call3_4, e_call4_0, e_call4_1, e_call4_2, e_call4_3, e_call4_4, e_call5_0, e_call5_1, e_call5_2, e_call5_3, e_call5_4, e_call6_0, e_call6_1, e_call6_2, e_call6_3, e_call6_4, xP, xld, xst1, xst2, xis2, xii, xid, xll, xlv, xls, xlc, xil, xli, xrd, xdup, xdup2, xc1, xpu, c_eq, c_ne, c_lt, c_ge, c_gt, c_le, Option.bind_some, Option.map_some, List.length_nil, List.length_cons, Nat.reduceAdd, Nat.reduceLeDiff, Int.reduceToNat, Bool.and_self, Bool.false_eq_true, if_true, if_false, n_lit]
  rw [hl, D56_4]
  simp (maxSteps := 2000000) (disch := omega) only [e_inl, e_goto, e_fall, e_if, e_icmp, e_iret, e_zret, e_lret, e_vret, e_call0_0, e_call0_1, e_call0_2, e_call0_3, e_call0_4, e_call1_0, e_call1_1, e_call1_2, e_call1_3, e_call1_4, e_call2_0, e_call2_1, e_call2_2, e_call2_3, e_call2_4, e_call3_0, e_call3_1, e_call3_2, e_call3_3, e_call3_4, e_call4_0, e_call4_1, e_call4_2, e_call4_3, e_call4_4, e_call5_0, e_call5_1, e_call5_2, e_call5_3, e_call5_4, e_call6_0, e_call6_1, e_call6_2, e_call6_3, e_call6_4, xP, xld, xst1, xst2, xis2, xii, xid, xll, xlv, xls, xlc, xil, xli, xrd, xdup, xdup2, xc1, xpu, c_eq, c_ne, c_lt, c_ge, c_gt, c_le, Option.bind_some, Option.map_some, List.length_nil, List.length_cons, Nat.reduceAdd, Nat.reduceLeDiff, Int.reduceToNat, Bool.and_self, Bool.false_eq_true, if_true, if_false, D56_33, n_lit, nI_leI, Nat.le_refl]
set_option maxRecDepth 100000 in
theorem c_chanceBelow {s w : Nat} (hs : s < 2 ^ 31) (hw : 0 < w) (hw2 : w < 2 ^ 31) (h2 : D.2 = lN s) : xcall 6 [.ref 153, .int (nI w)] (hp q S P A D K X E Z I J V) = some (some (.int (nI (ch s w))), (hp q S P A ((D.1, lN (sd s))) K X E Z I J V)) := by
  have h1 := sd_lt s
  have h0 : s * 1103515245 + 12345 < 2 ^ 63 := by omega
  have hw0 : ¬ w = 0 := by omega
  have hw3 : ¬ w ≤ 0 := by omega
  have hd : sd s / 65536 < 2 ^ 63 := by omega
  have e1 := m_rem (a := s * 1103515245 + 12345) (b := 2147483648) h0 (by omega) (by omega)
  have e2 : lN ((s * 1103515245 + 12345) % 2147483648) = lN (sd s) := rfl
  have e3 := m_div (a := sd s) (b := 65536) (by omega) (by omega) (by omega)
  have e4 := m_rem (a := sd s / 65536) (b := w) hd hw (by omega)
  have e5 : sd s / 65536 % w = ch s w := rfl
  have z1 : (lN 2147483648 = 0) = False := by rw [m_0, m_eq (by omega) (by omega)]; simp
  have z2 : (lN 65536 = 0) = False := by rw [m_0, m_eq (by omega) (by omega)]; simp
  have z3 : (lN w = 0) = False := by rw [m_0, m_eq (by omega) (by omega)]; simp [hw0]
  have a1 : ∀ t : List xI, xB xcall (den 6) (.inl (.aload 0) :: .inl (.aload 0) :: .inl (.getfield 1) :: .inl (.sipush 1103515245) :: .inl .lmul :: .inl (.sipush 12345) :: .inl .ladd :: .inl (.sipush 2147483648) :: .inl .lrem :: .inl (.putfield 1) :: t) [some (.ref 153), some (.int (nI w))] [] (hp q S P A D K X E Z I J V) = xB xcall (den 6) t [some (.ref 153), some (.int (nI w))] [] (hp q S P A ((D.1, lN (sd s))) K X E Z I J V) := by
    intro t
    simp (maxSteps := 2000000) (disch := omega) only [e_inl, e_goto, e_fall, e_if, e_icmp, e_iret, e_zret, e_lret, e_vret, e_call0_0, e_call0_1, e_call0_2, e_call0_3, e_call0_4, e_call1_0, e_call1_1, e_call1_2, e_call1_3, e_call1_4, e_call2_0, e_call2_1, e_call2_2, e_call2_3, e_call2_4, e_call3_0, e_call3_1, e_call3_2, e_call3_3, e_call3_4, e_call4_0, e_call4_1, e_call4_2, e_call4_3, e_call4_4, e_call5_0, e_call5_1, e_call5_2, e_call5_3, e_call5_4, e_call6_0, e_call6_1, e_call6_2, e_call6_3, e_call6_4, xP, xld, xst1, xst2, xis2, xii, xid, xll, xlv, xls, xlc, xil, xli, xrd, xdup, xdup2, xc1, xpu, c_eq, c_ne, c_lt, c_ge, c_gt, c_le, Option.bind_some, Option.map_some, List.length_nil, List.length_cons, Nat.reduceAdd, Nat.reduceLeDiff, Int.reduceToNat, Bool.and_self, Bool.false_eq_true, if_true, if_false, g_drawer_1, p_drawer_1, h2, m_lit, lN_mul, lN_add, z1, e1, e2]
  rw [N6 _ _ _ (o_drawer ..), D6_0, a1]
  simp (maxSteps := 2000000) (disch := omega) only [e_inl, e_goto, e_fall, e_if, e_icmp, e_iret, e_zret, e_lret, e_vret, e_call0_0, e_call0_1, e_call0_2, e_call0_3, e_call0_4, e_call1_0, e_call1_1, e_call1_2, e_call1_3, e_call1_4, e_call2_0, e_call2_1, e_call2_2, e_call2_3, e_call2_4, e_call3_0, e_call3_1, e_call3_2, e_call3_3, e_call3_4, e_call4_0, e_call4_1, e_call4_2, e_call4_3, e_call4_4, e_call5_0, e_call5_1, e_call5_2, e_call5_3, e_call5_4, e_call6_0, e_call6_1, e_call6_2, e_call6_3, e_call6_4, xP, xld, xst1, xst2, xis2, xii, xid, xll, xlv, xls, xlc, xil, xli, xrd, xdup, xdup2, xc1, xpu, c_eq, c_ne, c_lt, c_ge, c_gt, c_le, Option.bind_some, Option.map_some, List.length_nil, List.length_cons, Nat.reduceAdd, Nat.reduceLeDiff, Int.reduceToNat, Bool.and_self, Bool.false_eq_true, if_true, if_false, D6_40, g_drawer_1, m_lit, n_0, nI_leI, hw3, z2, z3, e3, m_i2l, e4, e5, lN_i]
end
