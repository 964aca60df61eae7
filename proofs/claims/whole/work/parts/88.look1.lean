/-! ===== the class: the law looked at: rows in the ranges ===== -/
def inK (σ : mS) : Nat → Nat → Bool
  | 0, _ => true
  | f + 1, x => inK σ f x && (decide (mF σ f 0 ≤ vl x f) && decide (vl x f ≤ mF σ f 1))
theorem inK_4 (σ : mS) (x : Nat) : inK σ 4 x = inRb σ x := by
  unfold inRb
  rw [show List.range 4 = [0, 1, 2, 3] from rfl]
  simp only [inK, List.all_cons, List.all_nil, Bool.true_and, Bool.and_true, Bool.and_assoc]
section
variable {q : Nat × (Nat → Int32)} {S : Nat → xSt} {P : Int32 × (Nat → Nat)} {A : (Nat → Int64) × Int32 × Int32 × (Nat → Int64) × (Nat → Nat → Int64)} {D : (Nat → Int64) × Int64} {K : Nat → Int64} {X : Int32 × Int32 × Int32 × (Nat → Int32) × (Nat → Int32)} {E Z : Nat → Int32} {I : Nat → Int32} {J : Nat → Int64} {V : Nat → Nat → Int32}
set_option maxRecDepth 100000 in
theorem c_lk_22 {σ : mS} (hw : wf σ) (hs : rpS σ (S 0)) (m : Nat) : ∀ (f : Nat) (W : Nat → Int64) (z3 : Option Value), f + m = 4 → RS (inK σ f) W → ∃ W', den 14 22 [some (.ref 131), some (.ref 3), some (.int (nI f)), z3] [] (hp q S P ((A.1, A.2.1, A.2.2.1, W, A.2.2.2.2)) D K X E Z I J V) = den 14 50 [some (.ref 131), some (.ref 3), some (.int (nI 4)), z3] [] (hp q S P ((A.1, A.2.1, A.2.2.1, W', A.2.2.2.2)) D K X E Z I J V) ∧ RS (inK σ 4) W' := by
  induction m with
  | zero =>
    intro f W z3 hf hm
    have hf : f = 4 := by omega
    subst hf
    refine ⟨W, ?_, hm⟩
    rw [D14_22]
    simp (maxSteps := 2000000) (disch := omega) only [e_inl, e_goto, e_fall, e_if, e_icmp, e_iret, e_zret, e_lret, e_vret, e_call0_0, e_call0_1, e_call0_2, e_call0_3, e_call0_4, e_call1_0, e_call1_1, e_call1_2, e_call1_3, e_call1_4, e_call2_0, e_call2_1, e_call2_2, e_call2_3, e_call2_4, e_call3_0, e_call3_1, e_call3_2, e_call3_3, e_call3_4, e_call4_0, e_call4_1, e_call4_2, e_call4_3, e_call4_4, e_call5_0, e_call5_1, e_call5_2, e_call5_3, e_call5_4, e_call6_0, e_call6_1, e_call6_2, e_call6_3, e_call6_4, xP, xld, xst1, xst2, xis2, xii, xid, xll, xlv, xls, xlc, xil, xli, xrd, xdup, xdup2, xc1, xpu, c_eq, c_ne, c_lt, c_ge, c_gt, c_le, Option.bind_some, Option.map_some, List.length_nil, List.length_cons, Nat.reduceAdd, Nat.reduceLeDiff, Int.reduceToNat, Bool.and_self, Bool.false_eq_true, if_true, if_false, n_lit, nI_leI, Nat.le_refl]
  | succ m ih =>
    intro f W z3 hf hm
    have hf4 : f < 4 := by omega
    obtain ⟨v1, v2, -⟩ := hw.2.1 f hf4
    have hvb : 2 ^ (mF σ f 1 + 1) - 2 ^ mF σ f 0 < 256 := by
      have h1 : (2 : Nat) ^ (mF σ f 1 + 1) ≤ 2 ^ 8 := Nat.pow_le_pow_right (by decide) (by omega)
      have h2 : 0 < (2 : Nat) ^ mF σ f 0 := Nat.two_pow_pos _
      omega
    have ev := c_valueBits (q := q) (S := S) (P := P) (A := (A.1, A.2.1, A.2.2.1, W, A.2.2.2.2)) (D := D) (K := K) (X := X) (E := E) (Z := Z) (I := I) (J := J) (V := V) hf4 (hs.2.1 f 0 hf4 (by omega)) (hs.2.1 f 1 hf4 (by omega)) v1 v2
    obtain ⟨W1, ek, hm1⟩ := c_keepValues (isInR (q := q) (S := S) (P := P) (A := A) (D := D) (K := K) (X := X) (E := E) (Z := Z) (I := I) (J := J) (V := V)) hm hf4 hvb
    have hm2 : RS (inK σ (f + 1)) W1 := fun w hw64 => by
      rw [hm1 w hw64]
      congr 1
      apply wdN_cong
      intro b _
      unfold lim
      rw [vb_bit _ (by omega) _ (by omega) _ (vl_lt _ _) v1]
      rfl
    obtain ⟨W', e, hm3⟩ := ih (f + 1) W1 z3 (by omega) hm2
    refine ⟨W', Eq.trans ?_ e, hm3⟩
    have h1 : ¬ 4 ≤ f := by omega
    have ek' : xcall 30 [.ref 134, .int (nI f), .int (nI (2 ^ (mF σ f 1 + 1) - 2 ^ mF σ f 0))] (hp q S P ((A.1, A.2.1, A.2.2.1, W, A.2.2.2.2)) D K X E Z I J V) = some (none, (hp q S P ((A.1, A.2.1, A.2.2.1, W1, A.2.2.2.2)) D K X E Z I J V)) := ek
    rw [D14_22]
    simp (maxSteps := 2000000) (disch := omega) only [e_inl, e_goto, e_fall, e_if, e_icmp, e_iret, e_zret, e_lret, e_vret, e_call0_0, e_call0_1, e_call0_2, e_call0_3, e_call0_4, e_call1_0, e_call1_1, e_call1_2, e_call1_3, e_call1_4, e_call2_0, e_call2_1, e_call2_2, e_call2_3, e_call2_4, e_call3_0, e_call3_1, e_call3_2, e_call3_3, e_call3_4, e_call4_0, e_call4_1, e_call4_2, e_call4_3, e_call4_4, e_call5_0, e_call5_1, e_call5_2, e_call5_3, e_call5_4, e_call6_0, e_call6_1, e_call6_2, e_call6_3, e_call6_4, xP, xld, xst1, xst2, xis2, xii, xid, xll, xlv, xls, xlc, xil, xli, xrd, xdup, xdup2, xc1, xpu, c_eq, c_ne, c_lt, c_ge, c_gt, c_le, Option.bind_some, Option.map_some, List.length_nil, List.length_cons, Nat.reduceAdd, Nat.reduceLeDiff, Int.reduceToNat, Bool.and_self, Bool.false_eq_true, if_true, if_false, g_law_3, g_S_1, rd0F, n_lit, nI_leI, nI_add, h1, ev, ek']
end
