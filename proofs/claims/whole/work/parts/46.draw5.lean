/-! ===== what follows of ranges and rules alone ===== -/
def sameL (σ σ' : mS) : Prop := (∀ f j, j < 2 → mF σ' f j = mF σ f j) ∧ mK σ' = mK σ ∧ mR σ' = mR σ
theorem sameL.rf (σ : mS) : sameL σ σ := ⟨fun _ _ _ => rfl, rfl, rfl⟩
theorem sameL.tr {a b c : mS} (h1 : sameL a b) (h2 : sameL b c) : sameL a c := ⟨fun f j hj => (h2.1 f j hj).trans (h1.1 f j hj), h2.2.1.trans h1.2.1, h2.2.2.trans h1.2.2⟩
theorem sameT.L {σ σ' : mS} (h : sameT σ σ') : sameL σ σ' := ⟨fun f j hj => h.2.1 f j (by omega), by show σ'.2.2.2.2.1 = _; rw [h.2.2], by show σ'.2.2.2.2.2.1 = _; rw [h.2.2]⟩
theorem sameL.kbE {σ σ' : mS} (h : sameL σ σ') (x : Nat) : kb σ' x = kb σ x := by
  obtain ⟨h1, h2, h3⟩ := h
  unfold kb mkp
  rw [h2, h3]
theorem sameL.inE {σ σ' : mS} (h : sameL σ σ') (x : Nat) : inRb σ' x = inRb σ x := by
  obtain ⟨h1, h2, h3⟩ := h
  unfold inRb
  congr 1
  funext f
  rw [h1 f 0 (by omega), h1 f 1 (by omega)]
theorem sameL.sf {σ σ' : mS} (h : sameL σ σ') : ∀ r, sfL σ' r = sfL σ r
  | 0 => rfl
  | r + 1 => by
    rw [sfL, sfL, h.sf r, h.2.1, h.2.2]
theorem sameL.hd {σ σ' : mS} (h : sameL σ σ') : hdR σ' = hdR σ := by
  unfold hdR
  rw [h.2.1, h.2.2]
theorem sameL.tm {σ σ' : mS} (h : sameL σ σ') (n s : Nat) : tmS σ' n s = tmS σ n s := by
  unfold tmS
  congr 1
  funext x
  rw [h.inE, h.kbE]
theorem sameL.sm {σ σ' : mS} (h : sameL σ σ') (r : Nat) : smR σ' r = smR σ r := by
  unfold smR
  congr 1
  funext x
  rw [h.inE, h.kbE]
theorem sameL.kp {σ σ' : mS} (h : sameL σ σ') : kpR σ' = kpR σ := by
  unfold kpR
  rw [h.hd, h.sf, kfT_cong h.sm]
theorem sameL.law {σ σ' : mS} (h : sameL σ σ') : lawB σ' = lawB σ := by
  funext x
  unfold lawB
  rw [h.inE, h.kbE, h.kp]
theorem sameL.laid {σ σ' : mS} (h : sameL σ σ') {I : Nat → Int32} {V : Nat → Nat → Int32} (hl : Laid σ I V) : Laid σ' I V := by
  unfold Laid lwL at *
  rw [h.sf, h.kp, h.law]
  refine ⟨fun s hs => ?_, hl.2⟩
  rw [h.tm]
  exact hl.1 s hs
theorem sameL.lay {σ σ' : mS} (h : sameL σ σ') {I : Nat → Int32} {V : Nat → Nat → Int32} (hl : LayI σ I V) : LayI σ' I V := hl.imp id (fun q => ⟨q.1, h.laid q.2⟩)
/-- what laying needs of the reference's parts -/
theorem LayI.of {σ : mS} {I I' : Nat → Int32} {V V' : Nat → Nat → Int32} (h : LayI σ I V) (hI : ∀ k, k = 5 ∨ k = 7 ∨ k = 8 ∨ k = 11 → I' k = I k) (hV : ∀ k, k = 6 ∨ k = 9 ∨ k = 10 → V' k = V k) : LayI σ I' V' := by
  unfold LayI Laid at *
  rw [hI 5 (by omega), hI 7 (by omega), hI 8 (by omega), hI 11 (by omega), hV 6 (by omega), hV 9 (by omega), hV 10 (by omega)]
  exact h
/-- a row drawn, noted -/
def nwB (σ : mS) (x k : Nat) : Bool := decide (mu σ < 16) && !exB (fun i => decide (mU σ i = x)) k
def ndT (σ : mS) (x f : Nat) : Nat := if mF σ f 2 = 1 then mF σ f 3 ||| 2 ^ vl x f else 0
def ndS (σ : mS) (x : Nat) : mS := (mn σ, fun f j => if j = 3 ∧ mF σ f 2 = 1 then mF σ f 3 ||| 2 ^ vl x f else mF σ f j, mW σ, mO σ, mK σ, mR σ, x + 1, if nwB σ x (mu σ) = true then mu σ + 1 else mu σ, if nwB σ x (mu σ) = true then (fun i => if i = mu σ then x else mU σ i) else mU σ)
theorem ndS_F3 {σ : mS} (hw : wf σ) (x : Nat) {f : Nat} (hf : f < 4) : mF (ndS σ x) f 3 = ndT σ x f := by
  show (if 3 = 3 ∧ mF σ f 2 = 1 then mF σ f 3 ||| 2 ^ vl x f else mF σ f 3) = _
  unfold ndT
  obtain ⟨-, -, a, -, b⟩ := hw.2.1 f hf
  by_cases h : mF σ f 2 = 1
  · rw [if_pos ⟨rfl, h⟩, if_pos h]
  · rw [if_neg (fun q => h q.2), if_neg h]
    exact b (by omega)
theorem ndS_Fn (σ : mS) (x f : Nat) {j : Nat} (h : j ≠ 3) : mF (ndS σ x) f j = mF σ f j := if_neg (fun q => h q.1)
theorem ndT_lt {σ : mS} (hw : wf σ) (x : Nat) {f : Nat} (hf : f < 4) : ndT σ x f < 256 := by
  obtain ⟨-, -, -, a, -⟩ := hw.2.1 f hf
  unfold ndT
  split
  · exact Nat.or_lt_two_pow (n := 8) a (Nat.pow_lt_pow_right (by decide) (vl_lt x f))
  · omega
theorem ndS_wf {σ : mS} (hw : wf σ) {x : Nat} (hx : x < 4096) : wf (ndS σ x) := by
  have hw' := hw
  obtain ⟨w1, w2, w3, w4, w5, w6, w7, w8, w9, w10, w11⟩ := hw
  refine ⟨w1, fun f hf => ?_, w3, fun f hf hn => ⟨fun j hj => ?_, (w4 f hf hn).2⟩, w5, w6, w7, w8, hx, ?_, fun i hi => ?_⟩
  · obtain ⟨a, b, c, d, e⟩ := w2 f hf
    rw [ndS_Fn σ x f (by omega), ndS_Fn σ x f (by omega), ndS_Fn σ x f (by omega), ndS_F3 hw' x hf]
    refine ⟨a, b, c, ndT_lt hw' x hf, fun h => ?_⟩
    unfold ndT
    rw [if_neg (by omega)]
  · have hn : mn σ ≤ f := hn
    by_cases h : j = 3
    · subst h
      rw [ndS_F3 hw' x hf]
      unfold ndT
      rw [if_neg (by rw [(w4 f hf hn).1 2 (by omega)]; omega)]
    · rw [ndS_Fn σ x f h]
      exact (w4 f hf hn).1 j hj
  · show (if nwB σ x (mu σ) = true then mu σ + 1 else mu σ) ≤ 16
    split
    · rename_i h
      unfold nwB at h
      rw [Bool.and_eq_true, decide_eq_true_eq] at h
      omega
    · exact w10
  · show (if nwB σ x (mu σ) = true then (fun i => if i = mu σ then x else mU σ i) else mU σ) i < 4096
    have hi : i < (if nwB σ x (mu σ) = true then mu σ + 1 else mu σ) := hi
    split
    · rename_i h
      rw [if_pos h] at hi
      show (if i = mu σ then x else mU σ i) < 4096
      split
      · exact hx
      · exact w11 i (by omega)
    · rename_i h
      rw [if_neg h] at hi
      exact w11 i hi
theorem ndS_L (σ : mS) (x : Nat) : sameL σ (ndS σ x) := ⟨fun f j hj => ndS_Fn σ x f (by omega), rfl, rfl⟩
/-- the reference's array, k fields noted -/
def ndA (σ : mS) (a : Nat → Int32) (x : Nat) : Nat → Nat → Int32
  | 0 => a
  | k + 1 => upd (upd (ndA σ a x k) (1 + 13 * k + 4) (nI (vl x k))) (1 + 13 * k + 3) (nI (ndT σ x k))
theorem ndA_out (σ : mS) (a : Nat → Int32) (x : Nat) {j : Nat} : ∀ k, (∀ i, i < k → j ≠ 1 + 13 * i + 4 ∧ j ≠ 1 + 13 * i + 3) → ndA σ a x k j = a j
  | 0, _ => rfl
  | k + 1, h => by
    rw [ndA, u_n _ _ (h k (by omega)).2, u_n _ _ (h k (by omega)).1]
    exact ndA_out σ a x k (fun i hi => h i (by omega))
theorem ndA_in (σ : mS) (a : Nat → Int32) (x : Nat) {f : Nat} : ∀ k, f < k → ndA σ a x k (1 + 13 * f + 4) = nI (vl x f) ∧ ndA σ a x k (1 + 13 * f + 3) = nI (ndT σ x f)
  | 0, h => absurd h (Nat.not_lt_zero f)
  | k + 1, h => by
    by_cases e : f = k
    · subst e
      rw [ndA, u_s, u_n _ _ (by omega), u_s]
      exact ⟨rfl, rfl⟩
    · have ih := ndA_in σ a x k (f := f) (by omega)
      rw [ndA, u_n _ _ (by omega), u_n _ _ (by omega), u_n _ _ (by omega), u_n _ _ (by omega)]
      exact ih
/-- the array when all is noted -/
def nfA (σ : mS) (a : Nat → Int32) (x : Nat) : Nat → Int32 := if nwB σ x (mu σ) = true then upd (upd (ndA σ a x (mn σ)) (99 + mu σ) (nI x)) 98 (nI (mu σ + 1)) else ndA σ a x (mn σ)
theorem nfA_rp {σ : mS} (hw : wf σ) {a : Nat → Int32} (hr : rpA σ a) {x : Nat} (hx : x < 4096) : rpA (ndS σ x) (nfA σ a x) := by
  have w1 := hw.1
  have w7 := hw.2.2.2.2.2.2.1
  have w10 := hw.2.2.2.2.2.2.2.2.2.1
  obtain ⟨r0, r1, r2, r3, r5, r6, r7, r8, r9, r10⟩ := hr
  have hout : ∀ j, (j = 0 ∨ 53 ≤ j ∨ ∃ f i, f < 4 ∧ j = 1 + 13 * f + i ∧ (i < 3 ∨ (5 ≤ i ∧ i < 13))) → ndA σ a x (mn σ) j = a j := by
    intro j hj
    apply ndA_out
    intro i hi
    rcases hj with h | h | ⟨f, i', h1, h2, h3⟩ <;> omega
  have hlow : ∀ j, j < 98 → nfA σ a x j = ndA σ a x (mn σ) j := by
    intro j hj
    unfold nfA
    split
    · rw [u_n _ _ (by omega), u_n _ _ (by omega)]
    · rfl
  refine ⟨?_, fun f j hf hj => ?_, fun f hf => ?_, fun f v hf hv => ?_, fun p hp1 => ?_, ?_, fun k i hk hi => ?_, fun k hk => ?_, ?_, fun i hi => ?_⟩
  · rw [hlow _ (by omega), hout _ (by omega)]; exact r0
  · have hf : f < mn σ := hf
    rw [hlow _ (by omega)]
    by_cases h : j = 3
    · subst h
      rw [ndS_F3 hw x (by omega)]
      exact (ndA_in σ a x (mn σ) hf).2
    · rw [ndS_Fn σ x f h, hout _ (Or.inr (Or.inr ⟨f, j, by omega, rfl, by omega⟩))]
      exact r1 f j hf hj
  · have hf : f < mn σ := hf
    rw [hlow _ (by omega)]
    show _ = if x + 1 = 0 then Int32.ofInt (-1) else nI (vl (x + 1 - 1) f)
    rw [if_neg (by omega), Nat.add_sub_cancel]
    exact (ndA_in σ a x (mn σ) hf).1
  · have hf : f < mn σ := hf
    rw [hlow _ (by omega), hout _ (Or.inr (Or.inr ⟨f, 5 + v, by omega, rfl, by omega⟩))]
    exact r3 f v hf hv
  · have hp1 : p < mn σ := hp1
    rw [hlow _ (by omega), hout _ (by omega)]
    exact r5 p hp1
  · rw [hlow _ (by omega), hout _ (by omega)]; exact r6
  · have hk : k < mK σ := hk
    rw [hlow _ (by omega), hout _ (by omega)]
    exact r7 k i hk hi
  · have hk : k < mK σ := hk
    rw [hlow _ (by omega), hout _ (by omega)]
    exact r8 k hk
  · show nfA σ a x 98 = nI (if nwB σ x (mu σ) = true then mu σ + 1 else mu σ)
    unfold nfA
    split
    · rw [u_s]
    · rw [hout _ (by omega)]; exact r9
  · have hi : i < (if nwB σ x (mu σ) = true then mu σ + 1 else mu σ) := hi
    show nfA σ a x (99 + i) = nI ((if nwB σ x (mu σ) = true then (fun i => if i = mu σ then x else mU σ i) else mU σ) i)
    unfold nfA
    split
    · rename_i h
      rw [if_pos h] at hi
      show _ = nI (if i = mu σ then x else mU σ i)
      rw [u_n _ _ (by omega)]
      by_cases e : i = mu σ
      · subst e
        rw [u_s, if_pos rfl]
      · rw [u_n _ _ (by omega), if_neg e, hout _ (by omega)]
        exact r10 i (by omega)
    · rename_i h
      rw [if_neg h] at hi
      rw [hout _ (by omega)]
      exact r10 i hi
section
variable {q : Nat × (Nat → Int32)} {S : Nat → xSt} {P : Int32 × (Nat → Nat)} {A : (Nat → Int64) × Int32 × Int32 × (Nat → Int64) × (Nat → Nat → Int64)} {D : (Nat → Int64) × Int64} {K : Nat → Int64} {X : Int32 × Int32 × Int32 × (Nat → Int32) × (Nat → Int32)} {E Z : Nat → Int32} {I : Nat → Int32} {J : Nat → Int64} {V : Nat → Nat → Int32}
set_option maxRecDepth 100000 in
theorem t_dd_84 {σ : mS} (hw : wf σ) {a : Nat → Int32} (hr : rpA σ a) {x t : Nat} (hx : x < 4096) (ht : t < 4096) (h6 : V 6 t = nI x) {z1 z2 : Int32} {z5 : Option Value} : ∃ z5' : Option Value, den 169 84 [some (.ref 163), some (.int z1), some (.int z2), some (.int (nI t)), some (.int (nI 0)), z5] [] (hp q S P A D K X E Z I J (vf_upd V 0 a)) = den 169 156 [some (.ref 163), some (.int z1), some (.int z2), some (.int (nI t)), some (.int (nI (mn σ))), z5'] [] (hp q S P A D K X E Z I J (vf_upd V 0 (ndA σ a x (mn σ)))) := by
  have w1 := hw.1
  obtain ⟨r0, r1, -⟩ := hr
  have go : ∀ (j k : Nat) (z5 : Option Value), k + j = mn σ → ∃ z5' : Option Value, den 169 84 [some (.ref 163), some (.int z1), some (.int z2), some (.int (nI t)), some (.int (nI k)), z5] [] (hp q S P A D K X E Z I J (vf_upd V 0 (ndA σ a x k))) = den 169 156 [some (.ref 163), some (.int z1), some (.int z2), some (.int (nI t)), some (.int (nI (mn σ))), z5'] [] (hp q S P A D K X E Z I J (vf_upd V 0 (ndA σ a x (mn σ)))) := by
    intro j
    induction j with
    | zero =>
      intro k z5 hj
      have hk : k = mn σ := by omega
      subst hk
      refine ⟨z5, ?_⟩
      have e0 : ndA σ a x (mn σ) 0 = nI (mn σ) := by rw [ndA_out _ _ _ _ (fun i hi => by omega)]; exact r0
      rw [D169_84]
      simp (maxSteps := 2000000) (disch := omega) only [e_inl, e_goto, e_fall, e_if, e_icmp, e_iret, e_zret, e_lret, e_vret, e_call0_0, e_call0_1, e_call0_2, e_call0_3, e_call0_4, e_call1_0, e_call1_1, e_call1_2, e_call1_3, e_call1_4, e_call2_0, e_call2_1, e_call2_2, e_call2_3, e_call2_4, e_call3_0, e_call3_1, e_call3_2, e_call3_3, e_call3_4, e_call4_0, e_call4_1, e_call4_2, e_call4_3, e_call4_4, e_call5_0, e_call5_1, e_call5_2, e_call5_3, e_call5_4, e_call6_0, e_call6_1, e_call6_2, e_call6_3, e_call6_4, xP, xld, xst1, xst2, xis2, xii, xid, xll, xlv, xls, xlc, xil, xli, xrd, xdup, xdup2, xc1, xpu, c_eq, c_ne, c_lt, c_ge, c_gt, c_le, Option.bind_some, Option.map_some, List.length_nil, List.length_cons, Nat.reduceAdd, Nat.reduceLeDiff, Int.reduceToNat, Bool.and_self, Bool.false_eq_true, if_true, if_false, o_m, g_m_0, g_m_1, g_m_2, g_m_3, g_m_4, g_m_5, g_m_6, g_m_7, g_m_8, g_m_9, g_m_10, g_m_11, g_m_12, g_m_13, g_m_14, g_m_15, g_m_16, g_m_17, g_m_18, g_m_19, g_m_20, g_m_21, p_m_3, p_m_7, p_m_8, p_m_11, p_m_13, p_m_15, p_m_16, p_m_17, p_m_18, p_m_21, p_m_5_0, p_m_5_1, r_m0, s_m0, r_m1, s_m1, r_m2, s_m2, r_m4, s_m4, r_m6, s_m6, r_m9, s_m9, r_m10, s_m10, r_m12, s_m12, r_m14, s_m14, r_m19, s_m19, r_m20, s_m20, Nat.reduceEqDiff, decide_true, decide_false, Bool.true_and, Bool.false_and, Bool.and_true, Bool.and_false, zB_tt, zB_ff, not_false_eq_true, not_true_eq_false, n_lit, n_mul, nI_add, n_sub, x_in, nI_clamp, nI_ltI, nI_leI, nI_eq, and_self, true_and, and_true, t_fields, vu_s, e0, Nat.le_refl]
    | succ j ih =>
      intro k z5 hj
      obtain ⟨z5', e⟩ := ih (k + 1) (some (.int (nI (vl x k)))) (by omega)
      refine ⟨z5', Eq.trans ?_ e⟩
      have hk : k < mn σ := by omega
      have hkn : ¬ mn σ ≤ k := by omega
      have e0 : ndA σ a x k 0 = nI (mn σ) := by rw [ndA_out _ _ _ _ (fun i hi => by omega)]; exact r0
      have e2 : ndA σ a x k (1 + 13 * k + 2) = nI (mF σ k 2) := by rw [ndA_out _ _ _ _ (fun i hi => by omega)]; exact r1 k 2 hk (by omega)
      have e3 : ndA σ a x k (1 + 13 * k + 3) = nI (mF σ k 3) := by rw [ndA_out _ _ _ _ (fun i hi => by omega)]; exact r1 k 3 hk (by omega)
      obtain ⟨-, -, f2, f3, -⟩ := hw.2.1 k (by omega)
      have e5 : ndA σ a x (k + 1) = upd (upd (ndA σ a x k) (1 + 13 * k + 4) (nI (vl x k))) (1 + 13 * k + 3) (nI (ndT σ x k)) := rfl
      rw [e5]
      have hv := vl_lt x k
      have ep := n_pow hv
      generalize ndA σ a x k = y at e0 e2 e3 ⊢
      have e2' : upd y (1 + 13 * k + 4) (nI (vl x k)) (1 + 13 * k + 2) = nI (mF σ k 2) := by rw [u_n _ _ (by omega)]; exact e2
      have e3' : upd y (1 + 13 * k + 4) (nI (vl x k)) (1 + 13 * k + 3) = nI (mF σ k 3) := by rw [u_n _ _ (by omega)]; exact e3
      have hn6 : vf_upd V 0 y 6 = V 6 := vu_n _ _ (by omega)
      rw [D169_84]
      by_cases h : mF σ k 2 = 1
      · have e6 : ndT σ x k = mF σ k 3 ||| 2 ^ vl x k := if_pos h
        rw [e6]
        rw [h] at e2'
        simp (maxSteps := 2000000) (disch := omega) only [e_inl, e_goto, e_fall, e_if, e_icmp, e_iret, e_zret, e_lret, e_vret, e_call0_0, e_call0_1, e_call0_2, e_call0_3, e_call0_4, e_call1_0, e_call1_1, e_call1_2, e_call1_3, e_call1_4, e_call2_0, e_call2_1, e_call2_2, e_call2_3, e_call2_4, e_call3_0, e_call3_1, e_call3_2, e_call3_3, e_call3_4, e_call4_0, e_call4_1, e_call4_2, e_call4_3, e_call4_4, e_call5_0, e_call5_1, e_call5_2, e_call5_3, e_call5_4, e_call6_0, e_call6_1, e_call6_2, e_call6_3, e_call6_4, xP, xld, xst1, xst2, xis2, xii, xid, xll, xlv, xls, xlc, xil, xli, xrd, xdup, xdup2, xc1, xpu, c_eq, c_ne, c_lt, c_ge, c_gt, c_le, Option.bind_some, Option.map_some, List.length_nil, List.length_cons, Nat.reduceAdd, Nat.reduceLeDiff, Int.reduceToNat, Bool.and_self, Bool.false_eq_true, if_true, if_false, D169_147, o_m, g_m_0, g_m_1, g_m_2, g_m_3, g_m_4, g_m_5, g_m_6, g_m_7, g_m_8, g_m_9, g_m_10, g_m_11, g_m_12, g_m_13, g_m_14, g_m_15, g_m_16, g_m_17, g_m_18, g_m_19, g_m_20, g_m_21, p_m_3, p_m_7, p_m_8, p_m_11, p_m_13, p_m_15, p_m_16, p_m_17, p_m_18, p_m_21, p_m_5_0, p_m_5_1, r_m0, s_m0, r_m1, s_m1, r_m2, s_m2, r_m4, s_m4, r_m6, s_m6, r_m9, s_m9, r_m10, s_m10, r_m12, s_m12, r_m14, s_m14, r_m19, s_m19, r_m20, s_m20, Nat.reduceEqDiff, decide_true, decide_false, Bool.true_and, Bool.false_and, Bool.and_true, Bool.and_false, zB_tt, zB_ff, not_false_eq_true, not_true_eq_false, n_lit, n_mul, nI_add, n_sub, x_in, nI_clamp, nI_ltI, nI_leI, nI_eq, and_self, true_and, and_true, t_fields, vu_s, vu_vu, e0, hkn, hn6, h6, t_valueOf, t_put, t_ofField, e2', e3', ep, fa_or]
      · have e6 : ndT σ x k = 0 := if_neg h
        rw [e6]
        simp (maxSteps := 2000000) (disch := omega) only [e_inl, e_goto, e_fall, e_if, e_icmp, e_iret, e_zret, e_lret, e_vret, e_call0_0, e_call0_1, e_call0_2, e_call0_3, e_call0_4, e_call1_0, e_call1_1, e_call1_2, e_call1_3, e_call1_4, e_call2_0, e_call2_1, e_call2_2, e_call2_3, e_call2_4, e_call3_0, e_call3_1, e_call3_2, e_call3_3, e_call3_4, e_call4_0, e_call4_1, e_call4_2, e_call4_3, e_call4_4, e_call5_0, e_call5_1, e_call5_2, e_call5_3, e_call5_4, e_call6_0, e_call6_1, e_call6_2, e_call6_3, e_call6_4, xP, xld, xst1, xst2, xis2, xii, xid, xll, xlv, xls, xlc, xil, xli, xrd, xdup, xdup2, xc1, xpu, c_eq, c_ne, c_lt, c_ge, c_gt, c_le, Option.bind_some, Option.map_some, List.length_nil, List.length_cons, Nat.reduceAdd, Nat.reduceLeDiff, Int.reduceToNat, Bool.and_self, Bool.false_eq_true, if_true, if_false, D169_146, D169_147, o_m, g_m_0, g_m_1, g_m_2, g_m_3, g_m_4, g_m_5, g_m_6, g_m_7, g_m_8, g_m_9, g_m_10, g_m_11, g_m_12, g_m_13, g_m_14, g_m_15, g_m_16, g_m_17, g_m_18, g_m_19, g_m_20, g_m_21, p_m_3, p_m_7, p_m_8, p_m_11, p_m_13, p_m_15, p_m_16, p_m_17, p_m_18, p_m_21, p_m_5_0, p_m_5_1, r_m0, s_m0, r_m1, s_m1, r_m2, s_m2, r_m4, s_m4, r_m6, s_m6, r_m9, s_m9, r_m10, s_m10, r_m12, s_m12, r_m14, s_m14, r_m19, s_m19, r_m20, s_m20, Nat.reduceEqDiff, decide_true, decide_false, Bool.true_and, Bool.false_and, Bool.and_true, Bool.and_false, zB_tt, zB_ff, not_false_eq_true, not_true_eq_false, n_lit, n_mul, nI_add, n_sub, x_in, nI_clamp, nI_ltI, nI_leI, nI_eq, and_self, true_and, and_true, t_fields, vu_s, vu_vu, e0, hkn, hn6, h6, t_valueOf, t_put, t_ofField, e2', h]
  exact go (mn σ) 0 z5 (by omega)
set_option maxRecDepth 100000 in
theorem t_dd_178 {σ : mS} (hw : wf σ) {x t : Nat} (hx : x < 4096) (ht : t < 4096) (h6 : V 6 t = nI x) (h98 : V 0 98 = nI (mu σ)) (hU : ∀ i, i < mu σ → V 0 (99 + i) = nI (mU σ i)) {z1 z2 : Int32} : den 169 178 [some (.ref 163), some (.int z1), some (.int z2), some (.int (nI t)), some (.int (zB (decide (mu σ < 16)))), some (.int (nI 0))] [] (hp q S P A D K X E Z I J V) = den 169 227 [some (.ref 163), some (.int z1), some (.int z2), some (.int (nI t)), some (.int (zB (nwB σ x (mu σ)))), some (.int (nI (mu σ)))] [] (hp q S P A D K X E Z I J V) := by
  have w10 := hw.2.2.2.2.2.2.2.2.2.1
  have w11 := hw.2.2.2.2.2.2.2.2.2.2
  have hl := x_loop (i := 169) (pc := 178) (fun k => [some (.ref 163), some (.int z1), some (.int z2), some (.int (nI t)), some (.int (zB (nwB σ x k))), some (.int (nI k))]) (fun _ => (hp q S P A D K X E Z I J V)) (mu σ) (fun k hk => by
    rw [D169_178]
    have h1 : ¬ mu σ ≤ k := by omega
    have eU := hU k hk
    have hlt := w11 k hk
    have es : nwB σ x (k + 1) = (nwB σ x k && !decide (mU σ k = x)) := by
      unfold nwB
      rw [exB, Bool.not_or, Bool.and_assoc]
    rw [es]
    cases hb : nwB σ x k
    · simp (maxSteps := 2000000) (disch := omega) only [e_inl, e_goto, e_fall, e_if, e_icmp, e_iret, e_zret, e_lret, e_vret, e_call0_0, e_call0_1, e_call0_2, e_call0_3, e_call0_4, e_call1_0, e_call1_1, e_call1_2, e_call1_3, e_call1_4, e_call2_0, e_call2_1, e_call2_2, e_call2_3, e_call2_4, e_call3_0, e_call3_1, e_call3_2, e_call3_3, e_call3_4, e_call4_0, e_call4_1, e_call4_2, e_call4_3, e_call4_4, e_call5_0, e_call5_1, e_call5_2, e_call5_3, e_call5_4, e_call6_0, e_call6_1, e_call6_2, e_call6_3, e_call6_4, xP, xld, xst1, xst2, xis2, xii, xid, xll, xlv, xls, xlc, xil, xli, xrd, xdup, xdup2, xc1, xpu, c_eq, c_ne, c_lt, c_ge, c_gt, c_le, Option.bind_some, Option.map_some, List.length_nil, List.length_cons, Nat.reduceAdd, Nat.reduceLeDiff, Int.reduceToNat, Bool.and_self, Bool.false_eq_true, if_true, if_false, D169_218, D169_219, o_m, g_m_0, g_m_1, g_m_2, g_m_3, g_m_4, g_m_5, g_m_6, g_m_7, g_m_8, g_m_9, g_m_10, g_m_11, g_m_12, g_m_13, g_m_14, g_m_15, g_m_16, g_m_17, g_m_18, g_m_19, g_m_20, g_m_21, p_m_3, p_m_7, p_m_8, p_m_11, p_m_13, p_m_15, p_m_16, p_m_17, p_m_18, p_m_21, p_m_5_0, p_m_5_1, r_m0, s_m0, r_m1, s_m1, r_m2, s_m2, r_m4, s_m4, r_m6, s_m6, r_m9, s_m9, r_m10, s_m10, r_m12, s_m12, r_m14, s_m14, r_m19, s_m19, r_m20, s_m20, Nat.reduceEqDiff, decide_true, decide_false, Bool.true_and, Bool.false_and, Bool.and_true, Bool.and_false, zB_tt, zB_ff, not_false_eq_true, not_true_eq_false, n_lit, n_mul, nI_add, n_sub, x_in, nI_clamp, nI_ltI, nI_leI, nI_eq, and_self, true_and, and_true, h98, h1, n_0]
    · by_cases he : mU σ k = x
      · rw [he] at eU
        simp (maxSteps := 2000000) (disch := omega) only [e_inl, e_goto, e_fall, e_if, e_icmp, e_iret, e_zret, e_lret, e_vret, e_call0_0, e_call0_1, e_call0_2, e_call0_3, e_call0_4, e_call1_0, e_call1_1, e_call1_2, e_call1_3, e_call1_4, e_call2_0, e_call2_1, e_call2_2, e_call2_3, e_call2_4, e_call3_0, e_call3_1, e_call3_2, e_call3_3, e_call3_4, e_call4_0, e_call4_1, e_call4_2, e_call4_3, e_call4_4, e_call5_0, e_call5_1, e_call5_2, e_call5_3, e_call5_4, e_call6_0, e_call6_1, e_call6_2, e_call6_3, e_call6_4, xP, xld, xst1, xst2, xis2, xii, xid, xll, xlv, xls, xlc, xil, xli, xrd, xdup, xdup2, xc1, xpu, c_eq, c_ne, c_lt, c_ge, c_gt, c_le, Option.bind_some, Option.map_some, List.length_nil, List.length_cons, Nat.reduceAdd, Nat.reduceLeDiff, Int.reduceToNat, Bool.and_self, Bool.false_eq_true, if_true, if_false, D169_218, D169_219, o_m, g_m_0, g_m_1, g_m_2, g_m_3, g_m_4, g_m_5, g_m_6, g_m_7, g_m_8, g_m_9, g_m_10, g_m_11, g_m_12, g_m_13, g_m_14, g_m_15, g_m_16, g_m_17, g_m_18, g_m_19, g_m_20, g_m_21, p_m_3, p_m_7, p_m_8, p_m_11, p_m_13, p_m_15, p_m_16, p_m_17, p_m_18, p_m_21, p_m_5_0, p_m_5_1, r_m0, s_m0, r_m1, s_m1, r_m2, s_m2, r_m4, s_m4, r_m6, s_m6, r_m9, s_m9, r_m10, s_m10, r_m12, s_m12, r_m14, s_m14, r_m19, s_m19, r_m20, s_m20, Nat.reduceEqDiff, decide_true, decide_false, Bool.true_and, Bool.false_and, Bool.and_true, Bool.and_false, zB_tt, zB_ff, not_false_eq_true, not_true_eq_false, n_lit, n_mul, nI_add, n_sub, x_in, nI_clamp, nI_ltI, nI_leI, nI_eq, and_self, true_and, and_true, h98, h1, n_0, Nat.one_ne_zero, eU, h6, he, Bool.not_true]
      · simp (maxSteps := 2000000) (disch := omega) only [e_inl, e_goto, e_fall, e_if, e_icmp, e_iret, e_zret, e_lret, e_vret, e_call0_0, e_call0_1, e_call0_2, e_call0_3, e_call0_4, e_call1_0, e_call1_1, e_call1_2, e_call1_3, e_call1_4, e_call2_0, e_call2_1, e_call2_2, e_call2_3, e_call2_4, e_call3_0, e_call3_1, e_call3_2, e_call3_3, e_call3_4, e_call4_0, e_call4_1, e_call4_2, e_call4_3, e_call4_4, e_call5_0, e_call5_1, e_call5_2, e_call5_3, e_call5_4, e_call6_0, e_call6_1, e_call6_2, e_call6_3, e_call6_4, xP, xld, xst1, xst2, xis2, xii, xid, xll, xlv, xls, xlc, xil, xli, xrd, xdup, xdup2, xc1, xpu, c_eq, c_ne, c_lt, c_ge, c_gt, c_le, Option.bind_some, Option.map_some, List.length_nil, List.length_cons, Nat.reduceAdd, Nat.reduceLeDiff, Int.reduceToNat, Bool.and_self, Bool.false_eq_true, if_true, if_false, D169_218, D169_219, o_m, g_m_0, g_m_1, g_m_2, g_m_3, g_m_4, g_m_5, g_m_6, g_m_7, g_m_8, g_m_9, g_m_10, g_m_11, g_m_12, g_m_13, g_m_14, g_m_15, g_m_16, g_m_17, g_m_18, g_m_19, g_m_20, g_m_21, p_m_3, p_m_7, p_m_8, p_m_11, p_m_13, p_m_15, p_m_16, p_m_17, p_m_18, p_m_21, p_m_5_0, p_m_5_1, r_m0, s_m0, r_m1, s_m1, r_m2, s_m2, r_m4, s_m4, r_m6, s_m6, r_m9, s_m9, r_m10, s_m10, r_m12, s_m12, r_m14, s_m14, r_m19, s_m19, r_m20, s_m20, Nat.reduceEqDiff, decide_true, decide_false, Bool.true_and, Bool.false_and, Bool.and_true, Bool.and_false, zB_tt, zB_ff, not_false_eq_true, not_true_eq_false, n_lit, n_mul, nI_add, n_sub, x_in, nI_clamp, nI_ltI, nI_leI, nI_eq, and_self, true_and, and_true, h98, h1, n_0, Nat.one_ne_zero, eU, h6, he, Bool.not_false])
  have e0 : nwB σ x 0 = decide (mu σ < 16) := by
    unfold nwB
    rw [exB, Bool.not_false, Bool.and_true]
  rw [e0] at hl
  rw [hl, D169_178]
  simp (maxSteps := 2000000) (disch := omega) only [e_inl, e_goto, e_fall, e_if, e_icmp, e_iret, e_zret, e_lret, e_vret, e_call0_0, e_call0_1, e_call0_2, e_call0_3, e_call0_4, e_call1_0, e_call1_1, e_call1_2, e_call1_3, e_call1_4, e_call2_0, e_call2_1, e_call2_2, e_call2_3, e_call2_4, e_call3_0, e_call3_1, e_call3_2, e_call3_3, e_call3_4, e_call4_0, e_call4_1, e_call4_2, e_call4_3, e_call4_4, e_call5_0, e_call5_1, e_call5_2, e_call5_3, e_call5_4, e_call6_0, e_call6_1, e_call6_2, e_call6_3, e_call6_4, xP, xld, xst1, xst2, xis2, xii, xid, xll, xlv, xls, xlc, xil, xli, xrd, xdup, xdup2, xc1, xpu, c_eq, c_ne, c_lt, c_ge, c_gt, c_le, Option.bind_some, Option.map_some, List.length_nil, List.length_cons, Nat.reduceAdd, Nat.reduceLeDiff, Int.reduceToNat, Bool.and_self, Bool.false_eq_true, if_true, if_false, o_m, g_m_0, g_m_1, g_m_2, g_m_3, g_m_4, g_m_5, g_m_6, g_m_7, g_m_8, g_m_9, g_m_10, g_m_11, g_m_12, g_m_13, g_m_14, g_m_15, g_m_16, g_m_17, g_m_18, g_m_19, g_m_20, g_m_21, p_m_3, p_m_7, p_m_8, p_m_11, p_m_13, p_m_15, p_m_16, p_m_17, p_m_18, p_m_21, p_m_5_0, p_m_5_1, r_m0, s_m0, r_m1, s_m1, r_m2, s_m2, r_m4, s_m4, r_m6, s_m6, r_m9, s_m9, r_m10, s_m10, r_m12, s_m12, r_m14, s_m14, r_m19, s_m19, r_m20, s_m20, Nat.reduceEqDiff, decide_true, decide_false, Bool.true_and, Bool.false_and, Bool.and_true, Bool.and_false, zB_tt, zB_ff, not_false_eq_true, not_true_eq_false, n_lit, n_mul, nI_add, n_sub, x_in, nI_clamp, nI_ltI, nI_leI, nI_eq, and_self, true_and, and_true, h98, Nat.le_refl]
end
