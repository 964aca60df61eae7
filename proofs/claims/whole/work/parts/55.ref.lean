/-! ===== all that is: state, states kept, text, refusals; the reference holds it ===== -/
abbrev mM : Type := mS × Nat × (Nat → mS) × tx × (Nat → Int32)
/-- one state more kept, the oldest gone if they are four -/
def psN (n : Nat) : Nat := if n < 4 then n + 1 else 4
def psP (n : Nat) (pp : Nat → mS) (σ : mS) : Nat → mS := fun j => if n < 4 then (if j = n then σ else pp j) else if j = 3 then σ else pp (j + 1)
/-- a refusal counted -/
def ec (a : Int32) : Nat := if a = Int32.ofInt (-2) then 0 else if a = Int32.ofInt (-3) then 1 else 2
def inc (e : Nat → Int32) (k : Nat) : Nat → Int32 := upd e k (e k + nI 1)
def okA (a : Int32) : Prop := a = Int32.ofInt (-2) ∨ a = Int32.ofInt (-3) ∨ a = Int32.ofInt (-4) ∨ ∃ r, r < 2 ^ 31 ∧ a = nI r
/-- how a call that leaves a state ends -/
def fin (M : mM) (d : Int32 × mS) : mM := if 0 ≤ d.1 then (d.2, psN M.2.1, psP M.2.1 M.2.2.1 M.1, M.2.2.2.1, M.2.2.2.2) else (d.2, M.2.1, M.2.2.1, M.2.2.2.1, inc M.2.2.2.2 (ec d.1))
def bad (M : mM) (k : Nat) : mM := (M.1, M.2.1, M.2.2.1, M.2.2.2.1, inc M.2.2.2.2 k)
def RefI (M : mM) (I : Nat → Int32) (V : Nat → Nat → Int32) : Prop := wf M.1 ∧ rpA M.1 (V 0) ∧ LayI M.1 I V ∧ M.2.1 ≤ 4 ∧ I 3 = nI M.2.1 ∧ (∀ j, j < M.2.1 → wf (M.2.2.1 j) ∧ rpA (M.2.2.1 j) (fun k => V 2 (115 * j + k))) ∧ rpT M.2.2.2.1 I V ∧ ∀ k, k < 3 → V 4 k = M.2.2.2.2 k
theorem rpA_cong {σ : mS} (hw : wf σ) {a b : Nat → Int32} (h : ∀ j, j < 115 → b j = a j) (hr : rpA σ a) : rpA σ b := by
  have w1 := hw.1
  have w7 := hw.2.2.2.2.2.2.1
  have w10 := hw.2.2.2.2.2.2.2.2.2.1
  obtain ⟨r0, r1, r2, r3, r5, r6, r7, r8, r9, r10⟩ := hr
  refine ⟨?_, fun f j hf hj => ?_, fun f hf => ?_, fun f v hf hv => ?_, fun p hp1 => ?_, ?_, fun k i hk hi => ?_, fun k hk => ?_, ?_, fun i hi => ?_⟩
  · rw [h _ (by omega)]; exact r0
  · rw [h _ (by omega)]; exact r1 f j hf hj
  · rw [h _ (by omega)]; exact r2 f hf
  · rw [h _ (by omega)]; exact r3 f v hf hv
  · rw [h _ (by omega)]; exact r5 p hp1
  · rw [h _ (by omega)]; exact r6
  · rw [h _ (by omega)]; exact r7 k i hk hi
  · rw [h _ (by omega)]; exact r8 k hk
  · rw [h _ (by omega)]; exact r9
  · rw [h _ (by omega)]; exact r10 i hi
theorem okA_neg {a : Int32} (h : okA a) (h0 : ¬ 0 ≤ a) : (a = Int32.ofInt (-2) ∧ ec a = 0) ∨ (a = Int32.ofInt (-3) ∧ ec a = 1) ∨ (a = Int32.ofInt (-4) ∧ ec a = 2) := by
  rcases h with h | h | h | ⟨r, hr, h⟩
  · exact Or.inl ⟨h, by rw [h]; decide⟩
  · exact Or.inr (Or.inl ⟨h, by rw [h]; decide⟩)
  · exact Or.inr (Or.inr ⟨h, by rw [h]; decide⟩)
  · exfalso
    apply h0
    rw [h, n_0]
    exact (nI_leI (by omega) hr).mpr (Nat.zero_le r)
theorem okA_pos {a : Int32} (h : okA a) (h0 : 0 ≤ a) : ∃ r, r < 2 ^ 31 ∧ a = nI r := by
  rcases h with h | h | h | h
  · rw [h] at h0; exact absurd h0 (by decide)
  · rw [h] at h0; exact absurd h0 (by decide)
  · rw [h] at h0; exact absurd h0 (by decide)
  · exact h
theorem dD_ok {σ : mS} (how from_ : Int32) : okA (dD σ how from_).1 := by
  have h4 := fb_ct_le (lawB σ)
  unfold dD
  split
  · split
    · exact Or.inr (Or.inl rfl)
    · rename_i hok h0
      unfold okD at hok
      split
      · refine Or.inr (Or.inr (Or.inr ⟨_, ?_, rfl⟩))
        have := h4 (tgX σ (lawB σ) from_.toNatClampNeg)
        have h5 := fa_first_le (fun x => decide (ch from_.toNatClampNeg (wtW (ttS σ (lawB σ) (mn σ)).1 (ttS σ (lawB σ) (mn σ)).2) < fb_sm (gW (ttS σ (lawB σ) (mn σ)).1 (ttS σ (lawB σ) (mn σ)).2) (x + 1))) 4096
        have h6 : tgX σ (lawB σ) from_.toNatClampNeg ≤ 4096 := h5
        omega
      · refine Or.inr (Or.inr (Or.inr ⟨_, ?_, rfl⟩))
        have := h4 (ioX σ (lawB σ) from_.toNatClampNeg)
        have h5 : ioX σ (lawB σ) from_.toNatClampNeg ≤ 4096 := fa_first_le _ 4096
        omega
  · exact Or.inl rfl
theorem dF_ok {σ : mS} (hw : wf σ) (lo hi : Int32) : okA (dF σ lo hi).1 := by
  have := hw.1
  unfold dF
  split
  · split
    · exact Or.inr (Or.inr (Or.inl rfl))
    · exact Or.inr (Or.inr (Or.inr ⟨mn σ, by omega, rfl⟩))
  · exact Or.inl rfl
theorem dG_ok {σ : mS} (f lo hi : Int32) : okA (dG σ f lo hi).1 := by
  unfold dG
  split
  · rename_i hok
    rw [Bool.and_eq_true] at hok
    obtain ⟨l, h, rfl, rfl, h1, h2⟩ := rng_nat hok.2
    refine Or.inr (Or.inr (Or.inr ⟨_, ?_, rfl⟩))
    rw [nI_clamp (by omega), nI_clamp (by omega)]
    omega
  · exact Or.inl rfl
theorem dW_ok {σ : mS} (hw : wf σ) (f v w : Int32) : okA (dW σ f v w).1 := by
  have := hw.1
  unfold dW
  split
  · rename_i hok
    rw [Bool.and_eq_true, Bool.and_eq_true] at hok
    obtain ⟨g, hg, rfl⟩ := isF_of (by omega) hok.1
    obtain ⟨u, hu, rfl⟩ := inB_of (by decide) hok.2.1
    refine Or.inr (Or.inr (Or.inr ⟨_, ?_, rfl⟩))
    rw [nI_clamp (by omega), nI_clamp (by omega)]
    have := hw.2.2.1 g u (by omega) (by omega)
    omega
  · exact Or.inl rfl
theorem dR_ok {σ : mS} (hw : wf σ) (f z : Int32) : okA (dR σ f z).1 := by
  have := hw.1
  unfold dR
  split
  · rename_i hok
    rw [Bool.and_eq_true] at hok
    obtain ⟨g, hg, rfl⟩ := isF_of (by omega) hok.1
    refine Or.inr (Or.inr (Or.inr ⟨_, ?_, rfl⟩))
    rw [nI_clamp (by omega)]
    have := (hw.2.1 g (by omega)).2.2.1
    omega
  · exact Or.inl rfl
theorem dU_ok {σ : mS} (hw : wf σ) (kd x y c rk : Int32) : okA (dU σ kd x y c rk).1 := by
  have := hw.2.2.2.2.2.2.1
  unfold dU
  split
  · split
    · exact Or.inr (Or.inr (Or.inl rfl))
    · exact Or.inr (Or.inr (Or.inr ⟨mK σ, by omega, rfl⟩))
  · exact Or.inl rfl
theorem dX_ok {σ : mS} (hw : wf σ) (k : Int32) : okA (dX σ k).1 := by
  have := hw.2.2.2.2.2.2.1
  unfold dX
  split
  · exact Or.inr (Or.inr (Or.inr ⟨mK σ - 1, by omega, rfl⟩))
  · exact Or.inl rfl
section
variable {q : Nat × (Nat → Int32)} {S : Nat → xSt} {P : Int32 × (Nat → Nat)} {A : (Nat → Int64) × Int32 × Int32 × (Nat → Int64) × (Nat → Nat → Int64)} {D : (Nat → Int64) × Int64} {K : Nat → Int64} {X : Int32 × Int32 × Int32 × (Nat → Int32) × (Nat → Int32)} {E Z : Nat → Int32} {I : Nat → Int32} {J : Nat → Int64} {V : Nat → Nat → Int32}
/-! the state held is kept -/
set_option maxRecDepth 100000 in
theorem t_pushA {n : Nat} {pp : Nat → mS} {σ : mS} (hn : n ≤ 4) (h3 : I 3 = nI n) (hp1 : ∀ j, j < n → wf (pp j) ∧ rpA (pp j) (fun k => V 2 (115 * j + k))) (hw : wf σ) (hr : rpA σ (V 1)) : ∃ (I' : Nat → Int32) (V' : Nat → Nat → Int32), xcall 114 [.ref 163] (hp q S P A D K X E Z I J V) = some (none, (hp q S P A D K X E Z (I') J (V'))) ∧ I' 3 = nI (psN n) ∧ (∀ j, j < psN n → wf (psP n pp σ j) ∧ rpA (psP n pp σ j) (fun k => V' 2 (115 * j + k))) ∧ (∀ k, k ≠ 3 → I' k = I k) ∧ ∀ k, k ≠ 2 → V' k = V k := by
  by_cases h4 : n < 4
  · refine ⟨_, _, t_push_lt h3 h4, ?_, fun j hj => ?_, fun k hk => u_n _ _ hk, fun k hk => vu_n _ _ hk⟩
    · rw [u_s]; unfold psN; rw [if_pos h4]
    · unfold psN at hj
      rw [if_pos h4] at hj
      unfold psP
      rw [if_pos h4, vu_s]
      by_cases e : j = n
      · subst e
        rw [if_pos rfl]
        exact ⟨hw, rpA_cong hw (fun k hk => by rw [fb_put_in (by omega) (by omega), Nat.add_sub_cancel_left]) hr⟩
      · rw [if_neg e]
        obtain ⟨a, b⟩ := hp1 j (by omega)
        exact ⟨a, rpA_cong a (fun k hk => by rw [fb_put_out (by omega)]) b⟩
  · have e4 : n = 4 := by omega
    subst e4
    refine ⟨_, _, t_push_4 h3, ?_, fun j hj => ?_, fun k hk => by rw [u_n _ _ hk, u_n _ _ hk], fun k hk => vu_n _ _ hk⟩
    · rw [u_s]; rfl
    · have hj : j < 4 := hj
      unfold psP
      rw [if_neg (by omega), vu_s]
      by_cases e : j = 3
      · subst e
        rw [if_pos rfl]
        exact ⟨hw, rpA_cong hw (fun k hk => by rw [fb_put_in (by omega) (by omega), show 115 * 3 + k - 345 = k by omega]) hr⟩
      · rw [if_neg e]
        obtain ⟨a, b⟩ := hp1 (j + 1) (by omega)
        refine ⟨a, rpA_cong a (fun k hk => ?_) b⟩
        rw [fb_put_out (by omega)]
        unfold shiftA
        rw [if_pos (by omega), show 115 * j + k + 115 = 115 * (j + 1) + k by omega]
set_option maxRecDepth 100000 in
theorem t_endsA {n : Nat} {pp : Nat → mS} {σ : mS} {a : Int32} (ha : okA a) (hn : n ≤ 4) (h3 : I 3 = nI n) (hp1 : ∀ j, j < n → wf (pp j) ∧ rpA (pp j) (fun k => V 2 (115 * j + k))) (hw : wf σ) (hr : rpA σ (V 1)) : ∃ (I' : Nat → Int32) (V' : Nat → Nat → Int32), xcall 115 [.ref 163, .int a] (hp q S P A D K X E Z I J V) = some (some (.int a), (hp q S P A D K X E Z (I') J (V'))) ∧ I' 3 = nI (if 0 ≤ a then psN n else n) ∧ (∀ j, j < (if 0 ≤ a then psN n else n) → wf ((if 0 ≤ a then psP n pp σ else pp) j) ∧ rpA ((if 0 ≤ a then psP n pp σ else pp) j) (fun k => V' 2 (115 * j + k))) ∧ (∀ k, k ≠ 3 → I' k = I k) ∧ (∀ k, k ≠ 2 → k ≠ 4 → V' k = V k) ∧ V' 4 = if 0 ≤ a then V 4 else inc (V 4) (ec a) := by
  by_cases h0 : 0 ≤ a
  · obtain ⟨r, hr1, e⟩ := okA_pos ha h0
    obtain ⟨I', V', ep, g1, g2, g3, g4⟩ := t_pushA (q := q) (S := S) (P := P) (A := A) (D := D) (K := K) (X := X) (E := E) (Z := Z) (J := J) hn h3 hp1 hw hr
    refine ⟨I', V', ?_, by rw [if_pos h0]; exact g1, by rw [if_pos h0, if_pos h0]; exact g2, g3, fun k a1 _ => g4 k a1, by rw [if_pos h0]; exact g4 4 (by omega)⟩
    rw [N115 _ _ _ (o_m ..)]
    simp (maxSteps := 2000000) (disch := omega) only [e_inl, e_goto, e_fall, e_if, e_icmp, e_iret, e_zret, e_lret, e_vret, e_call0_0, e_call0_1, e_call0_2, e_call0_3, e_call0_4, e_call1_0, e_call1_1, e_call1_2, e_call1_3, e_call1_4, e_call2_0, e_call2_1, e_call2_2, e_call2_3, e_call2_4, e_call3_0, e_call3_1, e_call3_2, e_call3_3, e_call3_4, e_call4_0, e_call4_1, e_call4_2, e_call4_3, e_call4_4, e_call5_0, e_call5_1, e_call5_2, e_call5_3, e_call5_4, e_call6_0, e_call6_1, e_call6_2, e_call6_3, e_call6_4, xP, xld, xst1, xst2, xis2, xii, xid, xll, xlv, xls, xlc, xil, xli, xrd, xdup, xdup2, xc1, xpu, c_eq, c_ne, c_lt, c_ge, c_gt, c_le, Option.bind_some, Option.map_some, List.length_nil, List.length_cons, Nat.reduceAdd, Nat.reduceLeDiff, Int.reduceToNat, Bool.and_self, Bool.false_eq_true, if_true, if_false, D115_0, D115_10, o_m, g_m_0, g_m_1, g_m_2, g_m_3, g_m_4, g_m_5, g_m_6, g_m_7, g_m_8, g_m_9, g_m_10, g_m_11, g_m_12, g_m_13, g_m_14, g_m_15, g_m_16, g_m_17, g_m_18, g_m_19, g_m_20, g_m_21, p_m_3, p_m_7, p_m_8, p_m_11, p_m_13, p_m_15, p_m_16, p_m_17, p_m_18, p_m_21, p_m_5_0, p_m_5_1, r_m0, s_m0, r_m1, s_m1, r_m2, s_m2, r_m4, s_m4, r_m6, s_m6, r_m9, s_m9, r_m10, s_m10, r_m12, s_m12, r_m14, s_m14, r_m19, s_m19, r_m20, s_m20, Nat.reduceEqDiff, decide_true, decide_false, Bool.true_and, Bool.false_and, Bool.and_true, Bool.and_false, zB_tt, zB_ff, not_false_eq_true, not_true_eq_false, n_lit, n_mul, nI_add, n_sub, x_in, nI_clamp, nI_ltI, nI_leI, nI_eq, and_self, true_and, and_true, h0, ep]
  · have hu : ∀ i, (∀ k, k ≠ 2 → k ≠ 4 → vf_upd V 4 (upd (V 4) i (V 4 i + nI 1)) k = V k) := fun i k _ b => vu_n _ _ b
    have hv2 : ∀ i, vf_upd V 4 (upd (V 4) i (V 4 i + nI 1)) 2 = V 2 := fun i => vu_n _ _ (by omega)
    simp only [if_neg h0]
    rcases okA_neg ha h0 with ⟨e, c⟩ | ⟨e, c⟩ | ⟨e, c⟩
    · rw [c]
      subst e
      exact ⟨I, _, t_ends2, h3, fun j hj => by rw [hv2]; exact hp1 j hj, fun _ _ => rfl, hu 0, vu_s _ _ _⟩
    · rw [c]
      subst e
      exact ⟨I, _, t_ends3, h3, fun j hj => by rw [hv2]; exact hp1 j hj, fun _ _ => rfl, hu 1, vu_s _ _ _⟩
    · rw [c]
      subst e
      exact ⟨I, _, t_ends4, h3, fun j hj => by rw [hv2]; exact hp1 j hj, fun _ _ => rfl, hu 2, vu_s _ _ _⟩
end
theorem ec_lt (a : Int32) : ec a < 3 := by
  unfold ec
  split
  · omega
  · split <;> omega
/-- a call of an order: after hold, the order, ends -/
theorem refFin {M : mM} {d : Int32 × mS} {I I1 I2 : Nat → Int32} {V V1 V2 : Nat → Nat → Int32} (hI : RefI M I V) (hw : wf d.2) (hr : rpA d.2 (V1 0)) (hL : LayI d.2 I1 V1) (hD : DF I I1 (vf_upd V 1 (fa_fill (V 0) (V 1) 115)) V1)
    (h3 : I2 3 = nI (if 0 ≤ d.1 then psN M.2.1 else M.2.1)) (hp1 : ∀ j, j < (if 0 ≤ d.1 then psN M.2.1 else M.2.1) → wf ((if 0 ≤ d.1 then psP M.2.1 M.2.2.1 M.1 else M.2.2.1) j) ∧ rpA ((if 0 ≤ d.1 then psP M.2.1 M.2.2.1 M.1 else M.2.2.1) j) (fun k => V2 2 (115 * j + k))) (hi : ∀ k, k ≠ 3 → I2 k = I1 k) (hv : ∀ k, k ≠ 2 → k ≠ 4 → V2 k = V1 k) (h4 : V2 4 = if 0 ≤ d.1 then V1 4 else inc (V1 4) (ec d.1)) : RefI (fin M d) I2 V2 := by
  obtain ⟨i1, i2, i3, i4, i5, i6, i7, i8⟩ := hI
  have v4 : V1 4 = V 4 := by rw [hD.2 4 (by omega) (by omega) (by omega) (by omega) (by omega)]; exact vu_n _ _ (by omega)
  have hr2 : rpA d.2 (V2 0) := by rw [hv 0 (by omega) (by omega)]; exact hr
  have hL2 : LayI d.2 I2 V2 := hL.of (fun k hk => hi k (by omega)) (fun k hk => hv k (by omega) (by omega))
  have hT2 : rpT M.2.2.2.1 I2 V2 := i7.of (by rw [hi 15 (by omega), hD.1 15 (by omega) (by omega) (by omega) (by omega)]) (by rw [hv 14 (by omega) (by omega), hD.2 14 (by omega) (by omega) (by omega) (by omega) (by omega)]; exact vu_n _ _ (by omega))
  unfold fin
  by_cases h0 : 0 ≤ d.1
  · simp only [if_pos h0] at h3 hp1 h4 ⊢
    refine ⟨hw, hr2, hL2, ?_, h3, hp1, hT2, fun k hk => ?_⟩
    · show psN M.2.1 ≤ 4
      unfold psN
      split <;> omega
    · rw [h4, v4]; exact i8 k hk
  · simp only [if_neg h0] at h3 hp1 h4 ⊢
    refine ⟨hw, hr2, hL2, i4, h3, hp1, hT2, fun k hk => ?_⟩
    rw [h4, v4]
    show inc (V 4) (ec d.1) k = inc M.2.2.2.2 (ec d.1) k
    have hc := ec_lt d.1
    unfold inc
    rw [i8 _ hc]
    by_cases e : k = ec d.1
    · rw [e, u_s, u_s]
    · rw [u_n _ _ e, u_n _ _ e]
      exact i8 k hk
theorem refBad {M : mM} {I : Nat → Int32} {V : Nat → Nat → Int32} (hI : RefI M I V) {k : Nat} (hk : k < 3) : RefI (bad M k) I (vf_upd V 4 (upd (V 4) k (V 4 k + nI 1))) := by
  obtain ⟨i1, i2, i3, i4, i5, i6, i7, i8⟩ := hI
  have hn : ∀ j, j ≠ 4 → vf_upd V 4 (upd (V 4) k (V 4 k + nI 1)) j = V j := fun j hj => vu_n _ _ hj
  refine ⟨i1, by rw [hn 0 (by omega)]; exact i2, i3.of (fun _ _ => rfl) (fun j hj => hn j (by omega)), i4, i5, by rw [hn 2 (by omega)]; exact i6, i7.of rfl (hn 14 (by omega)), fun j hj => ?_⟩
  rw [vu_s]
  show upd (V 4) k (V 4 k + nI 1) j = inc M.2.2.2.2 k j
  unfold inc
  rw [i8 k hk]
  by_cases e : j = k
  · rw [e, u_s, u_s]
  · rw [u_n _ _ e, u_n _ _ e]
    exact i8 j hj
