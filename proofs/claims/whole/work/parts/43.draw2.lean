/-! ===== the reference draws a row at once ===== -/
/-- a state with another turn of a field -/
def trn (σ : mS) (f t : Nat) : mS := (mn σ, fun g j => if g = f ∧ j = 3 then t else mF σ g j, σ.2.2)
theorem trn_F3 (σ : mS) (f t : Nat) : mF (trn σ f t) f 3 = t := if_pos ⟨rfl, rfl⟩
theorem trn_Fn (σ : mS) {f g j : Nat} (t : Nat) (h : ¬ (g = f ∧ j = 3)) : mF (trn σ f t) g j = mF σ g j := if_neg h
theorem trn_wf {σ : mS} (hw : wf σ) {f t : Nat} (ht : t < 256) (h2 : mF σ f 2 = 1 ∨ t = 0) : wf (trn σ f t) := by
  obtain ⟨w1, w2, w3, w4, w5⟩ := hw
  refine ⟨w1, fun g hg => ?_, w3, fun g hg hn => ⟨fun j hj => ?_, (w4 g hg hn).2⟩, w5⟩
  · obtain ⟨a, b, c, d, e⟩ := w2 g hg
    rw [trn_Fn σ t (by omega), trn_Fn σ t (by omega), trn_Fn σ t (by omega)]
    by_cases h : g = f
    · subst h
      rw [trn_F3]
      exact ⟨a, b, c, ht, fun h => by omega⟩
    · rw [trn_Fn σ t (fun e => h e.1)]
      exact ⟨a, b, c, d, e⟩
  · by_cases h : g = f ∧ j = 3
    · obtain ⟨h1, h3⟩ := h
      subst h1
      subst h3
      rw [trn_F3]
      have := (w4 g hg hn).1 2 (by omega)
      omega
    · rw [trn_Fn σ t h]
      exact (w4 g hg hn).1 j hj
theorem trn_rp {σ : mS} {a : Nat → Int32} (hr : rpA σ a) {f : Nat} (t : Nat) (hf : f < mn σ) (hn : mn σ ≤ 4) (hk : mK σ ≤ 8) : rpA (trn σ f t) (upd a (1 + 13 * f + 3) (nI t)) := by
  obtain ⟨r0, r1, r2, r3, r5, r6, r7, r8, r9, r10⟩ := hr
  have hu : ∀ j, j ≠ 1 + 13 * f + 3 → upd a (1 + 13 * f + 3) (nI t) j = a j := fun j h => u_n _ _ h
  refine ⟨?_, fun g j hg hj => ?_, fun g hg => ?_, fun g v hg hv => ?_, fun p hp1 => ?_, ?_, fun k i hk1 hi => ?_, fun k hk1 => ?_, ?_, fun i hi => ?_⟩
  · rw [hu _ (by omega)]; exact r0
  · have hg : g < mn σ := hg
    by_cases h : g = f ∧ j = 3
    · obtain ⟨h1, h3⟩ := h
      subst h1
      subst h3
      rw [u_s, trn_F3]
    · rw [trn_Fn σ t h, hu _ (by omega)]
      exact r1 g j hg hj
  · have hg : g < mn σ := hg
    rw [hu _ (by omega)]
    exact r2 g hg
  · have hg : g < mn σ := hg
    rw [hu _ (by omega)]
    exact r3 g v hg hv
  · rw [hu _ (by omega)]
    exact r5 p hp1
  · rw [hu _ (by omega)]; exact r6
  · rw [hu _ (by omega)]; exact r7 k i hk1 hi
  · rw [hu _ (by omega)]; exact r8 k hk1
  · rw [hu _ (by omega)]; exact r9
  · rw [hu _ (by omega)]; exact r10 i hi
/-- what drawing leaves of a state -/
def sameT (σ σ' : mS) : Prop := mn σ' = mn σ ∧ (∀ f j, j ≠ 3 → mF σ' f j = mF σ f j) ∧ σ'.2.2 = σ.2.2
theorem sameT.rf (σ : mS) : sameT σ σ := ⟨rfl, fun _ _ _ => rfl, rfl⟩
theorem sameT.trn {σ σ' : mS} (h : sameT σ σ') (f t : Nat) : sameT σ (trn σ' f t) := ⟨h.1, fun g j hj => by rw [trn_Fn σ' t (fun e => hj e.2)]; exact h.2.1 g j hj, h.2.2⟩
/-- fields that go round, one after the other: turns and rows -/
def ttS (σ : mS) (m : Nat → Bool) : Nat → mS × (Nat → Bool)
  | 0 => (σ, m)
  | f + 1 => if mF (ttS σ m f).1 f 2 = 1 then (if valS (ttS σ m f).2 f ^^^ (valS (ttS σ m f).2 f &&& mF (ttS σ m f).1 f 3) = 0 then (trn (ttS σ m f).1 f 0, (ttS σ m f).2) else ((ttS σ m f).1, lim (ttS σ m f).2 f (valS (ttS σ m f).2 f ^^^ (valS (ttS σ m f).2 f &&& mF (ttS σ m f).1 f 3)))) else ttS σ m f
def some1 (m : Nat → Bool) : Prop := ∃ x, x < 4096 ∧ m x = true
theorem lim_some {m : Nat → Bool} {f vs : Nat} (h0 : vs ≠ 0) (h : ∀ v, vs.testBit v = true → (valS m f).testBit v = true) : some1 (lim m f vs) := by
  have : ∃ v, vs.testBit v = true := by
    apply Classical.byContradiction
    intro hn
    apply h0
    apply Nat.eq_of_testBit_eq
    intro v
    rw [Nat.zero_testBit]
    cases hb : vs.testBit v
    · rfl
    · exact absurd ⟨v, hb⟩ hn
  obtain ⟨v, hv⟩ := this
  obtain ⟨-, x, hx, hm, e⟩ := (valS_bit m f v).mp (h v hv)
  exact ⟨x, hx, by unfold lim; rw [hm, e, hv]; rfl⟩
theorem ttS_ok {σ : mS} (hw : wf σ) {m : Nat → Bool} (hm : some1 m) : ∀ k, wf (ttS σ m k).1 ∧ sameT σ (ttS σ m k).1 ∧ (∀ x, (ttS σ m k).2 x = true → m x = true) ∧ some1 (ttS σ m k).2
  | 0 => ⟨hw, sameT.rf σ, fun _ h => h, hm⟩
  | k + 1 => by
    obtain ⟨h1, h2, h3, h4⟩ := ttS_ok hw hm k
    rw [ttS]
    split
    · split
      · exact ⟨trn_wf h1 (by omega) (Or.inr rfl), h2.trn k 0, h3, h4⟩
      · rename_i hne
        refine ⟨h1, h2, fun x hx => ?_, ?_⟩
        · unfold lim at hx
          simp only [Bool.and_eq_true] at hx
          exact h3 x hx.1
        · apply lim_some hne
          intro v hv
          rw [andn_bit, Bool.and_eq_true] at hv
          exact hv.1
    · exact ⟨h1, h2, h3, h4⟩
/-- weights, and the row that a chance takes -/
def tW (σ : mS) (m : Nat → Bool) : Nat := fb_sm (fun x => if m x = true then wP σ x (mn σ) else 0) 4096
def gW (σ : mS) (m : Nat → Bool) (x : Nat) : Nat := if m x = true then (if 0 < tW σ m then wP σ x (mn σ) else 1) else 0
def wtW (σ : mS) (m : Nat → Bool) : Nat := if 0 < tW σ m then tW σ m else fb_ct m 4096
def pkX (g : Nat → Nat) (n v : Nat) : Nat := fa_first (fun x => decide (v < fb_sm g (x + 1))) n
theorem pkX_ok {g : Nat → Nat} {n v : Nat} (h : v < fb_sm g n) : pkX g n v < n ∧ fb_sm g (pkX g n v) ≤ v ∧ v < fb_sm g (pkX g n v + 1) := by
  have hn : 0 < n := by
    cases n with
    | zero => exact absurd h (Nat.not_lt_zero v)
    | succ n => omega
  have hlt : pkX g n v < n := by
    apply Nat.lt_of_not_le
    intro hge
    have := fa_first_no (fun x => decide (v < fb_sm g (x + 1))) n (n - 1) (by unfold pkX at hge; omega)
    rw [decide_eq_false_iff_not] at this
    rw [show n - 1 + 1 = n by omega] at this
    exact this h
  have hy := fa_first_yes (fun x => decide (v < fb_sm g (x + 1))) n hlt
  refine ⟨hlt, ?_, of_decide_eq_true hy⟩
  by_cases h0 : pkX g n v = 0
  · rw [h0]
    exact Nat.zero_le v
  · have := fa_first_no (fun x => decide (v < fb_sm g (x + 1))) n (pkX g n v - 1) (by unfold pkX at h0 ⊢; omega)
    rw [decide_eq_false_iff_not, show pkX g n v - 1 + 1 = pkX g n v by omega] at this
    omega
theorem tW_le {σ : mS} (hw : wf σ) (m : Nat → Bool) : tW σ m ≤ 26873856 := by
  have := fb_sm_bound (f := fun x => if m x = true then wP σ x (mn σ) else 0) (c := 6561) (n := 4096) (fun k _ => hv_le hw m k)
  unfold tW
  omega
theorem gW_sm (σ : mS) (m : Nat → Bool) : fb_sm (gW σ m) 4096 = wtW σ m := by
  unfold wtW
  by_cases h : 0 < tW σ m
  · rw [if_pos h]
    apply fb_sm_cong
    intro x _
    unfold gW
    simp only [h, if_true]
  · rw [if_neg h, ct_sm]
    apply fb_sm_cong
    intro x _
    unfold gW
    simp only [h, if_false]
theorem wtW_pos {σ : mS} {m : Nat → Bool} (hm : some1 m) : 0 < wtW σ m := by
  unfold wtW
  split
  · assumption
  · obtain ⟨x, hx, h⟩ := hm
    exact fb_ct_pos.mpr ⟨x, hx, h⟩
theorem wtW_lt {σ : mS} (hw : wf σ) (m : Nat → Bool) : wtW σ m < 2 ^ 31 := by
  have h1 := tW_le hw m
  have h2 := fb_ct_le m 4096
  unfold wtW
  split <;> omega
/-- by the list of B: up to the place of x -/
theorem pk_list {B : Nat → Bool} {g : Nat → Nat} (hg : ∀ x, 0 < g x → B x = true) {v : Nat} (h : v < fb_sm g 4096) : B (pkX g 4096 v) = true ∧ (∀ k, k ≤ fb_ct B (pkX g 4096 v) → fb_sm (fun i => g (flw B i)) k ≤ v) ∧ v < fb_sm (fun i => g (flw B i)) (fb_ct B (pkX g 4096 v) + 1) := by
  obtain ⟨h1, h2, h3⟩ := pkX_ok h
  generalize pkX g 4096 v = x at *
  have hgx : 0 < g x := by
    rw [fb_sm_succ] at h3
    omega
  have hB := hg x hgx
  have hG : ∀ n, fb_sm (fun x => if B x = true then g x else 0) n = fb_sm g n := by
    intro n
    apply fb_sm_cong
    intro y _
    show (if B y = true then g y else 0) = g y
    by_cases hb : B y = true
    · rw [if_pos hb]
    · rw [if_neg hb]
      cases hz : g y with
      | zero => rfl
      | succ z => exact absurd (hg y (by omega)) hb
  refine ⟨hB, fun k hk => ?_, ?_⟩
  · have e := fl_smx B g (n := 4096) (m := x) (by omega)
    rw [hG] at e
    have := fb_sm_mono (fun i => g (flw B i)) k (fb_ct B x - k)
    rw [show k + (fb_ct B x - k) = fb_ct B x by omega] at this
    have e2 : fb_sm (fun i => g (flw B i)) (fb_ct B x) = fb_sm g x := e
    omega
  · have e := fl_smx B g (n := 4096) (m := x + 1) (by omega)
    rw [hG, fb_ct_succ, if_pos hB] at e
    have e2 : fb_sm (fun i => g (flw B i)) (fb_ct B x + 1) = fb_sm g (x + 1) := e
    omega
/-- what drawing leaves of the reference's arrays -/
def DK (V V' : Nat → Nat → Int32) : Prop := ∀ k, k ≠ 0 → k ≠ 12 → V' k = V k
theorem DK.rf (V : Nat → Nat → Int32) : DK V V := fun _ _ _ => rfl
theorem DK.tr {V V' V'' : Nat → Nat → Int32} (h1 : DK V V') (h2 : DK V' V'') : DK V V'' := fun k a b => (h2 k a b).trans (h1 k a b)
theorem DK.up {V : Nat → Nat → Int32} (x : Nat → Int32) : DK V (vf_upd V 12 x) := fun k _ b => vu_n _ _ b
theorem DK.up0 {V : Nat → Nat → Int32} (x : Nat → Int32) : DK V (vf_upd V 0 x) := fun k a _ => vu_n _ _ a
theorem LB.dk {B : Nat → Bool} {I : Nat → Int32} {V V' : Nat → Nat → Int32} (h : LB B I V) (hk : DK V V') : LB B I V' := ⟨h.1, fun i hi => by rw [hk 6 (by omega) (by omega)]; exact h.2 i hi⟩
theorem rI_1 (k : Nat) : rI k + nI 1 = nI k := by
  cases k with
  | zero => exact (by decide : rI 0 + nI 1 = nI 0)
  | succ k => rw [rI_succ]; exact nI_add k 1
section
variable {q : Nat × (Nat → Int32)} {S : Nat → xSt} {P : Int32 × (Nat → Nat)} {A : (Nat → Int64) × Int32 × Int32 × (Nat → Int64) × (Nat → Nat → Int64)} {D : (Nat → Int64) × Int64} {K : Nat → Int64} {X : Int32 × Int32 × Int32 × (Nat → Int32) × (Nat → Int32)} {E Z : Nat → Int32} {I : Nat → Int32} {J : Nat → Int64} {V : Nat → Nat → Int32}
set_option maxRecDepth 100000 in
theorem t_tt_s1 {σ : mS} {B m : Nat → Bool} (hw : wf σ) {k : Nat} {z : Option Value} (hk : k < mn σ) (hr : rpA σ (V 0)) (hB : LB B I V) (hM : MayI B m V) (hsub : ∀ x, m x = true → B x = true) (h2 : mF σ k 2 = 1) (h3 : valS m k ^^^ (valS m k &&& mF σ k 3) = 0) : den 166 2 [some (.ref 163), some (.int (nI k)), z, none, none, none] [] (hp q S P A D K X E Z I J V) = den 166 2 [some (.ref 163), some (.int (nI (k + 1))), some (.int (nI 0)), none, none, none] [] (hp q S P A D K X E Z I J (vf_upd V 0 (upd (V 0) (1 + 13 * k + 3) (nI 0)))) := by
  have w1 := hw.1
  have hkn : ¬ mn σ ≤ k := by omega
  have r0 := hr.1
  have r2 := hr.2.1 k 2 hk (by omega)
  have r3 := hr.2.1 k 3 hk (by omega)
  rw [h2] at r2
  have ev := t_valuesOf (q := q) (S := S) (P := P) (A := A) (D := D) (K := K) (X := X) (E := E) (Z := Z) (J := J) hB hM hsub (show k < 4 by omega)
  rw [D166_2]
  simp (maxSteps := 2000000) (disch := omega) only [e_inl, e_goto, e_fall, e_if, e_icmp, e_iret, e_zret, e_lret, e_vret, e_call0_0, e_call0_1, e_call0_2, e_call0_3, e_call0_4, e_call1_0, e_call1_1, e_call1_2, e_call1_3, e_call1_4, e_call2_0, e_call2_1, e_call2_2, e_call2_3, e_call2_4, e_call3_0, e_call3_1, e_call3_2, e_call3_3, e_call3_4, e_call4_0, e_call4_1, e_call4_2, e_call4_3, e_call4_4, e_call5_0, e_call5_1, e_call5_2, e_call5_3, e_call5_4, e_call6_0, e_call6_1, e_call6_2, e_call6_3, e_call6_4, xP, xld, xst1, xst2, xis2, xii, xid, xll, xlv, xls, xlc, xil, xli, xrd, xdup, xdup2, xc1, xpu, c_eq, c_ne, c_lt, c_ge, c_gt, c_le, Option.bind_some, Option.map_some, List.length_nil, List.length_cons, Nat.reduceAdd, Nat.reduceLeDiff, Int.reduceToNat, Bool.and_self, Bool.false_eq_true, if_true, if_false, D166_55, o_m, g_m_0, g_m_1, g_m_2, g_m_3, g_m_4, g_m_5, g_m_6, g_m_7, g_m_8, g_m_9, g_m_10, g_m_11, g_m_12, g_m_13, g_m_14, g_m_15, g_m_16, g_m_17, g_m_18, g_m_19, g_m_20, g_m_21, p_m_3, p_m_7, p_m_8, p_m_11, p_m_13, p_m_15, p_m_16, p_m_17, p_m_18, p_m_21, p_m_5_0, p_m_5_1, r_m0, s_m0, r_m1, s_m1, r_m2, s_m2, r_m4, s_m4, r_m6, s_m6, r_m9, s_m9, r_m10, s_m10, r_m12, s_m12, r_m14, s_m14, r_m19, s_m19, r_m20, s_m20, Nat.reduceEqDiff, decide_true, decide_false, Bool.true_and, Bool.false_and, Bool.and_true, Bool.and_false, zB_tt, zB_ff, not_false_eq_true, not_true_eq_false, n_lit, n_mul, nI_add, n_sub, x_in, nI_clamp, nI_ltI, nI_leI, nI_eq, and_self, true_and, and_true, t_fields, r0, hkn, t_ofField, r2, ev, r3, n_andn, h3, n_0, t_put]
set_option maxRecDepth 100000 in
theorem t_tt_s2 {σ : mS} {B m : Nat → Bool} (hw : wf σ) {k : Nat} {z : Option Value} (hk : k < mn σ) (hr : rpA σ (V 0)) (hB : LB B I V) (hM : MayI B m V) (hsub : ∀ x, m x = true → B x = true) (h2 : mF σ k 2 = 1) {fr : Nat} (hfr : valS m k ^^^ (valS m k &&& mF σ k 3) = fr) (h3 : ¬ fr = 0) : ∃ y, den 166 2 [some (.ref 163), some (.int (nI k)), z, none, none, none] [] (hp q S P A D K X E Z I J V) = den 166 2 [some (.ref 163), some (.int (nI (k + 1))), some (.int (nI fr)), none, none, none] [] (hp q S P A D K X E Z I J (vf_upd V 12 y)) ∧ MayI B (lim m k fr) (vf_upd V 12 y) := by
  have w1 := hw.1
  have hkn : ¬ mn σ ≤ k := by omega
  have r0 := hr.1
  have r2 := hr.2.1 k 2 hk (by omega)
  have r3 := hr.2.1 k 3 hk (by omega)
  rw [h2] at r2
  have hv := valS_lt m k
  have ha := andn_lt (n := 8) (mF σ k 3) hv
  rw [hfr] at ha
  have ev := t_valuesOf (q := q) (S := S) (P := P) (A := A) (D := D) (K := K) (X := X) (E := E) (Z := Z) (J := J) hB hM hsub (show k < 4 by omega)
  obtain ⟨y, ey, my⟩ := t_limit (q := q) (S := S) (P := P) (A := A) (D := D) (K := K) (X := X) (E := E) (Z := Z) (J := J) hB hM (show k < 4 by omega) ha
  refine ⟨y, ?_, my⟩
  rw [D166_2]
  simp (maxSteps := 2000000) (disch := omega) only [e_inl, e_goto, e_fall, e_if, e_icmp, e_iret, e_zret, e_lret, e_vret, e_call0_0, e_call0_1, e_call0_2, e_call0_3, e_call0_4, e_call1_0, e_call1_1, e_call1_2, e_call1_3, e_call1_4, e_call2_0, e_call2_1, e_call2_2, e_call2_3, e_call2_4, e_call3_0, e_call3_1, e_call3_2, e_call3_3, e_call3_4, e_call4_0, e_call4_1, e_call4_2, e_call4_3, e_call4_4, e_call5_0, e_call5_1, e_call5_2, e_call5_3, e_call5_4, e_call6_0, e_call6_1, e_call6_2, e_call6_3, e_call6_4, xP, xld, xst1, xst2, xis2, xii, xid, xll, xlv, xls, xlc, xil, xli, xrd, xdup, xdup2, xc1, xpu, c_eq, c_ne, c_lt, c_ge, c_gt, c_le, Option.bind_some, Option.map_some, List.length_nil, List.length_cons, Nat.reduceAdd, Nat.reduceLeDiff, Int.reduceToNat, Bool.and_self, Bool.false_eq_true, if_true, if_false, D166_49, D166_55, o_m, g_m_0, g_m_1, g_m_2, g_m_3, g_m_4, g_m_5, g_m_6, g_m_7, g_m_8, g_m_9, g_m_10, g_m_11, g_m_12, g_m_13, g_m_14, g_m_15, g_m_16, g_m_17, g_m_18, g_m_19, g_m_20, g_m_21, p_m_3, p_m_7, p_m_8, p_m_11, p_m_13, p_m_15, p_m_16, p_m_17, p_m_18, p_m_21, p_m_5_0, p_m_5_1, r_m0, s_m0, r_m1, s_m1, r_m2, s_m2, r_m4, s_m4, r_m6, s_m6, r_m9, s_m9, r_m10, s_m10, r_m12, s_m12, r_m14, s_m14, r_m19, s_m19, r_m20, s_m20, Nat.reduceEqDiff, decide_true, decide_false, Bool.true_and, Bool.false_and, Bool.and_true, Bool.and_false, zB_tt, zB_ff, not_false_eq_true, not_true_eq_false, n_lit, n_mul, nI_add, n_sub, x_in, nI_clamp, nI_ltI, nI_leI, nI_eq, and_self, true_and, and_true, t_fields, r0, hkn, t_ofField, r2, ev, r3, n_andn, hfr, h3, n_0, ey]
set_option maxRecDepth 100000 in
theorem t_tt_s3 {σ : mS} (hw : wf σ) {k : Nat} {z : Option Value} (hk : k < mn σ) (hr : rpA σ (V 0)) (h2 : ¬ mF σ k 2 = 1) : den 166 2 [some (.ref 163), some (.int (nI k)), z, none, none, none] [] (hp q S P A D K X E Z I J V) = den 166 2 [some (.ref 163), some (.int (nI (k + 1))), z, none, none, none] [] (hp q S P A D K X E Z I J V) := by
  have w1 := hw.1
  have hkn : ¬ mn σ ≤ k := by omega
  have r0 := hr.1
  have r2 := hr.2.1 k 2 hk (by omega)
  obtain ⟨-, -, f2, f3, -⟩ := hw.2.1 k (by omega)
  rw [D166_2]
  simp (maxSteps := 2000000) (disch := omega) only [e_inl, e_goto, e_fall, e_if, e_icmp, e_iret, e_zret, e_lret, e_vret, e_call0_0, e_call0_1, e_call0_2, e_call0_3, e_call0_4, e_call1_0, e_call1_1, e_call1_2, e_call1_3, e_call1_4, e_call2_0, e_call2_1, e_call2_2, e_call2_3, e_call2_4, e_call3_0, e_call3_1, e_call3_2, e_call3_3, e_call3_4, e_call4_0, e_call4_1, e_call4_2, e_call4_3, e_call4_4, e_call5_0, e_call5_1, e_call5_2, e_call5_3, e_call5_4, e_call6_0, e_call6_1, e_call6_2, e_call6_3, e_call6_4, xP, xld, xst1, xst2, xis2, xii, xid, xll, xlv, xls, xlc, xil, xli, xrd, xdup, xdup2, xc1, xpu, c_eq, c_ne, c_lt, c_ge, c_gt, c_le, Option.bind_some, Option.map_some, List.length_nil, List.length_cons, Nat.reduceAdd, Nat.reduceLeDiff, Int.reduceToNat, Bool.and_self, Bool.false_eq_true, if_true, if_false, D166_55, o_m, g_m_0, g_m_1, g_m_2, g_m_3, g_m_4, g_m_5, g_m_6, g_m_7, g_m_8, g_m_9, g_m_10, g_m_11, g_m_12, g_m_13, g_m_14, g_m_15, g_m_16, g_m_17, g_m_18, g_m_19, g_m_20, g_m_21, p_m_3, p_m_7, p_m_8, p_m_11, p_m_13, p_m_15, p_m_16, p_m_17, p_m_18, p_m_21, p_m_5_0, p_m_5_1, r_m0, s_m0, r_m1, s_m1, r_m2, s_m2, r_m4, s_m4, r_m6, s_m6, r_m9, s_m9, r_m10, s_m10, r_m12, s_m12, r_m14, s_m14, r_m19, s_m19, r_m20, s_m20, Nat.reduceEqDiff, decide_true, decide_false, Bool.true_and, Bool.false_and, Bool.and_true, Bool.and_false, zB_tt, zB_ff, not_false_eq_true, not_true_eq_false, n_lit, n_mul, nI_add, n_sub, x_in, nI_clamp, nI_ltI, nI_leI, nI_eq, and_self, true_and, and_true, t_fields, r0, hkn, t_ofField, r2, h2]
set_option maxRecDepth 100000 in
theorem t_tt_2 {σ : mS} (hw : wf σ) {B m : Nat → Bool} (hm : some1 m) (hsub : ∀ x, m x = true → B x = true) (j : Nat) : ∀ (k : Nat) (V : Nat → Nat → Int32) (z : Option Value), k + j = mn σ → rpA (ttS σ m k).1 (V 0) → LB B I V → MayI B (ttS σ m k).2 V → ∃ (z' : Option Value) (V' : Nat → Nat → Int32), den 166 2 [some (.ref 163), some (.int (nI k)), z, none, none, none] [] (hp q S P A D K X E Z I J V) = den 166 61 [some (.ref 163), some (.int (nI (mn σ))), z', none, none, none] [] (hp q S P A D K X E Z I J (V')) ∧ rpA (ttS σ m (mn σ)).1 (V' 0) ∧ LB B I V' ∧ MayI B (ttS σ m (mn σ)).2 V' ∧ DK V V' := by
  induction j with
  | zero =>
    intro k V z hj hr hB hM
    have hk : k = mn σ := by omega
    subst hk
    have w1 := hw.1
    have r0 := hr.1
    have hn := (ttS_ok hw hm (mn σ)).2.1.1
    rw [hn] at r0
    refine ⟨z, V, ?_, hr, hB, hM, DK.rf V⟩
    rw [D166_2]
    simp (maxSteps := 2000000) (disch := omega) only [e_inl, e_goto, e_fall, e_if, e_icmp, e_iret, e_zret, e_lret, e_vret, e_call0_0, e_call0_1, e_call0_2, e_call0_3, e_call0_4, e_call1_0, e_call1_1, e_call1_2, e_call1_3, e_call1_4, e_call2_0, e_call2_1, e_call2_2, e_call2_3, e_call2_4, e_call3_0, e_call3_1, e_call3_2, e_call3_3, e_call3_4, e_call4_0, e_call4_1, e_call4_2, e_call4_3, e_call4_4, e_call5_0, e_call5_1, e_call5_2, e_call5_3, e_call5_4, e_call6_0, e_call6_1, e_call6_2, e_call6_3, e_call6_4, xP, xld, xst1, xst2, xis2, xii, xid, xll, xlv, xls, xlc, xil, xli, xrd, xdup, xdup2, xc1, xpu, c_eq, c_ne, c_lt, c_ge, c_gt, c_le, Option.bind_some, Option.map_some, List.length_nil, List.length_cons, Nat.reduceAdd, Nat.reduceLeDiff, Int.reduceToNat, Bool.and_self, Bool.false_eq_true, if_true, if_false, o_m, g_m_0, g_m_1, g_m_2, g_m_3, g_m_4, g_m_5, g_m_6, g_m_7, g_m_8, g_m_9, g_m_10, g_m_11, g_m_12, g_m_13, g_m_14, g_m_15, g_m_16, g_m_17, g_m_18, g_m_19, g_m_20, g_m_21, p_m_3, p_m_7, p_m_8, p_m_11, p_m_13, p_m_15, p_m_16, p_m_17, p_m_18, p_m_21, p_m_5_0, p_m_5_1, r_m0, s_m0, r_m1, s_m1, r_m2, s_m2, r_m4, s_m4, r_m6, s_m6, r_m9, s_m9, r_m10, s_m10, r_m12, s_m12, r_m14, s_m14, r_m19, s_m19, r_m20, s_m20, Nat.reduceEqDiff, decide_true, decide_false, Bool.true_and, Bool.false_and, Bool.and_true, Bool.and_false, zB_tt, zB_ff, not_false_eq_true, not_true_eq_false, n_lit, n_mul, nI_add, n_sub, x_in, nI_clamp, nI_ltI, nI_leI, nI_eq, and_self, true_and, and_true, t_fields, r0, Nat.le_refl]
  | succ j ih =>
    intro k V z hj hr hB hM
    obtain ⟨o1, o2, o3, o4⟩ := ttS_ok hw hm k
    have hn := o2.1
    have hkn' : k < mn (ttS σ m k).1 := by omega
    have hsub' : ∀ x, (ttS σ m k).2 x = true → B x = true := fun x hx => hsub x (o3 x hx)
    by_cases h2 : mF (ttS σ m k).1 k 2 = 1
    · by_cases h3 : valS (ttS σ m k).2 k ^^^ (valS (ttS σ m k).2 k &&& mF (ttS σ m k).1 k 3) = 0
      · have e1 : ttS σ m (k + 1) = (trn (ttS σ m k).1 k 0, (ttS σ m k).2) := by rw [ttS, if_pos h2, if_pos h3]
        have hr' : rpA (ttS σ m (k + 1)).1 (vf_upd V 0 (upd (V 0) (1 + 13 * k + 3) (nI 0)) 0) := by rw [e1, vu_s]; exact trn_rp hr 0 hkn' o1.1 o1.2.2.2.2.2.2.1
        have hM' : MayI B (ttS σ m (k + 1)).2 (vf_upd V 0 (upd (V 0) (1 + 13 * k + 3) (nI 0))) := by rw [e1]; exact fun i hi => by rw [vu_n _ _ (by omega)]; exact hM i hi
        obtain ⟨z', V', e, g1, g2, g3, g4⟩ := ih (k + 1) (vf_upd V 0 (upd (V 0) (1 + 13 * k + 3) (nI 0))) (some (.int (nI 0))) (by omega) hr' (hB.dk (DK.up0 _)) hM'
        exact ⟨z', V', (t_tt_s1 o1 hkn' hr hB hM hsub' h2 h3).trans e, g1, g2, g3, (DK.up0 _).tr g4⟩
      · have e1 : ttS σ m (k + 1) = ((ttS σ m k).1, lim (ttS σ m k).2 k (valS (ttS σ m k).2 k ^^^ (valS (ttS σ m k).2 k &&& mF (ttS σ m k).1 k 3))) := by rw [ttS, if_pos h2, if_neg h3]
        obtain ⟨y, ey, my⟩ := t_tt_s2 (q := q) (S := S) (P := P) (A := A) (D := D) (K := K) (X := X) (E := E) (Z := Z) (J := J) (z := z) o1 hkn' hr hB hM hsub' h2 rfl h3
        obtain ⟨z', V', e, g1, g2, g3, g4⟩ := ih (k + 1) (vf_upd V 12 y) (some (.int (nI (valS (ttS σ m k).2 k ^^^ (valS (ttS σ m k).2 k &&& mF (ttS σ m k).1 k 3))))) (by omega) (by rw [e1, vu_n _ _ (by omega)]; exact hr) (hB.dk (DK.up _)) (by rw [e1]; exact my)
        exact ⟨z', V', ey.trans e, g1, g2, g3, (DK.up _).tr g4⟩
    · have e1 : ttS σ m (k + 1) = ttS σ m k := by rw [ttS, if_neg h2]
      obtain ⟨z', V', e, g1, g2, g3, g4⟩ := ih (k + 1) V z (by omega) (by rw [e1]; exact hr) hB (by rw [e1]; exact hM)
      exact ⟨z', V', (t_tt_s3 o1 hkn' hr h2).trans e, g1, g2, g3, g4⟩
set_option maxRecDepth 100000 in
theorem t_tt_67 {σ : mS} (hw : wf σ) (hr : rpA σ (V 0)) {B m : Nat → Bool} (hsub : ∀ x, m x = true → B x = true) (hB : LB B I V) (hM : MayI B m V) : den 166 67 [some (.ref 163), some (.int (nI 0)), some (.int (nI 0)), some (.int (nI 0)), none, none] [] (hp q S P A D K X E Z I J V) = den 166 124 [some (.ref 163), some (.int (nI (tW σ m))), some (.int (nI (fb_ct m 4096))), some (.int (nI (fb_ct B 4096))), none, none] [] (hp q S P A D K X E Z I J V) := by
  obtain ⟨h7, h6⟩ := hB
  have hN := fb_ct_le B 4096
  have hl := x_loop (i := 166) (pc := 67) (fun k => [some (.ref 163), some (.int (nI (fb_sm (fun i => (fun x => if m x = true then wP σ x (mn σ) else 0) (flw B i)) k))), some (.int (nI (fb_sm (fun i => (fun x => if m x = true then 1 else 0) (flw B i)) k))), some (.int (nI k)), none, none]) (fun _ => (hp q S P A D K X E Z I J V)) (fb_ct B 4096) (fun k hk => by
    rw [D166_67]
    have h1 : ¬ fb_ct B 4096 ≤ k := by omega
    obtain ⟨hx, -, -⟩ := flw_mem hk
    have e6 := h6 k hk
    have e12 := hM k hk
    rw [fb_sm_succ, fb_sm_succ]
    generalize fb_sm (fun i => (fun x => if m x = true then wP σ x (mn σ) else 0) (flw B i)) k = u
    generalize fb_sm (fun i => (fun x => if m x = true then 1 else 0) (flw B i)) k = w
    have ew := t_weightOf (q := q) (S := S) (P := P) (A := A) (D := D) (K := K) (X := X) (E := E) (Z := Z) (I := I) (J := J) hw hr hx
    cases hb : m (flw B k)
    · simp (maxSteps := 2000000) (disch := omega) only [e_inl, e_goto, e_fall, e_if, e_icmp, e_iret, e_zret, e_lret, e_vret, e_call0_0, e_call0_1, e_call0_2, e_call0_3, e_call0_4, e_call1_0, e_call1_1, e_call1_2, e_call1_3, e_call1_4, e_call2_0, e_call2_1, e_call2_2, e_call2_3, e_call2_4, e_call3_0, e_call3_1, e_call3_2, e_call3_3, e_call3_4, e_call4_0, e_call4_1, e_call4_2, e_call4_3, e_call4_4, e_call5_0, e_call5_1, e_call5_2, e_call5_3, e_call5_4, e_call6_0, e_call6_1, e_call6_2, e_call6_3, e_call6_4, xP, xld, xst1, xst2, xis2, xii, xid, xll, xlv, xls, xlc, xil, xli, xrd, xdup, xdup2, xc1, xpu, c_eq, c_ne, c_lt, c_ge, c_gt, c_le, Option.bind_some, Option.map_some, List.length_nil, List.length_cons, Nat.reduceAdd, Nat.reduceLeDiff, Int.reduceToNat, Bool.and_self, Bool.false_eq_true, if_true, if_false, D166_98, D166_99, D166_115, D166_116, o_m, g_m_0, g_m_1, g_m_2, g_m_3, g_m_4, g_m_5, g_m_6, g_m_7, g_m_8, g_m_9, g_m_10, g_m_11, g_m_12, g_m_13, g_m_14, g_m_15, g_m_16, g_m_17, g_m_18, g_m_19, g_m_20, g_m_21, p_m_3, p_m_7, p_m_8, p_m_11, p_m_13, p_m_15, p_m_16, p_m_17, p_m_18, p_m_21, p_m_5_0, p_m_5_1, r_m0, s_m0, r_m1, s_m1, r_m2, s_m2, r_m4, s_m4, r_m6, s_m6, r_m9, s_m9, r_m10, s_m10, r_m12, s_m12, r_m14, s_m14, r_m19, s_m19, r_m20, s_m20, Nat.reduceEqDiff, decide_true, decide_false, Bool.true_and, Bool.false_and, Bool.and_true, Bool.and_false, zB_tt, zB_ff, not_false_eq_true, not_true_eq_false, n_lit, n_mul, nI_add, n_sub, x_in, nI_clamp, nI_ltI, nI_leI, nI_eq, and_self, true_and, and_true, h7, h1, e12, hb, n_0]
    · simp (maxSteps := 2000000) (disch := omega) only [e_inl, e_goto, e_fall, e_if, e_icmp, e_iret, e_zret, e_lret, e_vret, e_call0_0, e_call0_1, e_call0_2, e_call0_3, e_call0_4, e_call1_0, e_call1_1, e_call1_2, e_call1_3, e_call1_4, e_call2_0, e_call2_1, e_call2_2, e_call2_3, e_call2_4, e_call3_0, e_call3_1, e_call3_2, e_call3_3, e_call3_4, e_call4_0, e_call4_1, e_call4_2, e_call4_3, e_call4_4, e_call5_0, e_call5_1, e_call5_2, e_call5_3, e_call5_4, e_call6_0, e_call6_1, e_call6_2, e_call6_3, e_call6_4, xP, xld, xst1, xst2, xis2, xii, xid, xll, xlv, xls, xlc, xil, xli, xrd, xdup, xdup2, xc1, xpu, c_eq, c_ne, c_lt, c_ge, c_gt, c_le, Option.bind_some, Option.map_some, List.length_nil, List.length_cons, Nat.reduceAdd, Nat.reduceLeDiff, Int.reduceToNat, Bool.and_self, Bool.false_eq_true, if_true, if_false, D166_99, D166_116, o_m, g_m_0, g_m_1, g_m_2, g_m_3, g_m_4, g_m_5, g_m_6, g_m_7, g_m_8, g_m_9, g_m_10, g_m_11, g_m_12, g_m_13, g_m_14, g_m_15, g_m_16, g_m_17, g_m_18, g_m_19, g_m_20, g_m_21, p_m_3, p_m_7, p_m_8, p_m_11, p_m_13, p_m_15, p_m_16, p_m_17, p_m_18, p_m_21, p_m_5_0, p_m_5_1, r_m0, s_m0, r_m1, s_m1, r_m2, s_m2, r_m4, s_m4, r_m6, s_m6, r_m9, s_m9, r_m10, s_m10, r_m12, s_m12, r_m14, s_m14, r_m19, s_m19, r_m20, s_m20, Nat.reduceEqDiff, decide_true, decide_false, Bool.true_and, Bool.false_and, Bool.and_true, Bool.and_false, zB_tt, zB_ff, not_false_eq_true, not_true_eq_false, n_lit, n_mul, nI_add, n_sub, x_in, nI_clamp, nI_ltI, nI_leI, nI_eq, and_self, true_and, and_true, h7, h1, e12, hb, n_0, Nat.one_ne_zero, e6, ew])
  have e0 : fb_sm (fun i => (fun x => if m x = true then wP σ x (mn σ) else 0) (flw B i)) 0 = 0 := rfl
  have e1 : fb_sm (fun i => (fun x => if m x = true then 1 else 0) (flw B i)) 0 = 0 := rfl
  have e2 : fb_sm (fun i => (fun x => if m x = true then wP σ x (mn σ) else 0) (flw B i)) (fb_ct B 4096) = tW σ m := by
    have := fl_sm B (fun x => if m x = true then wP σ x (mn σ) else 0) 4096
    refine Eq.trans this ?_
    apply fb_sm_cong
    intro x _
    show (if B x = true then (if m x = true then wP σ x (mn σ) else 0) else 0) = _
    by_cases hm : m x = true
    · rw [if_pos (hsub x hm)]
    · rw [if_neg hm]; split <;> rfl
  have e3 : fb_sm (fun i => (fun x => if m x = true then 1 else 0) (flw B i)) (fb_ct B 4096) = fb_ct m 4096 := by
    have := fl_sm B (fun x => if m x = true then 1 else 0) 4096
    refine Eq.trans this ?_
    rw [ct_sm]
    apply fb_sm_cong
    intro x _
    show (if B x = true then (if m x = true then 1 else 0) else 0) = _
    by_cases hm : m x = true
    · rw [if_pos (hsub x hm)]
    · rw [if_neg hm]; split <;> rfl
  rw [e0, e1, e2, e3] at hl
  rw [hl, D166_67]
  simp (maxSteps := 2000000) (disch := omega) only [e_inl, e_goto, e_fall, e_if, e_icmp, e_iret, e_zret, e_lret, e_vret, e_call0_0, e_call0_1, e_call0_2, e_call0_3, e_call0_4, e_call1_0, e_call1_1, e_call1_2, e_call1_3, e_call1_4, e_call2_0, e_call2_1, e_call2_2, e_call2_3, e_call2_4, e_call3_0, e_call3_1, e_call3_2, e_call3_3, e_call3_4, e_call4_0, e_call4_1, e_call4_2, e_call4_3, e_call4_4, e_call5_0, e_call5_1, e_call5_2, e_call5_3, e_call5_4, e_call6_0, e_call6_1, e_call6_2, e_call6_3, e_call6_4, xP, xld, xst1, xst2, xis2, xii, xid, xll, xlv, xls, xlc, xil, xli, xrd, xdup, xdup2, xc1, xpu, c_eq, c_ne, c_lt, c_ge, c_gt, c_le, Option.bind_some, Option.map_some, List.length_nil, List.length_cons, Nat.reduceAdd, Nat.reduceLeDiff, Int.reduceToNat, Bool.and_self, Bool.false_eq_true, if_true, if_false, o_m, g_m_0, g_m_1, g_m_2, g_m_3, g_m_4, g_m_5, g_m_6, g_m_7, g_m_8, g_m_9, g_m_10, g_m_11, g_m_12, g_m_13, g_m_14, g_m_15, g_m_16, g_m_17, g_m_18, g_m_19, g_m_20, g_m_21, p_m_3, p_m_7, p_m_8, p_m_11, p_m_13, p_m_15, p_m_16, p_m_17, p_m_18, p_m_21, p_m_5_0, p_m_5_1, r_m0, s_m0, r_m1, s_m1, r_m2, s_m2, r_m4, s_m4, r_m6, s_m6, r_m9, s_m9, r_m10, s_m10, r_m12, s_m12, r_m14, s_m14, r_m19, s_m19, r_m20, s_m20, Nat.reduceEqDiff, decide_true, decide_false, Bool.true_and, Bool.false_and, Bool.and_true, Bool.and_false, zB_tt, zB_ff, not_false_eq_true, not_true_eq_false, n_lit, n_mul, nI_add, n_sub, x_in, nI_clamp, nI_ltI, nI_leI, nI_eq, and_self, true_and, and_true, h7, Nat.le_refl]
end
