/-! ===== the class: lawful rows counted by their sums ===== -/
def cS (m : Nat → Bool) (s n : Nat) : Nat := fb_sm (fun x => if m x = true then (if sP x 4 = s then 1 else 0) else 0) n
def zC (m : Nat → Bool) (z : Nat → Int32) (n : Nat) : Nat → Int32 := fun s => if s < 29 then nI (cS m s n) else z s
theorem cS_succ (m : Nat → Bool) (s n : Nat) : cS m s (n + 1) = cS m s n + (if m n = true then (if sP n 4 = s then 1 else 0) else 0) := rfl
theorem zC_0 (m : Nat → Bool) (z : Nat → Int32) : fa_fill (fun _ => nI 0) z 29 = zC m z 0 := by
  funext s
  unfold fa_fill zC
  by_cases h : s < 29
  · rw [if_pos h, if_pos h]
    rfl
  · rw [if_neg h, if_neg h]
theorem zC_no {m : Nat → Bool} (z : Nat → Int32) {n : Nat} (h : m n = false) : zC m z (n + 1) = zC m z n := by
  funext s
  unfold zC
  rw [cS_succ, h, if_neg (show ¬ (false = true) by decide), Nat.add_zero]
theorem zC_yes {m : Nat → Bool} (z : Nat → Int32) {n : Nat} (h : m n = true) (h28 : sP n 4 < 29) : upd (zC m z n) (sP n 4) (zC m z n (sP n 4) + nI 1) = zC m z (n + 1) := by
  funext s
  by_cases e : s = sP n 4
  · rw [e, u_s]
    unfold zC
    rw [if_pos h28, if_pos h28, cS_succ, h, if_pos rfl, if_pos rfl, nI_add]
  · rw [u_n _ _ e]
    unfold zC
    rw [cS_succ, h, if_pos rfl, if_neg (show ¬ sP n 4 = s from fun y => e y.symm), Nat.add_zero]
theorem zC_word {m : Nat → Bool} (z : Nat → Int32) {w : Nat} (h : wdN m w = 0) : ∀ b, b ≤ 64 → zC m z (64 * w + b) = zC m z (64 * w)
  | 0, _ => rfl
  | b + 1, hb => by
    have e := zC_no z (wdN_z h (show b < 64 by omega))
    rw [show 64 * w + (b + 1) = 64 * w + b + 1 by omega, e]
    exact zC_word z h b (by omega)
theorem sP_w {w b : Nat} (hw : w < 64) (hb : b < 64) : sP (64 * w + b) 4 = w / 8 + w % 8 + b / 8 + b % 8 := by
  obtain ⟨v0, v1, v2, v3⟩ := vl_w hw hb
  show 0 + vl (64 * w + b) 0 + vl (64 * w + b) 1 + vl (64 * w + b) 2 + vl (64 * w + b) 3 = _
  rw [v0, v1, v2, v3]
  omega
theorem smN_c {σ : mS} (hw : wf σ) (s : Nat) : cS (lawB σ) s 4096 = smN σ s := by
  unfold cS smN
  apply fb_sm_cong
  intro x _
  show (if lawB σ x = true then (if sP x 4 = s then 1 else 0) else 0) = if lawB σ x = true then (if sP x (mn σ) = s then 1 else 0) else 0
  by_cases h : lawB σ x = true
  · have hin : inR σ x := by
      have h' := h
      unfold lawB at h'
      rw [Bool.and_eq_true] at h'
      exact (inRb_iff σ x).mp h'.1
    rw [sP_4 hw hin]
  · rw [if_neg h, if_neg h]
theorem smN_29 {σ : mS} (hw : wf σ) {s : Nat} (h : 29 ≤ s) : smN σ s = 0 := by
  rw [← smN_c hw]
  unfold cS
  have e := fb_sm_cong (f := fun x => if lawB σ x = true then (if sP x 4 = s then 1 else 0) else 0) (g := fun _ => 0) (n := 4096) (fun x _ => by
    show (if lawB σ x = true then (if sP x 4 = s then 1 else 0) else 0) = 0
    have h4 := sP_le x 4
    rw [if_neg (show ¬ sP x 4 = s by omega)]
    split <;> rfl)
  rw [e, fb_sm_const]
section
variable {q : Nat × (Nat → Int32)} {S : Nat → xSt} {P : Int32 × (Nat → Nat)} {A : (Nat → Int64) × Int32 × Int32 × (Nat → Int64) × (Nat → Nat → Int64)} {D : (Nat → Int64) × Int64} {K : Nat → Int64} {X : Int32 × Int32 × Int32 × (Nat → Int32) × (Nat → Int32)} {E Z : Nat → Int32} {I : Nat → Int32} {J : Nat → Int64} {V : Nat → Nat → Int32}
set_option maxRecDepth 100000 in
theorem c_cb_step {m : Nat → Bool} (hR : RS m A.1) {w b : Nat} (hw : w < 64) (hb : b < 64) (h0 : ¬ wdN m w = 0) (z : Nat → Int32) {y : Option Value} : ∃ y', den 38 47 [some (.ref 132), some (.ref 162), some (.int (nI w)), some (.int (nI (w / 8 + w % 8))), some (.int (nI b)), y] [] (hp q S P A D K X E (zC m z (64 * w + b)) I J V) = den 38 47 [some (.ref 132), some (.ref 162), some (.int (nI w)), some (.int (nI (w / 8 + w % 8))), some (.int (nI (b + 1))), y'] [] (hp q S P A D K X E (zC m z (64 * w + (b + 1))) I J V) := by
  have h1 : ¬ 64 ≤ b := by omega
  have er : ∀ Z : Nat → Int32, xlald (hp q S P A D K X E Z I J V) 133 (nI w) = some (.long (lN (wdN m w))) := fun Z => by rw [r_lawful, if_pos ⟨x_in hw (by omega), by omega⟩, nI_clamp (by omega), hR w hw]
  have er1 := er (zC m z (64 * w + b))
  have m1 : (lg_cmp (lN (wdN m w)) (Int64.ofInt 0) = nI 0) = False := by rw [← n_0, m_cmp0 (wdN_lt m w)]; exact eq_false h0
  have ed : nI b / nI 8 = nI (b / 8) := pk_div (by omega) (by omega) (by omega)
  have h8 : (nI 8 = nI 0) = False := by decide
  have hsub : b - b / 8 * 8 = b % 8 := by omega
  have eb := m_bit0 (wdN_lt m w) hb
  rw [wdN_bit hb] at eb
  have es := sP_w hw hb
  have h28 : w / 8 + w % 8 + b / 8 + b % 8 < 29 := by omega
  have el : xlen (hp q S P A D K X E (zC m z (64 * w + b)) I J V) 162 = some (.int (nI 29)) := l_rowsBySum ..
  refine ⟨some (.int (nI (w / 8 + w % 8 + b / 8 + b % 8))), ?_⟩
  rw [D38_47]
  by_cases hm : m (64 * w + b) = true
  · have eb2 : ¬ lg_cmp (((lN (wdN m w)).toUInt64 >>> ((nI b).toInt64.toUInt64 &&& Int64.toUInt64 63)).toInt64 &&& Int64.ofInt 1) (Int64.ofInt 0) = nI 0 := by rw [eb, hm]; decide
    have ez := zC_yes z hm (by rw [es]; exact h28)
    rw [es] at ez
    have h29 : ¬ 29 ≤ w / 8 + w % 8 + b / 8 + b % 8 := by omega
    have e2 : zC m z (64 * w + (b + 1)) = zC m z (64 * w + b + 1) := rfl
    rw [e2, ← ez]
    clear ez e2 es
    generalize zC m z (64 * w + b) = Z1 at *
    have ei : xiald (hp q S P A D K X E (Z1) I J V) 162 (nI (w / 8 + w % 8 + b / 8 + b % 8)) = some (.int (Z1 (w / 8 + w % 8 + b / 8 + b % 8))) := by rw [r_rowsBySum, if_pos (x_in h28 (by omega)), nI_clamp (by omega)]
    have ej : ∀ x : Int32, xiast (hp q S P A D K X E (Z1) I J V) 162 (nI (w / 8 + w % 8 + b / 8 + b % 8)) x = some (hp q S P A D K X E (upd Z1 (w / 8 + w % 8 + b / 8 + b % 8) x) I J V) := fun x => by rw [s_rowsBySum, if_pos ⟨x_in h28 (by omega), by omega⟩, nI_clamp (by omega)]
    simp (maxSteps := 2000000) (disch := omega) only [e_inl, e_goto, e_fall, e_if, e_icmp, e_iret, e_zret, e_lret, e_vret, e_call0_0, e_call0_1, e_call0_2, e_call0_3, e_call0_4, e_call1_0, e_call1_1, e_call1_2, e_call1_3, e_call1_4, e_call2_0, e_call2_1, e_call2_2, e_call2_3, e_call2_4, e_call3_0, e_call3_1, e_call3_2, e_call3_3, e_call3_4, e_call4_0, e_call4_1, e_call4_2, e_call4_3, e_call4_4, e_call5_0, e_call5_1, e_call5_2, e_call5_3, e_call5_4, e_call6_0, e_call6_1, e_call6_2, e_call6_3, e_call6_4, xP, xld, xst1, xst2, xis2, xii, xid, xll, xlv, xls, xlc, xil, xli, xrd, xdup, xdup2, xc1, xpu, c_eq, c_ne, c_lt, c_ge, c_gt, c_le, Option.bind_some, Option.map_some, List.length_nil, List.length_cons, Nat.reduceAdd, Nat.reduceLeDiff, Int.reduceToNat, Bool.and_self, Bool.false_eq_true, if_true, if_false, D38_111, g_lawful_0, n_lit, nI_leI, h1, er1, n_0, m1, h8, ed, n_mul, n_sub, hsub, nI_add, eb2, el, h29, ei, ej]
  · have eb2 : lg_cmp (((lN (wdN m w)).toUInt64 >>> ((nI b).toInt64.toUInt64 &&& Int64.toUInt64 63)).toInt64 &&& Int64.ofInt 1) (Int64.ofInt 0) = nI 0 := by rw [eb]; exact Bool.eq_false_iff.mpr hm
    have e2 : zC m z (64 * w + (b + 1)) = zC m z (64 * w + b) := zC_no z (Bool.eq_false_iff.mpr hm)
    rw [e2]
    generalize zC m z (64 * w + b) = Z1 at *
    simp (maxSteps := 2000000) (disch := omega) only [e_inl, e_goto, e_fall, e_if, e_icmp, e_iret, e_zret, e_lret, e_vret, e_call0_0, e_call0_1, e_call0_2, e_call0_3, e_call0_4, e_call1_0, e_call1_1, e_call1_2, e_call1_3, e_call1_4, e_call2_0, e_call2_1, e_call2_2, e_call2_3, e_call2_4, e_call3_0, e_call3_1, e_call3_2, e_call3_3, e_call3_4, e_call4_0, e_call4_1, e_call4_2, e_call4_3, e_call4_4, e_call5_0, e_call5_1, e_call5_2, e_call5_3, e_call5_4, e_call6_0, e_call6_1, e_call6_2, e_call6_3, e_call6_4, xP, xld, xst1, xst2, xis2, xii, xid, xll, xlv, xls, xlc, xil, xli, xrd, xdup, xdup2, xc1, xpu, c_eq, c_ne, c_lt, c_ge, c_gt, c_le, Option.bind_some, Option.map_some, List.length_nil, List.length_cons, Nat.reduceAdd, Nat.reduceLeDiff, Int.reduceToNat, Bool.and_self, Bool.false_eq_true, if_true, if_false, D38_111, g_lawful_0, n_lit, nI_leI, h1, er1, n_0, m1, h8, ed, n_mul, n_sub, hsub, nI_add, eb2]
set_option maxRecDepth 100000 in
theorem c_cb_47 {m : Nat → Bool} (hR : RS m A.1) {w : Nat} (hw : w < 64) (h0 : ¬ wdN m w = 0) (z : Nat → Int32) (j : Nat) : ∀ (b : Nat) (y : Option Value), b + j = 64 → ∃ y', den 38 47 [some (.ref 132), some (.ref 162), some (.int (nI w)), some (.int (nI (w / 8 + w % 8))), some (.int (nI b)), y] [] (hp q S P A D K X E (zC m z (64 * w + b)) I J V) = den 38 117 [some (.ref 132), some (.ref 162), some (.int (nI w)), some (.int (nI (w / 8 + w % 8))), some (.int (nI 64)), y'] [] (hp q S P A D K X E (zC m z (64 * w + 64)) I J V) := by
  induction j with
  | zero =>
    intro b y hb
    have hb64 : b = 64 := by omega
    subst hb64
    refine ⟨y, ?_⟩
    rw [D38_47]
    simp (maxSteps := 2000000) (disch := omega) only [e_inl, e_goto, e_fall, e_if, e_icmp, e_iret, e_zret, e_lret, e_vret, e_call0_0, e_call0_1, e_call0_2, e_call0_3, e_call0_4, e_call1_0, e_call1_1, e_call1_2, e_call1_3, e_call1_4, e_call2_0, e_call2_1, e_call2_2, e_call2_3, e_call2_4, e_call3_0, e_call3_1, e_call3_2, e_call3_3, e_call3_4, e_call4_0, e_call4_1, e_call4_2, e_call4_3, e_call4_4, e_call5_0, e_call5_1, e_call5_2, e_call5_3, e_call5_4, e_call6_0, e_call6_1, e_call6_2, e_call6_3, e_call6_4, xP, xld, xst1, xst2, xis2, xii, xid, xll, xlv, xls, xlc, xil, xli, xrd, xdup, xdup2, xc1, xpu, c_eq, c_ne, c_lt, c_ge, c_gt, c_le, Option.bind_some, Option.map_some, List.length_nil, List.length_cons, Nat.reduceAdd, Nat.reduceLeDiff, Int.reduceToNat, Bool.and_self, Bool.false_eq_true, if_true, if_false, n_lit, nI_leI, Nat.le_refl]
  | succ j ih =>
    intro b y hb
    obtain ⟨y1, e1⟩ := c_cb_step (q := q) (S := S) (P := P) (A := A) (D := D) (K := K) (X := X) (E := E) (I := I) (J := J) (V := V) hR hw (show b < 64 by omega) h0 z (y := y)
    obtain ⟨y2, e2⟩ := ih (b + 1) y1 (by omega)
    exact ⟨y2, e1.trans e2⟩
set_option maxRecDepth 100000 in
theorem c_cb_26 {m : Nat → Bool} (hR : RS m A.1) (z : Nat → Int32) (j : Nat) : ∀ (w : Nat) (y3 y4 y5 : Option Value), w + j = 64 → den 38 26 [some (.ref 132), some (.ref 162), some (.int (nI w)), y3, y4, y5] [] (hp q S P A D K X E (zC m z (64 * w)) I J V) = some (none, (hp q S P A D K X E (zC m z 4096) I J V)) := by
  induction j with
  | zero =>
    intro w y3 y4 y5 hw
    have hw64 : w = 64 := by omega
    subst hw64
    rw [D38_26]
    simp (maxSteps := 2000000) (disch := omega) only [e_inl, e_goto, e_fall, e_if, e_icmp, e_iret, e_zret, e_lret, e_vret, e_call0_0, e_call0_1, e_call0_2, e_call0_3, e_call0_4, e_call1_0, e_call1_1, e_call1_2, e_call1_3, e_call1_4, e_call2_0, e_call2_1, e_call2_2, e_call2_3, e_call2_4, e_call3_0, e_call3_1, e_call3_2, e_call3_3, e_call3_4, e_call4_0, e_call4_1, e_call4_2, e_call4_3, e_call4_4, e_call5_0, e_call5_1, e_call5_2, e_call5_3, e_call5_4, e_call6_0, e_call6_1, e_call6_2, e_call6_3, e_call6_4, xP, xld, xst1, xst2, xis2, xii, xid, xll, xlv, xls, xlc, xil, xli, xrd, xdup, xdup2, xc1, xpu, c_eq, c_ne, c_lt, c_ge, c_gt, c_le, Option.bind_some, Option.map_some, List.length_nil, List.length_cons, Nat.reduceAdd, Nat.reduceLeDiff, Int.reduceToNat, Bool.and_self, Bool.false_eq_true, if_true, if_false, D38_123, n_lit, nI_leI, Nat.le_refl, Nat.reduceMul]
  | succ j ih =>
    intro w y3 y4 y5 hw
    have hw64 : w < 64 := by omega
    have h1 : ¬ 64 ≤ w := by omega
    have e0 := c_wordValue hw64 (show 0 < 4 by omega) (hp q S P A D K X E (zC m z (64 * w)) I J V)
    have e1 := c_wordValue hw64 (show 1 < 4 by omega) (hp q S P A D K X E (zC m z (64 * w)) I J V)
    have v0 : wv w 0 = w / 8 := rfl
    have v1 : wv w 1 = w % 8 := rfl
    rw [v0] at e0
    rw [v1] at e1
    rw [D38_26]
    by_cases h0 : wdN m w = 0
    · have er1 : xlald (hp q S P A D K X E (zC m z (64 * w)) I J V) 133 (nI w) = some (.long (lN (wdN m w))) := by rw [r_lawful, if_pos ⟨x_in hw64 (by omega), by omega⟩, nI_clamp (by omega), hR w hw64]
      have m1 : lg_cmp (lN (wdN m w)) (Int64.ofInt 0) = nI 0 := by rw [← n_0, m_cmp0 (wdN_lt m w)]; exact h0
      have ez := zC_word z h0 64 (by omega)
      have ih2 := ih (w + 1) (some (.int (nI (w / 8 + w % 8)))) (some (.int (nI 0))) y5 (by omega)
      rw [show 64 * (w + 1) = 64 * w + 64 by omega, ez] at ih2
      have h64 : ¬ 64 ≤ 0 := by omega
      generalize zC m z (64 * w) = Z1 at *
      simp (maxSteps := 2000000) (disch := omega) only [e_inl, e_goto, e_fall, e_if, e_icmp, e_iret, e_zret, e_lret, e_vret, e_call0_0, e_call0_1, e_call0_2, e_call0_3, e_call0_4, e_call1_0, e_call1_1, e_call1_2, e_call1_3, e_call1_4, e_call2_0, e_call2_1, e_call2_2, e_call2_3, e_call2_4, e_call3_0, e_call3_1, e_call3_2, e_call3_3, e_call3_4, e_call4_0, e_call4_1, e_call4_2, e_call4_3, e_call4_4, e_call5_0, e_call5_1, e_call5_2, e_call5_3, e_call5_4, e_call6_0, e_call6_1, e_call6_2, e_call6_3, e_call6_4, xP, xld, xst1, xst2, xis2, xii, xid, xll, xlv, xls, xlc, xil, xli, xrd, xdup, xdup2, xc1, xpu, c_eq, c_ne, c_lt, c_ge, c_gt, c_le, Option.bind_some, Option.map_some, List.length_nil, List.length_cons, Nat.reduceAdd, Nat.reduceLeDiff, Int.reduceToNat, Bool.and_self, Bool.false_eq_true, if_true, if_false, D38_47, D38_117, g_lawful_0, n_lit, nI_leI, h1, e0, e1, nI_add, h64, er1, n_0, m1, ih2]
    · obtain ⟨y', e2⟩ := c_cb_47 (q := q) (S := S) (P := P) (A := A) (D := D) (K := K) (X := X) (E := E) (I := I) (J := J) (V := V) hR hw64 h0 z 64 0 y5 (by omega)
      have ih2 := ih (w + 1) (some (.int (nI (w / 8 + w % 8)))) (some (.int (nI 64))) y' (by omega)
      rw [show 64 * (w + 1) = 64 * w + 64 by omega] at ih2
      rw [Nat.add_zero] at e2
      simp (maxSteps := 2000000) (disch := omega) only [e_inl, e_goto, e_fall, e_if, e_icmp, e_iret, e_zret, e_lret, e_vret, e_call0_0, e_call0_1, e_call0_2, e_call0_3, e_call0_4, e_call1_0, e_call1_1, e_call1_2, e_call1_3, e_call1_4, e_call2_0, e_call2_1, e_call2_2, e_call2_3, e_call2_4, e_call3_0, e_call3_1, e_call3_2, e_call3_3, e_call3_4, e_call4_0, e_call4_1, e_call4_2, e_call4_3, e_call4_4, e_call5_0, e_call5_1, e_call5_2, e_call5_3, e_call5_4, e_call6_0, e_call6_1, e_call6_2, e_call6_3, e_call6_4, xP, xld, xst1, xst2, xis2, xii, xid, xll, xlv, xls, xlc, xil, xli, xrd, xdup, xdup2, xc1, xpu, c_eq, c_ne, c_lt, c_ge, c_gt, c_le, Option.bind_some, Option.map_some, List.length_nil, List.length_cons, Nat.reduceAdd, Nat.reduceLeDiff, Int.reduceToNat, Bool.and_self, Bool.false_eq_true, if_true, if_false, n_lit, nI_leI, h1, e0, e1, nI_add]
      rw [e2, D38_117]
      simp (maxSteps := 2000000) (disch := omega) only [e_inl, e_goto, e_fall, e_if, e_icmp, e_iret, e_zret, e_lret, e_vret, e_call0_0, e_call0_1, e_call0_2, e_call0_3, e_call0_4, e_call1_0, e_call1_1, e_call1_2, e_call1_3, e_call1_4, e_call2_0, e_call2_1, e_call2_2, e_call2_3, e_call2_4, e_call3_0, e_call3_1, e_call3_2, e_call3_3, e_call3_4, e_call4_0, e_call4_1, e_call4_2, e_call4_3, e_call4_4, e_call5_0, e_call5_1, e_call5_2, e_call5_3, e_call5_4, e_call6_0, e_call6_1, e_call6_2, e_call6_3, e_call6_4, xP, xld, xst1, xst2, xis2, xii, xid, xll, xlv, xls, xlc, xil, xli, xrd, xdup, xdup2, xc1, xpu, c_eq, c_ne, c_lt, c_ge, c_gt, c_le, Option.bind_some, Option.map_some, List.length_nil, List.length_cons, Nat.reduceAdd, Nat.reduceLeDiff, Int.reduceToNat, Bool.and_self, Bool.false_eq_true, if_true, if_false, n_lit, nI_add]
      exact ih2
set_option maxRecDepth 100000 in
theorem c_countBySum {m : Nat → Bool} (hR : RS m A.1) : ∃ Z' : Nat → Int32, xcall 38 [.ref 132, .ref 162] (hp q S P A D K X E Z I J V) = some (none, (hp q S P A D K X E (Z') I J V)) ∧ ∀ s, s < 29 → Z' s = nI (cS m s 4096) := by
  refine ⟨zC m Z 4096, ?_, fun s hs => if_pos hs⟩
  have e26 := c_cb_26 (q := q) (S := S) (P := P) (A := A) (D := D) (K := K) (X := X) (E := E) (I := I) (J := J) (V := V) hR Z 64 0 none none none (by omega)
  have hl := x_loop (i := 38) (pc := 2) (fun k => [some (.ref 132), some (.ref 162), some (.int (nI k)), none, none, none]) (fun k => (hp q S P A D K X E (fa_fill (fun _ => nI 0) Z k) I J V)) 29 (fun k hk => by
    have h1 : ¬ 29 ≤ k := by omega
    have el : xlen (hp q S P A D K X E (fa_fill (fun _ => nI 0) Z k) I J V) 162 = some (.int (nI 29)) := l_rowsBySum ..
    have es := fa_fill_succ (fun _ => nI 0) Z k
    have ej : ∀ (Z : Nat → Int32) (x : Int32), xiast (hp q S P A D K X E Z I J V) 162 (nI k) x = some (hp q S P A D K X E (upd Z k x) I J V) := fun Z x => by rw [s_rowsBySum, if_pos ⟨x_in hk (by omega), by omega⟩, nI_clamp (by omega)]
    rw [D38_2, ← es]
    generalize fa_fill (fun _ => nI 0) Z k = Z1 at *
    simp (maxSteps := 2000000) (disch := omega) only [e_inl, e_goto, e_fall, e_if, e_icmp, e_iret, e_zret, e_lret, e_vret, e_call0_0, e_call0_1, e_call0_2, e_call0_3, e_call0_4, e_call1_0, e_call1_1, e_call1_2, e_call1_3, e_call1_4, e_call2_0, e_call2_1, e_call2_2, e_call2_3, e_call2_4, e_call3_0, e_call3_1, e_call3_2, e_call3_3, e_call3_4, e_call4_0, e_call4_1, e_call4_2, e_call4_3, e_call4_4, e_call5_0, e_call5_1, e_call5_2, e_call5_3, e_call5_4, e_call6_0, e_call6_1, e_call6_2, e_call6_3, e_call6_4, xP, xld, xst1, xst2, xis2, xii, xid, xll, xlv, xls, xlc, xil, xli, xrd, xdup, xdup2, xc1, xpu, c_eq, c_ne, c_lt, c_ge, c_gt, c_le, Option.bind_some, Option.map_some, List.length_nil, List.length_cons, Nat.reduceAdd, Nat.reduceLeDiff, Int.reduceToNat, Bool.and_self, Bool.false_eq_true, if_true, if_false, n_lit, nI_leI, nI_add, h1, el, ej])
  simp only [fa_fill_0] at hl
  rw [N38 _ _ _ (o_lawful ..), D38_0]
  simp (maxSteps := 2000000) (disch := omega) only [e_inl, e_goto, e_fall, e_if, e_icmp, e_iret, e_zret, e_lret, e_vret, e_call0_0, e_call0_1, e_call0_2, e_call0_3, e_call0_4, e_call1_0, e_call1_1, e_call1_2, e_call1_3, e_call1_4, e_call2_0, e_call2_1, e_call2_2, e_call2_3, e_call2_4, e_call3_0, e_call3_1, e_call3_2, e_call3_3, e_call3_4, e_call4_0, e_call4_1, e_call4_2, e_call4_3, e_call4_4, e_call5_0, e_call5_1, e_call5_2, e_call5_3, e_call5_4, e_call6_0, e_call6_1, e_call6_2, e_call6_3, e_call6_4, xP, xld, xst1, xst2, xis2, xii, xid, xll, xlv, xls, xlc, xil, xli, xrd, xdup, xdup2, xc1, xpu, c_eq, c_ne, c_lt, c_ge, c_gt, c_le, Option.bind_some, Option.map_some, List.length_nil, List.length_cons, Nat.reduceAdd, Nat.reduceLeDiff, Int.reduceToNat, Bool.and_self, Bool.false_eq_true, if_true, if_false, n_lit]
  rw [hl, D38_2, zC_0 m Z]
  have e0 : zC m Z (64 * 0) = zC m Z 0 := rfl
  rw [e0] at e26
  simp (maxSteps := 2000000) (disch := omega) only [e_inl, e_goto, e_fall, e_if, e_icmp, e_iret, e_zret, e_lret, e_vret, e_call0_0, e_call0_1, e_call0_2, e_call0_3, e_call0_4, e_call1_0, e_call1_1, e_call1_2, e_call1_3, e_call1_4, e_call2_0, e_call2_1, e_call2_2, e_call2_3, e_call2_4, e_call3_0, e_call3_1, e_call3_2, e_call3_3, e_call3_4, e_call4_0, e_call4_1, e_call4_2, e_call4_3, e_call4_4, e_call5_0, e_call5_1, e_call5_2, e_call5_3, e_call5_4, e_call6_0, e_call6_1, e_call6_2, e_call6_3, e_call6_4, xP, xld, xst1, xst2, xis2, xii, xid, xll, xlv, xls, xlc, xil, xli, xrd, xdup, xdup2, xc1, xpu, c_eq, c_ne, c_lt, c_ge, c_gt, c_le, Option.bind_some, Option.map_some, List.length_nil, List.length_cons, Nat.reduceAdd, Nat.reduceLeDiff, Int.reduceToNat, Bool.and_self, Bool.false_eq_true, if_true, if_false, D38_24, n_lit, nI_leI, Nat.le_refl, e26]
set_option maxRecDepth 100000 in
theorem C_sums {M : mM} (hI : ClsI M S P A X E) (s : Int32) : ∃ (S' : Nat → xSt) (A' : (Nat → Int64) × Int32 × Int32 × (Nat → Int64) × (Nat → Nat → Int64)) (E' Z' : Nat → Int32), xcall 80 [.ref 2, .int s] (hp q S P A D K X E Z I J V) = some (some (.int (oSums M s).1), (hp q (S') P (A') D K X (E') (Z') I J V)) ∧ ClsI (oSums M s).2 S' P A' X E' := by
  have eb := c_bad (q := q) (S := S) (P := P) (A := A) (D := D) (K := K) (X := X) (E := E) (Z := Z) (I := I) (J := J) (V := V) _ rfl
  rw [N80 _ _ _ (o_x ..), D80_0]
  unfold oSums
  by_cases h0 : nI 0 ≤ s
  · rw [if_pos h0]
    obtain ⟨k, hk, rfl⟩ := nn_of h0
    rw [nI_clamp (n := k) (by omega)]
    obtain ⟨u, A', e1, hu, h8, hA⟩ := c_look (q := q) (S := S) (P := P) (A := A) (D := D) (K := K) (X := X) (E := E) (Z := Z) (I := I) (J := J) (V := V) hI.1 hI.2.1 hI.2.2.1
    obtain ⟨Z', e2, hZ⟩ := c_countBySum (q := q) (S := vf_upd S 0 u) (P := P) (A := A') (D := D) (K := K) (X := X) (E := E) (Z := Z) (I := I) (J := J) (V := V) hA.1
    refine ⟨_, A', E, Z', ?_, hI.look hu h8 hA⟩
    by_cases h29 : k < 29
    · have h1 : ¬ 29 ≤ k := by omega
      have ei : xiald (hp q (vf_upd S 0 u) P (A') D K X E (Z') I J V) 162 (nI k) = some (.int (nI (smN M.1 k))) := by rw [r_rowsBySum, if_pos (x_in h29 (by omega)), nI_clamp (by omega), hZ k h29, smN_c hI.1]
      simp (maxSteps := 2000000) (disch := omega) only [e_inl, e_goto, e_fall, e_if, e_icmp, e_iret, e_zret, e_lret, e_vret, e_call0_0, e_call0_1, e_call0_2, e_call0_3, e_call0_4, e_call1_0, e_call1_1, e_call1_2, e_call1_3, e_call1_4, e_call2_0, e_call2_1, e_call2_2, e_call2_3, e_call2_4, e_call3_0, e_call3_1, e_call3_2, e_call3_3, e_call3_4, e_call4_0, e_call4_1, e_call4_2, e_call4_3, e_call4_4, e_call5_0, e_call5_1, e_call5_2, e_call5_3, e_call5_4, e_call6_0, e_call6_1, e_call6_2, e_call6_3, e_call6_4, xP, xld, xst1, xst2, xis2, xii, xid, xll, xlv, xls, xlc, xil, xli, xrd, xdup, xdup2, xc1, xpu, c_eq, c_ne, c_lt, c_ge, c_gt, c_le, Option.bind_some, Option.map_some, List.length_nil, List.length_cons, Nat.reduceAdd, Nat.reduceLeDiff, Int.reduceToNat, Bool.and_self, Bool.false_eq_true, if_true, if_false, D80_11, D80_52, g_x_0, g_x_2, g_x_7, g_law_0, n_lit, n_0, h0, e1, e2, nI_leI, h1, ei]
    · have h1 : 29 ≤ k := by omega
      rw [smN_29 hI.1 h1]
      simp (maxSteps := 2000000) (disch := omega) only [e_inl, e_goto, e_fall, e_if, e_icmp, e_iret, e_zret, e_lret, e_vret, e_call0_0, e_call0_1, e_call0_2, e_call0_3, e_call0_4, e_call1_0, e_call1_1, e_call1_2, e_call1_3, e_call1_4, e_call2_0, e_call2_1, e_call2_2, e_call2_3, e_call2_4, e_call3_0, e_call3_1, e_call3_2, e_call3_3, e_call3_4, e_call4_0, e_call4_1, e_call4_2, e_call4_3, e_call4_4, e_call5_0, e_call5_1, e_call5_2, e_call5_3, e_call5_4, e_call6_0, e_call6_1, e_call6_2, e_call6_3, e_call6_4, xP, xld, xst1, xst2, xis2, xii, xid, xll, xlv, xls, xlc, xil, xli, xrd, xdup, xdup2, xc1, xpu, c_eq, c_ne, c_lt, c_ge, c_gt, c_le, Option.bind_some, Option.map_some, List.length_nil, List.length_cons, Nat.reduceAdd, Nat.reduceLeDiff, Int.reduceToNat, Bool.and_self, Bool.false_eq_true, if_true, if_false, D80_11, D80_51, D80_52, g_x_0, g_x_2, g_x_7, g_law_0, n_lit, n_0, h0, e1, e2, nI_leI, h1]
  · rw [if_neg h0]
    refine ⟨S, A, inc E 0, Z, ?_, clsBad hI (by omega)⟩
    simp (maxSteps := 2000000) (disch := omega) only [e_inl, e_goto, e_fall, e_if, e_icmp, e_iret, e_zret, e_lret, e_vret, e_call0_0, e_call0_1, e_call0_2, e_call0_3, e_call0_4, e_call1_0, e_call1_1, e_call1_2, e_call1_3, e_call1_4, e_call2_0, e_call2_1, e_call2_2, e_call2_3, e_call2_4, e_call3_0, e_call3_1, e_call3_2, e_call3_3, e_call3_4, e_call4_0, e_call4_1, e_call4_2, e_call4_3, e_call4_4, e_call5_0, e_call5_1, e_call5_2, e_call5_3, e_call5_4, e_call6_0, e_call6_1, e_call6_2, e_call6_3, e_call6_4, xP, xld, xst1, xst2, xis2, xii, xid, xll, xlv, xls, xlc, xil, xli, xrd, xdup, xdup2, xc1, xpu, c_eq, c_ne, c_lt, c_ge, c_gt, c_le, Option.bind_some, Option.map_some, List.length_nil, List.length_cons, Nat.reduceAdd, Nat.reduceLeDiff, Int.reduceToNat, Bool.and_self, Bool.false_eq_true, if_true, if_false, n_0, h0, eb]
set_option maxRecDepth 100000 in
theorem c_su_40 {σ : mS} {i : Nat} (hi : i < 2 ^ 31) (hZ : ∀ s, s < 29 → Z s = nI (smN σ s)) (j : Nat) : ∀ s, s + j = 29 → fb_ct (fun s => decide (0 < smN σ s)) s ≤ i → den 81 40 [some (.ref 2), some (.int (nI i)), some (.int (nI (fb_ct (fun s => decide (0 < smN σ s)) s))), some (.int (nI s))] [] (hp q S P A D K X E Z I J V) = some (some (.int (kth (fun s => decide (0 < smN σ s)) 29 i)), (hp q S P A D K X E Z I J V)) := by
  induction j with
  | zero =>
    intro s hs hle
    have hs29 : s = 29 := by omega
    subst hs29
    rw [kth_no hle, D81_40]
    simp (maxSteps := 2000000) (disch := omega) only [e_inl, e_goto, e_fall, e_if, e_icmp, e_iret, e_zret, e_lret, e_vret, e_call0_0, e_call0_1, e_call0_2, e_call0_3, e_call0_4, e_call1_0, e_call1_1, e_call1_2, e_call1_3, e_call1_4, e_call2_0, e_call2_1, e_call2_2, e_call2_3, e_call2_4, e_call3_0, e_call3_1, e_call3_2, e_call3_3, e_call3_4, e_call4_0, e_call4_1, e_call4_2, e_call4_3, e_call4_4, e_call5_0, e_call5_1, e_call5_2, e_call5_3, e_call5_4, e_call6_0, e_call6_1, e_call6_2, e_call6_3, e_call6_4, xP, xld, xst1, xst2, xis2, xii, xid, xll, xlv, xls, xlc, xil, xli, xrd, xdup, xdup2, xc1, xpu, c_eq, c_ne, c_lt, c_ge, c_gt, c_le, Option.bind_some, Option.map_some, List.length_nil, List.length_cons, Nat.reduceAdd, Nat.reduceLeDiff, Int.reduceToNat, Bool.and_self, Bool.false_eq_true, if_true, if_false, D81_71, n_lit, nI_leI, Nat.le_refl]
  | succ j ih =>
    intro s hs hle
    have h1 : ¬ 29 ≤ s := by omega
    have hs29 : s < 29 := by omega
    have hsm := smN_le σ s
    have hct := fb_ct_succ (fun s => decide (0 < smN σ s)) s
    have hcl := fb_ct_le (fun s => decide (0 < smN σ s)) s
    have ei : xiald (hp q S P A D K X E Z I J V) 162 (nI s) = some (.int (nI (smN σ s))) := by rw [r_rowsBySum, if_pos (x_in hs29 (by omega)), nI_clamp (by omega), hZ s hs29]
    have ih2 := ih (s + 1) (by omega)
    rw [D81_40]
    by_cases hb : 0 < smN σ s
    · have hb2 : ¬ smN σ s ≤ 0 := by omega
      have hb3 : (decide (0 < smN σ s)) = true := decide_eq_true hb
      rw [hb3, if_pos rfl] at hct
      by_cases h2 : fb_ct (fun s => decide (0 < smN σ s)) s = i
      · have ek := kth_at (p := fun s => decide (0 < smN σ s)) (n := 29) (s := s) hs29 hb3
        rw [h2] at ek ⊢
        rw [ek]
        simp (maxSteps := 2000000) (disch := omega) only [e_inl, e_goto, e_fall, e_if, e_icmp, e_iret, e_zret, e_lret, e_vret, e_call0_0, e_call0_1, e_call0_2, e_call0_3, e_call0_4, e_call1_0, e_call1_1, e_call1_2, e_call1_3, e_call1_4, e_call2_0, e_call2_1, e_call2_2, e_call2_3, e_call2_4, e_call3_0, e_call3_1, e_call3_2, e_call3_3, e_call3_4, e_call4_0, e_call4_1, e_call4_2, e_call4_3, e_call4_4, e_call5_0, e_call5_1, e_call5_2, e_call5_3, e_call5_4, e_call6_0, e_call6_1, e_call6_2, e_call6_3, e_call6_4, xP, xld, xst1, xst2, xis2, xii, xid, xll, xlv, xls, xlc, xil, xli, xrd, xdup, xdup2, xc1, xpu, c_eq, c_ne, c_lt, c_ge, c_gt, c_le, Option.bind_some, Option.map_some, List.length_nil, List.length_cons, Nat.reduceAdd, Nat.reduceLeDiff, Int.reduceToNat, Bool.and_self, Bool.false_eq_true, if_true, if_false, g_x_7, n_lit, n_0, nI_leI, h1, ei, hb2, not_true_eq_false]
      · rw [hct] at ih2
        have ih3 := ih2 (by omega)
        refine Eq.trans ?_ ih3
        generalize fb_ct (fun s => decide (0 < smN σ s)) s = y at *
        simp (maxSteps := 2000000) (disch := omega) only [e_inl, e_goto, e_fall, e_if, e_icmp, e_iret, e_zret, e_lret, e_vret, e_call0_0, e_call0_1, e_call0_2, e_call0_3, e_call0_4, e_call1_0, e_call1_1, e_call1_2, e_call1_3, e_call1_4, e_call2_0, e_call2_1, e_call2_2, e_call2_3, e_call2_4, e_call3_0, e_call3_1, e_call3_2, e_call3_3, e_call3_4, e_call4_0, e_call4_1, e_call4_2, e_call4_3, e_call4_4, e_call5_0, e_call5_1, e_call5_2, e_call5_3, e_call5_4, e_call6_0, e_call6_1, e_call6_2, e_call6_3, e_call6_4, xP, xld, xst1, xst2, xis2, xii, xid, xll, xlv, xls, xlc, xil, xli, xrd, xdup, xdup2, xc1, xpu, c_eq, c_ne, c_lt, c_ge, c_gt, c_le, Option.bind_some, Option.map_some, List.length_nil, List.length_cons, Nat.reduceAdd, Nat.reduceLeDiff, Int.reduceToNat, Bool.and_self, Bool.false_eq_true, if_true, if_false, D81_62, D81_65, g_x_7, n_lit, n_0, nI_leI, nI_add, nI_eq, h1, ei, hb2, h2, not_false_eq_true]
    · have hb2 : smN σ s ≤ 0 := by omega
      have hb3 : (decide (0 < smN σ s)) = false := decide_eq_false hb
      have hct2 : fb_ct (fun s => decide (0 < smN σ s)) (s + 1) = fb_ct (fun s => decide (0 < smN σ s)) s := by rw [hct, if_neg (by rw [hb3]; decide)]; rfl
      rw [hct2] at ih2
      refine Eq.trans ?_ (ih2 hle)
      generalize fb_ct (fun s => decide (0 < smN σ s)) s = y at *
      simp (maxSteps := 2000000) (disch := omega) only [e_inl, e_goto, e_fall, e_if, e_icmp, e_iret, e_zret, e_lret, e_vret, e_call0_0, e_call0_1, e_call0_2, e_call0_3, e_call0_4, e_call1_0, e_call1_1, e_call1_2, e_call1_3, e_call1_4, e_call2_0, e_call2_1, e_call2_2, e_call2_3, e_call2_4, e_call3_0, e_call3_1, e_call3_2, e_call3_3, e_call3_4, e_call4_0, e_call4_1, e_call4_2, e_call4_3, e_call4_4, e_call5_0, e_call5_1, e_call5_2, e_call5_3, e_call5_4, e_call6_0, e_call6_1, e_call6_2, e_call6_3, e_call6_4, xP, xld, xst1, xst2, xis2, xii, xid, xll, xlv, xls, xlc, xil, xli, xrd, xdup, xdup2, xc1, xpu, c_eq, c_ne, c_lt, c_ge, c_gt, c_le, Option.bind_some, Option.map_some, List.length_nil, List.length_cons, Nat.reduceAdd, Nat.reduceLeDiff, Int.reduceToNat, Bool.and_self, Bool.false_eq_true, if_true, if_false, D81_65, g_x_7, n_lit, n_0, nI_leI, nI_add, h1, ei, hb2]
set_option maxRecDepth 100000 in
theorem C_sum {M : mM} (hI : ClsI M S P A X E) (i : Int32) : ∃ (S' : Nat → xSt) (A' : (Nat → Int64) × Int32 × Int32 × (Nat → Int64) × (Nat → Nat → Int64)) (E' Z' : Nat → Int32), xcall 81 [.ref 2, .int i] (hp q S P A D K X E Z I J V) = some (some (.int (oSum M i).1), (hp q (S') P (A') D K X (E') (Z') I J V)) ∧ ClsI (oSum M i).2 S' P A' X E' := by
  have eb := c_bad (q := q) (S := S) (P := P) (A := A) (D := D) (K := K) (X := X) (E := E) (Z := Z) (I := I) (J := J) (V := V) _ rfl
  rw [N81 _ _ _ (o_x ..), D81_0]
  unfold oSum
  by_cases h0 : nI 0 ≤ i
  · rw [if_pos h0]
    obtain ⟨k, hk, rfl⟩ := nn_of h0
    rw [nI_clamp (n := k) (by omega)]
    obtain ⟨u, A', e1, hu, h8, hA⟩ := c_look (q := q) (S := S) (P := P) (A := A) (D := D) (K := K) (X := X) (E := E) (Z := Z) (I := I) (J := J) (V := V) hI.1 hI.2.1 hI.2.2.1
    obtain ⟨Z', e2, hZ⟩ := c_countBySum (q := q) (S := vf_upd S 0 u) (P := P) (A := A') (D := D) (K := K) (X := X) (E := E) (Z := Z) (I := I) (J := J) (V := V) hA.1
    refine ⟨_, A', E, Z', ?_, hI.look hu h8 hA⟩
    have e40 := c_su_40 (q := q) (S := vf_upd S 0 u) (P := P) (A := A') (D := D) (K := K) (X := X) (E := E) (Z := Z') (I := I) (J := J) (V := V) (σ := M.1) hk (fun s hs => by rw [hZ s hs, smN_c hI.1]) 29 0 (by omega) (Nat.zero_le _)
    have e0 : fb_ct (fun s => decide (0 < smN M.1 s)) 0 = 0 := rfl
    rw [e0] at e40
    generalize kth (fun s => decide (0 < smN M.1 s)) 29 k = y at *
    simp (maxSteps := 2000000) (disch := omega) only [e_inl, e_goto, e_fall, e_if, e_icmp, e_iret, e_zret, e_lret, e_vret, e_call0_0, e_call0_1, e_call0_2, e_call0_3, e_call0_4, e_call1_0, e_call1_1, e_call1_2, e_call1_3, e_call1_4, e_call2_0, e_call2_1, e_call2_2, e_call2_3, e_call2_4, e_call3_0, e_call3_1, e_call3_2, e_call3_3, e_call3_4, e_call4_0, e_call4_1, e_call4_2, e_call4_3, e_call4_4, e_call5_0, e_call5_1, e_call5_2, e_call5_3, e_call5_4, e_call6_0, e_call6_1, e_call6_2, e_call6_3, e_call6_4, xP, xld, xst1, xst2, xis2, xii, xid, xll, xlv, xls, xlc, xil, xli, xrd, xdup, xdup2, xc1, xpu, c_eq, c_ne, c_lt, c_ge, c_gt, c_le, Option.bind_some, Option.map_some, List.length_nil, List.length_cons, Nat.reduceAdd, Nat.reduceLeDiff, Int.reduceToNat, Bool.and_self, Bool.false_eq_true, if_true, if_false, D81_11, g_x_0, g_x_2, g_x_7, g_law_0, n_lit, n_0, h0, e1, e2, e40]
  · rw [if_neg h0]
    refine ⟨S, A, inc E 0, Z, ?_, clsBad hI (by omega)⟩
    simp (maxSteps := 2000000) (disch := omega) only [e_inl, e_goto, e_fall, e_if, e_icmp, e_iret, e_zret, e_lret, e_vret, e_call0_0, e_call0_1, e_call0_2, e_call0_3, e_call0_4, e_call1_0, e_call1_1, e_call1_2, e_call1_3, e_call1_4, e_call2_0, e_call2_1, e_call2_2, e_call2_3, e_call2_4, e_call3_0, e_call3_1, e_call3_2, e_call3_3, e_call3_4, e_call4_0, e_call4_1, e_call4_2, e_call4_3, e_call4_4, e_call5_0, e_call5_1, e_call5_2, e_call5_3, e_call5_4, e_call6_0, e_call6_1, e_call6_2, e_call6_3, e_call6_4, xP, xld, xst1, xst2, xis2, xii, xid, xll, xlv, xls, xlc, xil, xli, xrd, xdup, xdup2, xc1, xpu, c_eq, c_ne, c_lt, c_ge, c_gt, c_le, Option.bind_some, Option.map_some, List.length_nil, List.length_cons, Nat.reduceAdd, Nat.reduceLeDiff, Int.reduceToNat, Bool.and_self, Bool.false_eq_true, if_true, if_false, n_0, h0, eb]
end
