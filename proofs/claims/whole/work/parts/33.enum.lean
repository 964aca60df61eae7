/-! ===== first and next go through the rows in the ranges, rising ===== -/
theorem dig {x : Nat} (hx : x < 4096) : ∃ a b c d, a < 8 ∧ b < 8 ∧ c < 8 ∧ d < 8 ∧ x = cd4 a b c d :=
  ⟨x / 512 % 8, x / 64 % 8, x / 8 % 8, x % 8, by omega, by omega, by omega, by omega, by unfold cd4; omega⟩
theorem vl_cd {a b c d : Nat} (ha : a < 8) (hb : b < 8) (hc : c < 8) (hd : d < 8) : vl (cd4 a b c d) 0 = a ∧ vl (cd4 a b c d) 1 = b ∧ vl (cd4 a b c d) 2 = c ∧ vl (cd4 a b c d) 3 = d := by
  rw [vl_0, vl_1, vl_2, vl_3]
  unfold cd4
  refine ⟨?_, ?_, ?_, ?_⟩ <;> omega
theorem cd_lt {a b c d : Nat} (ha : a < 8) (hb : b < 8) (hc : c < 8) (hd : d < 8) : cd4 a b c d < 4096 := by
  unfold cd4
  omega
theorem rst_cd {a b c d l : Nat} (ha : a < 8) (hb : b < 8) (hc : c < 8) (hd : d < 8) (hl : l < 8) : rst (cd4 a b c d) 0 l = cd4 l b c d ∧ rst (cd4 a b c d) 1 l = cd4 a l c d ∧ rst (cd4 a b c d) 2 l = cd4 a b l d ∧ rst (cd4 a b c d) 3 l = cd4 a b c l := by
  obtain ⟨e0, e1, e2, e3⟩ := vl_cd ha hb hc hd
  have hx := cd_lt ha hb hc hd
  rw [rst_eq hx (by omega) hl, rst_eq hx (by omega) hl, rst_eq hx (by omega) hl, rst_eq hx (by omega) hl, e0, e1, e2, e3]
  simp only [Nat.mul_zero, Nat.sub_zero, Nat.reduceMul, Nat.reduceSub, Nat.reducePow, Nat.mul_one]
  unfold cd4
  refine ⟨?_, ?_, ?_, ?_⟩ <;> omega
theorem inR_cd {σ : mS} {a b c d : Nat} (ha : a < 8) (hb : b < 8) (hc : c < 8) (hd : d < 8) : inR σ (cd4 a b c d) ↔ (mF σ 0 0 ≤ a ∧ a ≤ mF σ 0 1) ∧ (mF σ 1 0 ≤ b ∧ b ≤ mF σ 1 1) ∧ (mF σ 2 0 ≤ c ∧ c ≤ mF σ 2 1) ∧ (mF σ 3 0 ≤ d ∧ d ≤ mF σ 3 1) := by
  obtain ⟨e0, e1, e2, e3⟩ := vl_cd ha hb hc hd
  constructor
  · intro h
    have h0 := h 0 (by omega)
    have h1 := h 1 (by omega)
    have h2 := h 2 (by omega)
    have h3 := h 3 (by omega)
    rw [e0] at h0
    rw [e1] at h1
    rw [e2] at h2
    rw [e3] at h3
    exact ⟨h0, h1, h2, h3⟩
  · rintro ⟨h0, h1, h2, h3⟩ f hf
    match f, hf with
    | 0, _ => rw [e0]; exact h0
    | 1, _ => rw [e1]; exact h1
    | 2, _ => rw [e2]; exact h2
    | 3, _ => rw [e3]; exact h3
/-- what next says -/
theorem nxr4 {σ : mS} (hw : ∀ f, f < 4 → mF σ f 0 ≤ mF σ f 1 ∧ mF σ f 1 ≤ 7) {x : Nat} (hx : x < 4096) (hin : inR σ x) : (∃ y, nxr σ x 4 = some y ∧ x < y ∧ y < 4096 ∧ inR σ y ∧ ∀ z, x < z → z < y → ¬ inR σ z) ∨ (nxr σ x 4 = none ∧ ∀ z, x < z → z < 4096 → ¬ inR σ z) := by
  obtain ⟨a, b, c, d, ha, hb, hc, hd, rfl⟩ := dig hx
  have hin' := (inR_cd ha hb hc hd).mp hin
  have w0 := hw 0 (by omega)
  have w1 := hw 1 (by omega)
  have w2 := hw 2 (by omega)
  have w3 := hw 3 (by omega)
  have key : ∀ z, z < 4096 → inR σ z → ∃ a' b' c' d', z = cd4 a' b' c' d' ∧ (mF σ 0 0 ≤ a' ∧ a' ≤ mF σ 0 1) ∧ (mF σ 1 0 ≤ b' ∧ b' ≤ mF σ 1 1) ∧ (mF σ 2 0 ≤ c' ∧ c' ≤ mF σ 2 1) ∧ (mF σ 3 0 ≤ d' ∧ d' ≤ mF σ 3 1) := by
    intro z hz hi
    obtain ⟨a', b', c', d', ha', hb', hc', hd', rfl⟩ := dig hz
    exact ⟨a', b', c', d', rfl, (inR_cd ha' hb' hc' hd').mp hi⟩
  simp only [nxr]
  rw [(vl_cd ha hb hc hd).2.2.2]
  by_cases h3 : d < mF σ 3 1
  · left
    have e : cd4 a b c d + 2 ^ (9 - 3 * 3) = cd4 a b c (d + 1) := by unfold cd4; simp only [Nat.reduceMul, Nat.reduceSub, Nat.reducePow]; omega
    rw [if_pos h3, e]
    refine ⟨_, rfl, by unfold cd4; omega, cd_lt ha hb hc (by omega), (inR_cd ha hb hc (by omega)).mpr (by omega), fun z hz1 hz2 hi => ?_⟩
    unfold cd4 at hz1 hz2
    omega
  · rw [if_neg h3, (rst_cd ha hb hc hd (by omega)).2.2.2, (vl_cd ha hb hc (by omega)).2.2.1]
    by_cases h2 : c < mF σ 2 1
    · left
      have e : cd4 a b c (mF σ 3 0) + 2 ^ (9 - 3 * 2) = cd4 a b (c + 1) (mF σ 3 0) := by unfold cd4; simp only [Nat.reduceMul, Nat.reduceSub, Nat.reducePow]; omega
      rw [if_pos h2, e]
      refine ⟨_, rfl, by unfold cd4; omega, cd_lt ha hb (by omega) (by omega), (inR_cd ha hb (by omega) (by omega)).mpr (by omega), fun z hz1 hz2 hi => ?_⟩
      obtain ⟨a', b', c', d', rfl, q0, q1, q2, q3⟩ := key z (Nat.lt_trans hz2 (cd_lt ha hb (by omega) (by omega))) hi
      unfold cd4 at hz1 hz2
      omega
    · rw [if_neg h2, (rst_cd ha hb hc (by omega) (by omega)).2.2.1, (vl_cd ha hb (by omega) (by omega)).2.1]
      by_cases h1 : b < mF σ 1 1
      · left
        have e : cd4 a b (mF σ 2 0) (mF σ 3 0) + 2 ^ (9 - 3 * 1) = cd4 a (b + 1) (mF σ 2 0) (mF σ 3 0) := by unfold cd4; simp only [Nat.mul_one, Nat.reduceSub, Nat.reducePow]; omega
        rw [if_pos h1, e]
        refine ⟨_, rfl, by unfold cd4; omega, cd_lt ha (by omega) (by omega) (by omega), (inR_cd ha (by omega) (by omega) (by omega)).mpr (by omega), fun z hz1 hz2 hi => ?_⟩
        obtain ⟨a', b', c', d', rfl, q0, q1, q2, q3⟩ := key z (Nat.lt_trans hz2 (cd_lt ha (by omega) (by omega) (by omega))) hi
        unfold cd4 at hz1 hz2
        omega
      · rw [if_neg h1, (rst_cd ha hb (by omega) (by omega) (by omega)).2.1, (vl_cd ha (by omega) (by omega) (by omega)).1]
        by_cases h0 : a < mF σ 0 1
        · left
          have e : cd4 a (mF σ 1 0) (mF σ 2 0) (mF σ 3 0) + 2 ^ (9 - 3 * 0) = cd4 (a + 1) (mF σ 1 0) (mF σ 2 0) (mF σ 3 0) := by unfold cd4; simp only [Nat.mul_zero, Nat.sub_zero, Nat.reducePow]; omega
          rw [if_pos h0, e]
          refine ⟨_, rfl, by unfold cd4; omega, cd_lt (by omega) (by omega) (by omega) (by omega), (inR_cd (by omega) (by omega) (by omega) (by omega)).mpr (by omega), fun z hz1 hz2 hi => ?_⟩
          obtain ⟨a', b', c', d', rfl, q0, q1, q2, q3⟩ := key z (Nat.lt_trans hz2 (cd_lt (by omega) (by omega) (by omega) (by omega))) hi
          unfold cd4 at hz1 hz2
          omega
        · right
          rw [if_neg h0]
          refine ⟨rfl, fun z hz1 hz2 hi => ?_⟩
          obtain ⟨a', b', c', d', rfl, q0, q1, q2, q3⟩ := key z hz2 hi
          unfold cd4 at hz1
          omega
/-- fields that haven't come change nothing -/
theorem nxr_n {σ : mS} (hw : wf σ) {x : Nat} (hx : x < 4096) (hin : inR σ x) : nxr σ x (mn σ) = nxr σ x 4 := by
  obtain ⟨w1, w2, -, w4, -⟩ := hw
  have step : ∀ k, k < 4 → mn σ ≤ k → nxr σ x (k + 1) = nxr σ x k := by
    intro k hk hn
    have e := (w4 k hk hn).1
    have e0 := e 0 (by omega)
    have e1 := e 1 (by omega)
    have hv := hin k hk
    rw [e0, e1] at hv
    have hv0 : vl x k = 0 := by omega
    have er : rst x k 0 = x := by rw [rst_eq hx hk (by omega), hv0]; omega
    rw [nxr, e0, e1, if_neg (by omega), er]
  have h4 : ∀ j, mn σ + j ≤ 4 → nxr σ x (mn σ + j) = nxr σ x (mn σ) := by
    intro j
    induction j with
    | zero => intro _; rfl
    | succ j ih => intro h; rw [← Nat.add_assoc, step _ (by omega) (by omega), ih (by omega)]
  have := h4 (4 - mn σ) (by omega)
  rw [show mn σ + (4 - mn σ) = 4 by omega] at this
  exact this.symm
theorem fsr_n {σ : mS} (hw : wf σ) : fsr σ (mn σ) = cd4 (mF σ 0 0) (mF σ 1 0) (mF σ 2 0) (mF σ 3 0) := by
  obtain ⟨w1, w2, -, w4, -⟩ := hw
  have step : ∀ k, k < 4 → mn σ ≤ k → fsr σ (k + 1) = fsr σ k := by
    intro k hk hn
    rw [fsr, (w4 k hk hn).1 0 (by omega), Nat.zero_mul, Nat.or_zero]
  have h4 : ∀ j, mn σ + j ≤ 4 → fsr σ (mn σ + j) = fsr σ (mn σ) := by
    intro j
    induction j with
    | zero => intro _; rfl
    | succ j ih => intro h; rw [← Nat.add_assoc, step _ (by omega) (by omega), ih (by omega)]
  have := h4 (4 - mn σ) (by omega)
  rw [show mn σ + (4 - mn σ) = 4 by omega] at this
  rw [← this]
  have h0 : mF σ 0 0 < 8 := by have := w2 0 (by omega); omega
  have h1 : mF σ 1 0 < 8 := by have := w2 1 (by omega); omega
  have h2 : mF σ 2 0 < 8 := by have := w2 2 (by omega); omega
  have h3 : mF σ 3 0 < 8 := by have := w2 3 (by omega); omega
  exact or4_ok (mF σ 0 0) h0 (mF σ 1 0) h1 (mF σ 2 0) h2 (mF σ 3 0) h3
theorem fsr_in {σ : mS} (hw : wf σ) : fsr σ (mn σ) < 4096 ∧ inR σ (fsr σ (mn σ)) ∧ ∀ z, z < fsr σ (mn σ) → ¬ inR σ z := by
  rw [fsr_n hw]
  obtain ⟨w1, w2, -, w4, -⟩ := hw
  have v0 := w2 0 (by omega)
  have v1 := w2 1 (by omega)
  have v2 := w2 2 (by omega)
  have v3 := w2 3 (by omega)
  have hlt := cd_lt (a := mF σ 0 0) (b := mF σ 1 0) (c := mF σ 2 0) (d := mF σ 3 0) (by omega) (by omega) (by omega) (by omega)
  refine ⟨hlt, (inR_cd (by omega) (by omega) (by omega) (by omega)).mpr (by omega), fun z hz hi => ?_⟩
  obtain ⟨a', b', c', d', ha', hb', hc', hd', rfl⟩ := dig (Nat.lt_trans hz hlt)
  have := (inR_cd ha' hb' hc' hd').mp hi
  unfold cd4 at hz
  omega
/-- a loop over the rows in the ranges -/
theorem enum {σ : mS} (hw : wf σ) {i pc : Nat} (L : Int32 → xL) (Pz : Nat → xH) (hs : ∀ x, x < 4096 → inR σ x → den i pc (L (nI x)) [] (Pz x) = den i pc (L (oI (nxr σ x (mn σ)))) [] (Pz (x + 1))) (hn : ∀ z, z < 4096 → ¬ inR σ z → Pz (z + 1) = Pz z) :
    den i pc (L (nI (fsr σ (mn σ)))) [] (Pz 0) = den i pc (L (Int32.ofInt (-1))) [] (Pz 4096) := by
  have skip : ∀ (j a : Nat), a + j ≤ 4096 → (∀ z, a ≤ z → z < a + j → ¬ inR σ z) → Pz (a + j) = Pz a := by
    intro j
    induction j with
    | zero => intro a _ _; rfl
    | succ j ih =>
      intro a h1 h2
      rw [← Nat.add_assoc, hn (a + j) (by omega) (h2 _ (by omega) (by omega)), ih a (by omega) (fun z g1 g2 => h2 z g1 (by omega))]
  have main : ∀ (m x : Nat), 4096 - x ≤ m → x < 4096 → inR σ x → den i pc (L (nI x)) [] (Pz x) = den i pc (L (Int32.ofInt (-1))) [] (Pz 4096) := by
    intro m
    induction m with
    | zero => intro x h1 h2; omega
    | succ m ih =>
      intro x h1 h2 h3
      rw [hs x h2 h3, nxr_n hw h2 h3]
      rcases nxr4 (fun f hf => ⟨(hw.2.1 f hf).1, (hw.2.1 f hf).2.1⟩) h2 h3 with ⟨y, e, g1, g2, g3, g4⟩ | ⟨e, g4⟩
      · rw [e]
        have := skip (y - (x + 1)) (x + 1) (by omega) (fun z q1 q2 => g4 z (by omega) (by omega))
        rw [show x + 1 + (y - (x + 1)) = y by omega] at this
        rw [← this]
        exact ih y (by omega) g2 g3
      · rw [e]
        have := skip (4096 - (x + 1)) (x + 1) (by omega) (fun z q1 q2 => g4 z (by omega) (by omega))
        rw [show x + 1 + (4096 - (x + 1)) = 4096 by omega] at this
        rw [← this]
        rfl
  obtain ⟨f1, f2, f3⟩ := fsr_in hw
  have := skip (fsr σ (mn σ)) 0 (by omega) (fun z q1 q2 => f3 z (by omega))
  rw [Nat.zero_add] at this
  rw [← this]
  exact main 4096 _ (by omega) f1 f2
