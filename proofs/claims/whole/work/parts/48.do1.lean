/-! ===== orders that change a state: answer and state; the reference does them ===== -/
/-- nothing drawn -/
def emS (σ : mS) : mS := (mn σ, fun f j => if j = 3 then 0 else mF σ f j, mW σ, mO σ, mK σ, mR σ, 0, 0, mU σ)
theorem emS_F3 (σ : mS) (f : Nat) : mF (emS σ) f 3 = 0 := by
  show (if 3 = 3 then 0 else mF σ f 3) = 0
  rw [if_pos rfl]
theorem emS_Fn (σ : mS) (f : Nat) {j : Nat} (h : j ≠ 3) : mF (emS σ) f j = mF σ f j := if_neg h
theorem emS_wf {σ : mS} (hw : wf σ) : wf (emS σ) := by
  obtain ⟨w1, w2, w3, w4, w5, w6, w7, w8, w9, w10, w11⟩ := hw
  refine ⟨w1, fun f hf => ?_, w3, fun f hf hn => ⟨fun j hj => ?_, (w4 f hf hn).2⟩, w5, w6, w7, w8, Nat.zero_le _, Nat.zero_le _, fun i hi => absurd hi (Nat.not_lt_zero i)⟩
  · obtain ⟨a, b, c, d, e⟩ := w2 f hf
    rw [emS_Fn σ f (by omega), emS_Fn σ f (by omega), emS_Fn σ f (by omega), emS_F3]
    exact ⟨a, b, c, by omega, fun _ => rfl⟩
  · by_cases h : j = 3
    · subst h
      exact emS_F3 σ f
    · rw [emS_Fn σ f h]
      exact (w4 f hf hn).1 j hj
theorem empA_i (a : Nat → Int32) {f i : Nat} (hf : f < 4) (hi : i < 13) (h3 : i ≠ 3) (h4 : i ≠ 4) : empA a 4 (1 + 13 * f + i) = a (1 + 13 * f + i) := by
  simp only [empA, upd]
  rw [if_neg (by omega), if_neg (by omega), if_neg (by omega), if_neg (by omega), if_neg (by omega), if_neg (by omega), if_neg (by omega), if_neg (by omega)]
theorem empA_3 (a : Nat → Int32) {f : Nat} (hf : f < 4) : empA a 4 (1 + 13 * f + 3) = nI 0 ∧ empA a 4 (1 + 13 * f + 4) = Int32.ofInt (-1) := by
  match f, hf with
  | 0, _ => exact ⟨rfl, rfl⟩
  | 1, _ => exact ⟨rfl, rfl⟩
  | 2, _ => exact ⟨rfl, rfl⟩
  | 3, _ => exact ⟨rfl, rfl⟩
/-- the reference's array holds a state, but for what is drawn -/
def rpB (σ : mS) (a : Nat → Int32) : Prop := a 0 = nI (mn σ) ∧ (∀ f j, f < mn σ → j < 3 → a (1 + 13 * f + j) = nI (mF σ f j)) ∧ (∀ f v, f < mn σ → v < 8 → a (1 + 13 * f + (5 + v)) = nI (mW σ f v)) ∧
  (∀ p, p < mn σ → a (53 + p) = nI (mO σ p)) ∧ a 57 = nI (mK σ) ∧ (∀ k i, k < mK σ → i < 4 → a (58 + 5 * k + i) = nI (mR σ k i)) ∧ ∀ k, k < mK σ → a (58 + 5 * k + 4) = rI (mR σ k 4)
theorem rpA.B {σ : mS} {a : Nat → Int32} (h : rpA σ a) : rpB σ a := ⟨h.1, fun f j hf hj => h.2.1 f j hf (by omega), h.2.2.2.1, h.2.2.2.2.1, h.2.2.2.2.2.1, h.2.2.2.2.2.2.1, h.2.2.2.2.2.2.2.1⟩
theorem emp_rp {σ : mS} {a : Nat → Int32} (hn : mn σ ≤ 4) (hk : mK σ ≤ 8) (h : rpB σ a) : rpA (emS σ) (upd (empA a 4) 98 (nI 0)) := by
  obtain ⟨r0, r1, r3, r5, r6, r7, r8⟩ := h
  have hlow : ∀ j, j < 98 → upd (empA a 4) 98 (nI 0) j = empA a 4 j := fun j hj => u_n _ _ (by omega)
  refine ⟨?_, fun f j hf hj => ?_, fun f hf => ?_, fun f v hf hv => ?_, fun p hp1 => ?_, ?_, fun k i hk1 hi => ?_, fun k hk1 => ?_, ?_, fun i hi => absurd hi (Nat.not_lt_zero i)⟩
  · rw [hlow _ (by omega), empA_out _ (by omega)]; exact r0
  · have hf : f < mn σ := hf
    rw [hlow _ (by omega)]
    by_cases h : j = 3
    · subst h
      rw [emS_F3, (empA_3 a (by omega)).1]
    · rw [emS_Fn σ f h, empA_i a (by omega) (by omega) h (by omega)]
      exact r1 f j hf (by omega)
  · have hf : f < mn σ := hf
    rw [hlow _ (by omega), (empA_3 a (by omega)).2]
    exact (if_pos rfl).symm
  · have hf : f < mn σ := hf
    rw [hlow _ (by omega), empA_i a (by omega) (by omega) (by omega) (by omega)]
    exact r3 f v hf hv
  · have hp1 : p < mn σ := hp1
    rw [hlow _ (by omega), empA_out _ (by omega)]; exact r5 p hp1
  · rw [hlow _ (by omega), empA_out _ (by omega)]; exact r6
  · have hk1 : k < mK σ := hk1
    rw [hlow _ (by omega), empA_out _ (by omega)]; exact r7 k i hk1 hi
  · have hk1 : k < mK σ := hk1
    rw [hlow _ (by omega), empA_out _ (by omega)]; exact r8 k hk1
  · rw [u_s]; rfl
/-- another range -/
def rgF (σ : mS) (f l h : Nat) : Nat → Nat → Nat := fun g j => if g = f ∧ j < 2 then (if j = 0 then l else h) else mF σ g j
def rgS (σ : mS) (f l h : Nat) : mS := emS (mn σ, rgF σ f l h, σ.2.2)
def adS (σ : mS) (l h : Nat) : mS := emS (mn σ + 1, rgF σ (mn σ) l h, mW σ, fun p => if p = mn σ then mn σ else mO σ p, σ.2.2.2.2)
theorem rgF_0 (σ : mS) (f l h : Nat) : rgF σ f l h f 0 = l := by unfold rgF; rw [if_pos ⟨rfl, by omega⟩, if_pos rfl]
theorem rgF_1 (σ : mS) (f l h : Nat) : rgF σ f l h f 1 = h := by unfold rgF; rw [if_pos ⟨rfl, by omega⟩, if_neg (by omega)]
theorem rgF_n (σ : mS) {f g j : Nat} (l h : Nat) (hne : g ≠ f ∨ 2 ≤ j) : rgF σ f l h g j = mF σ g j := if_neg (by omega)
theorem rgS_wf {σ : mS} (hw : wf σ) {f l h : Nat} (hf : f < mn σ) (h1 : l ≤ h) (h2 : h ≤ 7) : wf (rgS σ f l h) := by
  apply emS_wf
  obtain ⟨w1, w2, w3, w4, w5⟩ := hw
  refine ⟨w1, fun g hg => ?_, w3, fun g hg hn => ⟨fun j hj => ?_, (w4 g hg hn).2⟩, w5⟩
  · obtain ⟨a, b, c, d, e⟩ := w2 g hg
    show rgF σ f l h g 0 ≤ rgF σ f l h g 1 ∧ rgF σ f l h g 1 ≤ 7 ∧ rgF σ f l h g 2 ≤ 1 ∧ rgF σ f l h g 3 < 256 ∧ (rgF σ f l h g 2 = 0 → rgF σ f l h g 3 = 0)
    rw [rgF_n σ (j := 2) l h (by omega), rgF_n σ (j := 3) l h (by omega)]
    by_cases e1 : g = f
    · subst e1
      rw [rgF_0, rgF_1]
      exact ⟨h1, h2, c, d, e⟩
    · rw [rgF_n σ (j := 0) l h (by omega), rgF_n σ (j := 1) l h (by omega)]
      exact ⟨a, b, c, d, e⟩
  · have hn : mn σ ≤ g := hn
    show rgF σ f l h g j = 0
    rw [rgF_n σ l h (by omega)]
    exact (w4 g hg hn).1 j hj
theorem adS_wf {σ : mS} (hw : wf σ) {l h : Nat} (hn4 : mn σ < 4) (h1 : l ≤ h) (h2 : h ≤ 7) : wf (adS σ l h) := by
  apply emS_wf
  obtain ⟨w1, w2, w3, w4, w5, w6, w7, w8, w9⟩ := hw
  refine ⟨hn4, fun g hg => ?_, w3, fun g hg hn => ⟨fun j hj => ?_, ?_⟩, fun p hp1 => ?_, fun p q hpq hq => ?_, w7, fun k hk => ?_, w9⟩
  · obtain ⟨a, b, c, d, e⟩ := w2 g hg
    show rgF σ (mn σ) l h g 0 ≤ rgF σ (mn σ) l h g 1 ∧ rgF σ (mn σ) l h g 1 ≤ 7 ∧ rgF σ (mn σ) l h g 2 ≤ 1 ∧ rgF σ (mn σ) l h g 3 < 256 ∧ (rgF σ (mn σ) l h g 2 = 0 → rgF σ (mn σ) l h g 3 = 0)
    rw [rgF_n σ (j := 2) l h (by omega), rgF_n σ (j := 3) l h (by omega)]
    by_cases e1 : g = mn σ
    · rw [e1, rgF_0, rgF_1, ← e1]
      exact ⟨h1, h2, c, d, e⟩
    · rw [rgF_n σ (j := 0) l h (by omega), rgF_n σ (j := 1) l h (by omega)]
      exact ⟨a, b, c, d, e⟩
  · have hn : mn σ + 1 ≤ g := hn
    show rgF σ (mn σ) l h g j = 0
    rw [rgF_n σ l h (by omega)]
    exact (w4 g hg (by omega)).1 j hj
  · have hn : mn σ + 1 ≤ g := hn
    exact (w4 g hg (by omega)).2
  · have hp1 : p < mn σ + 1 := hp1
    show (if p = mn σ then mn σ else mO σ p) < mn σ + 1
    split
    · omega
    · have := w5 p (by omega)
      omega
  · have hq : q < mn σ + 1 := hq
    show (if p = mn σ then mn σ else mO σ p) ≠ (if q = mn σ then mn σ else mO σ q)
    rw [if_neg (by omega)]
    by_cases e1 : q = mn σ
    · rw [if_pos e1]
      have := w5 p (by omega)
      omega
    · rw [if_neg e1]
      exact w6 p q hpq (by omega)
  · obtain ⟨a, b, c, d, e⟩ := w8 k hk
    exact ⟨a, Nat.lt_succ_of_lt b, Nat.lt_succ_of_lt c, d, e⟩
def dF (σ : mS) (lo hi : Int32) : Int32 × mS := if (inB lo (nI 0) (nI 7) && inB hi lo (nI 7)) = true then (if mn σ = 4 then (Int32.ofInt (-4), σ) else (nI (mn σ), adS σ lo.toNatClampNeg hi.toNatClampNeg)) else (Int32.ofInt (-2), σ)
def dG (σ : mS) (f lo hi : Int32) : Int32 × mS := if (isF (mn σ) f && (inB lo (nI 0) (nI 7) && inB hi lo (nI 7))) = true then (nI (hi.toNatClampNeg - lo.toNatClampNeg + 1), rgS σ f.toNatClampNeg lo.toNatClampNeg hi.toNatClampNeg) else (Int32.ofInt (-2), σ)
theorem rng_nat {lo hi : Int32} (h : (inB lo (nI 0) (nI 7) && inB hi lo (nI 7)) = true) : ∃ l h, lo = nI l ∧ hi = nI h ∧ l ≤ h ∧ h ≤ 7 := by
  unfold inB at h
  simp only [Bool.and_eq_true, decide_eq_true_eq] at h
  exact okR_nat ⟨h.1.1, h.1.2, h.2.1, h.2.2⟩
theorem dF_wf {σ : mS} (hw : wf σ) (lo hi : Int32) : wf (dF σ lo hi).2 := by
  unfold dF
  split
  · rename_i hok
    obtain ⟨l, h, rfl, rfl, h1, h2⟩ := rng_nat hok
    split
    · exact hw
    · have := hw.1
      rw [nI_clamp (by omega), nI_clamp (by omega)]
      exact adS_wf hw (by omega) h1 h2
  · exact hw
theorem dG_wf {σ : mS} (hw : wf σ) (f lo hi : Int32) : wf (dG σ f lo hi).2 := by
  unfold dG
  split
  · rename_i hok
    rw [Bool.and_eq_true] at hok
    have := hw.1
    obtain ⟨g, hg, rfl⟩ := isF_of (by omega) hok.1
    obtain ⟨l, h, rfl, rfl, h1, h2⟩ := rng_nat hok.2
    rw [nI_clamp (by omega), nI_clamp (by omega), nI_clamp (by omega)]
    exact rgS_wf hw hg h1 h2
  · exact hw
theorem wtA_in (a : Nat → Int32) (f : Nat) {v : Nat} : ∀ k, v < k → wtA a f k (1 + 13 * f + (5 + v)) = nI 1
  | 0, h => absurd h (Nat.not_lt_zero v)
  | k + 1, h => by
    by_cases e : v = k
    · subst e
      rw [wtA, u_s]
    · rw [wtA, u_n _ _ (by omega)]
      exact wtA_in a f k (by omega)
theorem wtA_out (a : Nat → Int32) (f : Nat) {j : Nat} : ∀ k, (∀ v, v < k → j ≠ 1 + 13 * f + (5 + v)) → wtA a f k j = a j
  | 0, _ => rfl
  | k + 1, h => by
    rw [wtA, u_n _ _ (h k (by omega))]
    exact wtA_out a f k (fun v hv => h v (by omega))
theorem rg_rp {σ : mS} {a : Nat → Int32} (hn : mn σ ≤ 4) (hk : mK σ ≤ 8) (hr : rpA σ a) {f l h : Nat} (hf : f < mn σ) : rpA (rgS σ f l h) (upd (empA (upd (upd a (1 + 13 * f + 0) (nI l)) (1 + 13 * f + 1) (nI h)) 4) 98 (nI 0)) := by
  apply emp_rp (σ := (mn σ, rgF σ f l h, σ.2.2)) hn hk
  obtain ⟨r0, r1, r3, r5, r6, r7, r8⟩ := hr.B
  have hu : ∀ j, j ≠ 1 + 13 * f + 0 → j ≠ 1 + 13 * f + 1 → upd (upd a (1 + 13 * f + 0) (nI l)) (1 + 13 * f + 1) (nI h) j = a j := fun j a1 a2 => by rw [u_n _ _ a2, u_n _ _ a1]
  refine ⟨?_, fun g j hg hj => ?_, fun g v hg hv => ?_, fun p hp1 => ?_, ?_, fun k i hk1 hi => ?_, fun k hk1 => ?_⟩
  · rw [hu _ (by omega) (by omega)]; exact r0
  · have hg : g < mn σ := hg
    show _ = nI (rgF σ f l h g j)
    by_cases e : g = f
    · subst e
      by_cases e0 : j = 0
      · subst e0
        rw [rgF_0, u_n _ _ (by omega), u_s]
      · by_cases e1 : j = 1
        · subst e1
          rw [rgF_1, u_s]
        · rw [rgF_n σ l h (by omega), hu _ (by omega) (by omega)]
          exact r1 g j hg hj
    · rw [rgF_n σ l h (by omega), hu _ (by omega) (by omega)]
      exact r1 g j hg hj
  · have hg : g < mn σ := hg
    rw [hu _ (by omega) (by omega)]; exact r3 g v hg hv
  · have hp1 : p < mn σ := hp1
    rw [hu _ (by omega) (by omega)]; exact r5 p hp1
  · rw [hu _ (by omega) (by omega)]; exact r6
  · rw [hu _ (by omega) (by omega)]; exact r7 k i hk1 hi
  · rw [hu _ (by omega) (by omega)]; exact r8 k hk1
theorem ad_rp {σ : mS} {a : Nat → Int32} (hw : wf σ) (hn : mn σ < 4) (hr : rpA σ a) {l h : Nat} : rpA (adS σ l h) (fldA a (mn σ) (nI l) (nI h)) := by
  have hk := hw.2.2.2.2.2.2.1
  have w4 := hw.2.2.2.1
  unfold fldA
  apply emp_rp (σ := (mn σ + 1, rgF σ (mn σ) l h, mW σ, fun p => if p = mn σ then mn σ else mO σ p, σ.2.2.2.2)) hn hk
  obtain ⟨r0, r1, r3, r5, r6, r7, r8⟩ := hr.B
  generalize hN : mn σ = n at *
  have hu : ∀ j, j ≠ 0 → j ≠ 53 + n → (∀ i, i < 13 → i < 3 ∨ 5 ≤ i → j ≠ 1 + 13 * n + i) → upd (wtA (upd (upd (upd (upd a 0 (nI (n + 1))) (1 + 13 * n + 0) (nI l)) (1 + 13 * n + 1) (nI h)) (1 + 13 * n + 2) (nI 0)) n 8) (53 + n) (nI n) j = a j := by
    intro j h0 h1 h2
    rw [u_n _ _ h1, wtA_out _ _ _ (fun v hv => h2 (5 + v) (by omega) (by omega)), u_n _ _ (h2 2 (by omega) (by omega)), u_n _ _ (h2 1 (by omega) (by omega)), u_n _ _ (h2 0 (by omega) (by omega)), u_n _ _ h0]
  refine ⟨?_, fun g j hg hj => ?_, fun g v hg hv => ?_, fun p hp1 => ?_, ?_, fun k i hk1 hi => ?_, fun k hk1 => ?_⟩
  · rw [u_n _ _ (by omega), wtA_out _ _ _ (fun v hv => by omega), u_n _ _ (by omega), u_n _ _ (by omega), u_n _ _ (by omega), u_s]
  · have hg : g < n + 1 := hg
    show _ = nI (rgF σ n l h g j)
    by_cases e : g = n
    · subst e
      rw [u_n _ _ (by omega), wtA_out _ _ _ (fun v hv => by omega)]
      by_cases e0 : j = 0
      · subst e0
        rw [rgF_0, u_n _ _ (by omega), u_n _ _ (by omega), u_s]
      · by_cases e1 : j = 1
        · subst e1
          rw [rgF_1, u_n _ _ (by omega), u_s]
        · have e2 : j = 2 := by omega
          subst e2
          rw [rgF_n σ l h (by omega), u_s, (w4 g (by omega) (by omega)).1 2 (by omega)]
    · rw [rgF_n σ l h (by omega), hu _ (by omega) (by omega) (fun i hi hc => by omega)]
      exact r1 g j (by omega) hj
  · have hg : g < n + 1 := hg
    show _ = nI (mW σ g v)
    by_cases e : g = n
    · subst e
      rw [u_n _ _ (by omega), wtA_in _ _ _ hv, (w4 g (by omega) (by omega)).2 v hv]
    · rw [hu _ (by omega) (by omega) (fun i hi hc => by omega)]
      exact r3 g v (by omega) hv
  · have hp1 : p < n + 1 := hp1
    show _ = nI (if p = n then n else mO σ p)
    by_cases e : p = n
    · subst e
      rw [u_s, if_pos rfl]
    · rw [if_neg e, hu _ (by omega) (by omega) (fun i hi hc => by omega)]
      exact r5 p (by omega)
  · rw [hu _ (by omega) (by omega) (fun i hi hc => by omega)]; exact r6
  · have hk1 : k < mK σ := hk1
    rw [hu _ (by omega) (by omega) (fun i hi hc => by omega)]; exact r7 k i hk1 hi
  · have hk1 : k < mK σ := hk1
    rw [hu _ (by omega) (by omega) (fun i hi hc => by omega)]; exact r8 k hk1
section
variable {q : Nat × (Nat → Int32)} {S : Nat → xSt} {P : Int32 × (Nat → Nat)} {A : (Nat → Int64) × Int32 × Int32 × (Nat → Int64) × (Nat → Nat → Int64)} {D : (Nat → Int64) × Int64} {K : Nat → Int64} {X : Int32 × Int32 × Int32 × (Nat → Int32) × (Nat → Int32)} {E Z : Nat → Int32} {I : Nat → Int32} {J : Nat → Int64} {V : Nat → Nat → Int32}
set_option maxRecDepth 100000 in
theorem t_doField {σ : mS} (hw : wf σ) (hr : rpA σ (V 0)) (hL : LayI σ I V) (lo hi : Int32) : ∃ (I' : Nat → Int32) (V' : Nat → Nat → Int32) (J' : Nat → Int64), xcall 124 [.ref 163, .int lo, .int hi] (hp q S P A D K X E Z I J V) = some (some (.int (dF σ lo hi).1), (hp q S P A D K X E Z (I') (J') (V'))) ∧ rpA (dF σ lo hi).2 (V' 0) ∧ LayI (dF σ lo hi).2 I' V' ∧ DF I I' V V' := by
  have w1 := hw.1
  unfold dF
  by_cases hok : (inB lo (nI 0) (nI 7) && inB hi lo (nI 7)) = true
  · rw [if_pos hok]
    obtain ⟨l, h, rfl, rfl, h1, h2⟩ := rng_nat hok
    by_cases h4 : mn σ = 4
    · rw [if_pos h4]
      refine ⟨I, V, J, t_doField_full h1 h2 (by rw [hr.1, h4]), hr, hL, DF.rf I V⟩
    · rw [if_neg h4, nI_clamp (n := l) (by omega), nI_clamp (n := h) (by omega)]
      refine ⟨_, _, J, t_doField_ok h1 h2 hr.1 (by omega), ?_, Or.inl (u_s _ _ _), DF.u05 _ _⟩
      rw [vu_s]
      exact ad_rp hw (by omega) hr
  · rw [if_neg hok]
    refine ⟨I, V, J, t_doField_bad (fun hh => hok ?_), hr, hL, DF.rf I V⟩
    unfold inB
    simp only [Bool.and_eq_true, decide_eq_true_eq]
    exact ⟨⟨hh.1, hh.2.1⟩, hh.2.2⟩
set_option maxRecDepth 100000 in
theorem t_doRange {σ : mS} (hw : wf σ) (hr : rpA σ (V 0)) (hL : LayI σ I V) (f lo hi : Int32) : ∃ (I' : Nat → Int32) (V' : Nat → Nat → Int32) (J' : Nat → Int64), xcall 125 [.ref 163, .int f, .int lo, .int hi] (hp q S P A D K X E Z I J V) = some (some (.int (dG σ f lo hi).1), (hp q S P A D K X E Z (I') (J') (V'))) ∧ rpA (dG σ f lo hi).2 (V' 0) ∧ LayI (dG σ f lo hi).2 I' V' ∧ DF I I' V V' := by
  have w1 := hw.1
  have w7 := hw.2.2.2.2.2.2.1
  unfold dG
  by_cases hok : (isF (mn σ) f && (inB lo (nI 0) (nI 7) && inB hi lo (nI 7))) = true
  · rw [if_pos hok]
    rw [Bool.and_eq_true] at hok
    obtain ⟨g, hg, rfl⟩ := isF_of (by omega) hok.1
    obtain ⟨l, h, rfl, rfl, h1, h2⟩ := rng_nat hok.2
    rw [nI_clamp (n := l) (by omega), nI_clamp (n := h) (by omega), nI_clamp (n := g) (by omega)]
    refine ⟨_, _, J, t_doRange_ok hr.1 hg w1 h1 h2, ?_, Or.inl (u_s _ _ _), DF.u05 _ _⟩
    rw [vu_s]
    exact rg_rp w1 w7 hr hg
  · rw [if_neg hok]
    exact ⟨I, V, J, t_doRange_bad hr.1 (Bool.eq_false_iff.mpr hok), hr, hL, DF.rf I V⟩
end
