/-! ===== orders that change a state (2): weights, rounds, rules ===== -/
def wgS (σ : mS) (f v w : Nat) : mS := (mn σ, mF σ, fun g u => if g = f ∧ u = v then w else mW σ g u, σ.2.2.2)
def roS (σ : mS) (f z : Nat) : mS := (mn σ, fun g j => if g = f ∧ j = 2 then z else if g = f ∧ j = 3 then 0 else mF σ g j, σ.2.2)
def ruS (σ : mS) (kd x y c rk : Nat) : mS := emS (mn σ, mF σ, mW σ, mO σ, mK σ + 1, fun k i => if k = mK σ then (if i = 0 then kd else if i = 1 then x else if i = 2 then y else if i = 3 then c else rk) else mR σ k i, σ.2.2.2.2.2.2)
def dpS (σ : mS) (k : Nat) : mS := emS (mn σ, mF σ, mW σ, mO σ, mK σ - 1, fun i j => if i < k then mR σ i j else mR σ (i + 1) j, σ.2.2.2.2.2.2)
theorem wgS_wf {σ : mS} (hw : wf σ) {f v w : Nat} (hf : f < mn σ) (h2 : w ≤ 9) : wf (wgS σ f v w) := by
  obtain ⟨w1, w2, w3, w4, w5⟩ := hw
  refine ⟨w1, w2, fun g u hg hu => ?_, fun g hg hn => ⟨(w4 g hg hn).1, fun u hu => ?_⟩, w5⟩
  · show (if g = f ∧ u = v then w else mW σ g u) ≤ 9
    split
    · exact h2
    · exact w3 g u hg hu
  · have hn : mn σ ≤ g := hn
    show (if g = f ∧ u = v then w else mW σ g u) = 1
    rw [if_neg (by omega)]
    exact (w4 g hg hn).2 u hu
theorem roS_wf {σ : mS} (hw : wf σ) {f z : Nat} (hf : f < mn σ) (h2 : z ≤ 1) : wf (roS σ f z) := by
  obtain ⟨w1, w2, w3, w4, w5⟩ := hw
  have hF : ∀ g j, mF (roS σ f z) g j = if g = f ∧ j = 2 then z else if g = f ∧ j = 3 then 0 else mF σ g j := fun _ _ => rfl
  refine ⟨w1, fun g hg => ?_, w3, fun g hg hn => ⟨fun j hj => ?_, (w4 g hg hn).2⟩, w5⟩
  · obtain ⟨a, b, c, d, e⟩ := w2 g hg
    simp only [hF]
    by_cases e1 : g = f
    · subst e1
      simp only [true_and, Nat.reduceEqDiff, if_true, if_false]
      exact ⟨a, b, h2, by omega, fun _ => trivial⟩
    · simp only [e1, false_and, if_false]
      exact ⟨a, b, c, d, e⟩
  · have hn : mn σ ≤ g := hn
    rw [hF, if_neg (by omega), if_neg (by omega)]
    exact (w4 g hg hn).1 j hj
theorem ruS_wf {σ : mS} (hw : wf σ) {kd x y c rk : Nat} (hk : mK σ < 8) (h1 : kd ≤ 5) (h2 : x < mn σ) (h3 : y < mn σ) (h4 : c ≤ 255) (h5 : rk ≤ 10) : wf (ruS σ kd x y c rk) := by
  apply emS_wf
  obtain ⟨w1, w2, w3, w4, w5, w6, w7, w8, w9⟩ := hw
  refine ⟨w1, w2, w3, w4, w5, w6, hk, fun k hk1 => ?_, w9⟩
  have hk1 : k < mK σ + 1 := hk1
  by_cases e : k = mK σ
  · subst e
    show (if mK σ = mK σ then _ else _) ≤ 5 ∧ (if mK σ = mK σ then _ else _) < mn σ ∧ (if mK σ = mK σ then _ else _) < mn σ ∧ (if mK σ = mK σ then _ else _) ≤ 255 ∧ (if mK σ = mK σ then _ else _) ≤ 10
    simp only [if_true, Nat.reduceEqDiff, if_false]
    exact ⟨h1, h2, h3, h4, h5⟩
  · show (if k = mK σ then _ else mR σ k 0) ≤ 5 ∧ (if k = mK σ then _ else mR σ k 1) < mn σ ∧ (if k = mK σ then _ else mR σ k 2) < mn σ ∧ (if k = mK σ then _ else mR σ k 3) ≤ 255 ∧ (if k = mK σ then _ else mR σ k 4) ≤ 10
    simp only [e, if_false]
    exact w8 k (by omega)
theorem dpS_wf {σ : mS} (hw : wf σ) {i : Nat} (hi : i < mK σ) : wf (dpS σ i) := by
  apply emS_wf
  obtain ⟨w1, w2, w3, w4, w5, w6, w7, w8, w9⟩ := hw
  refine ⟨w1, w2, w3, w4, w5, w6, Nat.le_trans (Nat.sub_le _ _) w7, fun k hk1 => ?_, w9⟩
  have hk1 : k < mK σ - 1 := hk1
  show (if k < i then mR σ k 0 else mR σ (k + 1) 0) ≤ 5 ∧ (if k < i then mR σ k 1 else mR σ (k + 1) 1) < mn σ ∧ (if k < i then mR σ k 2 else mR σ (k + 1) 2) < mn σ ∧ (if k < i then mR σ k 3 else mR σ (k + 1) 3) ≤ 255 ∧ (if k < i then mR σ k 4 else mR σ (k + 1) 4) ≤ 10
  by_cases e : k < i
  · simp only [e, if_true]
    exact w8 k (by omega)
  · simp only [e, if_false]
    exact w8 (k + 1) (by omega)
def dW (σ : mS) (f v w : Int32) : Int32 × mS := if (isF (mn σ) f && (inB v (nI 0) (nI 7) && inB w (nI 0) (nI 9))) = true then (nI (mW σ f.toNatClampNeg v.toNatClampNeg), wgS σ f.toNatClampNeg v.toNatClampNeg w.toNatClampNeg) else (Int32.ofInt (-2), σ)
def dR (σ : mS) (f z : Int32) : Int32 × mS := if (isF (mn σ) f && inB z (nI 0) (nI 1)) = true then (nI (mF σ f.toNatClampNeg 2), roS σ f.toNatClampNeg z.toNatClampNeg) else (Int32.ofInt (-2), σ)
/-- a rank as a number from 0 -/
def rkN (rk : Int32) : Nat := (rk + nI 1).toNatClampNeg
def dU (σ : mS) (kd x y c rk : Int32) : Int32 × mS := if okU (mn σ) kd x y c rk = true then (if mK σ = 8 then (Int32.ofInt (-4), σ) else (nI (mK σ), ruS σ kd.toNatClampNeg x.toNatClampNeg y.toNatClampNeg c.toNatClampNeg (rkN rk))) else (Int32.ofInt (-2), σ)
def dX (σ : mS) (k : Int32) : Int32 × mS := if isF (mK σ) k = true then (nI (mK σ - 1), dpS σ k.toNatClampNeg) else (Int32.ofInt (-2), σ)
theorem rk_nat {rk : Int32} (h : inB rk (Int32.ofInt (-1)) (nI 9) = true) : ∃ r, r ≤ 10 ∧ rk = rI r := by
  unfold inB at h
  simp only [Bool.and_eq_true, decide_eq_true_eq] at h
  obtain ⟨h1, h2⟩ := h
  rw [Int32.le_iff_toInt_le] at h1 h2
  rw [nI_toInt (by omega)] at h2
  rw [fb_ofI (by omega) (by omega)] at h1
  refine ⟨(rk.toInt + 1).toNat, by omega, ?_⟩
  unfold rI
  rw [show (((rk.toInt + 1).toNat : Nat) : Int) - 1 = rk.toInt by omega]
  exact (fb_asI rk).symm
theorem rkN_rI {r : Nat} (h : r ≤ 10) : rkN (rI r) = r := by
  unfold rkN
  rw [rI_1, nI_clamp (by omega)]
theorem mostN_le (k : Nat) : mostN k ≤ 255 := by
  unfold mostN
  split <;> omega
theorem okU_nat {n : Nat} {kd x y c rk : Int32} (hn : n ≤ 4) (h : okU n kd x y c rk = true) : ∃ d a b e r, kd = nI d ∧ x = nI a ∧ y = nI b ∧ c = nI e ∧ rk = rI r ∧ d ≤ 5 ∧ a < n ∧ b < n ∧ e ≤ 255 ∧ r ≤ 10 := by
  unfold okU at h
  simp only [Bool.and_eq_true] at h
  obtain ⟨h1, h2, h3, h4, h5, h6⟩ := h
  obtain ⟨d, hd, rfl⟩ := inB_of (by decide) h1
  obtain ⟨a, ha, rfl⟩ := isF_of (by omega) h2
  obtain ⟨b, hb, rfl⟩ := isF_of (by omega) h3
  have hm := mostN_le (nI d).toNatClampNeg
  obtain ⟨e, he, rfl⟩ := inB_of (by omega) h5
  obtain ⟨r, hr, rfl⟩ := rk_nat h6
  exact ⟨d, a, b, e, r, rfl, rfl, rfl, rfl, rfl, hd, ha, hb, by omega, hr⟩
theorem dW_wf {σ : mS} (hw : wf σ) (f v w : Int32) : wf (dW σ f v w).2 := by
  have w1 := hw.1
  unfold dW
  split
  · rename_i hok
    rw [Bool.and_eq_true, Bool.and_eq_true] at hok
    obtain ⟨g, hg, rfl⟩ := isF_of (by omega) hok.1
    obtain ⟨u, hu, rfl⟩ := inB_of (by decide) hok.2.1
    obtain ⟨z, hz, rfl⟩ := inB_of (by decide) hok.2.2
    rw [nI_clamp (by omega), nI_clamp (by omega), nI_clamp (by omega)]
    exact wgS_wf hw hg hz
  · exact hw
theorem dR_wf {σ : mS} (hw : wf σ) (f z : Int32) : wf (dR σ f z).2 := by
  have w1 := hw.1
  unfold dR
  split
  · rename_i hok
    rw [Bool.and_eq_true] at hok
    obtain ⟨g, hg, rfl⟩ := isF_of (by omega) hok.1
    obtain ⟨u, hu, rfl⟩ := inB_of (by decide) hok.2
    rw [nI_clamp (by omega), nI_clamp (by omega)]
    exact roS_wf hw hg hu
  · exact hw
theorem dU_wf {σ : mS} (hw : wf σ) (kd x y c rk : Int32) : wf (dU σ kd x y c rk).2 := by
  have w1 := hw.1
  have w7 := hw.2.2.2.2.2.2.1
  unfold dU
  split
  · rename_i hok
    split
    · exact hw
    · obtain ⟨d, a, b, e, r, rfl, rfl, rfl, rfl, rfl, h1, h2, h3, h4, h5⟩ := okU_nat w1 hok
      rw [nI_clamp (by omega), nI_clamp (by omega), nI_clamp (by omega), nI_clamp (by omega), rkN_rI h5]
      exact ruS_wf hw (by omega) h1 h2 h3 h4 h5
  · exact hw
theorem dX_wf {σ : mS} (hw : wf σ) (k : Int32) : wf (dX σ k).2 := by
  have w7 := hw.2.2.2.2.2.2.1
  unfold dX
  split
  · rename_i hok
    obtain ⟨g, hg, rfl⟩ := isF_of (by omega) hok
    rw [nI_clamp (by omega)]
    exact dpS_wf hw hg
  · exact hw
theorem wg_rp {σ : mS} {a : Nat → Int32} (hn : mn σ ≤ 4) (hk : mK σ ≤ 8) (hr : rpA σ a) {f v w : Nat} (hf : f < mn σ) (hv : v < 8) : rpA (wgS σ f v w) (upd a (1 + 13 * f + (5 + v)) (nI w)) := by
  obtain ⟨r0, r1, r2, r3, r5, r6, r7, r8, r9, r10⟩ := hr
  have hu : ∀ j, j ≠ 1 + 13 * f + (5 + v) → upd a (1 + 13 * f + (5 + v)) (nI w) j = a j := fun j h => u_n _ _ h
  refine ⟨?_, fun g j hg hj => ?_, fun g hg => ?_, fun g u hg hu1 => ?_, fun p hp1 => ?_, ?_, fun k i hk1 hi => ?_, fun k hk1 => ?_, ?_, fun i hi => ?_⟩
  · rw [hu _ (by omega)]; exact r0
  · have hg : g < mn σ := hg
    rw [hu _ (by omega)]; exact r1 g j hg hj
  · have hg : g < mn σ := hg
    rw [hu _ (by omega)]; exact r2 g hg
  · have hg : g < mn σ := hg
    show _ = nI (if g = f ∧ u = v then w else mW σ g u)
    by_cases e : g = f ∧ u = v
    · obtain ⟨e1, e2⟩ := e
      subst e1
      subst e2
      rw [u_s, if_pos ⟨rfl, rfl⟩]
    · rw [if_neg e, hu _ (by omega)]
      exact r3 g u hg hu1
  · have hp1 : p < mn σ := hp1
    rw [hu _ (by omega)]; exact r5 p hp1
  · rw [hu _ (by omega)]; exact r6
  · rw [hu _ (by omega)]; exact r7 k i hk1 hi
  · rw [hu _ (by omega)]; exact r8 k hk1
  · rw [hu _ (by omega)]; exact r9
  · rw [hu _ (by omega)]; exact r10 i hi
theorem ro_rp {σ : mS} {a : Nat → Int32} (hn : mn σ ≤ 4) (hk : mK σ ≤ 8) (hr : rpA σ a) {f z : Nat} (hf : f < mn σ) : rpA (roS σ f z) (upd (upd a (1 + 13 * f + 2) (nI z)) (1 + 13 * f + 3) (nI 0)) := by
  obtain ⟨r0, r1, r2, r3, r5, r6, r7, r8, r9, r10⟩ := hr
  have hu : ∀ j, j ≠ 1 + 13 * f + 2 → j ≠ 1 + 13 * f + 3 → upd (upd a (1 + 13 * f + 2) (nI z)) (1 + 13 * f + 3) (nI 0) j = a j := fun j a1 a2 => by rw [u_n _ _ a2, u_n _ _ a1]
  refine ⟨?_, fun g j hg hj => ?_, fun g hg => ?_, fun g u hg hu1 => ?_, fun p hp1 => ?_, ?_, fun k i hk1 hi => ?_, fun k hk1 => ?_, ?_, fun i hi => ?_⟩
  · rw [hu _ (by omega) (by omega)]; exact r0
  · have hg : g < mn σ := hg
    show _ = nI (if g = f ∧ j = 2 then z else if g = f ∧ j = 3 then 0 else mF σ g j)
    by_cases e : g = f ∧ j = 2
    · obtain ⟨e1, e2⟩ := e
      subst e1
      subst e2
      rw [if_pos ⟨rfl, rfl⟩, u_n _ _ (by omega), u_s]
    · rw [if_neg e]
      by_cases e3 : g = f ∧ j = 3
      · obtain ⟨e1, e2⟩ := e3
        subst e1
        subst e2
        rw [if_pos ⟨rfl, rfl⟩, u_s]
      · rw [if_neg e3, hu _ (by omega) (by omega)]
        exact r1 g j hg hj
  · have hg : g < mn σ := hg
    rw [hu _ (by omega) (by omega)]; exact r2 g hg
  · have hg : g < mn σ := hg
    rw [hu _ (by omega) (by omega)]; exact r3 g u hg hu1
  · have hp1 : p < mn σ := hp1
    rw [hu _ (by omega) (by omega)]; exact r5 p hp1
  · rw [hu _ (by omega) (by omega)]; exact r6
  · rw [hu _ (by omega) (by omega)]; exact r7 k i hk1 hi
  · rw [hu _ (by omega) (by omega)]; exact r8 k hk1
  · rw [hu _ (by omega) (by omega)]; exact r9
  · rw [hu _ (by omega) (by omega)]; exact r10 i hi
theorem ru_rp {σ : mS} {a : Nat → Int32} (hn : mn σ ≤ 4) (hk : mK σ < 8) (hr : rpA σ a) {kd x y c rk : Nat} : rpA (ruS σ kd x y c rk) (rulA a (mK σ) (nI kd) (nI x) (nI y) (nI c) (rI rk)) := by
  unfold rulA
  apply emp_rp (σ := (mn σ, mF σ, mW σ, mO σ, mK σ + 1, fun k i => if k = mK σ then (if i = 0 then kd else if i = 1 then x else if i = 2 then y else if i = 3 then c else rk) else mR σ k i, σ.2.2.2.2.2.2)) hn hk
  obtain ⟨r0, r1, r3, r5, r6, r7, r8⟩ := hr.B
  generalize mK σ = K at *
  have hu : ∀ j, j ≠ 57 → (j < 58 + 5 * K ∨ 58 + 5 * K + 4 < j) → upd (upd (upd (upd (upd (upd a (58 + 5 * K) (nI kd)) (58 + 5 * K + 1) (nI x)) (58 + 5 * K + 2) (nI y)) (58 + 5 * K + 3) (nI c)) (58 + 5 * K + 4) (rI rk)) 57 (nI (K + 1)) j = a j := by
    intro j h0 h1
    rw [u_n _ _ h0, u_n _ _ (by omega), u_n _ _ (by omega), u_n _ _ (by omega), u_n _ _ (by omega), u_n _ _ (by omega)]
  refine ⟨?_, fun g j hg hj => ?_, fun g v hg hv => ?_, fun p hp1 => ?_, ?_, fun k i hk1 hi => ?_, fun k hk1 => ?_⟩
  · rw [hu _ (by omega) (by omega)]; exact r0
  · have hg : g < mn σ := hg
    rw [hu _ (by omega) (by omega)]; exact r1 g j hg hj
  · have hg : g < mn σ := hg
    rw [hu _ (by omega) (by omega)]; exact r3 g v hg hv
  · have hp1 : p < mn σ := hp1
    rw [hu _ (by omega) (by omega)]; exact r5 p hp1
  · rw [u_s]
  · have hk1 : k < K + 1 := hk1
    show _ = nI (if k = K then (if i = 0 then kd else if i = 1 then x else if i = 2 then y else if i = 3 then c else rk) else mR σ k i)
    by_cases e : k = K
    · subst e
      rw [if_pos rfl, u_n _ _ (by omega), u_n _ _ (by omega)]
      match i, hi with
      | 0, _ => rw [if_pos rfl, u_n _ _ (by omega), u_n _ _ (by omega), u_n _ _ (by omega), Nat.add_zero, u_s]
      | 1, _ => rw [if_neg (by omega), if_pos rfl, u_n _ _ (by omega), u_n _ _ (by omega), u_s]
      | 2, _ => rw [if_neg (by omega), if_neg (by omega), if_pos rfl, u_n _ _ (by omega), u_s]
      | 3, _ => rw [if_neg (by omega), if_neg (by omega), if_neg (by omega), if_pos rfl, u_s]
    · rw [if_neg e, hu _ (by omega) (by omega)]
      exact r7 k i (by omega) hi
  · have hk1 : k < K + 1 := hk1
    show _ = rI (if k = K then (if 4 = 0 then kd else if 4 = 1 then x else if 4 = 2 then y else if 4 = 3 then c else rk) else mR σ k 4)
    by_cases e : k = K
    · subst e
      rw [if_pos rfl, u_n _ _ (by omega), u_s, if_neg (by omega), if_neg (by omega), if_neg (by omega), if_neg (by omega)]
    · rw [if_neg e, hu _ (by omega) (by omega)]
      exact r8 k (by omega)
theorem dp_rp {σ : mS} {a : Nat → Int32} (hn : mn σ ≤ 4) (hk : mK σ ≤ 8) (hr : rpA σ a) {i : Nat} (hi : i < mK σ) : rpA (dpS σ i) (upd (empA (upd (drpA a (58 + 5 * i) 93) 57 (nI (mK σ - 1))) 4) 98 (nI 0)) := by
  apply emp_rp (σ := (mn σ, mF σ, mW σ, mO σ, mK σ - 1, fun k j => if k < i then mR σ k j else mR σ (k + 1) j, σ.2.2.2.2.2.2)) hn (Nat.le_trans (Nat.sub_le _ _) hk)
  obtain ⟨r0, r1, r3, r5, r6, r7, r8⟩ := hr.B
  have hu : ∀ j, j ≠ 57 → j < 58 + 5 * i → upd (drpA a (58 + 5 * i) 93) 57 (nI (mK σ - 1)) j = a j := by
    intro j h0 h1
    rw [u_n _ _ h0]
    exact if_neg (by omega)
  have hd : ∀ j, 58 + 5 * i ≤ j → j < 93 → upd (drpA a (58 + 5 * i) 93) 57 (nI (mK σ - 1)) j = a (j + 5) := by
    intro j h0 h1
    rw [u_n _ _ (by omega)]
    exact if_pos ⟨h0, h1⟩
  refine ⟨?_, fun g j hg hj => ?_, fun g v hg hv => ?_, fun p hp1 => ?_, u_s _ _ _, fun k j hk1 hj => ?_, fun k hk1 => ?_⟩
  · rw [hu _ (by omega) (by omega)]; exact r0
  · have hg : g < mn σ := hg
    rw [hu _ (by omega) (by omega)]; exact r1 g j hg hj
  · have hg : g < mn σ := hg
    rw [hu _ (by omega) (by omega)]; exact r3 g v hg hv
  · have hp1 : p < mn σ := hp1
    rw [hu _ (by omega) (by omega)]; exact r5 p hp1
  · have hk1 : k < mK σ - 1 := hk1
    show _ = nI (if k < i then mR σ k j else mR σ (k + 1) j)
    by_cases e : k < i
    · rw [if_pos e, hu _ (by omega) (by omega)]
      exact r7 k j (by omega) hj
    · rw [if_neg e, hd _ (by omega) (by omega), show 58 + 5 * k + j + 5 = 58 + 5 * (k + 1) + j by omega]
      exact r7 (k + 1) j (by omega) hj
  · have hk1 : k < mK σ - 1 := hk1
    show _ = rI (if k < i then mR σ k 4 else mR σ (k + 1) 4)
    by_cases e : k < i
    · rw [if_pos e, hu _ (by omega) (by omega)]
      exact r8 k (by omega)
    · rw [if_neg e, hd _ (by omega) (by omega), show 58 + 5 * k + 4 + 5 = 58 + 5 * (k + 1) + 4 by omega]
      exact r8 (k + 1) (by omega)
section
variable {q : Nat × (Nat → Int32)} {S : Nat → xSt} {P : Int32 × (Nat → Nat)} {A : (Nat → Int64) × Int32 × Int32 × (Nat → Int64) × (Nat → Nat → Int64)} {D : (Nat → Int64) × Int64} {K : Nat → Int64} {X : Int32 × Int32 × Int32 × (Nat → Int32) × (Nat → Int32)} {E Z : Nat → Int32} {I : Nat → Int32} {J : Nat → Int64} {V : Nat → Nat → Int32}
set_option maxRecDepth 100000 in
theorem t_doWeighs {σ : mS} (hw : wf σ) (hr : rpA σ (V 0)) (hL : LayI σ I V) (f v w : Int32) : ∃ (I' : Nat → Int32) (V' : Nat → Nat → Int32) (J' : Nat → Int64), xcall 126 [.ref 163, .int f, .int v, .int w] (hp q S P A D K X E Z I J V) = some (some (.int (dW σ f v w).1), (hp q S P A D K X E Z (I') (J') (V'))) ∧ rpA (dW σ f v w).2 (V' 0) ∧ LayI (dW σ f v w).2 I' V' ∧ DF I I' V V' := by
  have w1 := hw.1
  have w7 := hw.2.2.2.2.2.2.1
  unfold dW
  by_cases hok : (isF (mn σ) f && (inB v (nI 0) (nI 7) && inB w (nI 0) (nI 9))) = true
  · rw [if_pos hok]
    rw [Bool.and_eq_true, Bool.and_eq_true] at hok
    obtain ⟨g, hg, rfl⟩ := isF_of (by omega) hok.1
    obtain ⟨u, hu, rfl⟩ := inB_of (by decide) hok.2.1
    obtain ⟨z, hz, rfl⟩ := inB_of (by decide) hok.2.2
    rw [nI_clamp (n := g) (by omega), nI_clamp (n := u) (by omega), nI_clamp (n := z) (by omega)]
    have e := t_doWeighs_ok (q := q) (S := S) (P := P) (A := A) (D := D) (K := K) (X := X) (E := E) (Z := Z) (I := I) (J := J) (V := V) hr.1 hg w1 hu hz
    rw [hr.2.2.2.1 g u hg (by omega)] at e
    refine ⟨I, _, J, e, ?_, ?_, DF.u0 _⟩
    · rw [vu_s]
      exact wg_rp w1 w7 hr hg (by omega)
    · have hs : sameL σ (wgS σ g u z) := ⟨fun _ _ _ => rfl, rfl, rfl⟩
      exact hs.lay (hL.of (fun _ _ => rfl) (fun k hk => vu_n _ _ (by omega)))
  · rw [if_neg hok]
    exact ⟨I, V, J, t_doWeighs_bad hr.1 (Bool.eq_false_iff.mpr hok), hr, hL, DF.rf I V⟩
set_option maxRecDepth 100000 in
theorem t_doRound {σ : mS} (hw : wf σ) (hr : rpA σ (V 0)) (hL : LayI σ I V) (f z : Int32) : ∃ (I' : Nat → Int32) (V' : Nat → Nat → Int32) (J' : Nat → Int64), xcall 127 [.ref 163, .int f, .int z] (hp q S P A D K X E Z I J V) = some (some (.int (dR σ f z).1), (hp q S P A D K X E Z (I') (J') (V'))) ∧ rpA (dR σ f z).2 (V' 0) ∧ LayI (dR σ f z).2 I' V' ∧ DF I I' V V' := by
  have w1 := hw.1
  have w7 := hw.2.2.2.2.2.2.1
  unfold dR
  by_cases hok : (isF (mn σ) f && inB z (nI 0) (nI 1)) = true
  · rw [if_pos hok]
    rw [Bool.and_eq_true] at hok
    obtain ⟨g, hg, rfl⟩ := isF_of (by omega) hok.1
    obtain ⟨u, hu, rfl⟩ := inB_of (by decide) hok.2
    rw [nI_clamp (n := g) (by omega), nI_clamp (n := u) (by omega)]
    have e := t_doRound_ok (q := q) (S := S) (P := P) (A := A) (D := D) (K := K) (X := X) (E := E) (Z := Z) (I := I) (J := J) (V := V) hr.1 hg w1 hu
    rw [hr.2.1 g 2 hg (by omega)] at e
    refine ⟨I, _, J, e, ?_, ?_, DF.u0 _⟩
    · rw [vu_s]
      exact ro_rp w1 w7 hr hg
    · have hs : sameL σ (roS σ g u) := by
        refine ⟨fun a b hb => ?_, rfl, rfl⟩
        show (if a = g ∧ b = 2 then u else if a = g ∧ b = 3 then 0 else mF σ a b) = _
        rw [if_neg (by omega), if_neg (by omega)]
      exact hs.lay (hL.of (fun _ _ => rfl) (fun k hk => vu_n _ _ (by omega)))
  · rw [if_neg hok]
    exact ⟨I, V, J, t_doRound_bad hr.1 (Bool.eq_false_iff.mpr hok), hr, hL, DF.rf I V⟩
set_option maxRecDepth 100000 in
theorem t_doRule {σ : mS} (hw : wf σ) (hr : rpA σ (V 0)) (hL : LayI σ I V) (kd x y c rk : Int32) : ∃ (I' : Nat → Int32) (V' : Nat → Nat → Int32) (J' : Nat → Int64), xcall 129 [.ref 163, .int kd, .int x, .int y, .int c, .int rk] (hp q S P A D K X E Z I J V) = some (some (.int (dU σ kd x y c rk).1), (hp q S P A D K X E Z (I') (J') (V'))) ∧ rpA (dU σ kd x y c rk).2 (V' 0) ∧ LayI (dU σ kd x y c rk).2 I' V' ∧ DF I I' V V' := by
  have w1 := hw.1
  have w7 := hw.2.2.2.2.2.2.1
  have r57 := hr.2.2.2.2.2.1
  unfold dU
  by_cases hok : okU (mn σ) kd x y c rk = true
  · rw [if_pos hok]
    by_cases h8 : mK σ = 8
    · rw [if_pos h8]
      exact ⟨I, V, J, t_doRule_full hr.1 hok (by rw [r57, h8]), hr, hL, DF.rf I V⟩
    · rw [if_neg h8]
      refine ⟨_, _, J, t_doRule_ok hr.1 hok r57 (by omega), ?_, Or.inl (u_s _ _ _), DF.u05 _ _⟩
      obtain ⟨d, a, b, e, r, rfl, rfl, rfl, rfl, rfl, h1, h2, h3, h4, h5⟩ := okU_nat w1 hok
      rw [nI_clamp (n := d) (by omega), nI_clamp (n := a) (by omega), nI_clamp (n := b) (by omega), nI_clamp (n := e) (by omega), rkN_rI h5, vu_s]
      exact ru_rp w1 (by omega) hr
  · rw [if_neg hok]
    exact ⟨I, V, J, t_doRule_bad hr.1 (Bool.eq_false_iff.mpr hok), hr, hL, DF.rf I V⟩
set_option maxRecDepth 100000 in
theorem t_doDrops {σ : mS} (hw : wf σ) (hr : rpA σ (V 0)) (hL : LayI σ I V) (k : Int32) : ∃ (I' : Nat → Int32) (V' : Nat → Nat → Int32) (J' : Nat → Int64), xcall 130 [.ref 163, .int k] (hp q S P A D K X E Z I J V) = some (some (.int (dX σ k).1), (hp q S P A D K X E Z (I') (J') (V'))) ∧ rpA (dX σ k).2 (V' 0) ∧ LayI (dX σ k).2 I' V' ∧ DF I I' V V' := by
  have w1 := hw.1
  have w7 := hw.2.2.2.2.2.2.1
  have r57 := hr.2.2.2.2.2.1
  unfold dX
  by_cases hok : isF (mK σ) k = true
  · rw [if_pos hok]
    obtain ⟨g, hg, rfl⟩ := isF_of (by omega) hok
    rw [nI_clamp (n := g) (by omega)]
    refine ⟨_, _, J, t_doDrops_ok r57 hg w7, ?_, Or.inl (u_s _ _ _), DF.u05 _ _⟩
    rw [vu_s]
    exact dp_rp w1 w7 hr hg
  · rw [if_neg hok]
    exact ⟨I, V, J, t_doDrops_bad r57 (Bool.eq_false_iff.mpr hok), hr, hL, DF.rf I V⟩
end
