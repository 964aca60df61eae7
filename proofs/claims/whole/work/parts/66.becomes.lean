/-! ===== the class: a state becomes another ===== -/
/-- the class's record holds a state -/
def rpS (σ : mS) (s : xSt) : Prop := s.1 0 = nI (mn σ) ∧ (∀ f j, f < 4 → j < 4 → s.2.1 f j = nI (mF σ f j)) ∧ (∀ f v, f < 4 → v < 8 → s.2.2.1 f v = nI (mW σ f v)) ∧ (∀ p, p < mn σ → s.2.2.2.1 p = nI (mO σ p)) ∧ s.1 3 = nI (mK σ) ∧ (∀ k i, k < mK σ → i < 4 → s.2.2.2.2.1 k i = nI (mR σ k i)) ∧ (∀ k, k < mK σ → s.2.2.2.2.1 k 4 = rI (mR σ k 4)) ∧ s.1 5 = rI (mN σ) ∧ s.1 6 = nI (mu σ) ∧ ∀ i, i < mu σ → s.2.2.2.2.2 i = nI (mU σ i)
def fB (s t : xSt) (f : Nat) : xSt := sW (sF (sF (sF (sF s f 0 (t.2.1 f 0)) f 1 (t.2.1 f 1)) f 2 (t.2.1 f 2)) f 3 (t.2.1 f 3)) f (va_cpy (t.2.2.1 f) (s.2.2.1 f) 0 0 8)
def rB (s t : xSt) (k : Nat) : xSt := sR (sR (sR (sR (sR s k 0 (t.2.2.2.2.1 k 0)) k 1 (t.2.2.2.2.1 k 1)) k 2 (t.2.2.2.2.1 k 2)) k 3 (t.2.2.2.2.1 k 3)) k 4 (t.2.2.2.2.1 k 4)
def bF (s t : xSt) : Nat → xSt
  | 0 => s
  | k + 1 => fB (bF s t k) t k
def bR (s t : xSt) : Nat → xSt
  | 0 => s
  | k + 1 => rB (bR s t k) t k
theorem fB_keep (s t : xSt) (f : Nat) : (fB s t f).1 = s.1 ∧ (fB s t f).2.2.2 = s.2.2.2 := ⟨rfl, rfl⟩
theorem fB_F (s t : xSt) (f : Nat) {g : Nat} (j : Nat) (h : g ≠ f) : (fB s t f).2.1 g j = s.2.1 g j ∧ (fB s t f).2.2.1 g j = s.2.2.1 g j := by
  unfold fB sW sF
  simp only [vu_n _ _ h, and_self]
theorem fB_s (s t : xSt) (f : Nat) {j : Nat} (h : j < 4) : (fB s t f).2.1 f j = t.2.1 f j := by
  unfold fB sW sF
  simp only [vu_s]
  match j, h with
  | 0, _ => rfl
  | 1, _ => rfl
  | 2, _ => rfl
  | 3, _ => rfl
theorem fB_w (s t : xSt) (f : Nat) {v : Nat} (h : v < 8) : (fB s t f).2.2.1 f v = t.2.2.1 f v := by
  unfold fB sW sF
  simp only [vu_s, va_cpy]
  rw [if_pos (by omega), Nat.sub_zero, Nat.zero_add]
theorem bF_keep (s t : xSt) : ∀ k, (bF s t k).1 = s.1 ∧ (bF s t k).2.2.2 = s.2.2.2
  | 0 => ⟨rfl, rfl⟩
  | k + 1 => ⟨(bF_keep s t k).1, (bF_keep s t k).2⟩
theorem bF_in (s t : xSt) {f : Nat} : ∀ k, f < k → (∀ j, j < 4 → (bF s t k).2.1 f j = t.2.1 f j) ∧ ∀ v, v < 8 → (bF s t k).2.2.1 f v = t.2.2.1 f v
  | 0, h => absurd h (Nat.not_lt_zero f)
  | k + 1, h => by
    by_cases e : f = k
    · subst e
      exact ⟨fun j hj => fB_s _ t f hj, fun v hv => fB_w _ t f hv⟩
    · obtain ⟨a, b⟩ := bF_in s t k (f := f) (by omega)
      exact ⟨fun j hj => ((fB_F (bF s t k) t k j e).1).trans (a j hj), fun v hv => ((fB_F (bF s t k) t k v e).2).trans (b v hv)⟩
theorem rB_keep (s t : xSt) (k : Nat) : (rB s t k).1 = s.1 ∧ (rB s t k).2.1 = s.2.1 ∧ (rB s t k).2.2.1 = s.2.2.1 ∧ (rB s t k).2.2.2.1 = s.2.2.2.1 ∧ (rB s t k).2.2.2.2.2 = s.2.2.2.2.2 := ⟨rfl, rfl, rfl, rfl, rfl⟩
theorem rB_n (s t : xSt) (k : Nat) {g : Nat} (j : Nat) (h : g ≠ k) : (rB s t k).2.2.2.2.1 g j = s.2.2.2.2.1 g j := by
  unfold rB sR
  simp only [vu_n _ _ h]
theorem rB_s (s t : xSt) (k : Nat) {j : Nat} (h : j < 5) : (rB s t k).2.2.2.2.1 k j = t.2.2.2.2.1 k j := by
  unfold rB sR
  simp only [vu_s]
  match j, h with
  | 0, _ => rfl
  | 1, _ => rfl
  | 2, _ => rfl
  | 3, _ => rfl
  | 4, _ => rfl
theorem bR_keep (s t : xSt) : ∀ k, (bR s t k).1 = s.1 ∧ (bR s t k).2.1 = s.2.1 ∧ (bR s t k).2.2.1 = s.2.2.1 ∧ (bR s t k).2.2.2.1 = s.2.2.2.1 ∧ (bR s t k).2.2.2.2.2 = s.2.2.2.2.2
  | 0 => ⟨rfl, rfl, rfl, rfl, rfl⟩
  | k + 1 => ⟨(bR_keep s t k).1, (bR_keep s t k).2.1, (bR_keep s t k).2.2.1, (bR_keep s t k).2.2.2.1, (bR_keep s t k).2.2.2.2⟩
theorem bR_in (s t : xSt) {g : Nat} : ∀ k, g < k → ∀ j, j < 5 → (bR s t k).2.2.2.2.1 g j = t.2.2.2.2.1 g j
  | 0, h => absurd h (Nat.not_lt_zero g)
  | k + 1, h => by
    intro j hj
    by_cases e : g = k
    · subst e
      exact rB_s _ t g hj
    · exact (rB_n (bR s t k) t k j e).trans (bR_in s t k (by omega) j hj)
/-- the record s become the record t, of n rules and u unlike rows -/
def stA (s t : xSt) : xSt := sI (sO (bF (sI s 0 (t.1 0)) t 4) (va_cpy t.2.2.2.1 s.2.2.2.1 0 0 4)) 3 (t.1 3)
def stC (s t : xSt) (u : Nat) : xSt := sI (sU (sI (sI s 5 (t.1 5)) 6 (t.1 6)) (va_cpy t.2.2.2.2.2 s.2.2.2.2.2 0 0 u)) 8 (nI 0)
def stB (s t : xSt) (n u : Nat) : xSt := stC (bR (stA s t) t n) t u
theorem stB_rp {σ : mS} (hw : wf σ) {t : xSt} (hr : rpS σ t) (s : xSt) : rpS σ (stB s t (mK σ) (mu σ)) ∧ (stB s t (mK σ) (mu σ)).1 8 = nI 0 := by
  have w1 := hw.1
  obtain ⟨r0, r1, r2, r3, r4, r5, r6, r7, r8, r9⟩ := hr
  obtain ⟨k1, k2, k3, k4, k5⟩ := bR_keep (stA s t) t (mK σ)
  have hin := fun g (h : g < mK σ) => bR_in (stA s t) t (mK σ) h
  unfold stB stC
  generalize bR (stA s t) t (mK σ) = b at *
  obtain ⟨a1, a2⟩ := bF_keep (sI s 0 (t.1 0)) t 4
  have ain := fun g (h : g < 4) => bF_in (sI s 0 (t.1 0)) t 4 h
  have e1 : b.1 = upd (upd s.1 0 (t.1 0)) 3 (t.1 3) := by
    rw [k1]
    show upd (bF (sI s 0 (t.1 0)) t 4).1 3 (t.1 3) = _
    rw [a1]
    rfl
  have e2 : b.2.1 = (bF (sI s 0 (t.1 0)) t 4).2.1 := by rw [k2]; rfl
  have e3 : b.2.2.1 = (bF (sI s 0 (t.1 0)) t 4).2.2.1 := by rw [k3]; rfl
  have e4 : b.2.2.2.1 = va_cpy t.2.2.2.1 s.2.2.2.1 0 0 4 := by rw [k4]; rfl
  refine ⟨⟨?_, fun f j hf hj => ?_, fun f v hf hv => ?_, fun p hp1 => ?_, ?_, fun k i hk hi => ?_, fun k hk => ?_, ?_, ?_, fun i hi => ?_⟩, by show upd (upd (upd b.1 5 (t.1 5)) 6 (t.1 6)) 8 (nI 0) 8 = nI 0; exact u_s _ _ _⟩
  · show upd (upd (upd b.1 5 (t.1 5)) 6 (t.1 6)) 8 (nI 0) 0 = _
    rw [u_n _ _ (by omega), u_n _ _ (by omega), u_n _ _ (by omega), e1, u_n _ _ (by omega), u_s]
    exact r0
  · show b.2.1 f j = _
    rw [e2, (ain f hf).1 j hj]
    exact r1 f j hf hj
  · show b.2.2.1 f v = _
    rw [e3, (ain f hf).2 v hv]
    exact r2 f v hf hv
  · show b.2.2.2.1 p = _
    rw [e4]
    unfold va_cpy
    rw [if_pos (by omega), Nat.sub_zero, Nat.zero_add]
    exact r3 p hp1
  · show upd (upd (upd b.1 5 (t.1 5)) 6 (t.1 6)) 8 (nI 0) 3 = _
    rw [u_n _ _ (by omega), u_n _ _ (by omega), u_n _ _ (by omega), e1, u_s]
    exact r4
  · show b.2.2.2.2.1 k i = _
    rw [hin k hk i (by omega)]
    exact r5 k i hk hi
  · show b.2.2.2.2.1 k 4 = _
    rw [hin k hk 4 (by omega)]
    exact r6 k hk
  · show upd (upd (upd b.1 5 (t.1 5)) 6 (t.1 6)) 8 (nI 0) 5 = _
    rw [u_n _ _ (by omega), u_n _ _ (by omega), u_s]
    exact r7
  · show upd (upd (upd b.1 5 (t.1 5)) 6 (t.1 6)) 8 (nI 0) 6 = _
    rw [u_n _ _ (by omega), u_s]
    exact r8
  · show va_cpy t.2.2.2.2.2 b.2.2.2.2.2 0 0 (mu σ) i = _
    unfold va_cpy
    rw [if_pos (by omega), Nat.sub_zero, Nat.zero_add]
    exact r9 i hi
section
variable {q : Nat × (Nat → Int32)} {S : Nat → xSt} {P : Int32 × (Nat → Nat)} {A : (Nat → Int64) × Int32 × Int32 × (Nat → Int64) × (Nat → Nat → Int64)} {D : (Nat → Int64) × Int64} {K : Nat → Int64} {X : Int32 × Int32 × Int32 × (Nat → Int32) × (Nat → Int32)} {E Z : Nat → Int32} {I : Nat → Int32} {J : Nat → Int64} {V : Nat → Nat → Int32}
set_option maxRecDepth 100000 in
theorem c_fb_0 {i j f : Nat} (hi : i < 6) (hj : j < 6) (hne : j ≠ i) (hf : f < 4) (h0 : xH) (hh : h0 = (hp q S P A D K X E Z I J V)) : xcall 9 [.ref (sb i + 5 + 2 * f), .ref (sb j + 5 + 2 * f)] h0 = some (none, (hp q (vf_upd S i (fB (S i) (S j) f)) P A D K X E Z I J V)) := by
  subst hh
  have g0 : ∀ (S : Nat → xSt) (t : List xI), xB xcall (den 9) (.inl (.aload 0) :: .inl (.aload 1) :: .inl (.getfield 32) :: .inl (.putfield 32) :: t) [some (.ref (sb i + 5 + 2 * f)), some (.ref (sb j + 5 + 2 * f))] [] (hp q S P A D K X E Z I J V) = xB xcall (den 9) t [some (.ref (sb i + 5 + 2 * f)), some (.ref (sb j + 5 + 2 * f))] [] (hp q (vf_upd S i (sF (S i) f 0 ((S j).2.1 f 0))) P A D K X E Z I J V) := by
    intro S t
    simp (maxSteps := 2000000) (disch := omega) only [e_inl, e_goto, e_fall, e_if, e_icmp, e_iret, e_zret, e_lret, e_vret, e_call0_0, e_call0_1, e_call0_2, e_call0_3, e_call0_4, e_call1_0, e_call1_1, e_call1_2, e_call1_3, e_call1_4, e_call2_0, e_call2_1, e_call2_2, e_call2_3, e_call2_4, e_call3_0, e_call3_1, e_call3_2, e_call3_3, e_call3_4, e_call4_0, e_call4_1, e_call4_2, e_call4_3, e_call4_4, e_call5_0, e_call5_1, e_call5_2, e_call5_3, e_call5_4, e_call6_0, e_call6_1, e_call6_2, e_call6_3, e_call6_4, xP, xld, xst1, xst2, xis2, xii, xid, xll, xlv, xls, xlc, xil, xli, xrd, xdup, xdup2, xc1, xpu, c_eq, c_ne, c_lt, c_ge, c_gt, c_le, Option.bind_some, Option.map_some, List.length_nil, List.length_cons, Nat.reduceAdd, Nat.reduceLeDiff, Int.reduceToNat, Bool.and_self, Bool.false_eq_true, if_true, if_false, gTF_0, pTF_0]
  have g1 : ∀ (S : Nat → xSt) (t : List xI), xB xcall (den 9) (.inl (.aload 0) :: .inl (.aload 1) :: .inl (.getfield 33) :: .inl (.putfield 33) :: t) [some (.ref (sb i + 5 + 2 * f)), some (.ref (sb j + 5 + 2 * f))] [] (hp q S P A D K X E Z I J V) = xB xcall (den 9) t [some (.ref (sb i + 5 + 2 * f)), some (.ref (sb j + 5 + 2 * f))] [] (hp q (vf_upd S i (sF (S i) f 1 ((S j).2.1 f 1))) P A D K X E Z I J V) := by
    intro S t
    simp (maxSteps := 2000000) (disch := omega) only [e_inl, e_goto, e_fall, e_if, e_icmp, e_iret, e_zret, e_lret, e_vret, e_call0_0, e_call0_1, e_call0_2, e_call0_3, e_call0_4, e_call1_0, e_call1_1, e_call1_2, e_call1_3, e_call1_4, e_call2_0, e_call2_1, e_call2_2, e_call2_3, e_call2_4, e_call3_0, e_call3_1, e_call3_2, e_call3_3, e_call3_4, e_call4_0, e_call4_1, e_call4_2, e_call4_3, e_call4_4, e_call5_0, e_call5_1, e_call5_2, e_call5_3, e_call5_4, e_call6_0, e_call6_1, e_call6_2, e_call6_3, e_call6_4, xP, xld, xst1, xst2, xis2, xii, xid, xll, xlv, xls, xlc, xil, xli, xrd, xdup, xdup2, xc1, xpu, c_eq, c_ne, c_lt, c_ge, c_gt, c_le, Option.bind_some, Option.map_some, List.length_nil, List.length_cons, Nat.reduceAdd, Nat.reduceLeDiff, Int.reduceToNat, Bool.and_self, Bool.false_eq_true, if_true, if_false, gTF_1, pTF_1]
  have g2 : ∀ (S : Nat → xSt) (t : List xI), xB xcall (den 9) (.inl (.aload 0) :: .inl (.aload 1) :: .inl (.getfield 34) :: .inl (.putfield 34) :: t) [some (.ref (sb i + 5 + 2 * f)), some (.ref (sb j + 5 + 2 * f))] [] (hp q S P A D K X E Z I J V) = xB xcall (den 9) t [some (.ref (sb i + 5 + 2 * f)), some (.ref (sb j + 5 + 2 * f))] [] (hp q (vf_upd S i (sF (S i) f 2 ((S j).2.1 f 2))) P A D K X E Z I J V) := by
    intro S t
    simp (maxSteps := 2000000) (disch := omega) only [e_inl, e_goto, e_fall, e_if, e_icmp, e_iret, e_zret, e_lret, e_vret, e_call0_0, e_call0_1, e_call0_2, e_call0_3, e_call0_4, e_call1_0, e_call1_1, e_call1_2, e_call1_3, e_call1_4, e_call2_0, e_call2_1, e_call2_2, e_call2_3, e_call2_4, e_call3_0, e_call3_1, e_call3_2, e_call3_3, e_call3_4, e_call4_0, e_call4_1, e_call4_2, e_call4_3, e_call4_4, e_call5_0, e_call5_1, e_call5_2, e_call5_3, e_call5_4, e_call6_0, e_call6_1, e_call6_2, e_call6_3, e_call6_4, xP, xld, xst1, xst2, xis2, xii, xid, xll, xlv, xls, xlc, xil, xli, xrd, xdup, xdup2, xc1, xpu, c_eq, c_ne, c_lt, c_ge, c_gt, c_le, Option.bind_some, Option.map_some, List.length_nil, List.length_cons, Nat.reduceAdd, Nat.reduceLeDiff, Int.reduceToNat, Bool.and_self, Bool.false_eq_true, if_true, if_false, gTF_2, pTF_2]
  have g3 : ∀ (S : Nat → xSt) (t : List xI), xB xcall (den 9) (.inl (.aload 0) :: .inl (.aload 1) :: .inl (.getfield 35) :: .inl (.putfield 35) :: t) [some (.ref (sb i + 5 + 2 * f)), some (.ref (sb j + 5 + 2 * f))] [] (hp q S P A D K X E Z I J V) = xB xcall (den 9) t [some (.ref (sb i + 5 + 2 * f)), some (.ref (sb j + 5 + 2 * f))] [] (hp q (vf_upd S i (sF (S i) f 3 ((S j).2.1 f 3))) P A D K X E Z I J V) := by
    intro S t
    simp (maxSteps := 2000000) (disch := omega) only [e_inl, e_goto, e_fall, e_if, e_icmp, e_iret, e_zret, e_lret, e_vret, e_call0_0, e_call0_1, e_call0_2, e_call0_3, e_call0_4, e_call1_0, e_call1_1, e_call1_2, e_call1_3, e_call1_4, e_call2_0, e_call2_1, e_call2_2, e_call2_3, e_call2_4, e_call3_0, e_call3_1, e_call3_2, e_call3_3, e_call3_4, e_call4_0, e_call4_1, e_call4_2, e_call4_3, e_call4_4, e_call5_0, e_call5_1, e_call5_2, e_call5_3, e_call5_4, e_call6_0, e_call6_1, e_call6_2, e_call6_3, e_call6_4, xP, xld, xst1, xst2, xis2, xii, xid, xll, xlv, xls, xlc, xil, xli, xrd, xdup, xdup2, xc1, xpu, c_eq, c_ne, c_lt, c_ge, c_gt, c_le, Option.bind_some, Option.map_some, List.length_nil, List.length_cons, Nat.reduceAdd, Nat.reduceLeDiff, Int.reduceToNat, Bool.and_self, Bool.false_eq_true, if_true, if_false, gTF_3, pTF_3]
  have g4 : ∀ (S : Nat → xSt), xB xcall (den 9) [.inl (.aload 1), .inl (.getfield 36), .inl (.iconst 0), .inl (.aload 0), .inl (.getfield 36), .inl (.iconst 0), .inl (.iconst 8), .inl .nop, .inr .return_] [some (.ref (sb i + 5 + 2 * f)), some (.ref (sb j + 5 + 2 * f))] [] (hp q S P A D K X E Z I J V) = some (none, (hp q (vf_upd S i (sW (S i) f (va_cpy ((S j).2.2.1 f) ((S i).2.2.1 f) 0 0 8))) P A D K X E Z I J V)) := by
    intro S
    simp (maxSteps := 2000000) (disch := omega) only [e_inl, e_goto, e_fall, e_if, e_icmp, e_iret, e_zret, e_lret, e_vret, e_call0_0, e_call0_1, e_call0_2, e_call0_3, e_call0_4, e_call1_0, e_call1_1, e_call1_2, e_call1_3, e_call1_4, e_call2_0, e_call2_1, e_call2_2, e_call2_3, e_call2_4, e_call3_0, e_call3_1, e_call3_2, e_call3_3, e_call3_4, e_call4_0, e_call4_1, e_call4_2, e_call4_3, e_call4_4, e_call5_0, e_call5_1, e_call5_2, e_call5_3, e_call5_4, e_call6_0, e_call6_1, e_call6_2, e_call6_3, e_call6_4, xP, xld, xst1, xst2, xis2, xii, xid, xll, xlv, xls, xlc, xil, xli, xrd, xdup, xdup2, xc1, xpu, c_eq, c_ne, c_lt, c_ge, c_gt, c_le, Option.bind_some, Option.map_some, List.length_nil, List.length_cons, Nat.reduceAdd, Nat.reduceLeDiff, Int.reduceToNat, Bool.and_self, Bool.false_eq_true, if_true, if_false, n_lit, gTF_4, xT_W, eq_self]
  rw [N9 _ _ _ (oTF _ _ _ _ _ _ _ _ _ _ _ _ i hi f hf), D9_0, g0, g1, g2, g3, g4]
  simp only [vu_s, vu_vu, vu_n _ _ hne]
  rfl
set_option maxRecDepth 100000 in
theorem c_rb_0 {i j a k : Nat} (hi : i < 6) (hj : j < 6) (hne : j ≠ i ∨ a ≠ k) (ha : a < 8) (hk : k < 8) : ∃ s : xSt, xcall 40 [.ref (sb i + 13 + k), .ref (sb j + 13 + a)] (hp q S P A D K X E Z I J V) = some (none, (hp q (vf_upd S i s) P A D K X E Z I J V)) ∧ s = sR (sR (sR (sR (sR (S i) k 0 ((S j).2.2.2.2.1 a 0)) k 1 ((S j).2.2.2.2.1 a 1)) k 2 ((S j).2.2.2.2.1 a 2)) k 3 ((S j).2.2.2.2.1 a 3)) k 4 ((S j).2.2.2.2.1 a 4) := by
  refine ⟨_, ?_, rfl⟩
  have hrd : ∀ (s : xSt) (r : Nat) (x : Int32) (c : Nat), (vf_upd S i (sR s k r x) j).2.2.2.2.1 a c = (vf_upd S i s j).2.2.2.2.1 a c := by
    intro s r x c
    by_cases e : j = i
    · subst e
      rw [vu_s, vu_s]
      have h2 : a ≠ k := hne.resolve_left (fun q => q rfl)
      show vf_upd s.2.2.2.2.1 k _ a c = _
      rw [vu_n _ _ h2]
    · rw [vu_n _ _ e, vu_n _ _ e]
  have g0 : ∀ (S : Nat → xSt) (t : List xI), xB xcall (den 40) (.inl (.aload 0) :: .inl (.aload 1) :: .inl (.getfield 160) :: .inl (.putfield 160) :: t) [some (.ref (sb i + 13 + k)), some (.ref (sb j + 13 + a))] [] (hp q S P A D K X E Z I J V) = xB xcall (den 40) t [some (.ref (sb i + 13 + k)), some (.ref (sb j + 13 + a))] [] (hp q (vf_upd S i (sR (S i) k 0 ((S j).2.2.2.2.1 a 0))) P A D K X E Z I J V) := by
    intro S t
    simp (maxSteps := 2000000) (disch := omega) only [e_inl, e_goto, e_fall, e_if, e_icmp, e_iret, e_zret, e_lret, e_vret, e_call0_0, e_call0_1, e_call0_2, e_call0_3, e_call0_4, e_call1_0, e_call1_1, e_call1_2, e_call1_3, e_call1_4, e_call2_0, e_call2_1, e_call2_2, e_call2_3, e_call2_4, e_call3_0, e_call3_1, e_call3_2, e_call3_3, e_call3_4, e_call4_0, e_call4_1, e_call4_2, e_call4_3, e_call4_4, e_call5_0, e_call5_1, e_call5_2, e_call5_3, e_call5_4, e_call6_0, e_call6_1, e_call6_2, e_call6_3, e_call6_4, xP, xld, xst1, xst2, xis2, xii, xid, xll, xlv, xls, xlc, xil, xli, xrd, xdup, xdup2, xc1, xpu, c_eq, c_ne, c_lt, c_ge, c_gt, c_le, Option.bind_some, Option.map_some, List.length_nil, List.length_cons, Nat.reduceAdd, Nat.reduceLeDiff, Int.reduceToNat, Bool.and_self, Bool.false_eq_true, if_true, if_false, gTR_0, pTR_0]
  have g1 : ∀ (S : Nat → xSt) (t : List xI), xB xcall (den 40) (.inl (.aload 0) :: .inl (.aload 1) :: .inl (.getfield 161) :: .inl (.putfield 161) :: t) [some (.ref (sb i + 13 + k)), some (.ref (sb j + 13 + a))] [] (hp q S P A D K X E Z I J V) = xB xcall (den 40) t [some (.ref (sb i + 13 + k)), some (.ref (sb j + 13 + a))] [] (hp q (vf_upd S i (sR (S i) k 1 ((S j).2.2.2.2.1 a 1))) P A D K X E Z I J V) := by
    intro S t
    simp (maxSteps := 2000000) (disch := omega) only [e_inl, e_goto, e_fall, e_if, e_icmp, e_iret, e_zret, e_lret, e_vret, e_call0_0, e_call0_1, e_call0_2, e_call0_3, e_call0_4, e_call1_0, e_call1_1, e_call1_2, e_call1_3, e_call1_4, e_call2_0, e_call2_1, e_call2_2, e_call2_3, e_call2_4, e_call3_0, e_call3_1, e_call3_2, e_call3_3, e_call3_4, e_call4_0, e_call4_1, e_call4_2, e_call4_3, e_call4_4, e_call5_0, e_call5_1, e_call5_2, e_call5_3, e_call5_4, e_call6_0, e_call6_1, e_call6_2, e_call6_3, e_call6_4, xP, xld, xst1, xst2, xis2, xii, xid, xll, xlv, xls, xlc, xil, xli, xrd, xdup, xdup2, xc1, xpu, c_eq, c_ne, c_lt, c_ge, c_gt, c_le, Option.bind_some, Option.map_some, List.length_nil, List.length_cons, Nat.reduceAdd, Nat.reduceLeDiff, Int.reduceToNat, Bool.and_self, Bool.false_eq_true, if_true, if_false, gTR_1, pTR_1]
  have g2 : ∀ (S : Nat → xSt) (t : List xI), xB xcall (den 40) (.inl (.aload 0) :: .inl (.aload 1) :: .inl (.getfield 162) :: .inl (.putfield 162) :: t) [some (.ref (sb i + 13 + k)), some (.ref (sb j + 13 + a))] [] (hp q S P A D K X E Z I J V) = xB xcall (den 40) t [some (.ref (sb i + 13 + k)), some (.ref (sb j + 13 + a))] [] (hp q (vf_upd S i (sR (S i) k 2 ((S j).2.2.2.2.1 a 2))) P A D K X E Z I J V) := by
    intro S t
    simp (maxSteps := 2000000) (disch := omega) only [e_inl, e_goto, e_fall, e_if, e_icmp, e_iret, e_zret, e_lret, e_vret, e_call0_0, e_call0_1, e_call0_2, e_call0_3, e_call0_4, e_call1_0, e_call1_1, e_call1_2, e_call1_3, e_call1_4, e_call2_0, e_call2_1, e_call2_2, e_call2_3, e_call2_4, e_call3_0, e_call3_1, e_call3_2, e_call3_3, e_call3_4, e_call4_0, e_call4_1, e_call4_2, e_call4_3, e_call4_4, e_call5_0, e_call5_1, e_call5_2, e_call5_3, e_call5_4, e_call6_0, e_call6_1, e_call6_2, e_call6_3, e_call6_4, xP, xld, xst1, xst2, xis2, xii, xid, xll, xlv, xls, xlc, xil, xli, xrd, xdup, xdup2, xc1, xpu, c_eq, c_ne, c_lt, c_ge, c_gt, c_le, Option.bind_some, Option.map_some, List.length_nil, List.length_cons, Nat.reduceAdd, Nat.reduceLeDiff, Int.reduceToNat, Bool.and_self, Bool.false_eq_true, if_true, if_false, gTR_2, pTR_2]
  have g3 : ∀ (S : Nat → xSt) (t : List xI), xB xcall (den 40) (.inl (.aload 0) :: .inl (.aload 1) :: .inl (.getfield 163) :: .inl (.putfield 163) :: t) [some (.ref (sb i + 13 + k)), some (.ref (sb j + 13 + a))] [] (hp q S P A D K X E Z I J V) = xB xcall (den 40) t [some (.ref (sb i + 13 + k)), some (.ref (sb j + 13 + a))] [] (hp q (vf_upd S i (sR (S i) k 3 ((S j).2.2.2.2.1 a 3))) P A D K X E Z I J V) := by
    intro S t
    simp (maxSteps := 2000000) (disch := omega) only [e_inl, e_goto, e_fall, e_if, e_icmp, e_iret, e_zret, e_lret, e_vret, e_call0_0, e_call0_1, e_call0_2, e_call0_3, e_call0_4, e_call1_0, e_call1_1, e_call1_2, e_call1_3, e_call1_4, e_call2_0, e_call2_1, e_call2_2, e_call2_3, e_call2_4, e_call3_0, e_call3_1, e_call3_2, e_call3_3, e_call3_4, e_call4_0, e_call4_1, e_call4_2, e_call4_3, e_call4_4, e_call5_0, e_call5_1, e_call5_2, e_call5_3, e_call5_4, e_call6_0, e_call6_1, e_call6_2, e_call6_3, e_call6_4, xP, xld, xst1, xst2, xis2, xii, xid, xll, xlv, xls, xlc, xil, xli, xrd, xdup, xdup2, xc1, xpu, c_eq, c_ne, c_lt, c_ge, c_gt, c_le, Option.bind_some, Option.map_some, List.length_nil, List.length_cons, Nat.reduceAdd, Nat.reduceLeDiff, Int.reduceToNat, Bool.and_self, Bool.false_eq_true, if_true, if_false, gTR_3, pTR_3]
  have g4 : ∀ (S : Nat → xSt), xB xcall (den 40) [.inl (.aload 0), .inl (.aload 1), .inl (.getfield 164), .inl (.putfield 164), .inr .return_] [some (.ref (sb i + 13 + k)), some (.ref (sb j + 13 + a))] [] (hp q S P A D K X E Z I J V) = some (none, (hp q (vf_upd S i (sR (S i) k 4 ((S j).2.2.2.2.1 a 4))) P A D K X E Z I J V)) := by
    intro S
    simp (maxSteps := 2000000) (disch := omega) only [e_inl, e_goto, e_fall, e_if, e_icmp, e_iret, e_zret, e_lret, e_vret, e_call0_0, e_call0_1, e_call0_2, e_call0_3, e_call0_4, e_call1_0, e_call1_1, e_call1_2, e_call1_3, e_call1_4, e_call2_0, e_call2_1, e_call2_2, e_call2_3, e_call2_4, e_call3_0, e_call3_1, e_call3_2, e_call3_3, e_call3_4, e_call4_0, e_call4_1, e_call4_2, e_call4_3, e_call4_4, e_call5_0, e_call5_1, e_call5_2, e_call5_3, e_call5_4, e_call6_0, e_call6_1, e_call6_2, e_call6_3, e_call6_4, xP, xld, xst1, xst2, xis2, xii, xid, xll, xlv, xls, xlc, xil, xli, xrd, xdup, xdup2, xc1, xpu, c_eq, c_ne, c_lt, c_ge, c_gt, c_le, Option.bind_some, Option.map_some, List.length_nil, List.length_cons, Nat.reduceAdd, Nat.reduceLeDiff, Int.reduceToNat, Bool.and_self, Bool.false_eq_true, if_true, if_false, gTR_4, pTR_4]
  rw [N40 _ _ _ (oTR _ _ _ _ _ _ _ _ _ _ _ _ i hi k hk), D40_0, g0, g1, g2, g3, g4]
  simp only [vu_s, vu_vu, hrd, vu_id]
end
