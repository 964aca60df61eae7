/-! ===== the reference lays the lawful rows ===== -/
def kb (σ : mS) (x : Nat) : Nat := bset (fun k => mkp σ k x) (mK σ)
theorem kb_lt {σ : mS} (hw : wf σ) (x : Nat) : kb σ x < 256 := Nat.lt_of_lt_of_le (bset_lt _ _) (Nat.pow_le_pow_right (by decide) hw.2.2.2.2.2.2.1)
def inRb (σ : mS) (x : Nat) : Bool := (List.range 4).all (fun f => decide (mF σ f 0 ≤ vl x f) && decide (vl x f ≤ mF σ f 1))
theorem inRb_iff (σ : mS) (x : Nat) : inRb σ x = true ↔ inR σ x := by
  unfold inRb inR
  rw [List.all_eq_true]
  constructor
  · intro h f hf
    have := h f (List.mem_range.mpr hf)
    simpa using this
  · intro h f hf
    have := h f (List.mem_range.mp hf)
    simpa using this
/-- which sets of rules rows in the ranges, below n, keep -/
def tmS (σ : mS) (n s : Nat) : Bool := exB (fun x => inRb σ x && decide (kb σ x = s)) n
theorem tmS_succ (σ : mS) (n s : Nat) : tmS σ (n + 1) s = (tmS σ n s || (inRb σ n && decide (kb σ n = s))) := rfl
/-- the array of them -/
def smA (σ : mS) (b : Nat → Int32) (n : Nat) : Nat → Int32 := fun s => if s < 256 then zB (tmS σ n s) else b s
/-- some row in the ranges keeps all of r -/
def smR (σ : mS) (r : Nat) : Bool := exB (fun x => inRb σ x && decide (r ^^^ (r &&& kb σ x) = 0)) 4096
theorem smR_tr {σ : mS} (hw : wf σ) (r : Nat) : trS (tmS σ 4096) r = smR σ r := by
  unfold trS smR tmS
  rw [Bool.eq_iff_iff, exB_iff, exB_iff]
  constructor
  · rintro ⟨s, hs, h⟩
    rw [Bool.and_eq_true, exB_iff] at h
    obtain ⟨⟨x, hx, h1⟩, h2⟩ := h
    rw [Bool.and_eq_true, decide_eq_true_eq] at h1
    exact ⟨x, hx, by rw [Bool.and_eq_true, h1.2]; exact ⟨h1.1, h2⟩⟩
  · rintro ⟨x, hx, h⟩
    rw [Bool.and_eq_true] at h
    exact ⟨kb σ x, kb_lt hw x, by rw [Bool.and_eq_true, exB_iff]; exact ⟨⟨x, hx, by simp [h.1]⟩, h.2⟩⟩
theorem smA_yes {σ : mS} {b : Nat → Int32} {n : Nat} (hw : wf σ) (h : inR σ n) : upd (smA σ b n) (kb σ n) (nI 1) = smA σ b (n + 1) := by
  funext s
  unfold upd smA
  have hi := (inRb_iff σ n).mpr h
  by_cases e : s = kb σ n
  · subst e
    rw [if_pos rfl, if_pos (kb_lt hw n), tmS_succ, hi]
    simp [zB]
  · rw [if_neg e]
    split
    · rw [tmS_succ, decide_eq_false (fun q => e q.symm)]
      simp
    · rfl
theorem smA_no {σ : mS} {b : Nat → Int32} {n : Nat} (h : ¬ inR σ n) : smA σ b (n + 1) = smA σ b n := by
  funext s
  unfold smA
  have hi : inRb σ n = false := by
    cases e : inRb σ n
    · rfl
    · exact absurd ((inRb_iff σ n).mp e) h
  rw [tmS_succ, hi]
  simp
/-- rules that must be kept: the hard ones and the soft ones that can be -/
def kpR (σ : mS) : Nat := kfT (smR σ) (hdR σ) (sfL σ 10)
def lawB (σ : mS) (x : Nat) : Bool := inRb σ x && decide (kpR σ ^^^ (kpR σ &&& kb σ x) = 0)
/-- the lawful rows below n -/
def lwL (σ : mS) (n : Nat) : List Nat := (List.range n).filter (lawB σ)
theorem lwL_succ (σ : mS) (n : Nat) : lwL σ (n + 1) = if lawB σ n = true then lwL σ n ++ [n] else lwL σ n := by
  unfold lwL
  rw [List.range_succ, List.filter_append]
  cases h : lawB σ n <;> simp [h]
theorem lwL_len (σ : mS) (n : Nat) : (lwL σ n).length ≤ n := by
  unfold lwL
  rw [ct_filter]
  exact fb_ct_le _ _
theorem kpR_lt {σ : mS} (hw : wf σ) : kpR σ < 256 := kfT_lt _ (hdR_lt hw) (fun k hk => by have := sfL_mem hk; have := hw.2.2.2.2.2.2.1; omega)
theorem kfT_cong {s1 s2 : Nat → Bool} (h : ∀ r, s1 r = s2 r) (r : Nat) (l : List Nat) : kfT s1 r l = kfT s2 r l := by
  have : s1 = s2 := funext h
  rw [this]
