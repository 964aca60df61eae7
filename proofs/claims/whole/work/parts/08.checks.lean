/-! ===== every block of every method is what the bytes decode to ===== -/
set_option maxRecDepth 100000 in
theorem xck_c0 : (List.range' 0 12).all xckM = true := by decide +kernel
set_option maxRecDepth 100000 in
theorem xck_c1 : (List.range' 12 12).all xckM = true := by decide +kernel
set_option maxRecDepth 100000 in
theorem xck_c2 : (List.range' 24 12).all xckM = true := by decide +kernel
set_option maxRecDepth 100000 in
theorem xck_c3 : (List.range' 36 12).all xckM = true := by decide +kernel
set_option maxRecDepth 100000 in
theorem xck_c4 : (List.range' 48 12).all xckM = true := by decide +kernel
set_option maxRecDepth 100000 in
theorem xck_c5 : (List.range' 60 12).all xckM = true := by decide +kernel
set_option maxRecDepth 100000 in
theorem xck_c6 : (List.range' 72 12).all xckM = true := by decide +kernel
set_option maxRecDepth 100000 in
theorem xck_c7 : (List.range' 84 12).all xckM = true := by decide +kernel
set_option maxRecDepth 100000 in
theorem xck_c8 : (List.range' 96 12).all xckM = true := by decide +kernel
set_option maxRecDepth 100000 in
theorem xck_c9 : (List.range' 108 12).all xckM = true := by decide +kernel
set_option maxRecDepth 100000 in
theorem xck_c10 : (List.range' 120 12).all xckM = true := by decide +kernel
set_option maxRecDepth 100000 in
theorem xck_c11 : (List.range' 132 12).all xckM = true := by decide +kernel
set_option maxRecDepth 100000 in
theorem xck_c12 : (List.range' 144 12).all xckM = true := by decide +kernel
set_option maxRecDepth 100000 in
theorem xck_c13 : (List.range' 156 12).all xckM = true := by decide +kernel
set_option maxRecDepth 100000 in
theorem xck_c14 : (List.range' 168 12).all xckM = true := by decide +kernel
set_option maxRecDepth 100000 in
theorem xck_c15 : (List.range' 180 8).all xckM = true := by decide +kernel
set_option maxRecDepth 100000 in
theorem xck_c16 : (List.range' 188 1).all xckM = true := by decide +kernel
theorem xck_all (i : Nat) : xckM i = true := by
  by_cases h0 : i < 12
  · exact List.all_eq_true.mp xck_c0 i (List.mem_range'_1.mpr ⟨by omega, by omega⟩)
  by_cases h1 : i < 24
  · exact List.all_eq_true.mp xck_c1 i (List.mem_range'_1.mpr ⟨by omega, by omega⟩)
  by_cases h2 : i < 36
  · exact List.all_eq_true.mp xck_c2 i (List.mem_range'_1.mpr ⟨by omega, by omega⟩)
  by_cases h3 : i < 48
  · exact List.all_eq_true.mp xck_c3 i (List.mem_range'_1.mpr ⟨by omega, by omega⟩)
  by_cases h4 : i < 60
  · exact List.all_eq_true.mp xck_c4 i (List.mem_range'_1.mpr ⟨by omega, by omega⟩)
  by_cases h5 : i < 72
  · exact List.all_eq_true.mp xck_c5 i (List.mem_range'_1.mpr ⟨by omega, by omega⟩)
  by_cases h6 : i < 84
  · exact List.all_eq_true.mp xck_c6 i (List.mem_range'_1.mpr ⟨by omega, by omega⟩)
  by_cases h7 : i < 96
  · exact List.all_eq_true.mp xck_c7 i (List.mem_range'_1.mpr ⟨by omega, by omega⟩)
  by_cases h8 : i < 108
  · exact List.all_eq_true.mp xck_c8 i (List.mem_range'_1.mpr ⟨by omega, by omega⟩)
  by_cases h9 : i < 120
  · exact List.all_eq_true.mp xck_c9 i (List.mem_range'_1.mpr ⟨by omega, by omega⟩)
  by_cases h10 : i < 132
  · exact List.all_eq_true.mp xck_c10 i (List.mem_range'_1.mpr ⟨by omega, by omega⟩)
  by_cases h11 : i < 144
  · exact List.all_eq_true.mp xck_c11 i (List.mem_range'_1.mpr ⟨by omega, by omega⟩)
  by_cases h12 : i < 156
  · exact List.all_eq_true.mp xck_c12 i (List.mem_range'_1.mpr ⟨by omega, by omega⟩)
  by_cases h13 : i < 168
  · exact List.all_eq_true.mp xck_c13 i (List.mem_range'_1.mpr ⟨by omega, by omega⟩)
  by_cases h14 : i < 180
  · exact List.all_eq_true.mp xck_c14 i (List.mem_range'_1.mpr ⟨by omega, by omega⟩)
  by_cases h15 : i < 188
  · exact List.all_eq_true.mp xck_c15 i (List.mem_range'_1.mpr ⟨by omega, by omega⟩)
  by_cases h16 : i < 189
  · exact List.all_eq_true.mp xck_c16 i (List.mem_range'_1.mpr ⟨by omega, by omega⟩)
  have hl : xtab.length = 189 := rfl
  have e : xtab.getD i [] = [] := by rw [List.getD_eq_getElem?_getD, List.getElem?_eq_none (by omega)]; rfl
  rw [xckM, e]
  rfl
theorem xblk_ok {i pc : Nat} {b : List xI} (h : xblk i pc = some b) : xckB i pc b = true := by
  have h2 := xck_all i
  unfold xckM at h2
  unfold xblk at h
  have key : ∀ (l : List (Nat × List xI)), l.lookup pc = some b → (pc, b) ∈ l := by
    intro l
    induction l with
    | nil => intro h; simp at h
    | cons q l ih =>
      intro h
      obtain ⟨a, c⟩ := q
      rw [List.lookup_cons] at h
      split at h
      · next e =>
        have e' : pc = a := eq_of_beq e
        cases h
        subst e'
        exact List.mem_cons_self
      · exact List.mem_cons_of_mem _ (ih h)
  exact List.all_eq_true.mp h2 _ (key _ h)
