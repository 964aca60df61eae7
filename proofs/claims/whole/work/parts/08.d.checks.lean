/-! ===== the law's blocks ===== -/
set_option maxRecDepth 100000 in
theorem xck_l0 : ((xm188.drop 0).take 6).all (fun q => xckB 188 q.1 q.2) = true := by decide +kernel
set_option maxRecDepth 100000 in
theorem xck_l1 : ((xm188.drop 6).take 6).all (fun q => xckB 188 q.1 q.2) = true := by decide +kernel
set_option maxRecDepth 100000 in
theorem xck_l2 : ((xm188.drop 12).take 6).all (fun q => xckB 188 q.1 q.2) = true := by decide +kernel
set_option maxRecDepth 100000 in
theorem xck_l3 : ((xm188.drop 18).take 6).all (fun q => xckB 188 q.1 q.2) = true := by decide +kernel
set_option maxRecDepth 100000 in
theorem xck_l4 : ((xm188.drop 24).take 4).all (fun q => xckB 188 q.1 q.2) = true := by decide +kernel
set_option maxRecDepth 100000 in
theorem xck_law : xckM 188 = true := by
  have e : xtab.getD 188 [] = (((((xm188.drop 0).take 6 ++ (xm188.drop 6).take 6) ++ (xm188.drop 12).take 6) ++ (xm188.drop 18).take 6) ++ (xm188.drop 24).take 4) := rfl
  rw [xckM, e]
  simp only [List.all_append, Bool.and_eq_true]
  exact ⟨⟨⟨⟨xck_l0, xck_l1⟩, xck_l2⟩, xck_l3⟩, xck_l4⟩
theorem xck_all (i : Nat) : xckM i = true := by
  by_cases h0 : i < 8
  · exact List.all_eq_true.mp xck_c0 i (List.mem_range'_1.mpr ⟨by omega, by omega⟩)
  by_cases h1 : i < 16
  · exact List.all_eq_true.mp xck_c1 i (List.mem_range'_1.mpr ⟨by omega, by omega⟩)
  by_cases h2 : i < 24
  · exact List.all_eq_true.mp xck_c2 i (List.mem_range'_1.mpr ⟨by omega, by omega⟩)
  by_cases h3 : i < 32
  · exact List.all_eq_true.mp xck_c3 i (List.mem_range'_1.mpr ⟨by omega, by omega⟩)
  by_cases h4 : i < 40
  · exact List.all_eq_true.mp xck_c4 i (List.mem_range'_1.mpr ⟨by omega, by omega⟩)
  by_cases h5 : i < 48
  · exact List.all_eq_true.mp xck_c5 i (List.mem_range'_1.mpr ⟨by omega, by omega⟩)
  by_cases h6 : i < 56
  · exact List.all_eq_true.mp xck_c6 i (List.mem_range'_1.mpr ⟨by omega, by omega⟩)
  by_cases h7 : i < 64
  · exact List.all_eq_true.mp xck_c7 i (List.mem_range'_1.mpr ⟨by omega, by omega⟩)
  by_cases h8 : i < 72
  · exact List.all_eq_true.mp xck_c8 i (List.mem_range'_1.mpr ⟨by omega, by omega⟩)
  by_cases h9 : i < 80
  · exact List.all_eq_true.mp xck_c9 i (List.mem_range'_1.mpr ⟨by omega, by omega⟩)
  by_cases h10 : i < 88
  · exact List.all_eq_true.mp xck_c10 i (List.mem_range'_1.mpr ⟨by omega, by omega⟩)
  by_cases h11 : i < 96
  · exact List.all_eq_true.mp xck_c11 i (List.mem_range'_1.mpr ⟨by omega, by omega⟩)
  by_cases h12 : i < 104
  · exact List.all_eq_true.mp xck_c12 i (List.mem_range'_1.mpr ⟨by omega, by omega⟩)
  by_cases h13 : i < 112
  · exact List.all_eq_true.mp xck_c13 i (List.mem_range'_1.mpr ⟨by omega, by omega⟩)
  by_cases h14 : i < 120
  · exact List.all_eq_true.mp xck_c14 i (List.mem_range'_1.mpr ⟨by omega, by omega⟩)
  by_cases h15 : i < 128
  · exact List.all_eq_true.mp xck_c15 i (List.mem_range'_1.mpr ⟨by omega, by omega⟩)
  by_cases h16 : i < 136
  · exact List.all_eq_true.mp xck_c16 i (List.mem_range'_1.mpr ⟨by omega, by omega⟩)
  by_cases h17 : i < 144
  · exact List.all_eq_true.mp xck_c17 i (List.mem_range'_1.mpr ⟨by omega, by omega⟩)
  by_cases h18 : i < 152
  · exact List.all_eq_true.mp xck_c18 i (List.mem_range'_1.mpr ⟨by omega, by omega⟩)
  by_cases h19 : i < 160
  · exact List.all_eq_true.mp xck_c19 i (List.mem_range'_1.mpr ⟨by omega, by omega⟩)
  by_cases h20 : i < 168
  · exact List.all_eq_true.mp xck_c20 i (List.mem_range'_1.mpr ⟨by omega, by omega⟩)
  by_cases h21 : i < 176
  · exact List.all_eq_true.mp xck_c21 i (List.mem_range'_1.mpr ⟨by omega, by omega⟩)
  by_cases h22 : i < 184
  · exact List.all_eq_true.mp xck_c22 i (List.mem_range'_1.mpr ⟨by omega, by omega⟩)
  by_cases h23 : i < 188
  · exact List.all_eq_true.mp xck_c23 i (List.mem_range'_1.mpr ⟨by omega, by omega⟩)
  by_cases hL : i = 188
  · rw [hL]; exact xck_law
  have hl : xtab.length = 189 := rfl
  have e : xtab.getD i [] = [] := by rw [List.getD_eq_getElem?_getD, List.getElem?_eq_none (by omega)]; rfl
  rw [xckM, e]
  rfl
theorem xblk_ok {i pc : Nat} {b : List xI} (h : xblk i pc = some b) : xckB i pc b = true := by
  have h2 := xck_all i
  unfold xckM at h2
  unfold xblk at h
  have key : ∀ (l : List (Nat × List xI)), l.lookup pc = some b → (pc, b) ∈ l := by
    intro l
    induction l with
    | nil => intro h; simp at h
    | cons q l ih =>
      intro h
      obtain ⟨a, c⟩ := q
      rw [List.lookup_cons] at h
      split at h
      · next e =>
        have e' : pc = a := eq_of_beq e
        cases h
        subst e'
        exact List.mem_cons_self
      · exact List.mem_cons_of_mem _ (ih h)
  exact List.all_eq_true.mp h2 _ (key _ h)
