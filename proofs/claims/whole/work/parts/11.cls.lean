/-! ===== classes: their fields' words, types, kinds ===== -/
def xLW : List (List Nat) := [[284, 286], [130, 132, 134, 136, 138], [263, 265, 267, 269, 271], [229, 231], [250], [165, 167, 169, 171, 173], [198, 200, 202, 204, 206, 208, 210, 212, 214], [306, 308, 310, 312, 314], [325, 327, 329, 331, 333, 335, 337, 339], [803, 805, 807, 809, 811, 813, 815, 817, 819, 821, 823, 825, 827, 829, 831, 833, 835, 837, 839, 841, 843, 845]]
def xtyf (c : Nat) : Nat → FieldType := match c with
  | 0 => tyX0
  | 1 => tyX1
  | 2 => tyX2
  | 3 => tyX3
  | 4 => tyX4
  | 5 => tyX5
  | 6 => tyX6
  | 7 => tyX7
  | 8 => tyX8
  | _ => tyX9
def xkok (k : Nat) (t : FieldType) : Bool := match k, t with
  | 0, .int => true
  | 1, .long => true
  | 2, .boolean => true
  | 3, .object _ => true
  | 3, .array _ => true
  | _, _ => false
theorem xkok_fit {ι : Nat → Nat} {k : Nat} {t : FieldType} {v : Value} (h : xkok k t = true) (hv : xfit k v = true) : narrow t (xv ι v) = xv ι v ∧ fits t (xv ι v) = true := by
  unfold xkok at h
  unfold xfit at hv
  split at h <;> split at hv <;> simp_all [xv, narrow, fits]
  rename_i z _
  rcases hv with rfl | rfl <;> decide
theorem xkok_def {k : Nat} {t : FieldType} (h : xkok k t = true) : defaultValue t = xdef k := by
  unfold xkok at h
  split at h <;> first | rfl | cases h
set_option maxRecDepth 100000 in
theorem xLW_ok : (List.range 10).all (fun c => (List.range (xcl c).2.2).all (fun k => xat ((xLW.getD c []).getD k 0) (u_lay (xcl c).1 (xcl c).2.1 k))) = true := by decide +kernel
set_option maxRecDepth 100000 in
theorem xcl_ok : (List.range 10).all (fun c => (List.range (xcl c).2.2).all (fun k => decide (parseFieldDescriptor ((xcl c).2.1 k).2.2.1 = some (xtyf c k)) && (xkok (xkd c k) (xtyf c k) && (List.range (xcl c).2.2).all (fun j => decide (j = k) || decide (((xcl c).2.1 j).2.1 ≠ ((xcl c).2.1 k).2.1)))) && decide ((xkinds.getD c []).length = (xcl c).2.2)) = true := by decide +kernel
theorem xcl_get {c : Nat} (h : c < 10) : vwCl[c]? = some ((xcl c).1, (xcl c).2.1, (xcl c).2.2) := by
  have hl : vwCl.length = 10 := rfl
  show _ = some (xcl c)
  unfold xcl
  rw [List.getD_eq_getElem?_getD, List.getElem?_eq_getElem (by omega)]
  rfl
theorem xcl_words {c : Nat} (h : c < 10) : ∀ w ∈ u_ws (xcl c).1 (xcl c).2.1 (xcl c).2.2, w ∈ xT := by
  intro w hw
  obtain ⟨k, hk, rfl⟩ := List.mem_map.mp hw
  have h1 := List.all_eq_true.mp xLW_ok c (List.mem_range.mpr h)
  exact xat_in (List.all_eq_true.mp h1 k hk)
theorem xcl_facts {c : Nat} (h : c < 10) : (∀ k, k < (xcl c).2.2 → parseFieldDescriptor ((xcl c).2.1 k).2.2.1 = some (xtyf c k)) ∧ (∀ k, k < (xcl c).2.2 → xkok (xkd c k) (xtyf c k) = true) ∧ (∀ a, a < (xcl c).2.2 → ∀ b, b < (xcl c).2.2 → a ≠ b → ((xcl c).2.1 a).2.1 ≠ ((xcl c).2.1 b).2.1) ∧ (xkinds.getD c []).length = (xcl c).2.2 := by
  have h1 := List.all_eq_true.mp xcl_ok c (List.mem_range.mpr h)
  rw [Bool.and_eq_true, decide_eq_true_eq] at h1
  obtain ⟨h1, h2⟩ := h1
  have h3 := List.all_eq_true.mp h1
  refine ⟨fun k hk => ?_, fun k hk => ?_, fun a ha b hb hab => ?_, h2⟩
  · have := h3 k (List.mem_range.mpr hk)
    simp only [Bool.and_eq_true, decide_eq_true_eq] at this
    exact this.1
  · have := h3 k (List.mem_range.mpr hk)
    simp only [Bool.and_eq_true, decide_eq_true_eq] at this
    exact this.2.1
  · have := h3 b (List.mem_range.mpr hb)
    simp only [Bool.and_eq_true, decide_eq_true_eq] at this
    have := List.all_eq_true.mp this.2.2 a (List.mem_range.mpr ha)
    simp only [Bool.or_eq_true, decide_eq_true_eq] at this
    exact this.resolve_left hab
theorem xcl_inst {c : Nat} (h : c < 10) : Jvm.Cond.initialized (xcl c).1 ∈ xT ∧ Jvm.Cond.instantiable (xcl c).1 (xcl c).2.2 ∈ xT := by
  have h1 := List.all_eq_true.mp xCW_ok c (List.mem_range.mpr (by omega))
  simp only [Bool.and_eq_true, Bool.or_eq_true, decide_eq_true_eq] at h1
  have h2 := h1.2.resolve_left (by omega)
  rw [h2.2] at h1 h2
  exact ⟨xat_in h1.1, xat_in h2.1⟩
theorem xFL_in {o k n : Nat} (h : xhasF o k n = true) : Jvm.Cond.fieldLink (xcn o) k (xfd n).1 (xfd n).2.1 (xfd n).2.2.1 ∈ xT ∧ n / 32 < 10 ∧ n % 32 < (xcl (n / 32)).2.2 := by
  obtain ⟨q, hq, h2⟩ := List.any_eq_true.mp h
  simp only [Bool.and_eq_true, beq_iff_eq] at h2
  obtain ⟨rfl, rfl, rfl⟩ := h2
  have h3 := List.all_eq_true.mp xFL_lt q hq
  simp only [Bool.and_eq_true, decide_eq_true_eq] at h3
  exact ⟨xat_in (List.all_eq_true.mp xFL_ok q hq), h3⟩
theorem xCL_in {o k c : Nat} (h : xhasC o k c = true) : Jvm.Cond.classLink (xcn o) k (xcl c).1 ∈ xT := by
  obtain ⟨q, hq, h2⟩ := List.any_eq_true.mp h
  simp only [Bool.and_eq_true, beq_iff_eq] at h2
  obtain ⟨rfl, rfl, rfl⟩ := h2
  exact xat_in (List.all_eq_true.mp xCL_ok q hq)
theorem xKI_in {o k : Nat} {v : Int} (h : xhasI o k v = true) : Jvm.Cond.constant (xcn o) k (Int32.ofInt v) ∈ xT := by
  obtain ⟨q, hq, h2⟩ := List.any_eq_true.mp h
  simp only [Bool.and_eq_true, beq_iff_eq] at h2
  obtain ⟨rfl, rfl, rfl⟩ := h2
  exact xat_in (List.all_eq_true.mp xKI_ok q hq)
theorem xKJ_in {o k : Nat} {v : Int} (h : xhasJ o k v = true) : Jvm.Cond.constantLong (xcn o) k (Int64.ofInt v) ∈ xT := by
  obtain ⟨q, hq, h2⟩ := List.any_eq_true.mp h
  simp only [Bool.and_eq_true, beq_iff_eq] at h2
  obtain ⟨rfl, rfl, rfl⟩ := h2
  exact xat_in (List.all_eq_true.mp xKJ_ok q hq)
theorem xi_ge {bs bS bM a : Nat} (h : 2 ≤ a) : xi bs bS bM a = bs + (a - 2) := by
  match a, h with
  | a + 2, _ => rfl
theorem xG.K {bs bS bM Ls : Nat} {xs : Nat → Int32} {cA : Nat → ClassId} {Dg : va_G} {U : State} {H : Heap} (h : xG bs bS bM Ls xs cA Dg U H) (t : Nat) (ht : xkt t = true) : va_K Dg vwCl [(cA t, xty t)] U := by
  refine ⟨h.1.1, fun k q hq => ?_⟩
  cases k with
  | zero => cases hq; exact h.2.1 t ht
  | succ k => simp at hq
theorem xRel.obj {bs bS bM Ls : Nat} {xs : Nat → Int32} {cA : Nat → ClassId} {Dg : va_G} {h : xH} {H : Heap} (r : xRel bs bS bM Ls xs cA Dg h H) {a : Nat} {q : Nat × List Value} (ha : h[a]? = some (.inr q)) : 2 ≤ a := by
  match a, ha with
  | 0, ha => rw [r.2.1] at ha; cases ha
  | 1, ha => rw [r.2.2] at ha; cases ha
  | a + 2, _ => omega
/-- a cell written -/
theorem xOn.set {bs bS bM Ls : Nat} {xs : Nat → Int32} {cA : Nat → ClassId} {Dg : va_G} {i : Nat} {h0 : xH} {s : State} {L : xL} {h : xH} {ls : Array Slot} {H H1 : Heap} {locs locs1 : List Loc} {cells slots a : Nat} {c0 c : xC} {e : va_E}
    (o : xOn bs bS bM Ls xs cA Dg i h0 s L h ls H locs cells slots) (ha : 2 ≤ a) (hc : h[a]? = some c0) (hs : xsl c = xsl c0) (he : e = xce (xi bs bS bM) cA c) (hP : va_P Dg vwCl ((xw bs (xi bs bS bM) cA h).set (a - 2) (bs + (a - 2), e)) H1) (hS : va_S (fun q => bs ≤ q) s.heap H1 locs1) :
    xOn bs bS bM Ls xs cA Dg i h0 s L (h.set a c) ls H1 locs1 cells slots := by
  obtain ⟨⟨p1, p2, p3⟩, q1, q2, q3, q4⟩ := o
  subst he
  rw [xw_set ha] at hP
  refine ⟨⟨hP, ?_, ?_⟩, hS, q2, by rw [List.length_set]; exact q3, by rw [xslo_set hc hs]; exact q4⟩
  · rw [List.getElem?_set_ne (by omega)]; exact p2
  · rw [List.getElem?_set_ne (by omega)]; exact p3
theorem xW_size {p : Program} {l : Launch} {e : Env} {R : Room} {s : State} {m : MethodId} {args : Array Value} {below : List Frame} {meth : Method} {c : Code} {H : Heap} {locs : List Loc} {cells slots : Nat} {Q : State → Prop} {g : JFrame} (k : H.size ≤ s.heap.size + cells → W p l e R s m args below meth c H locs cells slots Q g) : W p l e R s m args below meth c H locs cells slots Q g := by
  intro T hT X
  have hz := X.heapSize
  rw [hT] at hz
  exact k hz T hT X
theorem xnew_at {bs : Nat} {ι : Nat → Nat} {cA : Nat → ClassId} {Dg : va_G} {h : xH} {H1 : Heap} {q : Nat} {e : va_E} (hP : va_P Dg vwCl (xw bs ι cA h ++ [(q, e)]) H1) (hD : va_D (fun q => bs ≤ q) (xw bs ι cA h ++ [(q, e)])) (hz : H1.size ≤ bs + (h.length - 2) + 1) : q = bs + (h.length - 2) := by
  have hlast : (xw bs ι cA h ++ [(q, e)])[h.length - 2]? = some (q, e) := by
    rw [List.getElem?_append_right (by rw [xw_len]; omega), xw_len, Nat.sub_self]
    rfl
  have h1 : q < H1.size := (hP _ _ hlast).lt
  have h2 : bs ≤ q := hD.2 _ _ hlast
  by_cases hq : q = bs + (h.length - 2)
  · exact hq
  · exfalso
    have hj : q - bs < (xw bs ι cA h).length := by rw [xw_len]; omega
    have hj2 : q - bs < (h.drop 2).length := by rw [List.length_drop]; rw [xw_len] at hj; exact hj
    have h3 : (xw bs ι cA h ++ [(q, e)])[q - bs]? = some (bs + (q - bs), xce ι cA ((h.drop 2)[q - bs])) := by
      rw [List.getElem?_append_left hj]
      unfold xw
      rw [List.getElem?_mapIdx, List.getElem?_eq_getElem hj2]
      rfl
    have := hD.1 _ _ _ _ h3 hlast (by show bs + (q - bs) = q; omega)
    rw [xw_len] at hj
    omega
/-- a cell made -/
theorem xOn.push {bs bS bM Ls : Nat} {xs : Nat → Int32} {cA : Nat → ClassId} {Dg : va_G} {i : Nat} {h0 : xH} {s : State} {L : xL} {h : xH} {ls : Array Slot} {H H1 : Heap} {locs locs1 : List Loc} {cells slots n : Nat} {c : xC} {e : va_E}
    (o : xOn bs bS bM Ls xs cA Dg i h0 s L h ls H locs cells slots) (hn : xsl c = n) (he : e = xce (xi bs bS bM) cA c) (hP : va_P Dg vwCl (xw bs (xi bs bS bM) cA h ++ [(bs + (h.length - 2), e)]) H1) (hS : va_S (fun q => bs ≤ q) s.heap H1 locs1) :
    xOn bs bS bM Ls xs cA Dg i h0 s L (h ++ [c]) ls H1 locs1 (cells + 1) (slots + n) := by
  have h2 := o.1.two
  obtain ⟨⟨p1, p2, p3⟩, q1, q2, q3, q4⟩ := o
  subst he
  rw [← xw_push h2] at hP
  refine ⟨⟨hP, ?_, ?_⟩, hS, q2, by rw [List.length_append]; show cells + 1 + h0.length = h.length + 1; omega, by rw [xslo_push, hn]; omega⟩
  · rw [List.getElem?_append_left (by omega)]; exact p2
  · rw [List.getElem?_append_left (by omega)]; exact p3
