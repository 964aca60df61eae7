/-! ===== what the abstract state says of the machine's ===== -/
def xi (bs bS bM : Nat) : Nat → Nat
  | 0 => bS
  | 1 => bM
  | k + 2 => bs + k
def xv (ι : Nat → Nat) : Value → Value
  | .ref k => .ref (ι k)
  | v => v
def xar (ι : Nat → Nat) (a : vp_A) : vp_A := match a with
  | (n, .inl f) => (n, .inl f)
  | (n, .inr (.inl f)) => (n, .inr (.inl f))
  | (n, .inr (.inr (.inl f))) => (n, .inr (.inr (.inl f)))
  | (n, .inr (.inr (.inr (.inl f)))) => (n, .inr (.inr (.inr (.inl f))))
  | (n, .inr (.inr (.inr (.inr f)))) => (n, .inr (.inr (.inr (.inr (fun j => (f j).map ι)))))
def xce (ι : Nat → Nat) (cA : Nat → ClassId) (c : xC) : va_E := match c with
  | .inl (t, a) => .inl (cA t, xar ι a)
  | .inr (k, fs) => .inr (k, fs.map (xv ι))
def xw (bs : Nat) (ι : Nat → Nat) (cA : Nat → ClassId) (h : xH) : va_W := (h.drop 2).mapIdx (fun k c => (bs + k, xce ι cA c))
theorem xw_get {bs : Nat} {ι : Nat → Nat} {cA : Nat → ClassId} {h : xH} {a : Nat} {c : xC} (ha : 2 ≤ a) (hc : h[a]? = some c) : (xw bs ι cA h)[a - 2]? = some (bs + (a - 2), xce ι cA c) := by
  unfold xw
  rw [List.getElem?_mapIdx, List.getElem?_drop, show 2 + (a - 2) = a by omega, hc]
  rfl
theorem xw_set {bs : Nat} {ι : Nat → Nat} {cA : Nat → ClassId} {h : xH} {a : Nat} {c : xC} (ha : 2 ≤ a) : (xw bs ι cA h).set (a - 2) (bs + (a - 2), xce ι cA c) = xw bs ι cA (h.set a c) := by
  unfold xw
  apply List.ext_getElem?
  intro k
  rw [List.getElem?_set, List.getElem?_mapIdx, List.getElem?_mapIdx, List.getElem?_drop, List.getElem?_drop, List.getElem?_set, List.length_mapIdx, List.length_drop]
  by_cases e : a - 2 = k
  · subst e
    rw [if_pos rfl, if_pos (show a = 2 + (a - 2) by omega)]
    by_cases l : a < h.length
    · rw [if_pos (by omega), if_pos (by omega)]
      rfl
    · rw [if_neg (by omega), if_neg (by omega)]
      rfl
  · rw [if_neg e, if_neg (by omega)]
theorem xw_push {bs : Nat} {ι : Nat → Nat} {cA : Nat → ClassId} {h : xH} {c : xC} (h2 : 2 ≤ h.length) : xw bs ι cA (h ++ [c]) = xw bs ι cA h ++ [(bs + (h.length - 2), xce ι cA c)] := by
  unfold xw
  rw [List.drop_append_of_le_length h2, List.mapIdx_concat, List.length_drop]
theorem xw_len {bs : Nat} {ι : Nat → Nat} {cA : Nat → ClassId} {h : xH} : (xw bs ι cA h).length = h.length - 2 := by
  simp [xw]
theorem xw_D {bs : Nat} {ι : Nat → Nat} {cA : Nat → ClassId} {h : xH} : va_D (fun q => bs ≤ q) (xw bs ι cA h) := by
  unfold xw
  refine ⟨fun i j p q hi hj e => ?_, fun k q hk => ?_⟩
  · rw [List.getElem?_mapIdx] at hi hj
    obtain ⟨x, -, rfl⟩ := Option.map_eq_some_iff.mp hi
    obtain ⟨y, -, rfl⟩ := Option.map_eq_some_iff.mp hj
    simp only at e
    omega
  · rw [List.getElem?_mapIdx] at hk
    obtain ⟨x, -, rfl⟩ := Option.map_eq_some_iff.mp hk
    exact Nat.le_add_right _ _
/-- the tags of arrays that are there -/
def xkt (t : Nat) : Bool := t == 0 || (t == 1 || (t == 2 || xra t))
def xKT (cA : Nat → ClassId) (U : State) (t : Nat) : Prop := ArrOfT U (cA t) (xty t) ∧ va_RA U (cA t) (xty t)
def xNW : List Jvm.Cond := lw_tbl.filter (fun w => match w with
  | .methodLinkNest _ _ _ _ => true
  | .fieldLinkNest _ _ _ _ _ _ => true
  | _ => false)
def xmost6 : Nat → Int32 := fun k => match k with
  | 0 => 14
  | 3 => 255
  | 4 => 63
  | 5 => 7
  | _ => 0
/-- what stands at a state of the machine beside the world: classes, array classes, words of the nest, the static array, the script -/
def xG (bs bS bM Ls : Nat) (xs : Nat → Int32) (cA : Nat → ClassId) (Dg : va_G) (U : State) (H : Heap) : Prop :=
  va_K Dg vwCl [] U ∧ (∀ t, xkt t = true → xKT cA U t) ∧ (∀ w ∈ xNW, va_Nw w U) ∧ (∀ t, xra t = true → va_AO (xcl (t - 10)).1 U) ∧
  va_Z "DrawnFields" "MOST_C" "[I" (.ref bM) (fun q => bs ≤ q) U H ∧ va_T .int bM 6 (fun j => .int (xmost6 j)) (fun q => bs ≤ q) U H ∧ va_X bS Ls xs U H ∧ bS < bs ∧ bs ≤ H.size
theorem xG.warm {bs bS bM Ls : Nat} {xs : Nat → Int32} {cA : Nat → ClassId} {Dg : va_G} {s U : State} {H H1 : Heap} (h : xG bs bS bM Ls xs cA Dg s H) (hW : s.WarmedH U.vm) (hs : H.size ≤ H1.size) (hq : ∀ q : Nat, q < H.size → ¬ bs ≤ q → H1[q]? = H[q]?) : xG bs bS bM Ls xs cA Dg U H1 := by
  obtain ⟨h1, h2, h3, h3a, h4, h5, h6, h7, h8⟩ := h
  refine ⟨va_K.moved hW.alike h1, fun t ht => ⟨arrOfT_moved hW.alike (h2 t ht).1, (h2 t ht).2.moved hW.alike⟩, fun w hw => ?_, fun t ht => (h3a t ht).moved hW.alike, (va_Z.moved hW.alike h4).kept hq, (va_T.moved hW.alike h5).kept hq, (va_X.moved hW.alike h6).kept (hq _ (by omega) (by omega)), h7, by omega⟩
  have hk := (List.mem_filter.mp hw).2
  have h9 := h3 w hw
  cases w with
  | methodLinkNest a b c d => exact va_Nw.warmM hW h9
  | fieldLinkNest a b c d e f => exact va_Nw.warmF hW h9
  | _ => simp at hk
theorem xG.calling {bs bS bM Ls : Nat} {xs : Nat → Int32} {cA : Nat → ClassId} {Dg : va_G} {U : State} {H : Heap} (h : xG bs bS bM Ls xs cA Dg U H) (g : JFrame) (mk : MethodId) (a : Array Value) : xG bs bS bM Ls xs cA Dg (U.calling g mk a) H := by
  obtain ⟨h1, h2, h3, h3a, h4, h5, h6, h7, h8⟩ := h
  have hal : U.vm.Alike (U.calling g mk a).vm := Vm.Alike.refl U.vm
  refine ⟨va_K.moved hal h1, fun t ht => ⟨arrOfT_moved hal (h2 t ht).1, (h2 t ht).2.moved hal⟩, fun w hw => ?_, fun t ht => (h3a t ht).moved hal, va_Z.moved hal h4, va_T.moved hal h5, va_X.moved hal h6, h7, h8⟩
  have hk := (List.mem_filter.mp hw).2
  refine va_Nw.same ?_ (U := U.calling g mk a) (u := U) rfl (h3 w hw)
  cases w with
  | methodLinkNest a b c d => rfl
  | fieldLinkNest a b c d e f => rfl
  | _ => simp at hk
/-- the heap holds the abstract one -/
def xRel (bs bS bM Ls : Nat) (xs : Nat → Int32) (cA : Nat → ClassId) (Dg : va_G) (h : xH) (H : Heap) : Prop :=
  va_P Dg vwCl (xw bs (xi bs bS bM) cA h) H ∧ h[0]? = some (.inl (0, Ls, .inl xs)) ∧ h[1]? = some (.inl (0, 6, .inl xmost6))
theorem xRel.two {bs bS bM Ls : Nat} {xs : Nat → Int32} {cA : Nat → ClassId} {Dg : va_G} {h : xH} {H : Heap} (r : xRel bs bS bM Ls xs cA Dg h H) : 2 ≤ h.length := by
  have := (List.getElem?_eq_some_iff.mp r.2.2).1
  omega
/-- slots that the cells have -/
def xsl (c : xC) : Nat := match c with
  | .inl (_, n, _) => n
  | .inr (_, fs) => fs.length
def xslo (h : xH) : Nat := (h.map xsl).sum
theorem xslo_set {h : xH} {a : Nat} {c c' : xC} (hc : h[a]? = some c) (e : xsl c' = xsl c) : xslo (h.set a c') = xslo h := by
  unfold xslo
  congr 1
  rw [List.map_set]
  apply List.ext_getElem?
  intro k
  rw [List.getElem?_set]
  by_cases hk : a = k
  · subst hk
    have hl := (List.getElem?_eq_some_iff.mp hc).1
    rw [if_pos rfl, List.length_map, if_pos hl, List.getElem?_map, hc, e]
    rfl
  · rw [if_neg hk]
theorem xslo_push {h : xH} {c : xC} : xslo (h ++ [c]) = xslo h + xsl c := by
  simp [xslo]
/-- locals -/
def xLs (ι : Nat → Nat) (ls : Array Slot) (nL : Nat) (L : xL) : Prop := ls.size = nL ∧ L.length = nL ∧ lv_wf ls ∧ ∀ (j : Nat) (v : Value), xld L j = some v → ls[j]? = some (.val (xv ι v))
def xprs (ι : Nat → Nat) : Nat → xL → List (Nat × Value)
  | _, [] => []
  | k, none :: t => xprs ι (k + 1) t
  | k, some v :: t => (k, xv ι v) :: xprs ι (k + 1) t
theorem xprs_mem {ι : Nat → Nat} : ∀ (L : xL) (k j : Nat) (w : Value), (j, w) ∈ xprs ι k L ↔ ∃ (d : Nat) (v : Value), j = k + d ∧ w = xv ι v ∧ xld L d = some v
  | [], k, j, w => by simp [xprs, xld]
  | none :: t, k, j, w => by
    rw [xprs, xprs_mem t (k + 1) j w]
    constructor
    · rintro ⟨d, v, h1, h2, h3⟩
      exact ⟨d + 1, v, by omega, h2, h3⟩
    · rintro ⟨d, v, h1, h2, h3⟩
      cases d with
      | zero => simp [xld] at h3
      | succ d => exact ⟨d, v, by omega, h2, h3⟩
  | some x :: t, k, j, w => by
    rw [xprs, List.mem_cons, xprs_mem t (k + 1) j w]
    constructor
    · rintro (e | ⟨d, v, h1, h2, h3⟩)
      · cases e
        exact ⟨0, x, rfl, rfl, rfl⟩
      · exact ⟨d + 1, v, by omega, h2, h3⟩
    · rintro ⟨d, v, h1, h2, h3⟩
      cases d with
      | zero =>
        simp [xld] at h3
        subst h3
        subst h1
        subst h2
        exact Or.inl rfl
      | succ d => exact Or.inr ⟨d, v, by omega, h2, h3⟩
theorem xLs.has {ι : Nat → Nat} {ls : Array Slot} {nL : Nat} {L : xL} (h : xLs ι ls nL L) : lv_has ls nL (xprs ι 0 L) := by
  refine ⟨h.1, h.2.2.1, fun q hq => ?_⟩
  obtain ⟨j, w⟩ := q
  obtain ⟨d, v, h1, h2, h3⟩ := (xprs_mem L 0 j w).mp hq
  have : j = d := by omega
  subst this
  subst h2
  exact h.2.2.2 j v h3
theorem xv_cat (ι : Nat → Nat) (v : Value) : (xv ι v).category = v.category := by cases v <;> rfl
theorem xis2_iff (v : Value) : xis2 (some v) = true ↔ v.category = 2 := by cases v <;> simp [xis2, Value.category]
theorem xst1_spec : ∀ (L L' : xL) (i : Nat) (v : Value), xst1 L i v = some L' → i < L.length ∧ L'.length = L.length ∧ ∀ (j : Nat) (w : Value), xld L' j = some w → (j = i ∧ w = v) ∨ (j ≠ i ∧ xld L j = some w ∧ ¬ (j + 1 = i ∧ w.category = 2))
  | [], L', i, v, h => by cases i <;> simp [xst1] at h
  | a :: t, L', 0, v, h => by
    simp [xst1] at h
    subst h
    refine ⟨by simp, by simp, fun j w hw => ?_⟩
    cases j with
    | zero => simp [xld] at hw; exact Or.inl ⟨rfl, hw.symm⟩
    | succ j => exact Or.inr ⟨by omega, hw, by omega⟩
  | a :: t, L', 1, v, h => by
    rw [xst1] at h
    obtain ⟨t', h1, h2⟩ := Option.map_eq_some_iff.mp h
    obtain ⟨g1, g2, g3⟩ := xst1_spec t t' 0 v h1
    subst h2
    refine ⟨by simp; omega, by simp [g2], fun j w hw => ?_⟩
    cases j with
    | zero =>
      simp only [xld] at hw
      split at hw
      · cases hw
      · next hn =>
        refine Or.inr ⟨by omega, hw, fun hc => ?_⟩
        rw [hw] at hn
        exact hn ((xis2_iff w).mpr hc.2)
    | succ j =>
      rcases g3 j w hw with ⟨e1, e2⟩ | ⟨e1, e2, e3⟩
      · exact Or.inl ⟨by omega, e2⟩
      · exact Or.inr ⟨by omega, e2, by omega⟩
  | a :: t, L', n + 2, v, h => by
    rw [xst1] at h
    obtain ⟨t', h1, h2⟩ := Option.map_eq_some_iff.mp h
    obtain ⟨g1, g2, g3⟩ := xst1_spec t t' (n + 1) v h1
    subst h2
    refine ⟨by simp; omega, by simp [g2], fun j w hw => ?_⟩
    cases j with
    | zero => exact Or.inr ⟨by omega, hw, by omega⟩
    | succ j =>
      rcases g3 j w hw with ⟨e1, e2⟩ | ⟨e1, e2, e3⟩
      · exact Or.inl ⟨by omega, e2⟩
      · exact Or.inr ⟨by omega, e2, fun hc => e3 ⟨by omega, hc.2⟩⟩
theorem xst2_spec : ∀ (L L' : xL) (i : Nat) (v : Value), xst2 L i v = some L' → i + 1 < L.length ∧ L'.length = L.length ∧ ∀ (j : Nat) (w : Value), xld L' j = some w → (j = i ∧ w = v) ∨ (j ≠ i ∧ j ≠ i + 1 ∧ xld L j = some w ∧ ¬ (j + 1 = i ∧ w.category = 2))
  | [], L', i, v, h => by cases i <;> simp [xst2] at h
  | a :: [], L', 0, v, h => by simp [xst2] at h
  | a :: b :: t, L', 0, v, h => by
    simp [xst2] at h
    subst h
    refine ⟨by simp, by simp, fun j w hw => ?_⟩
    cases j with
    | zero => simp [xld] at hw; exact Or.inl ⟨rfl, hw.symm⟩
    | succ j =>
      cases j with
      | zero => simp [xld] at hw
      | succ j => exact Or.inr ⟨by omega, by omega, hw, by omega⟩
  | a :: t, L', 1, v, h => by
    rw [xst2] at h
    obtain ⟨t', h1, h2⟩ := Option.map_eq_some_iff.mp h
    obtain ⟨g1, g2, g3⟩ := xst2_spec t t' 0 v h1
    subst h2
    refine ⟨by simp; omega, by simp [g2], fun j w hw => ?_⟩
    cases j with
    | zero =>
      simp only [xld] at hw
      split at hw
      · cases hw
      · next hn =>
        refine Or.inr ⟨by omega, by omega, hw, fun hc => ?_⟩
        rw [hw] at hn
        exact hn ((xis2_iff w).mpr hc.2)
    | succ j =>
      rcases g3 j w hw with ⟨e1, e2⟩ | ⟨e1, e0, e2, e3⟩
      · exact Or.inl ⟨by omega, e2⟩
      · exact Or.inr ⟨by omega, by omega, e2, by omega⟩
  | a :: t, L', n + 2, v, h => by
    rw [xst2] at h
    obtain ⟨t', h1, h2⟩ := Option.map_eq_some_iff.mp h
    obtain ⟨g1, g2, g3⟩ := xst2_spec t t' (n + 1) v h1
    subst h2
    refine ⟨by simp; omega, by simp [g2], fun j w hw => ?_⟩
    cases j with
    | zero => exact Or.inr ⟨by omega, by omega, hw, by omega⟩
    | succ j =>
      rcases g3 j w hw with ⟨e1, e2⟩ | ⟨e1, e0, e2, e3⟩
      · exact Or.inl ⟨by omega, e2⟩
      · exact Or.inr ⟨by omega, by omega, e2, fun hc => e3 ⟨by omega, hc.2⟩⟩
theorem xLs.st1 {ι : Nat → Nat} {ls ls' : Array Slot} {nL i : Nat} {L L' : xL} {v : Value} (h : xLs ι ls nL L) (e : xst1 L i v = some L') (h' : lv_has ls' nL ((i, xv ι v) :: (xprs ι 0 L).filter (fun q => !(q.1 == i) && !(q.1 + 1 == i && q.2.category == 2)))) : xLs ι ls' nL L' := by
  obtain ⟨g1, g2, g3⟩ := xst1_spec L L' i v e
  refine ⟨h'.1, g2.trans h.2.1, h'.2.1, fun j w hw => ?_⟩
  rcases g3 j w hw with ⟨e1, e2⟩ | ⟨e1, e2, e3⟩
  · subst e1
    subst e2
    exact h'.2.2 (j, xv ι w) List.mem_cons_self
  · refine h'.2.2 (j, xv ι w) (List.mem_cons_of_mem _ (List.mem_filter.mpr ⟨(xprs_mem L 0 j _).mpr ⟨j, w, by omega, rfl, e2⟩, ?_⟩))
    simp only [xv_cat, Bool.and_eq_true, Bool.not_eq_true', beq_eq_false_iff_ne, ne_eq, Bool.and_eq_false_iff]
    refine ⟨e1, ?_⟩
    by_cases q : j + 1 = i
    · exact Or.inr (fun c => e3 ⟨q, c⟩)
    · exact Or.inl q
theorem xLs.st2 {ι : Nat → Nat} {ls ls' : Array Slot} {nL i : Nat} {L L' : xL} {v : Value} (h : xLs ι ls nL L) (e : xst2 L i v = some L') (h' : lv_has ls' nL ((i, xv ι v) :: (xprs ι 0 L).filter (fun q => !(q.1 == i) && (!(q.1 == i + 1) && !(q.1 + 1 == i && q.2.category == 2))))) : xLs ι ls' nL L' := by
  obtain ⟨g1, g2, g3⟩ := xst2_spec L L' i v e
  refine ⟨h'.1, g2.trans h.2.1, h'.2.1, fun j w hw => ?_⟩
  rcases g3 j w hw with ⟨e1, e2⟩ | ⟨e1, e0, e2, e3⟩
  · subst e1
    subst e2
    exact h'.2.2 (j, xv ι w) List.mem_cons_self
  · refine h'.2.2 (j, xv ι w) (List.mem_cons_of_mem _ (List.mem_filter.mpr ⟨(xprs_mem L 0 j _).mpr ⟨j, w, by omega, rfl, e2⟩, ?_⟩))
    simp only [xv_cat, Bool.and_eq_true, Bool.not_eq_true', beq_eq_false_iff_ne, ne_eq, Bool.and_eq_false_iff]
    refine ⟨e1, e0, ?_⟩
    by_cases q : j + 1 = i
    · exact Or.inr (fun c => e3 ⟨q, c⟩)
    · exact Or.inl q
