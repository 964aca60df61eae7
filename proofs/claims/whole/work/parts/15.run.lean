/-! ===== runs: heaps only grow; a method's entry; switches ===== -/
theorem xP_len {ins : Instr} {L L' : xL} {st st' : xS} {h h' : xH} (hp : xP ins L st h = some (L', st', h')) : h.length ≤ h'.length ∧ xslo h ≤ xslo h' := by
  have same : h' = h → h.length ≤ h'.length ∧ xslo h ≤ xslo h' := fun e => by subst e; exact ⟨Nat.le_refl _, Nat.le_refl _⟩
  have sets : ∀ (a : Nat) (c0 c : xC), h[a]? = some c0 → h' = h.set a c → xsl c = xsl c0 → h.length ≤ h'.length ∧ xslo h ≤ xslo h' := fun a c0 c e1 e3 e2 => by
    subst e3
    rw [List.length_set, xslo_set e1 e2]
    exact ⟨Nat.le_refl _, Nat.le_refl _⟩
  have pushes : ∀ (c : xC), h' = h ++ [c] → h.length ≤ h'.length ∧ xslo h ≤ xslo h' := fun c e => by
    subst e
    rw [xslo_push, List.length_append]
    exact ⟨Nat.le_add_right _ _, Nat.le_add_right _ _⟩
  cases ins with
  | putfield n =>
    simp only [xP] at hp
    split at hp
    · obtain ⟨h2, h1, e2⟩ := Option.map_eq_some_iff.mp hp
      cases e2
      obtain ⟨fs, g1, g2, g3, g4⟩ := xput_inv h1
      exact sets _ _ _ g1 g4 (by simp [xsl])
    · cases hp
  | iastore =>
    simp only [xP] at hp
    split at hp
    · obtain ⟨h2, h1, e2⟩ := Option.map_eq_some_iff.mp hp
      cases e2
      obtain ⟨n, f, g1, g2, g3, g9⟩ := xiast_inv h1
      exact sets _ _ _ g1 g9 rfl
    · cases hp
  | bastore =>
    simp only [xP] at hp
    split at hp
    · obtain ⟨h2, h1, e2⟩ := Option.map_eq_some_iff.mp hp
      cases e2
      obtain ⟨n, f, g1, g2, g3, g4, g9⟩ := xzast_inv h1
      exact sets _ _ _ g1 g9 rfl
    · cases hp
  | lastore =>
    simp only [xP] at hp
    split at hp
    · obtain ⟨h2, h1, e2⟩ := Option.map_eq_some_iff.mp hp
      cases e2
      obtain ⟨n, f, g1, g2, g3, g9⟩ := xlast_inv h1
      exact sets _ _ _ g1 g9 rfl
    · cases hp
  | aastore =>
    simp only [xP] at hp
    split at hp
    · obtain ⟨h2, h1, e2⟩ := Option.map_eq_some_iff.mp hp
      cases e2
      obtain ⟨t, n, f, g1, g2, g3, g4, g5, g6, g9⟩ := xaast_inv h1
      exact sets _ _ _ g1 g9 rfl
    · cases hp
  | newarray t =>
    simp only [xP] at hp
    split at hp
    · obtain ⟨h2, h1, e2⟩ := Option.map_eq_some_iff.mp hp
      cases e2
      unfold xnewa at h1
      split at h1
      · cases t with
        | int => exact pushes _ (Option.some.inj h1).symm
        | long => exact pushes _ (Option.some.inj h1).symm
        | boolean => exact pushes _ (Option.some.inj h1).symm
        | _ => cases h1
      · cases h1
    · cases hp
  | anewarray d =>
    simp only [xP] at hp
    split at hp
    · obtain ⟨h2, h1, e2⟩ := Option.map_eq_some_iff.mp hp
      cases e2
      unfold xanew at h1
      split at h1
      · exact pushes _ (Option.some.inj h1).symm
      · cases h1
    · cases hp
  | new d =>
    simp only [xP] at hp
    obtain ⟨h2, h1, e2⟩ := Option.map_eq_some_iff.mp hp
    cases e2
    unfold xnewo at h1
    split at h1
    · obtain ⟨ks, g1, g2⟩ := Option.map_eq_some_iff.mp h1
      exact pushes _ g2.symm
    · cases h1
  | nop =>
    simp only [xP] at hp
    split at hp
    · split at hp
      · obtain ⟨h2, h1, e2⟩ := Option.map_eq_some_iff.mp hp
        cases e2
        unfold xcopy at h1
        split at h1
        · split at h1
          · next g1 g2 =>
            split at h1
            · exact sets _ _ _ g2 (Option.some.inj h1).symm rfl
            · cases h1
          · next g1 g2 =>
            split at h1
            · exact sets _ _ _ g2 (Option.some.inj h1).symm rfl
            · cases h1
          · cases h1
        · cases h1
      · cases hp
    · cases hp
  | pop =>
    simp only [xP] at hp
    split at hp
    · split at hp
      · cases hp; exact same rfl
      · cases hp
    · cases hp
  | iinc j v =>
    simp only [xP] at hp
    split at hp
    · obtain ⟨_, _, e2⟩ := Option.map_eq_some_iff.mp hp
      cases e2
      exact same rfl
    · cases hp
  | _ =>
    first
      | (simp [xP] at hp; done)
      | (simp only [xP] at hp; cases hp; exact same rfl)
      | (simp only [xP] at hp; obtain ⟨_, _, e2⟩ := Option.map_eq_some_iff.mp hp; cases e2; exact same rfl)
      | (simp only [xP] at hp
         split at hp
         · first
             | (cases hp; exact same rfl)
             | (obtain ⟨_, _, e2⟩ := Option.map_eq_some_iff.mp hp; cases e2; exact same rfl)
         · cases hp)
theorem xB_len {c1 : Nat → List Value → xH → xR} {j1 : Nat → xL → xS → xH → xR} (hc : ∀ j as h v h', c1 j as h = some (v, h') → h.length ≤ h'.length ∧ xslo h ≤ xslo h') (hj : ∀ t L st h v h', j1 t L st h = some (v, h') → h.length ≤ h'.length ∧ xslo h ≤ xslo h') :
    ∀ (b : List xI) (L : xL) (st : xS) (h : xH) (v : Option Value) (h' : xH), xB c1 j1 b L st h = some (v, h') → h.length ≤ h'.length ∧ xslo h ≤ xslo h' := by
  intro b
  induction b with
  | nil => intro L st h v h' e; simp [xB] at e
  | cons i t ih =>
    intro L st h v h' e
    cases i with
    | inl p =>
      simp only [xB] at e
      obtain ⟨⟨q1, q2, q3⟩, h1, h2⟩ := Option.bind_eq_some_iff.mp e
      have a1 := xP_len h1
      have a2 := ih _ _ _ _ _ h2
      simp only at a2
      omega
    | inr c =>
      cases c with
      | goto u => simp only [xB] at e; exact hj _ _ _ _ _ _ e
      | goto_w u => simp only [xB] at e; exact hj _ _ _ _ _ _ e
      | ifCond c u =>
        simp only [xB] at e
        split at e
        · split at e
          · exact hj _ _ _ _ _ _ e
          · exact ih _ _ _ _ _ e
        · cases e
      | if_icmp c u =>
        simp only [xB] at e
        split at e
        · split at e
          · exact hj _ _ _ _ _ _ e
          · exact ih _ _ _ _ _ e
        · cases e
      | lookupswitch d ps =>
        simp only [xB] at e
        split at e
        · exact hj _ _ _ _ _ _ e
        · cases e
      | ireturn =>
        simp only [xB] at e
        split at e
        · cases e; exact ⟨Nat.le_refl _, Nat.le_refl _⟩
        · cases e
      | areturn =>
        simp only [xB] at e
        split at e
        · split at e
          · cases e; exact ⟨Nat.le_refl _, Nat.le_refl _⟩
          · cases e
        · cases e
      | lreturn =>
        simp only [xB] at e
        split at e
        · cases e; exact ⟨Nat.le_refl _, Nat.le_refl _⟩
        · cases e
      | return_ =>
        simp only [xB] at e
        split at e
        · cases e; exact ⟨Nat.le_refl _, Nat.le_refl _⟩
        · cases e
      | invokeinterface j n =>
        simp only [xB] at e
        split at e
        · obtain ⟨⟨q1, q2⟩, h1, h2⟩ := Option.bind_eq_some_iff.mp e
          have a1 := hc _ _ _ _ _ h1
          have a2 := ih _ _ _ _ _ h2
          simp only at a2
          omega
        · cases e
      | _ => simp [xB] at e
theorem xF_len : ∀ (n i pc : Nat) (L : xL) (st : xS) (h : xH) (v : Option Value) (h' : xH), xF n i pc L st h = some (v, h') → h.length ≤ h'.length ∧ xslo h ≤ xslo h' := by
  intro n
  induction n with
  | zero => intro i pc L st h v h' e; simp [xF] at e
  | succ n ih =>
    intro i pc L st h v h' e
    rw [xF] at e
    obtain ⟨b, h1, h2⟩ := Option.bind_eq_some_iff.mp e
    refine xB_len (fun j as h v h' q => ?_) (fun t L st h v h' q => ih _ _ _ _ _ _ _ q) _ _ _ _ _ _ h2
    split at q
    · exact ih _ _ _ _ _ _ _ q
    · cases q
theorem xlo_cons (v : Value) (t : List Value) : xlo (v :: t) = if v.category = 2 then some v :: none :: xlo t else some v :: xlo t := by
  cases v <;> rfl
theorem xlo_len (ι : Nat → Nat) : ∀ as : List Value, (lg_sl (as.map (xv ι))).length = (xlo as).length
  | [] => rfl
  | v :: t => by
    have ih := xlo_len ι t
    rw [xlo_cons, List.map_cons, lg_sl, List.flatMap_cons, List.length_append, xv_cat]
    change _ + (lg_sl (t.map (xv ι))).length = _
    rw [ih]
    split
    · simp; omega
    · simp; omega
theorem xld_none : ∀ (n j : Nat) (v : Value), xld (List.replicate n none) j = some v → False
  | 0, j, v, h => by simp [xld] at h
  | n + 1, 0, v, h => by simp [List.replicate_succ, xld] at h
  | n + 1, j + 1, v, h => xld_none n j v (by simpa [List.replicate_succ, xld] using h)
theorem xlo_args (ι : Nat → Nat) (n : Nat) : ∀ (as : List Value) (k j : Nat) (v : Value), xld (xlo as ++ List.replicate n none) j = some v → (k + j, xv ι v) ∈ lv_args k (as.map (xv ι))
  | [], k, j, v, h => (xld_none n j v (by simpa [xlo] using h)).elim
  | w :: t, k, j, v, h => by
    rw [xlo_cons] at h
    rw [List.map_cons, lv_args, xv_cat]
    split at h
    · next hw =>
      rw [if_pos hw]
      match j, h with
      | 0, h =>
        have : w = v := by simpa [xld] using h
        subst this
        exact List.mem_cons_self
      | 1, h => simp [xld] at h
      | j + 2, h =>
        have := xlo_args ι n t (k + 2) j v (by simpa [xld] using h)
        rw [show k + 2 + j = k + (j + 2) by omega] at this
        exact List.mem_cons_of_mem _ this
    · next hw =>
      rw [if_neg hw]
      match j, h with
      | 0, h =>
        have : w = v := by simpa [xld] using h
        subst this
        exact List.mem_cons_self
      | j + 1, h =>
        have := xlo_args ι n t (k + 1) j v (by simpa [xld] using h)
        rw [show k + 1 + j = k + (j + 1) by omega] at this
        exact List.mem_cons_of_mem _ this
theorem xent_ok (ι : Nat → Nat) {as : List Value} {nL : Nat} (h : (xlo as).length ≤ nL) : xLs ι ((lg_sl (as.map (xv ι)) ++ List.replicate (nL - (lg_sl (as.map (xv ι))).length) Slot.unset).toArray) nL (xlo as ++ List.replicate (nL - (xlo as).length) none) := by
  have hl := lv_entry (as.map (xv ι)) (n := nL) (by rw [xlo_len]; exact h)
  refine ⟨hl.1, by simp; omega, hl.2.1, fun j v hv => ?_⟩
  have := xlo_args ι _ as 0 j v hv
  rw [Nat.zero_add] at this
  exact hl.2.2 (j, xv ι v) this
theorem xsw_out (pc : Nat) (d a : Int) : ∀ (l : List Int) (lo : Int), (a < lo ∨ lo + l.length ≤ a) → xsw (xpairs pc lo l) d a = d
  | [], lo, _ => rfl
  | o :: r, lo, h => by
    rw [xpairs, xsw, if_neg (by simp only [List.length_cons] at h; omega)]
    exact xsw_out pc d a r (lo + 1) (by simp only [List.length_cons] at h; omega)
theorem xsw_in (pc : Nat) (d a : Int) : ∀ (l : List Int) (lo : Int), lo ≤ a → a < lo + l.length → ∃ o, l[(a - lo).toNat]? = some o ∧ xsw (xpairs pc lo l) d a = (pc : Int) + o ∧ (a, (pc : Int) + o) ∈ xpairs pc lo l
  | [], lo, h1, h2 => by simp only [List.length_nil] at h2; omega
  | o :: r, lo, h1, h2 => by
    rw [xpairs, xsw]
    by_cases e : a = lo
    · subst e
      exact ⟨o, by simp, by rw [if_pos rfl], List.mem_cons_self⟩
    · obtain ⟨o', g1, g2, g3⟩ := xsw_in pc d a r (lo + 1) (by omega) (by simp only [List.length_cons] at h2; omega)
      refine ⟨o', ?_, by rw [if_neg e]; exact g2, List.mem_cons_of_mem _ g3⟩
      rw [show (a - lo).toNat = (a - (lo + 1)).toNat + 1 by omega, List.getElem?_cons_succ]
      exact g1
