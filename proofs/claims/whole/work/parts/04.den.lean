/-! ===== runs of the abstract machine: by fuel, then without ===== -/
def xent (j : Nat) (as : List Value) : xL := xlo as ++ List.replicate (xmL j - (xlo as).length) none
/-- the values fit the method's locals, and its receiver is of its class -/
def xcg (j : Nat) (as : List Value) (h : xH) : Bool := decide ((xlo as).length ≤ xmL j) && (match xvk.getD j 0 with
  | 0 => true
  | 1 => (match as with
    | .ref _ :: _ => true
    | _ => false)
  | c + 2 => match as with
    | .ref a :: _ => xobj h a c
    | _ => false)
def xF : Nat → Nat → Nat → xL → xS → xH → xR
  | 0, _, _, _, _, _ => none
  | n + 1, i, pc, L, st, h => (xblk i pc).bind (fun b => xB (fun j as h => if xcg j as h = true then xF n j 0 (xent j as) [] h else none) (fun pc L st h => xF n i pc L st h) b L st h)
theorem xB_mono {c1 c2 : Nat → List Value → xH → xR} {j1 j2 : Nat → xL → xS → xH → xR} (hc : ∀ j as h r, c1 j as h = some r → c2 j as h = some r) (hj : ∀ t L st h r, j1 t L st h = some r → j2 t L st h = some r) :
    ∀ (b : List xI) (L : xL) (st : xS) (h : xH) (r : Option Value × xH), xB c1 j1 b L st h = some r → xB c2 j2 b L st h = some r := by
  intro b
  induction b with
  | nil => intro L st h r e; simp [xB] at e
  | cons i t ih =>
    intro L st h r e
    cases i with
    | inl p =>
      simp only [xB] at e ⊢
      obtain ⟨q, h1, h2⟩ := Option.bind_eq_some_iff.mp e
      exact Option.bind_eq_some_iff.mpr ⟨q, h1, ih _ _ _ _ h2⟩
    | inr c =>
      cases c with
      | goto u => simp only [xB] at e ⊢; exact hj _ _ _ _ _ e
      | goto_w u => simp only [xB] at e ⊢; exact hj _ _ _ _ _ e
      | ifCond c u =>
        simp only [xB] at e ⊢
        split at e
        · split at e
          · next h1 => rw [if_pos h1]; exact hj _ _ _ _ _ e
          · next h1 => rw [if_neg h1]; exact ih _ _ _ _ e
        · cases e
      | if_icmp c u =>
        simp only [xB] at e ⊢
        split at e
        · split at e
          · next h1 => rw [if_pos h1]; exact hj _ _ _ _ _ e
          · next h1 => rw [if_neg h1]; exact ih _ _ _ _ e
        · cases e
      | lookupswitch d ps =>
        simp only [xB] at e ⊢
        split at e
        · exact hj _ _ _ _ _ e
        · cases e
      | ireturn => simp only [xB] at e ⊢; exact e
      | areturn => simp only [xB] at e ⊢; exact e
      | lreturn => simp only [xB] at e ⊢; exact e
      | return_ => simp only [xB] at e ⊢; exact e
      | invokeinterface j n =>
        simp only [xB] at e ⊢
        split at e
        · next h1 =>
          rw [if_pos h1]
          obtain ⟨q, h2, h3⟩ := Option.bind_eq_some_iff.mp e
          exact Option.bind_eq_some_iff.mpr ⟨q, hc _ _ _ _ h2, ih _ _ _ _ h3⟩
        · cases e
      | _ => simp [xB] at e
theorem xB_cont {cF : Nat → Nat → List Value → xH → xR} {jF : Nat → Nat → xL → xS → xH → xR} {c2 : Nat → List Value → xH → xR} {j2 : Nat → xL → xS → xH → xR}
    (mc : ∀ n j as h r, cF n j as h = some r → cF (n + 1) j as h = some r) (mj : ∀ n t L st h r, jF n t L st h = some r → jF (n + 1) t L st h = some r)
    (hc : ∀ j as h r, c2 j as h = some r → ∃ n, cF n j as h = some r) (hj : ∀ t L st h r, j2 t L st h = some r → ∃ n, jF n t L st h = some r) :
    ∀ (b : List xI) (L : xL) (st : xS) (h : xH) (r : Option Value × xH), xB c2 j2 b L st h = some r → ∃ n, xB (cF n) (jF n) b L st h = some r := by
  have mc' : ∀ k n j as h r, cF n j as h = some r → cF (n + k) j as h = some r := by
    intro k
    induction k with
    | zero => intro n j as h r e; exact e
    | succ k ih => intro n j as h r e; exact mc _ _ _ _ _ (ih _ _ _ _ _ e)
  have mj' : ∀ k n j L as h r, jF n j L as h = some r → jF (n + k) j L as h = some r := by
    intro k
    induction k with
    | zero => intro n j L as h r e; exact e
    | succ k ih => intro n j L as h r e; exact mj _ _ _ _ _ _ (ih _ _ _ _ _ _ e)
  intro b
  induction b with
  | nil => intro L st h r e; simp [xB] at e
  | cons i t ih =>
    intro L st h r e
    cases i with
    | inl p =>
      simp only [xB] at e ⊢
      obtain ⟨q, h1, h2⟩ := Option.bind_eq_some_iff.mp e
      obtain ⟨n, h3⟩ := ih _ _ _ _ h2
      exact ⟨n, Option.bind_eq_some_iff.mpr ⟨q, h1, h3⟩⟩
    | inr c =>
      cases c with
      | goto u => simp only [xB] at e ⊢; exact hj _ _ _ _ _ e
      | goto_w u => simp only [xB] at e ⊢; exact hj _ _ _ _ _ e
      | ifCond c u =>
        simp only [xB] at e ⊢
        split at e
        · split at e
          · next h1 => simp only [if_pos h1]; exact hj _ _ _ _ _ e
          · next h1 => simp only [if_neg h1]; exact ih _ _ _ _ e
        · cases e
      | if_icmp c u =>
        simp only [xB] at e ⊢
        split at e
        · split at e
          · next h1 => simp only [if_pos h1]; exact hj _ _ _ _ _ e
          · next h1 => simp only [if_neg h1]; exact ih _ _ _ _ e
        · cases e
      | lookupswitch d ps =>
        simp only [xB] at e ⊢
        split at e
        · exact hj _ _ _ _ _ e
        · cases e
      | ireturn => simp only [xB] at e ⊢; exact ⟨0, e⟩
      | areturn => simp only [xB] at e ⊢; exact ⟨0, e⟩
      | lreturn => simp only [xB] at e ⊢; exact ⟨0, e⟩
      | return_ => simp only [xB] at e ⊢; exact ⟨0, e⟩
      | invokeinterface j n =>
        simp only [xB] at e ⊢
        split at e
        · next h1 =>
          simp only [if_pos h1]
          obtain ⟨q, h2, h3⟩ := Option.bind_eq_some_iff.mp e
          obtain ⟨n1, e1⟩ := hc _ _ _ _ h2
          obtain ⟨n2, e2⟩ := ih _ _ _ _ h3
          refine ⟨n1 + n2, Option.bind_eq_some_iff.mpr ⟨q, mc' n2 n1 _ _ _ _ e1, ?_⟩⟩
          rw [Nat.add_comm]
          exact xB_mono (fun j as h r => mc' n1 n2 j as h r) (fun j L as h r => mj' n1 n2 j L as h r) _ _ _ _ _ e2
        · cases e
      | _ => simp [xB] at e
theorem xF_succ : ∀ (n i pc : Nat) (L : xL) (st : xS) (h : xH) (r : Option Value × xH), xF n i pc L st h = some r → xF (n + 1) i pc L st h = some r := by
  intro n
  induction n with
  | zero => intro i pc L st h r e; simp [xF] at e
  | succ n ih =>
    intro i pc L st h r e
    rw [xF] at e ⊢
    obtain ⟨b, h1, h2⟩ := Option.bind_eq_some_iff.mp e
    exact Option.bind_eq_some_iff.mpr ⟨b, h1, xB_mono (fun j as h r q => by
      split at q
      · next hg => rw [if_pos hg]; exact ih _ _ _ _ _ _ q
      · cases q) (fun t L st h r q => ih _ _ _ _ _ _ q) _ _ _ _ _ h2⟩
theorem xF_add (k n i pc : Nat) (L : xL) (st : xS) (h : xH) (r : Option Value × xH) (e : xF n i pc L st h = some r) : xF (n + k) i pc L st h = some r := by
  induction k with
  | zero => exact e
  | succ k ih => exact xF_succ _ _ _ _ _ _ _ ih
/-- the run from a block's start, if it ends -/
noncomputable def den (i pc : Nat) (L : xL) (st : xS) (h : xH) : xR :=
  @dite xR (∃ r n, xF n i pc L st h = some r) (Classical.propDecidable _) (fun q => some (Classical.choose q)) (fun _ => none)
theorem den_iff (i pc : Nat) (L : xL) (st : xS) (h : xH) (r : Option Value × xH) : den i pc L st h = some r ↔ ∃ n, xF n i pc L st h = some r := by
  unfold den
  constructor
  · intro e
    split at e
    · next q =>
      have := Classical.choose_spec q
      rw [Option.some.inj e] at this
      exact this
    · cases e
  · rintro ⟨n, e⟩
    have q : ∃ r n, xF n i pc L st h = some r := ⟨r, n, e⟩
    rw [dif_pos q]
    obtain ⟨m, e2⟩ := Classical.choose_spec q
    have a1 := xF_add m _ _ _ _ _ _ _ e
    have a2 := xF_add n _ _ _ _ _ _ _ e2
    rw [Nat.add_comm] at a2
    rw [a1] at a2
    exact congrArg some (Option.some.inj a2).symm
noncomputable def xcall (j : Nat) (as : List Value) (h : xH) : xR := if xcg j as h = true then den j 0 (xent j as) [] h else none
theorem den_eq {i pc : Nat} {b : List xI} (hb : xblk i pc = some b) (L : xL) (st : xS) (h : xH) : den i pc L st h = xB xcall (den i) b L st h := by
  apply Option.ext
  intro r
  constructor
  · intro e
    obtain ⟨n, e⟩ := (den_iff _ _ _ _ _ _).mp e
    cases n with
    | zero => simp [xF] at e
    | succ n =>
      rw [xF, hb, Option.bind_some] at e
      exact xB_mono (fun j as h r q => by
        split at q
        · next hg => rw [xcall, if_pos hg]; exact (den_iff _ _ _ _ _ _).mpr ⟨n, q⟩
        · cases q) (fun t L st h r q => (den_iff _ _ _ _ _ _).mpr ⟨n, q⟩) _ _ _ _ _ e
  · intro e
    obtain ⟨n, e⟩ := xB_cont (cF := fun n j as h => if xcg j as h = true then xF n j 0 (xent j as) [] h else none) (jF := fun n t L st h => xF n i t L st h) (fun n j as h r q => by
      split at q
      · next hg => rw [if_pos hg]; exact xF_succ _ _ _ _ _ _ _ q
      · cases q) (fun n t L st h r q => xF_succ _ _ _ _ _ _ _ q) (fun j as h r q => by
      rw [xcall] at q
      split at q
      · next hg => obtain ⟨n, q⟩ := (den_iff _ _ _ _ _ _).mp q; exact ⟨n, by rw [if_pos hg]; exact q⟩
      · cases q) (fun t L st h r q => (den_iff _ _ _ _ _ _).mp q) _ _ _ _ _ e
    exact (den_iff _ _ _ _ _ _).mpr ⟨n + 1, by rw [xF, hb, Option.bind_some]; exact e⟩
