/-! ===== arrays ===== -/
theorem xiald_inv {h : xH} {a : Nat} {j : Int32} {v : Value} (e : xiald h a j = some v) : ∃ n f, h[a]? = some (.inl (0, n, .inl f)) ∧ xin j n = true ∧ v = .int (f j.toNatClampNeg) := by
  unfold xiald at e
  split at e
  · next n f hc =>
    split at e
    · next hn => cases e; exact ⟨n, f, hc, hn, rfl⟩
    · cases e
  · cases e
theorem xzald_inv {h : xH} {a : Nat} {j : Int32} {v : Value} (e : xzald h a j = some v) : ∃ n f, h[a]? = some (.inl (2, n, .inl f)) ∧ xin j n = true ∧ 2 ≤ a ∧ v = .int (f j.toNatClampNeg) := by
  unfold xzald at e
  split at e
  · next n f hc =>
    split at e
    · next hn => cases e; exact ⟨n, f, hc, hn.1, hn.2, rfl⟩
    · cases e
  · cases e
theorem xlald_inv {h : xH} {a : Nat} {j : Int32} {v : Value} (e : xlald h a j = some v) : ∃ n f, h[a]? = some (.inl (1, n, .inr (.inl f))) ∧ xin j n = true ∧ 2 ≤ a ∧ v = .long (f j.toNatClampNeg) := by
  unfold xlald at e
  split at e
  · next n f hc =>
    split at e
    · next hn => cases e; exact ⟨n, f, hc, hn.1, hn.2, rfl⟩
    · cases e
  · cases e
theorem xaald_inv {h : xH} {a : Nat} {j : Int32} {v : Value} (e : xaald h a j = some v) : ∃ t n f, h[a]? = some (.inl (t, n, .inr (.inr (.inr (.inr f))))) ∧ xin j n = true ∧ 2 ≤ a ∧ xra t = true ∧ v = va_rf (f j.toNatClampNeg) := by
  unfold xaald at e
  split at e
  · next t n f hc =>
    split at e
    · next hn => cases e; exact ⟨t, n, f, hc, hn.1, hn.2.1, hn.2.2, rfl⟩
    · cases e
  · cases e
theorem xiast_inv {h h' : xH} {a : Nat} {j x : Int32} (e : xiast h a j x = some h') : ∃ n f, h[a]? = some (.inl (0, n, .inl f)) ∧ xin j n = true ∧ 2 ≤ a ∧ h' = h.set a (.inl (0, n, .inl (upd f j.toNatClampNeg x))) := by
  unfold xiast at e
  split at e
  · next n f hc =>
    split at e
    · next hn => cases e; exact ⟨n, f, hc, hn.1, hn.2, rfl⟩
    · cases e
  · cases e
theorem xzast_inv {h h' : xH} {a : Nat} {j x : Int32} (e : xzast h a j x = some h') : ∃ n f, h[a]? = some (.inl (2, n, .inl f)) ∧ xin j n = true ∧ 2 ≤ a ∧ (x = 0 ∨ x = 1) ∧ h' = h.set a (.inl (2, n, .inl (upd f j.toNatClampNeg x))) := by
  unfold xzast at e
  split at e
  · next n f hc =>
    split at e
    · next hn => cases e; exact ⟨n, f, hc, hn.1, hn.2.1, hn.2.2, rfl⟩
    · cases e
  · cases e
theorem xlast_inv {h h' : xH} {a : Nat} {j : Int32} {x : Int64} (e : xlast h a j x = some h') : ∃ n f, h[a]? = some (.inl (1, n, .inr (.inl f))) ∧ xin j n = true ∧ 2 ≤ a ∧ h' = h.set a (.inl (1, n, .inr (.inl (vp_updL f j.toNatClampNeg x)))) := by
  unfold xlast at e
  split at e
  · next n f hc =>
    split at e
    · next hn => cases e; exact ⟨n, f, hc, hn.1, hn.2, rfl⟩
    · cases e
  · cases e
theorem xobj_inv {h : xH} {v c : Nat} (e : xobj h v c = true) : ∃ fs, h[v]? = some (.inr (c, fs)) := by
  unfold xobj at e
  split at e
  · next c' fs hc =>
    have := eq_of_beq e
    subst this
    exact ⟨fs, hc⟩
  · cases e
theorem xaast_inv {h h' : xH} {a v : Nat} {j : Int32} (e : xaast h a j v = some h') : ∃ t n f, h[a]? = some (.inl (t, n, .inr (.inr (.inr (.inr f))))) ∧ xin j n = true ∧ 2 ≤ a ∧ xra t = true ∧ 2 ≤ v ∧ xobj h v (t - 10) = true ∧ h' = h.set a (.inl (t, n, .inr (.inr (.inr (.inr (va_up f j.toNatClampNeg (some v))))))) := by
  unfold xaast at e
  split at e
  · next t n f hc =>
    split at e
    · next hn => cases e; exact ⟨t, n, f, hc, hn.1, hn.2.1, hn.2.2.1, hn.2.2.2.1, hn.2.2.2.2, rfl⟩
    · cases e
  · cases e
theorem xlen_inv {h : xH} {a : Nat} {v : Value} (e : xlen h a = some v) : ∃ n f, h[a]? = some (.inl (0, n, .inl f)) ∧ v = .int (Int32.ofNat n) := by
  unfold xlen at e
  split at e
  · next t n f hc =>
    split at e
    · next ht => cases e; subst ht; exact ⟨n, f, hc, rfl⟩
    · cases e
  · cases e
theorem xra_ty {t : Nat} (h : xra t = true) : xkt t = true ∧ t - 10 < 10 ∧ xty t = .object (xcl (t - 10)).1 ∧ 10 + (t - 10) = t := by
  simp only [xra, Bool.or_eq_true, beq_iff_eq] at h
  rcases h with ((rfl | rfl) | rfl) | rfl <;> exact ⟨rfl, by omega, rfl, rfl⟩
theorem xv_rf (ι : Nat → Nat) (r : Option Nat) : xv ι (va_rf r) = va_rf (r.map ι) := by cases r <;> rfl
theorem xsimple' {i len : Nat} {raw ins : Instr} (hk : xckp i raw len ins = true) (hs : xsim ins = true) : len = 1 ∧ raw = ins := by
  cases ins <;> first | exact xsimple hk rfl | cases hs
theorem x_iaload : xOK .iaload := by
  intro p l e R s m args below meth c Q bs bS bM Ls xs cA Dg i h0 a raw len pc L L' st st' h h' hd hk hp hc hs ls H locs cells slots o k
  obtain ⟨hx, hb, hml, hown, hts, hG, hsz, hfr, hlo, hini⟩ := a
  simp only [xP] at hp
  obtain ⟨st2, h1, h2⟩ := Option.map_eq_some_iff.mp hp
  cases h2
  obtain ⟨rfl, rfl⟩ := xsimple hk rfl
  obtain ⟨j, q, r, v, rfl, rfl, hv⟩ := xrd_inv h1
  obtain ⟨n, f, g1, g2, rfl⟩ := xiald_inv hv
  match q, g1 with
  | 0, g1 =>
    rw [o.1.2.1] at g1
    cases g1
    exact va_sld hx hb hG.2.2.2.2.2.2.1 (Nat.lt_of_lt_of_le hG.2.2.2.2.2.2.2.1 hG.2.2.2.2.2.2.2.2) (Nat.not_le.mpr hG.2.2.2.2.2.2.2.1) o.2.1 (xin_in g2) hd (k _ _ _ _ _ o)
  | 1, g1 =>
    rw [o.1.2.2] at g1
    cases g1
    obtain ⟨cell, c1, c2, c3, c4, c5, c6, c7⟩ := hG.2.2.2.2.2.1
    have hj : j.toNatClampNeg < 6 := by
      have := g2
      simp only [xin, Bool.and_eq_true, decide_eq_true_eq] at this
      exact this.2
    refine W.iald (v := .int (xmost6 j.toNatClampNeg)) hx hb (cell := cell) (a := bM) ?_ c2 c3 ?_ (c6 _ hj) rfl rfl hd (k _ _ _ _ _ o)
    · rw [o.2.1.2.1 bM (Array.getElem?_eq_some_iff.mp c1).1 c7]
      exact c1
    · rintro (z | z)
      · exact xin_in g2 (Or.inl z)
      · omega
  | q + 2, g1 =>
    exact va_iald (D := Dg) (cl := vwCl) (a := bs + q) hx hb (hG.K 0 rfl) o.1.1 q 0 (xw_get (by omega) g1) rfl (xin_in g2) hd (k _ _ _ _ _ o)
theorem x_baload : xOK .baload := by
  intro p l e R s m args below meth c Q bs bS bM Ls xs cA Dg i h0 a raw len pc L L' st st' h h' hd hk hp hc hs ls H locs cells slots o k
  obtain ⟨hx, hb, hml, hown, hts, hG, hsz, hfr, hlo, hini⟩ := a
  simp only [xP] at hp
  obtain ⟨st2, h1, h2⟩ := Option.map_eq_some_iff.mp hp
  cases h2
  obtain ⟨rfl, rfl⟩ := xsimple hk rfl
  obtain ⟨j, q, r, v, rfl, rfl, hv⟩ := xrd_inv h1
  obtain ⟨n, f, g1, g2, g3, rfl⟩ := xzald_inv hv
  rw [List.map_cons, List.map_cons, xv.eq_1, xi_ge g3]
  exact va_zald (D := Dg) (cl := vwCl) hx hb (hG.K 2 rfl) o.1.1 (q - 2) 0 (xw_get g3 g1) rfl (xin_in g2) hd (k _ _ _ _ _ o)
theorem x_laload : xOK .laload := by
  intro p l e R s m args below meth c Q bs bS bM Ls xs cA Dg i h0 a raw len pc L L' st st' h h' hd hk hp hc hs ls H locs cells slots o k
  obtain ⟨hx, hb, hml, hown, hts, hG, hsz, hfr, hlo, hini⟩ := a
  simp only [xP] at hp
  obtain ⟨st2, h1, h2⟩ := Option.map_eq_some_iff.mp hp
  cases h2
  obtain ⟨rfl, rfl⟩ := xsimple hk rfl
  obtain ⟨j, q, r, v, rfl, rfl, hv⟩ := xrd_inv h1
  obtain ⟨n, f, g1, g2, g3, rfl⟩ := xlald_inv hv
  rw [List.map_cons, List.map_cons, xv.eq_1, xi_ge g3]
  exact va_lald (D := Dg) (cl := vwCl) hx hb (hG.K 1 rfl) o.1.1 (q - 2) 0 (xw_get g3 g1) rfl (xin_in g2) hd (k _ _ _ _ _ o)
theorem x_aaload : xOK .aaload := by
  intro p l e R s m args below meth c Q bs bS bM Ls xs cA Dg i h0 a raw len pc L L' st st' h h' hd hk hp hc hs ls H locs cells slots o k
  obtain ⟨hx, hb, hml, hown, hts, hG, hsz, hfr, hlo, hini⟩ := a
  simp only [xP] at hp
  obtain ⟨st2, h1, h2⟩ := Option.map_eq_some_iff.mp hp
  cases h2
  obtain ⟨rfl, rfl⟩ := xsimple hk rfl
  obtain ⟨j, q, r, v, rfl, rfl, hv⟩ := xrd_inv h1
  obtain ⟨t, n, f, g1, g2, g3, g4, rfl⟩ := xaald_inv hv
  obtain ⟨t1, t2, t3, t4⟩ := xra_ty g4
  rw [List.map_cons, List.map_cons, xv.eq_1, xi_ge g3]
  have hK := hG.K t t1
  rw [t3] at hK
  refine va_aldq (D := Dg) (cl := vwCl) hx hb hK o.1.1 (q - 2) 0 (xw_get g3 g1) rfl (xin_in g2) hd ?_
  have := k _ _ _ _ _ o
  rw [List.map_cons, xv_rf] at this
  exact this
theorem x_iastore : xOK .iastore := by
  intro p l e R s m args below meth c Q bs bS bM Ls xs cA Dg i h0 a raw len pc L L' st st' h h' hd hk hp hc hs ls H locs cells slots o k
  obtain ⟨hx, hb, hml, hown, hts, hG, hsz, hfr, hlo, hini⟩ := a
  simp only [xP] at hp
  obtain ⟨rfl, rfl⟩ := xsimple hk rfl
  split at hp
  · next x j q r =>
    obtain ⟨h2, h1, e2⟩ := Option.map_eq_some_iff.mp hp
    cases e2
    obtain ⟨n, f, g1, g2, g3, g9⟩ := xiast_inv h1
    subst g9
    rw [List.map_cons, List.map_cons, List.map_cons, xv.eq_1, xi_ge g3]
    exact va_iast (D := Dg) (cl := vwCl) hx hb (hG.K 0 rfl) o.1.1 xw_D o.2.1 (q - 2) 0 (xw_get g3 g1) rfl (xin_in g2) hd (fun H1 locs1 a1 a2 a3 => k _ _ _ _ _ (o.set (c := .inl (0, n, .inl (upd f j.toNatClampNeg x))) g3 g1 rfl rfl a1 a3))
  · cases hp
theorem x_bastore : xOK .bastore := by
  intro p l e R s m args below meth c Q bs bS bM Ls xs cA Dg i h0 a raw len pc L L' st st' h h' hd hk hp hc hs ls H locs cells slots o k
  obtain ⟨hx, hb, hml, hown, hts, hG, hsz, hfr, hlo, hini⟩ := a
  simp only [xP] at hp
  obtain ⟨rfl, rfl⟩ := xsimple hk rfl
  split at hp
  · next x j q r =>
    obtain ⟨h2, h1, e2⟩ := Option.map_eq_some_iff.mp hp
    cases e2
    obtain ⟨n, f, g1, g2, g3, g4, g9⟩ := xzast_inv h1
    subst g9
    rw [List.map_cons, List.map_cons, List.map_cons, xv.eq_1, xi_ge g3]
    have hn : vp_nar .boolean x = x := by rcases g4 with rfl | rfl <;> decide
    refine va_zast (D := Dg) (cl := vwCl) hx hb (hG.K 2 rfl) o.1.1 xw_D o.2.1 (q - 2) 0 (xw_get g3 g1) rfl (xin_in g2) hd (fun H1 locs1 a1 a2 a3 => k _ _ _ _ _ (o.set (c := .inl (2, n, .inl (upd f j.toNatClampNeg x))) g3 g1 rfl ?_ a1 a3))
    rw [hn]
    rfl
  · cases hp
theorem x_lastore : xOK .lastore := by
  intro p l e R s m args below meth c Q bs bS bM Ls xs cA Dg i h0 a raw len pc L L' st st' h h' hd hk hp hc hs ls H locs cells slots o k
  obtain ⟨hx, hb, hml, hown, hts, hG, hsz, hfr, hlo, hini⟩ := a
  simp only [xP] at hp
  obtain ⟨rfl, rfl⟩ := xsimple hk rfl
  split at hp
  · next x j q r =>
    obtain ⟨h2, h1, e2⟩ := Option.map_eq_some_iff.mp hp
    cases e2
    obtain ⟨n, f, g1, g2, g3, g9⟩ := xlast_inv h1
    subst g9
    rw [List.map_cons, List.map_cons, List.map_cons, xv.eq_1, xi_ge g3]
    exact va_last (D := Dg) (cl := vwCl) hx hb (hG.K 1 rfl) o.1.1 xw_D o.2.1 (q - 2) 0 (xw_get g3 g1) rfl (xin_in g2) hd (fun H1 locs1 a1 a2 a3 => k _ _ _ _ _ (o.set (c := .inl (1, n, .inr (.inl (vp_updL f j.toNatClampNeg x)))) g3 g1 rfl rfl a1 a3))
  · cases hp
theorem x_aastore : xOK .aastore := by
  intro p l e R s m args below meth c Q bs bS bM Ls xs cA Dg i h0 a raw len pc L L' st st' h h' hd hk hp hc hs ls H locs cells slots o k
  obtain ⟨hx, hb, hml, hown, hts, hG, hsz, hfr, hlo, hini⟩ := a
  simp only [xP] at hp
  obtain ⟨rfl, rfl⟩ := xsimple hk rfl
  split at hp
  · next x j q r =>
    obtain ⟨h2, h1, e2⟩ := Option.map_eq_some_iff.mp hp
    cases e2
    obtain ⟨t, n, f, g1, g2, g3, g4, g5, g6, g9⟩ := xaast_inv h1
    subst g9
    obtain ⟨fs, g7⟩ := xobj_inv g6
    obtain ⟨t1, t2, t3, t4⟩ := xra_ty g4
    rw [List.map_cons, List.map_cons, List.map_cons, xv.eq_1, xv.eq_1, xi_ge g3, xi_ge g5]
    have hK := hG.K t t1
    rw [t3] at hK
    refine va_astq (D := Dg) (cl := vwCl) hx hb hK o.1.1 xw_D o.2.1 (q - 2) 0 (x - 2) (t - 10) (xw_get g3 g1) rfl (xw_get g5 g7) (xcl_get t2) (xin_in g2) hd (fun H1 locs1 a1 a2 a3 => k _ _ _ _ _ (o.set (c := .inl (t, n, .inr (.inr (.inr (.inr (va_up f j.toNatClampNeg (some x))))))) g3 g1 rfl ?_ a1 a3))
    simp only [xce, xar]
    congr 7
    funext z
    unfold va_up
    split
    · rw [Option.map_some, xi_ge g5]
    · rfl
  · cases hp
theorem x_arraylength : xOK .arraylength := by
  intro p l e R s m args below meth c Q bs bS bM Ls xs cA Dg i h0 a raw len pc L L' st st' h h' hd hk hp hc hs ls H locs cells slots o k
  obtain ⟨hx, hb, hml, hown, hts, hG, hsz, hfr, hlo, hini⟩ := a
  simp only [xP] at hp
  obtain ⟨rfl, rfl⟩ := xsimple hk rfl
  split at hp
  · next q r =>
    obtain ⟨v, h1, e2⟩ := Option.map_eq_some_iff.mp hp
    cases e2
    obtain ⟨n, f, g1, rfl⟩ := xlen_inv h1
    match q, g1 with
    | 0, g1 =>
      rw [o.1.2.1] at g1
      cases g1
      exact va_slen hx hb hG.2.2.2.2.2.2.1 (Nat.lt_of_lt_of_le hG.2.2.2.2.2.2.2.1 hG.2.2.2.2.2.2.2.2) (Nat.not_le.mpr hG.2.2.2.2.2.2.2.1) o.2.1 hd (k _ _ _ _ _ o)
    | 1, g1 =>
      rw [o.1.2.2] at g1
      cases g1
      obtain ⟨cell, c1, c2, c3, c4, c5, c6, c7⟩ := hG.2.2.2.2.2.1
      refine W.alen hx hb (cell := cell) (a := bM) ?_ c2 c5 rfl rfl hd (k _ _ _ _ _ o)
      rw [o.2.1.2.1 bM (Array.getElem?_eq_some_iff.mp c1).1 c7]
      exact c1
    | q + 2, g1 =>
      exact va_alen (D := Dg) (cl := vwCl) (a := bs + q) hx hb (hG.K 0 rfl) o.1.1 q 0 (xw_get (by omega) g1) rfl rfl hd (k _ _ _ _ _ o)
  · cases hp
