/-! ===== constants, locals, fields, arrays, new cells ===== -/
theorem x_iconst (v : Int) : xOK (.iconst v) := by
  intro p l e R s m args below meth c Q bs bS bM Ls xs cA Dg i h0 a raw len pc L L' st st' h h' hd hk hp hc hs ls H locs cells slots o k
  obtain ⟨hx, hb, hml, hown, hts, hG, hsz, hfr, hlo, hini⟩ := a
  simp only [xP] at hp
  cases hp
  cases raw with
  | iconst n =>
    simp only [xckp, Bool.and_eq_true, beq_iff_eq] at hk
    obtain ⟨rfl, rfl⟩ := hk
    exact lv_iconst hx hb hd rfl (k _ _ _ _ _ o)
  | bipush n =>
    simp only [xckp, Bool.and_eq_true, beq_iff_eq] at hk
    obtain ⟨rfl, rfl, hv⟩ := hk
    exact lv_bipush hx hb hd hv (k _ _ _ _ _ o)
  | sipush n =>
    simp only [xckp, Bool.and_eq_true, beq_iff_eq] at hk
    obtain ⟨rfl, rfl, hv⟩ := hk
    exact lv_sipush hx hb hd hv (k _ _ _ _ _ o)
  | ldc n =>
    simp only [xckp, Bool.and_eq_true, beq_iff_eq] at hk
    obtain ⟨rfl, hv⟩ := hk
    exact lv_ldc hx hb hown (hts _ (xKI_in hv)) hd (k _ _ _ _ _ o)
  | ldc_w n =>
    simp only [xckp, Bool.and_eq_true, beq_iff_eq] at hk
    obtain ⟨rfl, hv⟩ := hk
    exact lv_ldcw hx hb hown (hts _ (xKI_in hv)) hd (k _ _ _ _ _ o)
  | _ => simp [xckp] at hk
theorem x_sipush (v : Int) : xOK (.sipush v) := by
  intro p l e R s m args below meth c Q bs bS bM Ls xs cA Dg i h0 a raw len pc L L' st st' h h' hd hk hp hc hs ls H locs cells slots o k
  obtain ⟨hx, hb, hml, hown, hts, hG, hsz, hfr, hlo, hini⟩ := a
  simp only [xP] at hp
  cases hp
  cases raw with
  | lconst n =>
    simp only [xckp, Bool.and_eq_true, beq_iff_eq] at hk
    obtain ⟨rfl, hv⟩ := hk
    exact lv_lconst hx hb hd hv (k _ _ _ _ _ o)
  | ldc2_w n =>
    simp only [xckp, Bool.and_eq_true, beq_iff_eq] at hk
    obtain ⟨rfl, hv⟩ := hk
    exact lv_ldc2 hx hb hown (hts _ (xKJ_in hv)) hd (k _ _ _ _ _ o)
  | _ => simp [xckp] at hk
theorem x_iload (j : Nat) : xOK (.iload j) := by
  intro p l e R s m args below meth c Q bs bS bM Ls xs cA Dg i h0 a raw len pc L L' st st' h h' hd hk hp hc hs ls H locs cells slots o k
  obtain ⟨hx, hb, hml, hown, hts, hG, hsz, hfr, hlo, hini⟩ := a
  simp only [xP] at hp
  split at hp
  · next x hx2 =>
    cases hp
    have hl := o.2.2.1.2.2.2 j _ hx2
    cases raw with
    | iload_n n =>
      simp only [xckp, Bool.and_eq_true, beq_iff_eq] at hk
      obtain ⟨hj, rfl⟩ := hk
      exact lv_iload_n hx hb hd hj hl (k _ _ _ _ _ o)
    | iload n =>
      simp only [xckp, Bool.and_eq_true, beq_iff_eq] at hk
      obtain ⟨rfl, rfl⟩ := hk
      exact lv_iload hx hb hd hl (k _ _ _ _ _ o)
    | _ => simp [xckp] at hk
  · cases hp
theorem x_lload (j : Nat) : xOK (.lload j) := by
  intro p l e R s m args below meth c Q bs bS bM Ls xs cA Dg i h0 a raw len pc L L' st st' h h' hd hk hp hc hs ls H locs cells slots o k
  obtain ⟨hx, hb, hml, hown, hts, hG, hsz, hfr, hlo, hini⟩ := a
  simp only [xP] at hp
  split at hp
  · next x hx2 =>
    cases hp
    have hl := o.2.2.1.2.2.2 j _ hx2
    cases raw with
    | lload_n n =>
      simp only [xckp, Bool.and_eq_true, beq_iff_eq] at hk
      obtain ⟨hj, rfl⟩ := hk
      exact lv_lload_n hx hb hd hj hl (k _ _ _ _ _ o)
    | lload n =>
      simp only [xckp, Bool.and_eq_true, beq_iff_eq] at hk
      obtain ⟨rfl, rfl⟩ := hk
      exact lv_lload hx hb hd hl (k _ _ _ _ _ o)
    | _ => simp [xckp] at hk
  · cases hp
theorem x_aload (j : Nat) : xOK (.aload j) := by
  intro p l e R s m args below meth c Q bs bS bM Ls xs cA Dg i h0 a raw len pc L L' st st' h h' hd hk hp hc hs ls H locs cells slots o k
  obtain ⟨hx, hb, hml, hown, hts, hG, hsz, hfr, hlo, hini⟩ := a
  simp only [xP] at hp
  split at hp
  · next x hx2 =>
    cases hp
    have hl := o.2.2.1.2.2.2 j _ hx2
    cases raw with
    | aload_n n =>
      simp only [xckp, Bool.and_eq_true, beq_iff_eq] at hk
      obtain ⟨hj, rfl⟩ := hk
      exact lv_aload_n hx hb hd hj hl (k _ _ _ _ _ o)
    | aload n =>
      simp only [xckp, Bool.and_eq_true, beq_iff_eq] at hk
      obtain ⟨rfl, rfl⟩ := hk
      exact lv_aload hx hb hd hl (k _ _ _ _ _ o)
    | _ => simp [xckp] at hk
  · cases hp
theorem x_istore (j : Nat) : xOK (.istore j) := by
  intro p l e R s m args below meth c Q bs bS bM Ls xs cA Dg i h0 a raw len pc L L' st st' h h' hd hk hp hc hs ls H locs cells slots o k
  obtain ⟨hx, hb, hml, hown, hts, hG, hsz, hfr, hlo, hini⟩ := a
  simp only [xP] at hp
  split at hp
  · next x r =>
    obtain ⟨L2, h1, h2⟩ := Option.map_eq_some_iff.mp hp
    cases h2
    obtain ⟨g1, -, -⟩ := xst1_spec _ _ _ _ h1
    rw [o.2.2.1.2.1] at g1
    cases raw with
    | istore_n n =>
      simp only [xckp, Bool.and_eq_true, beq_iff_eq] at hk
      obtain ⟨hj, rfl⟩ := hk
      exact lv_istore_n hx hb hd hj o.2.2.1.has g1 rfl (fun ls' hl' => k ls' _ _ _ _ ⟨o.1, o.2.1, o.2.2.1.st1 h1 hl', o.2.2.2⟩)
    | istore n =>
      simp only [xckp, Bool.and_eq_true, beq_iff_eq] at hk
      obtain ⟨rfl, rfl⟩ := hk
      exact lv_istore hx hb hd o.2.2.1.has g1 rfl (fun ls' hl' => k ls' _ _ _ _ ⟨o.1, o.2.1, o.2.2.1.st1 h1 hl', o.2.2.2⟩)
    | _ => simp [xckp] at hk
  · cases hp
theorem x_lstore (j : Nat) : xOK (.lstore j) := by
  intro p l e R s m args below meth c Q bs bS bM Ls xs cA Dg i h0 a raw len pc L L' st st' h h' hd hk hp hc hs ls H locs cells slots o k
  obtain ⟨hx, hb, hml, hown, hts, hG, hsz, hfr, hlo, hini⟩ := a
  simp only [xP] at hp
  split at hp
  · next x r =>
    obtain ⟨L2, h1, h2⟩ := Option.map_eq_some_iff.mp hp
    cases h2
    obtain ⟨g1, -, -⟩ := xst2_spec _ _ _ _ h1
    rw [o.2.2.1.2.1] at g1
    cases raw with
    | lstore_n n =>
      simp only [xckp, Bool.and_eq_true, beq_iff_eq] at hk
      obtain ⟨hj, rfl⟩ := hk
      exact lv_lstore_n hx hb hd hj o.2.2.1.has g1 rfl (fun ls' hl' => k ls' _ _ _ _ ⟨o.1, o.2.1, o.2.2.1.st2 h1 hl', o.2.2.2⟩)
    | lstore n =>
      simp only [xckp, Bool.and_eq_true, beq_iff_eq] at hk
      obtain ⟨rfl, rfl⟩ := hk
      exact lv_lstore hx hb hd o.2.2.1.has g1 rfl (fun ls' hl' => k ls' _ _ _ _ ⟨o.1, o.2.1, o.2.2.1.st2 h1 hl', o.2.2.2⟩)
    | _ => simp [xckp] at hk
  · cases hp
theorem x_astore (j : Nat) : xOK (.astore j) := by
  intro p l e R s m args below meth c Q bs bS bM Ls xs cA Dg i h0 a raw len pc L L' st st' h h' hd hk hp hc hs ls H locs cells slots o k
  obtain ⟨hx, hb, hml, hown, hts, hG, hsz, hfr, hlo, hini⟩ := a
  simp only [xP] at hp
  split at hp
  · next x r =>
    obtain ⟨L2, h1, h2⟩ := Option.map_eq_some_iff.mp hp
    cases h2
    obtain ⟨g1, -, -⟩ := xst1_spec _ _ _ _ h1
    rw [o.2.2.1.2.1] at g1
    cases raw with
    | astore_n n =>
      simp only [xckp, Bool.and_eq_true, beq_iff_eq] at hk
      obtain ⟨hj, rfl⟩ := hk
      exact lv_astore_n hx hb hd hj o.2.2.1.has g1 rfl (fun ls' hl' => k ls' _ _ _ _ ⟨o.1, o.2.1, o.2.2.1.st1 h1 hl', o.2.2.2⟩)
    | astore n =>
      simp only [xckp, Bool.and_eq_true, beq_iff_eq] at hk
      obtain ⟨rfl, rfl⟩ := hk
      exact lv_astore hx hb hd o.2.2.1.has g1 rfl (fun ls' hl' => k ls' _ _ _ _ ⟨o.1, o.2.1, o.2.2.1.st1 h1 hl', o.2.2.2⟩)
    | _ => simp [xckp] at hk
  · cases hp
theorem x_iinc (j : Nat) (v : Int) : xOK (.iinc j v) := by
  intro p l e R s m args below meth c Q bs bS bM Ls xs cA Dg i h0 a raw len pc L L' st st' h h' hd hk hp hc hs ls H locs cells slots o k
  obtain ⟨hx, hb, hml, hown, hts, hG, hsz, hfr, hlo, hini⟩ := a
  simp only [xP] at hp
  split at hp
  · next x hx2 =>
    obtain ⟨L2, h1, h2⟩ := Option.map_eq_some_iff.mp hp
    cases h2
    obtain ⟨g1, -, -⟩ := xst1_spec _ _ _ _ h1
    rw [o.2.2.1.2.1] at g1
    cases raw with
    | iinc n w =>
      simp only [xckp, Bool.and_eq_true, beq_iff_eq] at hk
      obtain ⟨rfl, rfl, rfl⟩ := hk
      obtain ⟨d, hd2⟩ := List.getElem?_of_mem ((xprs_mem (ι := xi bs bS bM) L 0 n (.int x)).mpr ⟨n, .int x, by omega, rfl, hx2⟩)
      exact lv_iinc hx hb hd o.2.2.1.has hd2 rfl g1 rfl (fun ls' hl' => k ls' _ _ _ _ ⟨o.1, o.2.1, o.2.2.1.st1 (v := .int (x + Int32.ofInt w)) h1 hl', o.2.2.2⟩)
    | _ => simp [xckp] at hk
  · cases hp
theorem xget_inv {h : xH} {a n : Nat} {v : Value} (e : xget h a n = some v) : ∃ fs, h[a]? = some (.inr (n / 32, fs)) ∧ fs[n % 32]? = some v := by
  unfold xget at e
  split at e
  · next c fs hc =>
    split at e
    · next hn => subst hn; exact ⟨fs, hc, e⟩
    · cases e
  · cases e
theorem xput_inv {h h' : xH} {a n : Nat} {v : Value} (e : xput h a n v = some h') : ∃ fs, h[a]? = some (.inr (n / 32, fs)) ∧ n % 32 < fs.length ∧ xfit (xkd (n / 32) (n % 32)) v = true ∧ h' = h.set a (.inr (n / 32, fs.set (n % 32) v)) := by
  unfold xput at e
  split at e
  · next c fs hc =>
    split at e
    · next hn => obtain ⟨rfl, h2, h3⟩ := hn; cases e; exact ⟨fs, hc, h2, h3, rfl⟩
    · cases e
  · cases e
theorem x_getfield (n : Nat) : xOK (.getfield n) := by
  intro p l e R s m args below meth c Q bs bS bM Ls xs cA Dg i h0 a raw len pc L L' st st' h h' hd hk hp hc hs ls H locs cells slots o k
  obtain ⟨hx, hb, hml, hown, hts, hG, hsz, hfr, hlo, hini⟩ := a
  simp only [xP] at hp
  split at hp
  · next q r =>
    obtain ⟨v, h1, h2⟩ := Option.map_eq_some_iff.mp hp
    cases h2
    obtain ⟨fs, g1, g2⟩ := xget_inv h1
    cases raw with
    | getfield idx =>
      simp only [xckp, Bool.and_eq_true, beq_iff_eq] at hk
      obtain ⟨rfl, hf⟩ := hk
      obtain ⟨w1, w2, w3⟩ := xFL_in hf
      have h2 := o.1.obj g1
      rw [List.map_cons, xv, xi_ge h2]
      exact va_get (D := Dg) (tys := []) (C := (xcl (n / 32)).1) (T := (xcl (n / 32)).2.1) (N := (xcl (n / 32)).2.2) (ci := n / 32) hx hb hts (xcl_words w2) hown hG.1 o.1.1 (q - 2) (xw_get h2 g1) (xcl_get w2) (n % 32) w3 (hts _ w1) (fun _ z => z) (v := xv (xi bs bS bM) v) (by rw [List.getElem?_map, g2]; rfl) hd (k _ _ _ _ _ o)
    | _ => simp [xckp] at hk
  · cases hp
theorem x_putfield (n : Nat) : xOK (.putfield n) := by
  intro p l e R s m args below meth c Q bs bS bM Ls xs cA Dg i h0 a raw len pc L L' st st' h h' hd hk hp hc hs ls H locs cells slots o k
  obtain ⟨hx, hb, hml, hown, hts, hG, hsz, hfr, hlo, hini⟩ := a
  simp only [xP] at hp
  split at hp
  · next v q r =>
    obtain ⟨h2, h1, e2⟩ := Option.map_eq_some_iff.mp hp
    cases e2
    obtain ⟨fs, g1, g2, g3, g4⟩ := xput_inv h1
    subst g4
    cases raw with
    | putfield idx =>
      simp only [xckp, Bool.and_eq_true, beq_iff_eq, Bool.or_eq_true] at hk
      obtain ⟨rfl, hf, hfin⟩ := hk
      obtain ⟨w1, w2, w3⟩ := xFL_in hf
      have h2 := o.1.obj g1
      obtain ⟨t1, t2, t3, t4⟩ := xcl_facts w2
      obtain ⟨u1, u2⟩ := xkok_fit (ι := xi bs bS bM) (t2 _ w3) g3
      have hk2 : ∀ (H1 : Heap) (locs1 : List Loc), va_P Dg vwCl ((xw bs (xi bs bS bM) cA h).set (q - 2) (bs + (q - 2), .inr (n / 32, (fs.map (xv (xi bs bS bM))).set (n % 32) (xv (xi bs bS bM) v)))) H1 → va_D (fun q => bs ≤ q) ((xw bs (xi bs bS bM) cA h).set (q - 2) (bs + (q - 2), .inr (n / 32, (fs.map (xv (xi bs bS bM))).set (n % 32) (xv (xi bs bS bM) v)))) → va_S (fun q => bs ≤ q) s.heap H1 locs1 → W p l e R s m args below meth c H1 locs1 cells slots Q (F0 m (pc + 3) ls (st'.map (xv (xi bs bS bM)))) := by
        intro H1 locs1 a1 a2 a3
        refine k _ _ _ _ _ (o.set (c := .inr (n / 32, fs.set (n % 32) v)) h2 g1 ?_ ?_ a1 a3)
        · simp [xsl]
        · simp [xce, List.map_set]
      rw [List.map_cons, List.map_cons, xv.eq_1, xi_ge h2]
      by_cases hff : (xfd n).2.2.2 = true
      · have hfin2 := hfin.resolve_left (by simp [hff])
        exact va_putF (D := Dg) (tys := []) (C := (xcl (n / 32)).1) (T := (xcl (n / 32)).2.1) (N := (xcl (n / 32)).2.2) (ci := n / 32) hx hb hts (xcl_words w2) (xtyf (n / 32)) t1 t3 hown hG.1 o.1.1 xw_D o.2.1 (q - 2) (xw_get h2 g1) (xcl_get w2) (n % 32) w3 (hts _ w1) (fun _ z => z) hff (hini hfin2.1) hfin2.2 (t1 _ w3) u1 u2 (by rw [List.length_map]; exact g2) hd hk2
      · exact va_put (D := Dg) (tys := []) (C := (xcl (n / 32)).1) (T := (xcl (n / 32)).2.1) (N := (xcl (n / 32)).2.2) (ci := n / 32) hx hb hts (xcl_words w2) (xtyf (n / 32)) t1 t3 hown hG.1 o.1.1 xw_D o.2.1 (q - 2) (xw_get h2 g1) (xcl_get w2) (n % 32) w3 (hts _ w1) (fun _ z => z) (show (xfd n).2.2.2 = false by simpa using hff) (t1 _ w3) u1 u2 (by rw [List.length_map]; exact g2) hd hk2
    | _ => simp [xckp] at hk
  · cases hp
