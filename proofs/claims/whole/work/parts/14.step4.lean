/-! ===== new cells, copies, the rest ===== -/
set_option maxRecDepth 100000 in
theorem xac_int : Jvm.Cond.arrayClass .int ∈ xT := xat_in (p := 141) (by decide +kernel)
set_option maxRecDepth 100000 in
theorem xac_long : Jvm.Cond.arrayClass .long ∈ xT := xat_in (p := 253) (by decide +kernel)
set_option maxRecDepth 100000 in
theorem xac_boolean : Jvm.Cond.arrayClass .boolean ∈ xT := xat_in (p := 848) (by decide +kernel)
set_option maxRecDepth 100000 in
theorem xoi_inst : Jvm.Cond.instanceMethod objectInit ∈ xT := xat_in (p := 92) (by decide +kernel)
set_option maxRecDepth 100000 in
theorem xoi_code : Jvm.Cond.code objectInit ⟨#[0xb1]⟩ 1 none ∈ xT := List.mem_filter.mpr ⟨List.mem_of_getElem? (i := 93) rfl, rfl⟩
set_option maxRecDepth 100000 in
theorem xsy_nat : Jvm.Cond.native arraycopyName ∈ xT := xat_in (p := 360) (by decide +kernel)
set_option maxRecDepth 100000 in
theorem xsy_stat : Jvm.Cond.static arraycopyName ∈ xT := xat_in (p := 359) (by decide +kernel)
set_option maxRecDepth 100000 in
theorem xsy_init : Jvm.Cond.initialized "java/lang/System" ∈ xT := xat_in (p := 83) (by decide +kernel)
set_option maxRecDepth 100000 in
theorem xmc_link : Jvm.Cond.fieldLinkNest "DrawnFields$State" 66 "DrawnFields" "MOST_C" "[I" "DrawnFields" ∈ xNW := List.mem_filter.mpr ⟨List.mem_of_getElem? (i := 452) (by decide +kernel), rfl⟩
theorem xML_in {o k j d : Nat} (h : xhasM o k j d = true) : (j = 1000 → Jvm.Cond.methodLink (xcn o) k objectInit ∈ xT) ∧ (j = 1001 → Jvm.Cond.methodLink (xcn o) k arraycopyName ∈ xT) ∧ (j < 1000 → d < 3 → Jvm.Cond.methodLink (xcn o) k (xyn j) ∈ xT) ∧ (j < 1000 → ¬ d < 3 → Jvm.Cond.methodLinkNest (xcn o) k (xyn j) "DrawnFields" ∈ xNW) := by
  obtain ⟨q, hq, h2⟩ := List.any_eq_true.mp h
  simp only [Bool.and_eq_true, beq_iff_eq] at h2
  obtain ⟨rfl, rfl, rfl, rfl⟩ := h2
  have h3 := List.all_eq_true.mp xML_ok q hq
  unfold xMLw at h3
  refine ⟨fun e => ?_, fun e => ?_, fun e e2 => ?_, fun e e2 => ?_⟩
  · rw [if_pos e] at h3
    exact xat_in h3
  · rw [if_neg (by omega), if_pos e] at h3
    exact xat_in h3
  · rw [if_neg (by omega), if_neg (by omega), if_pos e2] at h3
    exact xat_in h3
  · rw [if_neg (by omega), if_neg (by omega), if_neg e2] at h3
    have h4 : lw_tbl[q.2.2.2.2]? = some (.methodLinkNest (xcn q.1) q.2.1 (xyn q.2.2.1) "DrawnFields") := of_decide_eq_true h3
    exact List.mem_filter.mpr ⟨List.mem_of_getElem? h4, rfl⟩
theorem xRA_fc {U : State} {c1 c2 : ClassId} {t : FieldType} (h1 : va_RA U c1 t) (h2 : va_RA U c2 t) : c1 = c2 := by
  cases t with
  | object C =>
    obtain ⟨_, _, _, _, _, e1⟩ := h1
    obtain ⟨_, _, _, _, _, e2⟩ := h2
    exact Option.some.inj (e1.symm.trans e2)
  | _ =>
    have e1 : U.vm.findClass _ = some c1 := h1
    have e2 : U.vm.findClass _ = some c2 := h2
    exact Option.some.inj (e1.symm.trans e2)
theorem x_newarray (t : ArrayType) : xOK (.newarray t) := by
  intro p l e R s m args below meth c Q bs bS bM Ls xs cA Dg i h0 a raw len pc L L' st st' h h' hd hk hp hc hs ls H locs cells slots o k
  obtain ⟨hx, hb, hml, hown, hts, hG, hsz, hfr, hlo, hini⟩ := a
  simp only [xP] at hp
  split at hp
  · next n r =>
    obtain ⟨h2, h1, e2⟩ := Option.map_eq_some_iff.mp hp
    cases e2
    have h2l := o.1.two
    unfold xnewa at h1
    split at h1
    · next hcnd =>
      obtain ⟨c1, c2, c3⟩ := hcnd
      have hn0 : ¬ n < 0 := Int32.not_lt.mpr c1
      cases raw with
      | newarray u =>
        simp only [xckp, Bool.and_eq_true, beq_iff_eq, decide_eq_true_eq] at hk
        obtain ⟨rfl, rfl⟩ := hk
        have hA : ∀ q : Nat, s.heap.size ≤ q → (fun q => bs ≤ q) q := fun q hq => Nat.le_trans hG.2.2.2.2.2.2.2.2 hq
        have fin : ∀ (ty : FieldType) (tg : Nat) (a0 : vp_A) (q : Nat) (c9 : ClassId) (H1 : Heap), xty tg = ty → xkt tg = true → h' = h ++ [.inl (tg, a0)] → xar (xi bs bS bM) a0 = a0 → a0.1 = n.toNatClampNeg → va_K Dg vwCl ([] ++ [(c9, ty)]) s → va_P Dg vwCl (xw bs (xi bs bS bM) cA h ++ [(q, .inl (c9, a0))]) H1 → va_D (fun q => bs ≤ q) (xw bs (xi bs bS bM) cA h ++ [(q, .inl (c9, a0))]) → va_S (fun q => bs ≤ q) s.heap H1 locs → W p l e R s m args below meth c H1 locs (cells + 1) (slots + n.toNatClampNeg) Q (F0 m (pc + 2) ls (.ref q :: r.map (xv (xi bs bS bM)))) := by
          intro ty tg a0 q c9 H1 e1 e2 e3 e4 e5 aK aP aD aS
          refine xW_size (fun hz => ?_)
          have hq := xnew_at aP aD (by have := o.2.2.2.1; omega)
          have hc9 : c9 = cA tg := xRA_fc (aK.2 0 (c9, ty) rfl).2 (e1 ▸ (hG.2.1 tg e2).2)
          subst hq
          subst hc9
          subst e3
          have := k ls H1 locs (cells + 1) (slots + n.toNatClampNeg) (o.push (c := .inl (tg, a0)) (e := .inl (cA tg, a0)) e5 (by simp [xce, e4]) aP aS)
          rw [List.map_cons, xv, xi_ge h2l] at this
          exact this
        have hcell : h'.length = h.length + 1 → cells + 1 ≤ R.cells := fun e => by have := o.2.2.2.1; omega
        have hslot : xslo h' = xslo h + n.toNatClampNeg → slots + n.toNatClampNeg ≤ R.slots := fun e => by have := o.2.2.2.2; omega
        cases t with
        | int =>
          have e9 := (Option.some.inj h1).symm
          exact va_newa (D := Dg) (cl := vwCl) (tys := []) (atype := .int) (ty := .int) (a0 := (n.toNatClampNeg, .inl (fun _ => 0))) hx hb (hts _ xac_int) rfl hG.1 o.1.1 xw_D o.2.1 hA (fun _ => rfl) hn0 rfl (Nat.le_trans (Nat.mul_le_mul_right _ c2) (by decide)) (hcell (by rw [e9]; simp)) (hslot (by rw [e9, xslo_push]; rfl)) hd (fun q c9 H1 aK aP aD aS => fin .int 0 _ q c9 H1 rfl rfl e9 rfl rfl aK aP aD aS)
        | long =>
          have e9 := (Option.some.inj h1).symm
          exact va_newa (D := Dg) (cl := vwCl) (tys := []) (atype := .long) (ty := .long) (a0 := (n.toNatClampNeg, .inr (.inl (fun _ => 0)))) hx hb (hts _ xac_long) rfl hG.1 o.1.1 xw_D o.2.1 hA (fun _ => rfl) hn0 rfl (Nat.le_trans (Nat.mul_le_mul_right _ c2) (by decide)) (hcell (by rw [e9]; simp)) (hslot (by rw [e9, xslo_push]; rfl)) hd (fun q c9 H1 aK aP aD aS => fin .long 1 _ q c9 H1 rfl rfl e9 rfl rfl aK aP aD aS)
        | boolean =>
          have e9 := (Option.some.inj h1).symm
          exact va_newa (D := Dg) (cl := vwCl) (tys := []) (atype := .boolean) (ty := .boolean) (a0 := (n.toNatClampNeg, .inl (fun _ => 0))) hx hb (hts _ xac_boolean) rfl hG.1 o.1.1 xw_D o.2.1 hA (fun _ => rfl) hn0 rfl (Nat.le_trans (Nat.mul_le_mul_right _ c2) (by decide)) (hcell (by rw [e9]; simp)) (hslot (by rw [e9, xslo_push]; rfl)) hd (fun q c9 H1 aK aP aD aS => fin .boolean 2 _ q c9 H1 rfl rfl e9 rfl rfl aK aP aD aS)
        | _ => cases h1
      | _ => simp [xckp] at hk
    · cases h1
  · cases hp
theorem x_anewarray (d : Nat) : xOK (.anewarray d) := by
  intro p l e R s m args below meth c Q bs bS bM Ls xs cA Dg i h0 a raw len pc L L' st st' h h' hd hk hp hc hs ls H locs cells slots o k
  obtain ⟨hx, hb, hml, hown, hts, hG, hsz, hfr, hlo, hini⟩ := a
  simp only [xP] at hp
  split at hp
  · next n r =>
    obtain ⟨h2, h1, e2⟩ := Option.map_eq_some_iff.mp hp
    cases e2
    have h2l := o.1.two
    unfold xanew at h1
    split at h1
    · next hcnd =>
      obtain ⟨c1, c2, c3, c4⟩ := hcnd
      have hn0 : ¬ n < 0 := Int32.not_lt.mpr c1
      cases raw with
      | anewarray u =>
        simp only [xckp, Bool.and_eq_true, beq_iff_eq, decide_eq_true_eq] at hk
        obtain ⟨rfl, hC, hd10⟩ := hk
        have hA : ∀ q : Nat, s.heap.size ≤ q → (fun q => bs ≤ q) q := fun q hq => Nat.le_trans hG.2.2.2.2.2.2.2.2 hq
        have e9 := (Option.some.inj h1).symm
        obtain ⟨t1, t2, t3, t4⟩ := xra_ty c4
        rw [show 10 + d - 10 = d by omega] at t3
        have hAO := hG.2.2.2.1 (10 + d) c4
        rw [show 10 + d - 10 = d by omega] at hAO
        have hlen1 : h'.length = h.length + 1 := by rw [e9]; simp
        have hslo1 : xslo h' = xslo h + n.toNatClampNeg := by rw [e9, xslo_push]; rfl
        have hc1 : cells + 1 ≤ R.cells := by have := o.2.2.2.1; omega
        have hs1 : slots + n.toNatClampNeg ≤ R.slots := by have := o.2.2.2.2; omega
        refine va_newq (D := Dg) (cl := vwCl) (tys := []) (C := (xcl d).1) hx hb hown (hts _ (xCL_in hC)) hAO hG.1 o.1.1 xw_D o.2.1 hA hn0 rfl (Nat.le_trans (Nat.mul_le_mul_right _ c2) (by decide)) hc1 hs1 hd (fun q c9 H1 aK aP aD aS => ?_)
        refine xW_size (fun hz => ?_)
        have hq := xnew_at aP aD (by have := o.2.2.2.1; omega)
        have hc9 : c9 = cA (10 + d) := xRA_fc (aK.2 0 (c9, _) rfl).2 (t3 ▸ (hG.2.1 (10 + d) t1).2)
        subst hq
        subst hc9
        subst e9
        have := k ls H1 locs (cells + 1) (slots + n.toNatClampNeg) (o.push (c := .inl (10 + d, n.toNatClampNeg, .inr (.inr (.inr (.inr (fun _ => none)))))) (e := .inl (cA (10 + d), n.toNatClampNeg, .inr (.inr (.inr (.inr (fun _ => none)))))) rfl rfl aP aS)
        rw [List.map_cons, xv, xi_ge h2l] at this
        exact this
      | _ => simp [xckp] at hk
    · cases h1
  · cases hp
theorem x_new (d : Nat) : xOK (.new d) := by
  intro p l e R s m args below meth c Q bs bS bM Ls xs cA Dg i h0 a raw len pc L L' st st' h h' hd hk hp hc hs ls H locs cells slots o k
  obtain ⟨hx, hb, hml, hown, hts, hG, hsz, hfr, hlo, hini⟩ := a
  simp only [xP] at hp
  obtain ⟨h2, h1, e2⟩ := Option.map_eq_some_iff.mp hp
  cases e2
  have h2l := o.1.two
  unfold xnewo at h1
  split at h1
  · next c3 =>
    obtain ⟨ks, g1, g2⟩ := Option.map_eq_some_iff.mp h1
    have e9 := g2.symm
    cases raw with
    | new u =>
      simp only [xckp, Bool.and_eq_true, beq_iff_eq, decide_eq_true_eq] at hk
      obtain ⟨rfl, hC, hd10⟩ := hk
      have hA : ∀ q : Nat, s.heap.size ≤ q → (fun q => bs ≤ q) q := fun q hq => Nat.le_trans hG.2.2.2.2.2.2.2.2 hq
      obtain ⟨t1, t2, t3, t4⟩ := xcl_facts hd10
      obtain ⟨i1, i2⟩ := xcl_inst hd10
      have eks : xkinds.getD d [] = ks := by rw [List.getD_eq_getElem?_getD, g1]; rfl
      rw [eks] at t4
      have hfs : ∀ j, j < (xcl d).2.2 → defaultValue (xtyf d j) = vp_V (ks.map xdef) j := by
        intro j hj
        rw [xkok_def (t2 j hj)]
        unfold xkd
        rw [eks]
        have hj2 : j < ks.length := by omega
        simp [vp_V, hj2]
      have hlen1 : h'.length = h.length + 1 := by rw [e9]; simp
      have hslo1 : xslo h' = xslo h + (xcl d).2.2 := by rw [e9, xslo_push, ← t4]; simp [xsl]
      have hc1 : cells + 1 ≤ R.cells := by have := o.2.2.2.1; omega
      have hs1 : slots + (xcl d).2.2 ≤ R.slots := by have := o.2.2.2.2; omega
      refine va_new (D := Dg) (cl := vwCl) (tys := []) (ci := d) (C := (xcl d).1) (T := (xcl d).2.1) (N := (xcl d).2.2) (fs := ks.map xdef) hx hb hts (xcl_words hd10) (xtyf d) t1 hown (hts _ (xCL_in hC)) (hts _ i2) (hts _ i1) hG.1 o.1.1 xw_D o.2.1 hA (xcl_get hd10) hfs hc1 hs1 hd (fun q H1 aP aD aS => ?_)
      refine xW_size (fun hz => ?_)
      have hq := xnew_at aP aD (by have := o.2.2.2.1; omega)
      subst hq
      subst e9
      have := k ls H1 locs (cells + 1) (slots + (xcl d).2.2) (o.push (c := .inr (d, ks.map xdef)) (e := .inr (d, ks.map xdef)) (by simp [xsl, t4]) (by
        simp only [xce, List.map_map]
        congr 2
        apply List.map_congr_left
        intro z _
        unfold xdef
        simp only [Function.comp]
        split <;> rfl) aP aS)
      rw [List.map_cons, xv, xi_ge h2l] at this
      exact this
    | _ => simp [xckp] at hk
  · cases h1
theorem x_pop : xOK .pop := by
  intro p l e R s m args below meth c Q bs bS bM Ls xs cA Dg i h0 a raw len pc L L' st st' h h' hd hk hp hc hs ls H locs cells slots o k
  obtain ⟨hx, hb, hml, hown, hts, hG, hsz, hfr, hlo, hini⟩ := a
  simp only [xP] at hp
  split at hp
  · next q r =>
    split at hp
    · next hr4 =>
      cases hp
      cases raw with
      | invokespecial idx =>
        simp only [xckp, Bool.and_eq_true, beq_iff_eq, decide_eq_true_eq] at hk
        obtain ⟨rfl, hM, f1, f2⟩ := hk
        refine W.objInit hx hb hown (hts _ ((xML_in hM).1 rfl)) (hts _ xoi_inst) (hts _ xoi_code) rfl (by rw [hml]; exact o.2.2.1.1) rfl hd (by omega) ?_ ?_
        · have : ∀ (l : List Value), (l.map fun v => v.category).sum ≤ 2 * l.length := by
            intro l
            induction l with
            | nil => simp
            | cons v l ih =>
              simp only [List.map_cons, List.sum_cons, List.length_cons]
              have := lv_cat v
              omega
          have h5 := this (st'.map (xv (xi bs bS bM)))
          rw [List.length_map] at h5
          show 2 * 0 + _ + 12 ≤ _
          omega
        · exact k _ _ _ _ _ o
      | _ => simp [xckp] at hk
    · cases hp
  · cases hp
theorem x_getstatic (n : Nat) : xOK (.getstatic n) := by
  intro p l e R s m args below meth c Q bs bS bM Ls xs cA Dg i h0 a raw len pc L L' st st' h h' hd hk hp hc hs ls H locs cells slots o k
  obtain ⟨hx, hb, hml, hown, hts, hG, hsz, hfr, hlo, hini⟩ := a
  simp only [xP] at hp
  cases hp
  cases raw with
  | getstatic idx =>
    simp only [xckp, Bool.and_eq_true, beq_iff_eq] at hk
    obtain ⟨rfl, -, rfl, ho⟩ := hk
    rw [ho] at hown
    exact va_getsN hx hb hG.2.2.2.2.1 o.2.1 hown (va_Nw.use rfl (hG.2.2.1 _ xmc_link)) (fun _ z => z) hd (k _ _ _ _ _ o)
  | _ => simp [xckp] at hk
theorem xc1_cat {ι : Nat → Nat} {v : Value} (h : xc1 v = true) : (xv ι v).category = 1 := by
  rw [xv_cat]
  cases v <;> first | rfl | cases h
theorem x_dup : xOK .dup := by
  intro p l e R s m args below meth c Q bs bS bM Ls xs cA Dg i h0 a raw len pc L L' st st' h h' hd hk hp hc hs ls H locs cells slots o k
  obtain ⟨hx, hb, hml, hown, hts, hG, hsz, hfr, hlo, hini⟩ := a
  simp only [xP] at hp
  obtain ⟨st2, h1, h2⟩ := Option.map_eq_some_iff.mp hp
  cases h2
  obtain ⟨rfl, rfl⟩ := xsimple hk rfl
  unfold xdup at h1
  split at h1
  · split at h1
    · next hv => cases h1; exact lv_dup hx hb hd (xc1_cat hv) (k _ _ _ _ _ o)
    · cases h1
  · cases h1
theorem x_dup2 : xOK .dup2 := by
  intro p l e R s m args below meth c Q bs bS bM Ls xs cA Dg i h0 a raw len pc L L' st st' h h' hd hk hp hc hs ls H locs cells slots o k
  obtain ⟨hx, hb, hml, hown, hts, hG, hsz, hfr, hlo, hini⟩ := a
  simp only [xP] at hp
  obtain ⟨st2, h1, h2⟩ := Option.map_eq_some_iff.mp hp
  cases h2
  obtain ⟨rfl, rfl⟩ := xsimple hk rfl
  unfold xdup2 at h1
  split at h1
  · cases h1; exact lv_dup2_2 hx hb hd rfl (k _ _ _ _ _ o)
  · split at h1
    · next hv =>
      cases h1
      rw [Bool.and_eq_true] at hv
      exact lv_dup2_11 hx hb hd (xc1_cat hv.1) (xc1_cat hv.2) (k _ _ _ _ _ o)
    · cases h1
  · cases h1
theorem x_nop : xOK .nop := by
  intro p l e R s m args below meth c Q bs bS bM Ls xs cA Dg i h0 a raw len pc L L' st st' h h' hd hk hp hc hs ls H locs cells slots o k
  obtain ⟨hx, hb, hml, hown, hts, hG, hsz, hfr, hlo, hini⟩ := a
  simp only [xP] at hp
  split at hp
  · next n dp d sp q r =>
    split at hp
    · next hr =>
      subst hr
      obtain ⟨h2, h1, e2⟩ := Option.map_eq_some_iff.mp hp
      cases e2
      cases raw with
      | invokestatic idx =>
        simp only [xckp, Bool.and_eq_true, beq_iff_eq, decide_eq_true_eq] at hk
        obtain ⟨rfl, hM, f1, f2⟩ := hk
        unfold xcopy at h1
        split at h1
        · next hcnd =>
          obtain ⟨b1, b2, b3, b4, b5⟩ := hcnd
          have hloc : (([] : List Value).map fun v => v.category).sum + (nativeFrameWords "java/lang/System" "arraycopy" 5 + 11) ≤ R.locals := by
            have : (([] : List Value).map fun v => v.category).sum + (nativeFrameWords "java/lang/System" "arraycopy" 5 + 11) = 18 := by decide
            omega
          have hl1 := hts _ ((xML_in hM).2.1 rfl)
          split at h1
          · next n0 f n1 g g1 g2 =>
            split at h1
            · next hb4 =>
              cases h1
              rw [List.map_cons, List.map_cons, List.map_cons, List.map_cons, List.map_cons, xv.eq_1, xv.eq_1, xi_ge b4, xi_ge b5]
              exact va_copyi (D := Dg) (cl := vwCl) (ty := .int) hx hb (by rw [hml]; exact o.2.2.1.1.symm) hown hl1 (hts _ xsy_nat) (hts _ xsy_stat) (hts _ xsy_init) (hG.K 0 rfl) o.1.1 xw_D o.2.1 (q - 2) (d - 2) 0 0 (xw_get b4 g1) (xw_get b5 g2) rfl rfl rfl (Int32.not_lt.mpr b1) (Int32.not_lt.mpr b2) (Int32.not_lt.mpr b3) hb4.1 hb4.2 (fun _ _ => rfl) (by omega) hloc hd (fun H1 locs1 a1 a2 a3 => k _ _ _ _ _ (o.set (c := .inl (0, n1, .inl (va_cpy f g sp.toNatClampNeg dp.toNatClampNeg n.toNatClampNeg))) b5 g2 rfl rfl a1 a3))
            · cases h1
          · next n0 f n1 g g1 g2 =>
            split at h1
            · next hb4 =>
              cases h1
              rw [List.map_cons, List.map_cons, List.map_cons, List.map_cons, List.map_cons, xv.eq_1, xv.eq_1, xi_ge b4, xi_ge b5]
              exact va_copyl (D := Dg) (cl := vwCl) (ty := .long) hx hb (by rw [hml]; exact o.2.2.1.1.symm) hown hl1 (hts _ xsy_nat) (hts _ xsy_stat) (hts _ xsy_init) (hG.K 1 rfl) o.1.1 xw_D o.2.1 (q - 2) (d - 2) 0 0 (xw_get b4 g1) (xw_get b5 g2) rfl rfl rfl (Int32.not_lt.mpr b1) (Int32.not_lt.mpr b2) (Int32.not_lt.mpr b3) hb4.1 hb4.2 (fun _ _ => rfl) (by omega) hloc hd (fun H1 locs1 a1 a2 a3 => k _ _ _ _ _ (o.set (c := .inl (1, n1, .inr (.inl (va_cpy f g sp.toNatClampNeg dp.toNatClampNeg n.toNatClampNeg)))) b5 g2 rfl rfl a1 a3))
            · cases h1
          · cases h1
        · cases h1
      | _ => simp [xckp] at hk
    · cases hp
  · cases hp
/-- every instruction that neither jumps nor calls -/
theorem xP_ok (ins : Instr) : xOK ins := by
  cases ins with
  | iconst v => exact x_iconst v
  | sipush v => exact x_sipush v
  | iload j => exact x_iload j
  | lload j => exact x_lload j
  | aload j => exact x_aload j
  | istore j => exact x_istore j
  | lstore j => exact x_lstore j
  | astore j => exact x_astore j
  | iinc j v => exact x_iinc j v
  | getfield n => exact x_getfield n
  | putfield n => exact x_putfield n
  | getstatic n => exact x_getstatic n
  | newarray t => exact x_newarray t
  | anewarray d => exact x_anewarray d
  | new d => exact x_new d
  | nop => exact x_nop
  | pop => exact x_pop
  | dup => exact x_dup
  | dup2 => exact x_dup2
  | iaload => exact x_iaload
  | baload => exact x_baload
  | laload => exact x_laload
  | aaload => exact x_aaload
  | iastore => exact x_iastore
  | bastore => exact x_bastore
  | lastore => exact x_lastore
  | aastore => exact x_aastore
  | arraylength => exact x_arraylength
  | iadd => exact x_iadd
  | isub => exact x_isub
  | imul => exact x_imul
  | idiv => exact x_idiv
  | irem => exact x_irem
  | iand => exact x_iand
  | ior => exact x_ior
  | ixor => exact x_ixor
  | ishl => exact x_ishl
  | ishr => exact x_ishr
  | iushr => exact x_iushr
  | ladd => exact x_ladd
  | lsub => exact x_lsub
  | lmul => exact x_lmul
  | ldiv => exact x_ldiv
  | lrem => exact x_lrem
  | land => exact x_land
  | lor => exact x_lor
  | lxor => exact x_lxor
  | lshl => exact x_lshl
  | lshr => exact x_lshr
  | lushr => exact x_lushr
  | lcmp => exact x_lcmp
  | i2l => exact x_i2l
  | l2i => exact x_l2i
  | _ =>
    intro p l e R s m args below meth c Q bs bS bM Ls xs cA Dg i h0 a raw len pc L L' st st' h h' hd hk hp hc hs ls H locs cells slots o k
    simp [xP] at hp
