/-! ===== soundness: what the abstract machine answers, the machine answers ===== -/
/-- a return instruction that fits the method and the answer -/
def xretok (i : Nat) (raw : Instr) (v : Option Value) : Prop :=
  (raw = .ireturn ∧ xrt i = some .int ∧ ∃ x, v = some (.int x)) ∨ (raw = .ireturn ∧ xrt i = some .boolean ∧ ∃ x, v = some (.int x) ∧ (x = 0 ∨ x = 1)) ∨ (raw = .lreturn ∧ xrt i = some .long ∧ ∃ x, v = some (.long x)) ∨ (raw = .return_ ∧ xrt i = none ∧ v = none)
/-- what is taken of a method's end -/
def xRet (bs bS bM Ls : Nat) (xs : Nat → Int32) (cA : Nat → ClassId) (Dg : va_G) (i : Nat) (h0 : xH) (v : Option Value) (h' : xH) (p : Program) (l : Launch) (e : Env) (R : Room) (s : State) (m : MethodId) (args : Array Value) (below : List Frame) (meth : Method) (c : Code) (Q : State → Prop) : Prop :=
  ∀ (pc : Nat) (raw : Instr) (ls : Array Slot) (H : Heap) (locs : List Loc) (cells slots : Nat), xRel bs bS bM Ls xs cA Dg h' H → va_S (fun q => bs ≤ q) s.heap H locs → cells + h0.length = h'.length → slots + xslo h0 = xslo h' → decode (xby i) pc = .ok (raw, 1) → xretok i raw v → W p l e R s m args below meth c H locs cells slots Q (F0 m pc ls (v.toList.map (xv (xi bs bS bM))))
def xSound (n : Nat) : Prop := ∀ (i pc : Nat) (L : xL) (st : xS) (h : xH) (v : Option Value) (h' : xH), xF n i pc L st h = some (v, h') →
  ∀ {p : Program} {l : Launch} {e : Env} {R : Room} {s : State} {m : MethodId} {args : Array Value} {below : List Frame} {meth : Method} {c : Code} {Q : State → Prop} {bs bS bM Ls : Nat} {xs : Nat → Int32} {cA : Nat → ClassId} {Dg : va_G} {h0 : xH},
  xAct bs bS bM Ls xs cA Dg i h0 p R s m args meth c → h'.length ≤ h0.length + R.cells → xslo h' ≤ xslo h0 + R.slots → xRet bs bS bM Ls xs cA Dg i h0 v h' p l e R s m args below meth c Q →
  ∀ {ls : Array Slot} {H : Heap} {locs : List Loc} {cells slots : Nat}, xOn bs bS bM Ls xs cA Dg i h0 s L h ls H locs cells slots → W p l e R s m args below meth c H locs cells slots Q (F0 m pc ls (st.map (xv (xi bs bS bM))))
/-- a method's contract: what stands before and behind a run from heap h to h' -/
def xPre (bs bS bM Ls : Nat) (xs : Nat → Int32) (cA : Nat → ClassId) (Dg : va_G) (h : xH) (as : List Value) : Array Value → State → Prop :=
  va_Pc as (fun U => xG bs bS bM Ls xs cA Dg U U.heap ∧ xRel bs bS bM Ls xs cA Dg h U.heap ∧ U.heap.size ≤ bs + (h.length - 2))
def xPost (bs bS bM Ls : Nat) (xs : Nat → Int32) (cA : Nat → ClassId) (Dg : va_G) (h' : xH) (v : Option Value) : Array Value → State → Outcome → State → Prop :=
  fun _ st oc t => oc = .returned (v.map (xv (xi bs bS bM))) ∧ xRel bs bS bM Ls xs cA Dg h' t.heap ∧ st.heap.size ≤ t.heap.size ∧ ∀ q : Nat, q < st.heap.size → ¬ bs ≤ q → t.heap[q]? = st.heap[q]?
theorem xMWi {j : Nat} (hj : j < 188) : xMWw j = true := List.all_eq_true.mp xMW_ok j (List.mem_range.mpr hj)
theorem xMWf {j : Nat} (hj : j < 188) : ((xmw j).2.2.2.2 = true → Jvm.Cond.static (xyn j) ∈ xT) ∧ ((xmw j).2.2.2.2 = false → Jvm.Cond.instanceMethod (xyn j) ∈ xT) ∧ ((xmw j).2.2.2.2 = false → xinit j = false → Jvm.Cond.selects (xcn (xon j)) (xyn j) (xyn j) ∈ xT) ∧ (parseMethodDescriptor (xyn j).desc).map (fun d => d.parameters.length) = some (xnp j) ∧ xcn (xon j) = (xyn j).cls ∧ plainName (xyn j).cls = true ∧ (xyn j).cls ≠ "java/lang/invoke/MethodHandle" ∧ (xyn j).cls ≠ "java/lang/invoke/VarHandle" ∧ xon j < 12 := by
  have h := xMWi hj
  unfold xMWw at h
  simp only [Bool.and_eq_true, decide_eq_true_eq] at h
  obtain ⟨⟨⟨⟨⟨⟨⟨h1, h2⟩, h3⟩, h4⟩, h5⟩, h6⟩, h7⟩, h8⟩ := h
  refine ⟨fun e => ?_, fun e => ?_, fun e e2 => ?_, h3, h4, h5, h6, h7, h8⟩
  · rw [e] at h1; exact xat_in h1
  · rw [e] at h1; exact xat_in h1
  · unfold xinit at e2
    rw [e, e2] at h2
    exact xat_in (by simpa using h2)
theorem xgood {j : Nat} (hj : j < 188) : GoodIn xT (xcw j :: xT) := by
  intro w hw
  have hm : w ∈ xT := (List.mem_cons.mp hw).elim (fun e => by rw [e]; exact xcode_in hj) id
  exact ⟨hm, good_of_word (List.mem_filter.mp hm).2⟩
theorem xinitd {j : Nat} (hj : j < 188) : Jvm.Cond.initialized (xyn j).cls ∈ xT := by
  obtain ⟨-, -, -, -, h4, -, -, -, h8⟩ := xMWf hj
  have h1 := List.all_eq_true.mp xCW_ok (xon j) (List.mem_range.mpr (by omega))
  simp only [Bool.and_eq_true] at h1
  rw [← h4]
  exact xat_in h1.1
set_option maxRecDepth 100000 in
theorem xinit_rts : (List.range 188).all (fun j => !xinit j || decide (xrt j = none)) = true := by decide +kernel
theorem xinit_rt {j : Nat} (hj : j < 188) (h : xinit j = true) : xrt j = none := by
  have := List.all_eq_true.mp xinit_rts j (List.mem_range.mpr hj)
  rw [h] at this
  simpa using this
/-- METHODS: from the runs of its body -/
theorem xMet {n : Nat} (IH : xSound n) {l : Launch} {bs bS bM Ls : Nat} {xs : Nat → Int32} {cA : Nat → ClassId} {Dg : va_G} {j : Nat} {as : List Value} {h h' : xH} {v : Option Value} (hg : xcg j as h = true) (hj : j < 188) (hr : xF n j 0 (xent j as) [] h = some (v, h')) (h2 : 2 ≤ h.length) :
    Met l (xyn j) (xcw j :: xT) { frames := xfm j, cells := h'.length - h.length, slots := xslo h' - xslo h, locals := xlw j } (xPre bs bS bM Ls xs cA Dg h (as.map (xv (xi bs bS bM)))) (xPost bs bS bM Ls xs cA Dg h' v) (h'.length - h.length) (xslo h' - xslo h) (fun q => bs ≤ q) := by
  obtain ⟨-, -, -, w3, w4, w5, w6, w7, w8⟩ := xMWf hj
  obtain ⟨l1, l2⟩ := xF_len _ _ _ _ _ _ _ _ hr
  refine Met.ofW (cc := xby j) (maxL := xmL j) (ret := xrt j) w5 rfl ?_
  intro p e s m args below meth c s₁ B hml hv
  obtain ⟨rfl, hG, hRel, hsz⟩ := hv
  have hfit : (xlo as).length ≤ xmL j := by
    unfold xcg at hg
    rw [Bool.and_eq_true] at hg
    exact of_decide_eq_true hg.1
  have hts := atoms_spec (ws := xcw j :: xT) B.pre
  have act : xAct bs bS bM Ls xs cA Dg j h p (headSpec (xcw j :: xT) { frames := xfm j, cells := h'.length - h.length, slots := xslo h' - xslo h, locals := xlw j }).room s m (as.map (xv (xi bs bS bM))).toArray meth c := by
    refine ⟨B.exec, B.bytes, hml, by rw [w4]; exact findClass_of_methodNamed B.named, fun w hw => hts w (List.mem_cons_of_mem _ hw), hG, ⟨hsz, h2⟩, Nat.le_refl _, Nat.le_refl _, fun hi => ?_⟩
    rw [(name_of_methodNamed B.named B.method).1]
    exact eq_of_beq hi
  rw [lg_entry_eq]
  have hlocks := B.notSynchronized
  refine IH j 0 (xent j as) [] h v h' hr act (by show h'.length ≤ h.length + (h'.length - h.length); omega) (by show xslo h' ≤ xslo h + (xslo h' - xslo h); omega) ?_ (cells := 0) (slots := 0) ⟨hRel, va_S.rf, xent_ok (xi bs bS bM) hfit, by omega, by omega⟩
  intro pc raw ls H locs cells slots aRel aS c1 c2 hd hok
  have ec : cells = h'.length - h.length := by omega
  have es : slots = xslo h' - xslo h := by omega
  subst ec
  subst es
  rcases hok with ⟨rfl, ht, x, rfl⟩ | ⟨rfl, ht, x, rfl, hx⟩ | ⟨rfl, ht, x, rfl⟩ | ⟨rfl, ht, rfl⟩
  · exact W.iret B.exec B.bytes (B.returns.trans ht) (fun t ht hW => ⟨rfl, by rw [ht]; exact aRel, by rw [ht]; exact aS.1, fun q q1 q2 => by rw [ht]; exact aS.2.1 q q1 q2⟩) aS.2.2 hd hlocks
  · exact W.zret (ty := .boolean) B.exec B.bytes (B.returns.trans ht) (by rcases hx with rfl | rfl <;> decide) (fun t ht hW => ⟨rfl, by rw [ht]; exact aRel, by rw [ht]; exact aS.1, fun q q1 q2 => by rw [ht]; exact aS.2.1 q q1 q2⟩) aS.2.2 hd hlocks
  · exact W.lret B.exec B.bytes (B.returns.trans ht) (fun t ht hW => ⟨rfl, by rw [ht]; exact aRel, by rw [ht]; exact aS.1, fun q q1 q2 => by rw [ht]; exact aS.2.1 q q1 q2⟩) aS.2.2 hd hlocks
  · exact W.vret B.exec B.bytes (B.returns.trans ht) (fun t ht hW => ⟨rfl, by rw [ht]; exact aRel, by rw [ht]; exact aS.1, fun q q1 q2 => by rw [ht]; exact aS.2.1 q q1 q2⟩) aS.2.2 hd hlocks
/-- behind a call -/
theorem xcalled {p : Program} {l : Launch} {e : Env} {R : Room} {s : State} {m : MethodId} {args : Array Value} {below : List Frame} {meth : Method} {c : Code} {Q : State → Prop} {H : Heap} {locs : List Loc} {cells slots mc ms pc : Nat} {ls : Array Slot} {st0 rest : List Value} {a : Array Value}
    {bs bS bM Ls : Nat} {xs : Nat → Int32} {cA : Nat → ClassId} {Dg : va_G} {h' : xH} {v : Option Value}
    (hr : va_Run p l e R s m args below meth c H locs cells slots mc ms (F0 m pc ls st0) rest (xPost bs bS bM Ls xs cA Dg h' v a) (fun q => bs ≤ q)) (hS : va_S (fun q => bs ≤ q) s.heap H locs)
    (kk : ∀ (H1 : Heap) (locs1 : List Loc), xRel bs bS bM Ls xs cA Dg h' H1 → va_S (fun q => bs ≤ q) s.heap H1 locs1 → W p l e R s m args below meth c H1 locs1 (cells + mc) (slots + ms) Q (F0 m (pc + 3) ls ((v.map (xv (xi bs bS bM))).toList ++ rest))) :
    W p l e R s m args below meth c H locs cells slots Q (F0 m pc ls st0) := by
  intro T hT X
  obtain ⟨v', st₀, t, T', L, h0, X', hL, e1, e2, ⟨q1, q2, q3, q4⟩, st⟩ := hr T hT X
  cases q1
  subst h0
  obtain ⟨t2, a1, b1⟩ := kk t.heap (locs ++ L) q2 ⟨Nat.le_trans hS.1 q3, fun q g1 g2 => (q4 q (Nat.lt_of_lt_of_le g1 hS.1) g2).trans (hS.2.1 q g1 g2), fun z hz => (List.mem_append.mp hz).elim (hS.2.2 z) (hL z)⟩ T' e1 X'
  exact ⟨t2, st t2 a1, b1⟩
theorem xPre_blind {bs bS bM Ls : Nat} {xs : Nat → Int32} {cA : Nat → ClassId} {Dg : va_G} {h : xH} {as : List Value} : FrameBlind (xPre bs bS bM Ls xs cA Dg h as) := by
  intro a U g mk q
  exact ⟨q.1, q.2.1.calling g mk a, q.2.2⟩
theorem xcat_sum : ∀ (l : List Value), (l.map fun v => v.category).sum ≤ 2 * l.length
  | [] => by simp
  | v :: l => by
    have := xcat_sum l
    simp only [List.map_cons, List.sum_cons, List.length_cons]
    have := lv_cat v
    omega
/-- CALLS -/
theorem xCall {n : Nat} (IH : xSound n) {p : Program} {l : Launch} {e : Env} {R : Room} {s : State} {m : MethodId} {args : Array Value} {below : List Frame} {meth : Method} {c : Code} {Q : State → Prop} {bs bS bM Ls : Nat} {xs : Nat → Int32} {cA : Nat → ClassId} {Dg : va_G} {i : Nat} {h0 : xH}
    (act : xAct bs bS bM Ls xs cA Dg i h0 p R s m args meth c) {raw : Instr} {len pc j k : Nat} {L : xL} {st : xS} {h h' : xH} {v : Option Value} (hd : decode (xby i) pc = .ok (raw, len)) (hk : xckc i pc raw len (.invokeinterface j k) = true) (hkl : k ≤ st.length) (hk4 : (st.drop k).length ≤ 4)
    (hg : xcg j (st.take k).reverse h = true) (hr : xF n j 0 (xent j (st.take k).reverse) [] h = some (v, h')) (hc : h'.length ≤ h0.length + R.cells) (hs : xslo h' ≤ xslo h0 + R.slots)
    {ls : Array Slot} {H : Heap} {locs : List Loc} {cells slots : Nat} (o : xOn bs bS bM Ls xs cA Dg i h0 s L h ls H locs cells slots)
    (kk : ∀ (H' : Heap) (locs' : List Loc) (cells' slots' : Nat), xOn bs bS bM Ls xs cA Dg i h0 s L h' ls H' locs' cells' slots' → W p l e R s m args below meth c H' locs' cells' slots' Q (F0 m (pc + len) ls ((v.toList ++ st.drop k).map (xv (xi bs bS bM))))) :
    W p l e R s m args below meth c H locs cells slots Q (F0 m pc ls (st.map (xv (xi bs bS bM)))) := by
  obtain ⟨hx, hb, hml, hown, hts, hG, ⟨hsz, h02⟩, hfr, hlo, hini⟩ := act
  obtain ⟨l1, l2⟩ := xF_len _ _ _ _ _ _ _ _ hr
  have h2 := o.1.two
  obtain ⟨oR, oS, oL, oc, os⟩ := o
  refine xW_size (fun hz => ?_)
  have hsize : H.size ≤ bs + (h.length - 2) := by omega
  have hS4 : (((st.drop k).map (xv (xi bs bS bM))).map fun v => v.category).sum ≤ 8 := by
    have := xcat_sum ((st.drop k).map (xv (xi bs bS bM)))
    rw [List.length_map] at this
    omega
  have key : ∀ (idx : Nat), len = 3 → xroom i j = true → (∀ (hj : j < 188), va_Run p l e R s m args below meth c H locs cells slots (h'.length - h.length) (xslo h' - xslo h) (F0 m pc ls (st.map (xv (xi bs bS bM)))) ((st.drop k).map (xv (xi bs bS bM))) (xPost bs bS bM Ls xs cA Dg h' v ((st.take k).reverse.map (xv (xi bs bS bM))).toArray) (fun q => bs ≤ q)) → W p l e R s m args below meth c H locs cells slots Q (F0 m pc ls (st.map (xv (xi bs bS bM)))) := by
    intro idx hl hroom hrun
    subst hl
    unfold xroom at hroom
    simp only [Bool.and_eq_true, decide_eq_true_eq] at hroom
    refine xcalled (hrun hroom.2.2) oS (fun H1 locs1 a1 a2 => ?_)
    have := kk H1 locs1 (cells + (h'.length - h.length)) (slots + (xslo h' - xslo h)) ⟨a1, a2, oL, by omega, by omega⟩
    rw [List.map_append] at this
    cases v with
    | none => exact this
    | some w => exact this
  have hroomR : xroom i j = true → ({ frames := xfm j, cells := h'.length - h.length, slots := xslo h' - xslo h, locals := xlw j } : Room).frames + 1 ≤ R.frames ∧ 8 + (xmL j + 11) + ({ frames := xfm j, cells := h'.length - h.length, slots := xslo h' - xslo h, locals := xlw j } : Room).locals ≤ R.locals := by
    intro hroom
    unfold xroom at hroom
    simp only [Bool.and_eq_true, decide_eq_true_eq] at hroom
    exact ⟨by show xfm j + 1 ≤ R.frames; omega, by show 8 + (xmL j + 11) + xlw j ≤ R.locals; omega⟩
  have hfit2 : cells + (h'.length - h.length) ≤ R.cells ∧ slots + (xslo h' - xslo h) ≤ R.slots := ⟨by omega, by omega⟩
  have hpre : ∀ U : State, U.heap = H → s.WarmedH U.vm → xPre bs bS bM Ls xs cA Dg h ((st.take k).reverse.map (xv (xi bs bS bM))) ((st.take k).reverse.map (xv (xi bs bS bM))).toArray U := by
    intro U hU hW
    refine ⟨rfl, ?_, ?_, ?_⟩
    · rw [hU]; exact hG.warm hW oS.1 oS.2.1
    · rw [hU]; exact oR
    · rw [hU]; exact hsize
  have hstk : st.map (xv (xi bs bS bM)) = ((st.take k).reverse.map (xv (xi bs bS bM))).reverse ++ (st.drop k).map (xv (xi bs bS bM)) := by
    rw [← List.map_reverse, List.reverse_reverse, ← List.map_append, List.take_append_drop]
  have hlen : (st.take k).reverse.length = k := by rw [List.length_reverse, List.length_take]; omega
  cases raw with
  | invokevirtual idx =>
    simp only [xckc, Bool.and_eq_true, beq_iff_eq, Bool.not_eq_true'] at hk
    obtain ⟨hl3, hM, hn, hroom, hns, hni, hvk⟩ := hk
    refine key idx hl3 hroom (fun hj => ?_)
    obtain ⟨-, w1, w2, w3, w4, w5, w6, w7, w8⟩ := xMWf hj
    generalize hAs : (st.take k).reverse = As at hg hr hpre hstk hlen ⊢
    unfold xcg at hg
    rw [Bool.and_eq_true, hvk] at hg
    have hg2 := hg.2
    simp only at hg2
    match As, hlen, hg2 with
    | .ref a :: As', hlen, hg2 =>
      obtain ⟨fs, hfs⟩ := xobj_inv hg2
      have ha2 := oR.obj hfs
      have hon : xon j < 10 := by
        by_cases q : xon j < 10
        · exact q
        · exfalso
          have hrel := oR.1 _ _ (xw_get (bs := bs) (ι := xi bs bS bM) (cA := cA) ha2 hfs)
          obtain ⟨r, hr1, -⟩ := hrel
          have hr2 : vwCl[xon j]? = some r := hr1
          rw [List.getElem?_eq_none (by show 10 ≤ xon j; omega)] at hr2
          cases hr2
      have hcn : xcn (xon j) = (xcl (xon j)).1 := by
        have h1 := List.all_eq_true.mp xCW_ok (xon j) (List.mem_range.mpr (by omega))
        simp only [Bool.and_eq_true, Bool.or_eq_true, decide_eq_true_eq] at h1
        exact (h1.2.resolve_left (by omega)).2
      have hrecv := va_recv hG.1 oR.1 (xcl_get hon) (xw_get (bs := bs) (ι := xi bs bS bM) (cA := cA) ha2 hfs)
      have hxi := xi_ge (bs := bs) (bS := bS) (bM := bM) ha2
      refine va_runV (nL := xmL i) (C := (xyn j).cls) (b := xi bs bS bM a) (As := As'.map (xv (xi bs bS bM))) (Ts := xT) (own := xcn (xon i)) (cc := xby i) (bytes := xby j) (maxL := xmL j) (ret := xrt j) (n := xnp j) (index := idx) ⟨hx, hb, hml, hown, hts⟩ (xMet (l := l) (bs := bs) (bS := bS) (bM := bM) (Ls := Ls) (xs := xs) (cA := cA) (Dg := Dg) IH (by unfold xcg; rw [Bool.and_eq_true, hvk]; exact hg) hj hr h2) ⟨callB_of (ws := xcw j :: xT) (ws' := xT) (xnp j) hts (xgood hj) rfl rfl rfl (hts _ (xinitd hj)) (hts _ ((xML_in hM).2.2.1 (by omega) (by omega))) ⟨w6, w7, w3⟩ (hroomR hroom), hts _ (w1 hns), by rw [← w4]; exact hts _ (w2 hns hni)⟩ ⟨xPre_blind, ?_, hpre⟩ rfl ?_ oL.1 ?_ (lv_room hS4) (by rw [hl3] at hd; exact hd) hfit2
      · rw [← w4, hcn, hxi]; exact hrecv
      · rw [List.length_map]
        rw [List.length_cons] at hlen
        omega
      · show st.map (xv (xi bs bS bM)) = _
        rw [hstk, List.map_cons, xv.eq_1, List.reverse_cons, List.append_assoc]
        rfl
    | [], hlen, hg2 => cases hg2
    | .int x :: As', hlen, hg2 => cases hg2
    | .long x :: As', hlen, hg2 => cases hg2
    | .float x :: As', hlen, hg2 => cases hg2
    | .double x :: As', hlen, hg2 => cases hg2
    | .null :: As', hlen, hg2 => cases hg2
    | .retAddr x :: As', hlen, hg2 => cases hg2
  | invokespecial idx =>
    simp only [xckc, Bool.and_eq_true, beq_iff_eq, Bool.not_eq_true', Bool.or_eq_true] at hk
    obtain ⟨hl3, hM, hn, hroom, hns, hni, hvk⟩ := hk
    refine key idx hl3 hroom (fun hj => ?_)
    obtain ⟨-, w1, w2, w3, w4, w5, w6, w7, w8⟩ := xMWf hj
    have hyi : (xyn j).name = "<init>" := eq_of_beq hni
    have hrt : xrt j = none := xinit_rt hj hni
    generalize hAs : (st.take k).reverse = As at hg hr hpre hstk hlen ⊢
    have hg0 := hg
    unfold xcg at hg
    rw [Bool.and_eq_true, hvk] at hg
    have hg2 := hg.2
    simp only at hg2
    match As, hlen, hg2 with
    | .ref a :: As', hlen, hg2 =>
      have hlen2 : (As'.map (xv (xi bs bS bM))).length = xnp j := by
        rw [List.length_map]
        rw [List.length_cons] at hlen
        omega
      have hstk2 : (F0 m pc ls (st.map (xv (xi bs bS bM)))).stack = (As'.map (xv (xi bs bS bM))).reverse ++ .ref (xi bs bS bM a) :: (st.drop k).map (xv (xi bs bS bM)) := by
        show st.map (xv (xi bs bS bM)) = _
        rw [hstk, List.map_cons, xv.eq_1, List.reverse_cons, List.append_assoc]
        rfl
      have hM2 := xMet (l := l) (bs := bs) (bS := bS) (bM := bM) (Ls := Ls) (xs := xs) (cA := cA) (Dg := Dg) IH hg0 hj hr h2
      have hcode := xcode_in hj
      have hgood := xgood hj
      rw [xcw, hrt] at hM2 hcode hgood
      rcases hM with hM | hM
      · exact va_runI (nL := xmL i) (b := xi bs bS bM a) (As := As'.map (xv (xi bs bS bM))) (Ts := xT) (own := xcn (xon i)) (cc := xby i) (bytes := xby j) (maxL := xmL j) (n := xnp j) (index := idx) ⟨hx, hb, hml, hown, hts⟩ hM2 ⟨callB_of (ws' := xT) (xnp j) hts hgood rfl rfl rfl (hts _ (xinitd hj)) (hts _ ((xML_in hM).2.2.1 (by omega) (by omega))) ⟨w6, w7, w3⟩ (hroomR hroom), hyi, hts _ (w1 hns)⟩ ⟨xPre_blind, hpre⟩ rfl hlen2 oL.1 hstk2 (lv_room hS4) (by rw [hl3] at hd; exact hd) hfit2
      · exact va_runIN (nL := xmL i) (host := "DrawnFields") (b := xi bs bS bM a) (As := As'.map (xv (xi bs bS bM))) (Ts := xT) (own := xcn (xon i)) (cc := xby i) (bytes := xby j) (maxL := xmL j) (n := xnp j) (index := idx) ⟨hx, hb, hml, hown, hts⟩ hM2 ⟨va_cnB (ws' := xT) (xnp j) hts hgood rfl rfl rfl (hG.2.2.1 _ ((xML_in hM).2.2.2 (by omega) (by omega))) (hts _ (xinitd hj)) ⟨w6, w7, w3⟩ (hroomR hroom), hyi, hts _ (w1 hns)⟩ ⟨xPre_blind, hpre⟩ rfl hlen2 oL.1 hstk2 (lv_room hS4) (by rw [hl3] at hd; exact hd) hfit2
    | [], hlen, hg2 => cases hg2
    | .int x :: As', hlen, hg2 => cases hg2
    | .long x :: As', hlen, hg2 => cases hg2
    | .float x :: As', hlen, hg2 => cases hg2
    | .double x :: As', hlen, hg2 => cases hg2
    | .null :: As', hlen, hg2 => cases hg2
    | .retAddr x :: As', hlen, hg2 => cases hg2
  | invokestatic idx =>
    simp only [xckc, Bool.and_eq_true, beq_iff_eq, Bool.or_eq_true] at hk
    obtain ⟨hl3, hM, hn, hroom, hst⟩ := hk
    refine key idx hl3 hroom (fun hj => ?_)
    obtain ⟨w0, w1, w2, w3, w4, w5, w6, w7, w8⟩ := xMWf hj
    have hlen2 : ((st.take k).reverse.map (xv (xi bs bS bM))).length = xnp j := by rw [List.length_map]; omega
    have hM2 := xMet (l := l) (bs := bs) (bS := bS) (bM := bM) (Ls := Ls) (xs := xs) (cA := cA) (Dg := Dg) IH hg hj hr h2
    rcases hM with hM | hM
    · exact va_runS (nL := xmL i) (As := (st.take k).reverse.map (xv (xi bs bS bM))) (Ts := xT) (own := xcn (xon i)) (cc := xby i) (bytes := xby j) (maxL := xmL j) (ret := xrt j) (n := xnp j) (index := idx) ⟨hx, hb, hml, hown, hts⟩ hM2 ⟨callB_of (ws := xcw j :: xT) (ws' := xT) (xnp j) hts (xgood hj) rfl rfl rfl (hts _ (xinitd hj)) (hts _ ((xML_in hM).2.2.1 (by omega) (by omega))) ⟨w6, w7, w3⟩ (hroomR hroom), hts _ (w0 hst)⟩ ⟨xPre_blind, hpre⟩ rfl hlen2 oL.1 hstk (lv_room hS4) (by rw [hl3] at hd; exact hd) hfit2
    · exact va_runSN (nL := xmL i) (host := "DrawnFields") (As := (st.take k).reverse.map (xv (xi bs bS bM))) (Ts := xT) (own := xcn (xon i)) (cc := xby i) (bytes := xby j) (maxL := xmL j) (ret := xrt j) (n := xnp j) (index := idx) ⟨hx, hb, hml, hown, hts⟩ hM2 ⟨va_cnB (ws := xcw j :: xT) (ws' := xT) (xnp j) hts (xgood hj) rfl rfl rfl (hG.2.2.1 _ ((xML_in hM).2.2.2 (by omega) (by omega))) (hts _ (xinitd hj)) ⟨w6, w7, w3⟩ (hroomR hroom), hts _ (w0 hst), trivial⟩ ⟨xPre_blind, hpre⟩ rfl hlen2 oL.1 hstk (lv_room hS4) (by rw [hl3] at hd; exact hd) hfit2
  | _ => simp [xckc] at hk
