/-! THE CLAIM OUT OF ONE WALK OF THE LAW'S BODY. Your part is whole_start (and what it stands on); all else here is the same for every law, but numbers. -/
def R_law : String := "DrawnFieldsLaw"
def lw_P (b : Addr) (xs : List Int32) (args : Array Value) (s : State) : Prop := args = #[.ref b] ∧ s.IntsAt b xs ∧ xs.length ≤ 3072 ∧ (Jvm.Cond.and given_1 narrow_1).before args s = true
def lw_Q (_ : Array Value) (s : State) (o : Outcome) (t : State) : Prop := o = .returned (some (.int 1)) ∧ Framed s o t [] 600000 7302250
def lw_Z (below : List Frame) (a : Array Value) (s : State) : State → Prop := fun t => ∃ o, t.status = .running ∧ Ended t below o ∧ lw_Q a s o t
/-- the law's own end, with 1 on the stack, nothing written that was there before, its room as the claim has it -/
theorem lw_ret {p : Program} {l : Launch} {e : Env} {s : State} {m : MethodId} {below : List Frame} {meth : Method} {c : Code} {b : Nat} (hx : p.tables.exec = Jvm.exec) (hb : c.code = code) (hr : meth.sig.returnType = ret) (hlocks : meth.locks = false) {pc : Nat} {H : Heap} {ls : Array Slot} (hdg : decode code pc = .ok (.ireturn, 1)) : W p l e room_1 s m #[Value.ref b] below meth c H [] 600000 7302250 (lw_Z below #[Value.ref b] s) (F0 m pc ls [.int 1]) := by
  intro T hT X
  obtain ⟨fs, hret, hrun, hended, hW, hframe⟩ := X.leave (v := some (.int 1)) (hlocks := hlocks) (fun h => by rw [hr] at h; cases h)
  have hmeth' : T.vm.method? m = some meth := X.method'
  refine ⟨T.setFrames fs, ?_, .returned (some (.int 1)), hrun, hended, rfl, ⟨_, rfl⟩, hW, hframe⟩
  jvm_step X.here [X.here.top, hx, hb, hdg, hmeth', hr, ret, narrow_b1]
  (try refine ⟨rfl, ?_⟩); (try refine ⟨rfl, ?_⟩)
  first | (intro acts; rw [hret _ acts rfl rfl rfl]) | rw [hret _ _ rfl rfl rfl]
  exact Steps.refl _
/-- what holds at the law's entry: the machine, the code, the tables' words (any of lw_tbl by 'hts w (by decide +kernel)'), the script of L ints xs at the cell b, what the Statement gives of the start (any of its parts by flat_of_before) -/
def lw_At (p : Program) (s : State) (m : MethodId) (meth : Method) (c : Code) (b L : Nat) (xs : Nat → Int32) : Prop :=
  p.tables.exec = Jvm.exec ∧ c.code = code ∧ meth.sig.returnType = ret ∧ c.maxLocals = 4 ∧ s.vm.findClass R_law = some m.cls ∧ (∀ w ∈ lw_tbl, w.before #[Value.ref b] s = true) ∧ va_X b L xs s s.heap ∧ b < s.heap.size ∧ meth.locks = false ∧ (Jvm.Cond.and given_1 narrow_1).before #[Value.ref b] s = true
theorem xT_in {w : Jvm.Cond} (h : w ∈ xT) : w ∈ lw_tbl := (List.mem_filter.mp h).1
set_option maxRecDepth 100000 in
theorem xao_1 : Jvm.Cond.arrayOver (.object (xcl 1).1) ∈ lw_tbl := List.mem_of_getElem? (i := 101) (by decide +kernel)
set_option maxRecDepth 100000 in
theorem xao_4 : Jvm.Cond.arrayOver (.object (xcl 4).1) ∈ lw_tbl := List.mem_of_getElem? (i := 254) (by decide +kernel)
set_option maxRecDepth 100000 in
theorem xao_5 : Jvm.Cond.arrayOver (.object (xcl 5).1) ∈ lw_tbl := List.mem_of_getElem? (i := 103) (by decide +kernel)
set_option maxRecDepth 100000 in
theorem xao_6 : Jvm.Cond.arrayOver (.object (xcl 6).1) ∈ lw_tbl := List.mem_of_getElem? (i := 224) (by decide +kernel)
set_option maxRecDepth 100000 in
theorem xls_mc : Jvm.Cond.laysStatic "DrawnFields" "MOST_C" "[I" ∈ lw_tbl := List.mem_of_getElem? (i := 453) (by decide +kernel)
set_option maxRecDepth 100000 in
theorem xin_mc : Jvm.Cond.initialized "DrawnFields" ∈ lw_tbl := List.mem_of_getElem? (i := 73) (by decide +kernel)
theorem xKT_prim {s : State} {args : Array Value} {t : Nat} (hne : ∀ C, xty t ≠ .object C) (h : (Jvm.Cond.arrayClass (xty t)).before args s = true) : xKT (fun t => (s.vm.findClass ("[" ++ (xty t).toString)).getD 0) s t := by
  obtain ⟨c, k, comp, h1, h2, h3⟩ := Cond.arrayClass_spec h
  have e : (s.vm.findClass ("[" ++ (xty t).toString)).getD 0 = c := by rw [h1]; rfl
  refine ⟨?_, ?_⟩
  · show ArrOfT s ((s.vm.findClass ("[" ++ (xty t).toString)).getD 0) (xty t)
    rw [e]
    exact fun n z => ⟨fun k h => (by cases h), k, h2, comp, h3⟩
  · show va_RA s ((s.vm.findClass ("[" ++ (xty t).toString)).getD 0) (xty t)
    rw [e]
    generalize xty t = ty at hne h1 ⊢
    cases ty with
    | object C => exact absurd rfl (hne C)
    | _ => exact h1
theorem xKT_ref {s : State} {args : Array Value} {t : Nat} {C : String} (ht : xty t = .object C) (h : (Jvm.Cond.arrayOver (.object C)).before args s = true) : xKT (fun t => (s.vm.findClass ("[" ++ (xty t).toString)).getD 0) s t := by
  obtain ⟨comp, c, k, h1, h2, h3, h4, h5⟩ := Cond.arrayOver_spec h
  have e : (s.vm.findClass ("[" ++ (xty t).toString)).getD 0 = c := by rw [ht, h5]; rfl
  refine ⟨?_, ?_⟩
  · show ArrOfT s ((s.vm.findClass ("[" ++ (xty t).toString)).getD 0) (xty t)
    rw [e, ht]
    exact fun n z => ⟨fun k h => (by cases h), k, h3, comp, h4⟩
  · show va_RA s ((s.vm.findClass ("[" ++ (xty t).toString)).getD 0) (xty t)
    rw [e, ht]
    exact ⟨k, comp, h3, h4, h1, h5⟩
theorem xknown {s : State} {args : Array Value} (hts : ∀ w ∈ lw_tbl, w.before args s = true) : ∃ Dg : va_G, va_K Dg vwCl [] s := by
  have h : ∀ c : Nat, ∃ q : ClassId × (Nat → Nat), c < 10 → u_Kn s (xcl c).1 (xcl c).2.1 (xcl c).2.2 q.1 q.2 := by
    intro c
    by_cases hc : c < 10
    · obtain ⟨i1, i2⟩ := xcl_inst hc
      obtain ⟨cC, iS, hk⟩ := u_known (N := (xcl c).2.2) (n := (xcl c).2.2) hts (fun w hw => xT_in (xcl_words hc w hw)) (hts _ (xT_in i2))
      exact ⟨(cC, iS), fun _ => hk⟩
    · exact ⟨(0, fun _ => 0), fun h => absurd h hc⟩
  refine ⟨(fun c => (Classical.choose (h c)).1, fun c => (Classical.choose (h c)).2), fun c q hq => ?_, fun k q hq => by simp at hq⟩
  have hc : c < 10 := (List.getElem?_eq_some_iff.mp hq).1
  have e := xcl_get hc
  rw [hq] at e
  have e2 : q = xcl c := Option.some.inj e
  rw [e2]
  exact Classical.choose_spec (h c) hc
set_option maxRecDepth 100000 in
theorem xmc_at {s : State} {b : Nat} {A : Nat → Prop} (hgv : (Jvm.Cond.and given_1 narrow_1).before #[Value.ref b] s = true) (hA : ∀ a : Nat, a < s.heap.size → ¬ A a) : ∃ t : Nat, (Term.static "DrawnFields" "MOST_C" "[I").eval #[Value.ref b] s none [] s = some (.ref t) ∧ va_T .int t 6 (fun j => .int (xmost6 j)) A s s.heap := by
  have hs := flat_of_before _ hgv
  refine va_Tof (by decide) (hs (.arrayOf (.static "DrawnFields" "MOST_C" "[I") .int) (by decide +kernel)) (va_eqt (hs (.eq (.length (.static "DrawnFields" "MOST_C" "[I")) (.int 6)) (by decide +kernel))) (fun j hj => ?_) hA
  match j, hj with
  | 0, _ => exact va_eqt (hs (.eq (.elem (.static "DrawnFields" "MOST_C" "[I") (.int 0)) (.int 14)) (by decide +kernel))
  | 1, _ => exact va_eqt (hs (.eq (.elem (.static "DrawnFields" "MOST_C" "[I") (.int 1)) (.int 0)) (by decide +kernel))
  | 2, _ => exact va_eqt (hs (.eq (.elem (.static "DrawnFields" "MOST_C" "[I") (.int 2)) (.int 0)) (by decide +kernel))
  | 3, _ => exact va_eqt (hs (.eq (.elem (.static "DrawnFields" "MOST_C" "[I") (.int 3)) (.int 255)) (by decide +kernel))
  | 4, _ => exact va_eqt (hs (.eq (.elem (.static "DrawnFields" "MOST_C" "[I") (.int 4)) (.int 63)) (by decide +kernel))
  | 5, _ => exact va_eqt (hs (.eq (.elem (.static "DrawnFields" "MOST_C" "[I") (.int 5)) (.int 7)) (by decide +kernel))
  | j + 6, hj => omega
theorem whole_of (hpure : ∀ (L : Nat) (xs : Nat → Int32), L ≤ 3072 → ∃ h', den 188 0 [some (.ref 0), none, none, none] [] (xstart L xs) = some (some (.int 1), h') ∧ h'.length ≤ 600000 ∧ xslo h' ≤ 7302250)
    {p : Program} {e : Env} {s : State} {m : MethodId} {below : List Frame} {meth : Method} {c : Code} (l : Launch) {b L : Nat} {xs : Nat → Int32} (hL : L ≤ 3072) (C0 : lw_At p s m meth c b L xs) : W p l e room_1 s m #[Value.ref b] below meth c s.heap [] 0 0 (lw_Z below #[Value.ref b] s) (entryFrame m ([Value.ref b] : List Value).toArray 4) := by
  obtain ⟨hx, hb, hr, hml, hown, hts, hX, hbl, hlocks, hgv⟩ := C0
  obtain ⟨h', hd, hc1, hc2⟩ := hpure L xs hL
  obtain ⟨n, hrun⟩ := (den_iff _ _ _ _ _ _).mp hd
  have hA : ∀ a : Nat, a < s.heap.size → ¬ (fun q => s.heap.size ≤ q) a := fun a h => Nat.not_le.mpr h
  obtain ⟨bM, hM1, hM2⟩ := xmc_at (A := fun q => s.heap.size ≤ q) hgv hA
  obtain ⟨Dg, hK⟩ := xknown hts
  have hG : xG s.heap.size b bM L xs (fun t => (s.vm.findClass ("[" ++ (xty t).toString)).getD 0) Dg s s.heap := by
    refine ⟨hK, fun t ht => ?_, fun w hw => ?_, fun t ht => ?_, va_Zof (hts _ xls_mc) (hts _ xin_mc) hM1 hA, hM2, hX, hbl, Nat.le_refl _⟩
    · simp only [xkt, xra, Bool.or_eq_true, beq_iff_eq] at ht
      rcases ht with rfl | rfl | rfl | ((rfl | rfl) | rfl) | rfl
      · exact xKT_prim (args := #[Value.ref b]) (fun C h => by cases h) (hts _ (xT_in xac_int))
      · exact xKT_prim (args := #[Value.ref b]) (fun C h => by cases h) (hts _ (xT_in xac_long))
      · exact xKT_prim (args := #[Value.ref b]) (fun C h => by cases h) (hts _ (xT_in xac_boolean))
      · exact xKT_ref (args := #[Value.ref b]) rfl (hts _ xao_1)
      · exact xKT_ref (args := #[Value.ref b]) rfl (hts _ xao_4)
      · exact xKT_ref (args := #[Value.ref b]) rfl (hts _ xao_5)
      · exact xKT_ref (args := #[Value.ref b]) rfl (hts _ xao_6)
    · have hw2 := List.mem_filter.mp hw
      refine va_Nw.of ?_ (hts w hw2.1)
      cases w with
      | methodLinkNest a b c d => rfl
      | fieldLinkNest a b c d e f => rfl
      | _ => simp at hw2
    · simp only [xra, Bool.or_eq_true, beq_iff_eq] at ht
      rcases ht with ((rfl | rfl) | rfl) | rfl
      · exact va_AO.of (hts _ xao_1)
      · exact va_AO.of (hts _ xao_4)
      · exact va_AO.of (hts _ xao_5)
      · exact va_AO.of (hts _ xao_6)
  have act : xAct s.heap.size b bM L xs (fun t => (s.vm.findClass ("[" ++ (xty t).toString)).getD 0) Dg 188 (xstart L xs) p room_1 s m #[Value.ref b] meth c :=
    ⟨hx, hb, hml, hown, fun w hw => hts w (xT_in hw), hG, ⟨Nat.le_refl _, Nat.le_refl _⟩, Nat.le_refl _, Nat.le_refl _, fun h => by cases h⟩
  rw [lg_entry_eq]
  refine xsound n 188 0 _ [] _ _ _ hrun act (by show h'.length ≤ 2 + 600000; omega) (by show xslo h' ≤ xslo (xstart L xs) + 7302250; omega) ?_ (cells := 0) (slots := 0) ⟨⟨fun k q hq => by simp [xw, xstart] at hq, rfl, rfl⟩, va_S.rf, xent_ok (xi s.heap.size b bM) (as := [.ref 0]) (nL := 4) (by decide), by omega, by omega⟩
  intro pc raw ls H locs cells slots aRel aS c1 c2 hd hok
  have hraw : raw = .ireturn := by
    rcases hok with ⟨h, -⟩ | ⟨h, -⟩ | ⟨-, h, -⟩ | ⟨-, h, -⟩
    · exact h
    · exact h
    · cases h
    · cases h
  subst hraw
  refine va_forget aS.2.2 ?_
  refine W.widen (k := 600000) (n := 7302250) (by omega) (by omega) ?_
  exact lw_ret hx hb hr hlocks hd
theorem whole_start {p : Program} {e : Env} {s : State} {m : MethodId} {below : List Frame} {meth : Method} {c : Code} (l : Launch) (hflags : l.flags = flags0) {b L : Nat} {xs : Nat → Int32} (hL : L ≤ 3072) (C0 : lw_At p s m meth c b L xs) : W p l e room_1 s m #[Value.ref b] below meth c s.heap [] 0 0 (lw_Z below #[Value.ref b] s) (entryFrame m ([Value.ref b] : List Value).toArray 4) :=
  whole_of (fun n xs h => hpure n xs h) l hL C0
-- ===== YOUR PART ENDS =====
set_option maxHeartbeats 4000000 in
theorem lw_walk (l : Launch) (hflags : l.flags = flags0) (b : Addr) (xs : List Int32) : MetFree l x (headSpec (Jvm.Cond.code x code maxLocals ret :: tables_1) room_1) (lw_P b xs) (fun _ _ _ _ _ => True) lw_Q := by
  refine MetFree.of_bodyS (code := code) (maxLocals := maxLocals) (ret := ret) (by decide) ?_ ?_
  · intro args s m h hn
    obtain ⟨meth, c, h1, h2, h3, h4, h5, h6, -, -⟩ := Cond.code_spec hn (atoms_spec (ws := Jvm.Cond.code x code maxLocals ret :: tables_1) h _ List.mem_cons_self)
    exact ⟨meth, c, h1, h2, h3, h4, h5, h6⟩
  · intro p e s m args below meth c s₁ B hml0 hP _
    obtain ⟨rfl, hx, hbd, hgv⟩ := hP
    obtain ⟨scr, harrAt, hlist, hof, hsmall⟩ := hx
    obtain ⟨hcb, hkn, -, -⟩ := State.arrayAt?_spec harrAt
    have hown : s.vm.findClass R_law = some m.cls := findClass_of_methodNamed B.named
    have hts0 : ∀ c ∈ (Jvm.Cond.code x code maxLocals ret :: tables_1), c.before #[Value.ref b] s = true := atoms_spec (ws := Jvm.Cond.code x code maxLocals ret :: tables_1) B.pre
    have hts : ∀ w ∈ lw_tbl, w.before #[Value.ref b] s = true := k2_hts_sels lw_privs (fun w hw => hts0 w (List.mem_cons_of_mem _ hw)) lw_privs_ok
    have hml : c.maxLocals = 4 := B.maxLocals_eq (hts0 _ List.mem_cons_self)
    have X₀ : Stand p l e room_1 s m #[Value.ref b] below meth c s₁ [] 0 0 := Stand.of_body B
    have hh0 : s₁.heap = s.heap := by rw [B.state]; rfl
    have hsz : scr.slots.size = xs.length := by rw [← Array.length_toList, hlist, List.length_map]
    have hval : ∀ j : Nat, j < xs.length → scr.slots[j]? = some (.int (xs.getD j 0)) := fun j hj => by
      rw [← Array.getElem?_toList, hlist]
      simp [hj]
    have hbl : b < s.heap.size := (Array.getElem?_eq_some_iff.mp hcb).1
    have hX : va_X b xs.length (fun j => xs.getD j 0) s s.heap := ⟨scr, hcb, hof, hkn, hsz, hval⟩
    have K : W p l e room_1 s m #[Value.ref b] below meth c s₁.heap [] 0 0 (lw_Z below #[Value.ref b] s) (entryFrame m ([Value.ref b] : List Value).toArray 4) := by
      rw [hh0]
      exact whole_start l hflags hbd ⟨B.exec, B.bytes, B.returns, hml, hown, hts, hX, hbl, B.notSynchronized, hgv⟩
    obtain ⟨t, a1, o, b1, b2, b3⟩ := K s₁ rfl X₀
    exact ⟨t, o, a1, b1, b2, b3⟩
theorem lw_pre_spec {args : Array Value} {s : State} (h : (Jvm.Cond.and given_1 narrow_1).before args s = true) (hr : rest_1_c.before args s = true) : ∃ (b : Addr) (xs : List Int32), lw_P b xs args s := by
  have hs := flat_of_before _ h
  have hq := flat_of_before _ hr
  have hc : (Cond.count 1).before args s = true := hs _ (by decide +kernel)
  have harr : (Cond.arrayOf (.arg 0) .int).before args s = true := hs _ (by decide +kernel)
  have hle : (Cond.le (.length (.arg 0)) (.int 3072)).before args s = true := hs _ (by decide +kernel)
  have hlen : (Cond.isInt (.length (.arg 0))).before args s = true := hq _ (by decide +kernel)
  have hall : (Cond.all (.arg 0) (.isInt (.elem (.arg 0) (.index 0)))).before args s = true := hq _ (by decide +kernel)
  obtain ⟨b, xs, hb, hx⟩ := State.ints_of_pre rfl harr hlen hall
  have hsm : xs.length < 2 ^ 31 := hx.choose_spec.2.2.2
  have hev : (Term.length (.arg 0)).eval args s none [] s = some (.int xs.length.toInt32) := hx.length_eval hb
  have hv := Cond.le_ints hev (show (Term.int 3072).eval args s none [] s = some (.int 3072) from rfl)
  have hd : xs.length.toInt32 ≤ 3072 := by
    simpa [Cond.before, Cond.holds, hv] using hle
  have hN : xs.length ≤ 3072 := (Int32.ofNat_le_ofNat hsm (by decide)).mp (show Int32.ofNat xs.length ≤ Int32.ofNat 3072 from hd)
  exact ⟨b, xs, Cond.one_arg hc (show args[0]? = some (.ref b) from hb), hx, hN, h⟩
theorem lw_comes (l : Launch) (hflags : l.flags = flags0) : Comes l x (Jvm.Cond.code x code maxLocals ret :: tables_1) room_1 (fun tb e args s => Calls_1 tb e args s ∧ rest_1 tb e args s ∧ Pre_1 tb e args s)
    (fun _ _ args s o t => lw_Q args s o t) := by
  intro p e ha hc hk s m args below hf hfit hheap happ hpre
  obtain ⟨b, xs, hP⟩ := lw_pre_spec hpre.2.2 hpre.2.1
  obtain ⟨k, o, h1, h2, h3, hQ⟩ := lw_walk l hflags b xs p e ha hc hk s m args below hf ((Spec.applies_iff_loose hf).mp happ).1 hP trivial
  exact ⟨k, o, h1, h2, h3, hQ⟩
theorem lw_frame {s t : State} {o : Outcome} {args : Array Value} (h : Framed s o t [] 600000 7302250) :
    Framed s o t (fieldLocs frame_1_writes args s ++ arrayLocs frame_1_arrays args s ++ staticLocs frame_1_statics s) 600000 7302250 := h
theorem lw_limb (L : Cond) (hL : ∀ (args : Array Value) (s t : State), L.after args s (.returned (some (.int 1))) t = true) :
    ArmFor flags0 classFile x code maxLocals ret World_1 tables_1 room_1 Calls_1 rest_1 Pre_1
      (fun tb e a s o t => postC L tb e a s o t ∧ Framed s o t (fieldLocs frame_1_writes a s ++ arrayLocs frame_1_arrays a s ++ staticLocs frame_1_statics s) 600000 7302250) := by
  intro l hflags _ _ p e ha hc hk s m args below hf hfit hheap happ hpre
  obtain ⟨k, o, h1, h2, h3, rfl, hF⟩ := lw_comes l hflags p e ha hc hk s m args below hf hfit hheap happ hpre
  exact ⟨k, _, h1, h2, h3, hL args s _, lw_frame hF⟩
theorem i_vc : Claimed_1_1 ∧ Claimed_1_2 := ⟨lw_limb limb_1_1 (fun args s t => by simp [limb_1_1, Cond.after, Cond.holds, Cond.value]), lw_limb limb_1_2 (fun args s t => Cond.after_iff.mpr (by
  first | (rw [show limb_1_2 = Cond.eq .result (.int 1) from rfl, Cond.eq_ints (x := 1) (y := 1) rfl rfl]; simp; done) | (simp [limb_1_2, Cond.value, Term.eval]; done)))⟩
