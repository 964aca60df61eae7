/-! ===== one instruction of the abstract machine is one of the machine: what neither jumps nor calls ===== -/
/-- an activation of method i, begun at the abstract heap h0 -/
def xAct (bs bS bM Ls : Nat) (xs : Nat → Int32) (cA : Nat → ClassId) (Dg : va_G) (i : Nat) (h0 : xH) (p : Program) (R : Room) (s : State) (m : MethodId) (args : Array Value) (meth : Method) (c : Code) : Prop :=
  p.tables.exec = Jvm.exec ∧ c.code = xby i ∧ c.maxLocals = xmL i ∧ s.vm.findClass (xcn (xon i)) = some m.cls ∧ (∀ w ∈ xT, w.before args s = true) ∧ xG bs bS bM Ls xs cA Dg s s.heap ∧ (s.heap.size ≤ bs + (h0.length - 2) ∧ 2 ≤ h0.length) ∧ xfm i ≤ R.frames ∧ xlw i ≤ R.locals ∧ (xinit i = true → meth.name = "<init>")
/-- the machine stands where the abstract one does -/
def xOn (bs bS bM Ls : Nat) (xs : Nat → Int32) (cA : Nat → ClassId) (Dg : va_G) (i : Nat) (h0 : xH) (s : State) (L : xL) (h : xH) (ls : Array Slot) (H : Heap) (locs : List Loc) (cells slots : Nat) : Prop :=
  xRel bs bS bM Ls xs cA Dg h H ∧ va_S (fun q => bs ≤ q) s.heap H locs ∧ xLs (xi bs bS bM) ls (xmL i) L ∧ cells + h0.length = h.length ∧ slots + xslo h0 = xslo h
/-- what is owed of an instruction -/
def xOK (ins : Instr) : Prop := ∀ {p : Program} {l : Launch} {e : Env} {R : Room} {s : State} {m : MethodId} {args : Array Value} {below : List Frame} {meth : Method} {c : Code} {Q : State → Prop} {bs bS bM Ls : Nat} {xs : Nat → Int32} {cA : Nat → ClassId} {Dg : va_G} {i : Nat} {h0 : xH},
  xAct bs bS bM Ls xs cA Dg i h0 p R s m args meth c → ∀ {raw : Instr} {len pc : Nat} {L L' : xL} {st st' : xS} {h h' : xH}, decode (xby i) pc = .ok (raw, len) → xckp i raw len ins = true → xP ins L st h = some (L', st', h') → h'.length ≤ h0.length + R.cells → xslo h' ≤ xslo h0 + R.slots →
  ∀ {ls : Array Slot} {H : Heap} {locs : List Loc} {cells slots : Nat}, xOn bs bS bM Ls xs cA Dg i h0 s L h ls H locs cells slots →
  (∀ (ls' : Array Slot) (H' : Heap) (locs' : List Loc) (cells' slots' : Nat), xOn bs bS bM Ls xs cA Dg i h0 s L' h' ls' H' locs' cells' slots' → W p l e R s m args below meth c H' locs' cells' slots' Q (F0 m (pc + len) ls' (st'.map (xv (xi bs bS bM))))) →
  W p l e R s m args below meth c H locs cells slots Q (F0 m pc ls (st.map (xv (xi bs bS bM))))
theorem xsimple {i len : Nat} {raw ins : Instr} (hk : xckp i raw len ins = true) (hdef : xckp i raw len ins = (len == 1 && (decide (raw = ins) && xsim ins))) : len = 1 ∧ raw = ins := by
  rw [hdef] at hk
  simp only [Bool.and_eq_true, beq_iff_eq, decide_eq_true_eq] at hk
  exact ⟨hk.1, hk.2.1⟩
theorem xii_inv {f : Int32 → Int32 → Int32} {st st' : xS} (h : xii f st = some st') : ∃ a b r, st = .int b :: .int a :: r ∧ st' = .int (f a b) :: r := by
  unfold xii at h
  split at h
  · cases h; exact ⟨_, _, _, rfl, rfl⟩
  · cases h
theorem xid_inv {f : Int32 → Int32 → Int32} {st st' : xS} (h : xid f st = some st') : ∃ a b r, st = .int b :: .int a :: r ∧ st' = .int (f a b) :: r ∧ ¬ b = 0 := by
  unfold xid at h
  split at h
  · split at h
    · cases h
    · next hb => cases h; exact ⟨_, _, _, rfl, rfl, hb⟩
  · cases h
theorem xll_inv {f : Int64 → Int64 → Int64} {st st' : xS} (h : xll f st = some st') : ∃ a b r, st = .long b :: .long a :: r ∧ st' = .long (f a b) :: r := by
  unfold xll at h
  split at h
  · cases h; exact ⟨_, _, _, rfl, rfl⟩
  · cases h
theorem xlv_inv {f : Int64 → Int64 → Int64} {st st' : xS} (h : xlv f st = some st') : ∃ a b r, st = .long b :: .long a :: r ∧ st' = .long (f a b) :: r ∧ ¬ b = 0 := by
  unfold xlv at h
  split at h
  · split at h
    · cases h
    · next hb => cases h; exact ⟨_, _, _, rfl, rfl, hb⟩
  · cases h
theorem xls_inv {f : Int64 → Int32 → Int64} {st st' : xS} (h : xls f st = some st') : ∃ a b r, st = .int b :: .long a :: r ∧ st' = .long (f a b) :: r := by
  unfold xls at h
  split at h
  · cases h; exact ⟨_, _, _, rfl, rfl⟩
  · cases h
theorem xlc_inv {st st' : xS} (h : xlc st = some st') : ∃ a b r, st = .long b :: .long a :: r ∧ st' = .int (lg_cmp a b) :: r := by
  unfold xlc at h
  split at h
  · cases h; exact ⟨_, _, _, rfl, rfl⟩
  · cases h
theorem xil_inv {f : Int32 → Int64} {st st' : xS} (h : xil f st = some st') : ∃ a r, st = .int a :: r ∧ st' = .long (f a) :: r := by
  unfold xil at h
  split at h
  · cases h; exact ⟨_, _, rfl, rfl⟩
  · cases h
theorem xli_inv {f : Int64 → Int32} {st st' : xS} (h : xli f st = some st') : ∃ a r, st = .long a :: r ∧ st' = .int (f a) :: r := by
  unfold xli at h
  split at h
  · cases h; exact ⟨_, _, rfl, rfl⟩
  · cases h
theorem xrd_inv {f : Nat → Int32 → Option Value} {st st' : xS} (h : xrd f st = some st') : ∃ i a r v, st = .int i :: .ref a :: r ∧ st' = v :: r ∧ f a i = some v := by
  unfold xrd at h
  split at h
  · obtain ⟨v, h1, h2⟩ := Option.map_eq_some_iff.mp h
    exact ⟨_, _, _, v, rfl, h2.symm, h1⟩
  · cases h
theorem xin_in {i : Int32} {n : Nat} (h : xin i n = true) : vp_in i n := by
  simp only [xin, Bool.and_eq_true, decide_eq_true_eq] at h
  rintro (q | q)
  · exact absurd q (Int32.not_lt.mpr h.1)
  · omega

theorem x_iadd : xOK .iadd := by
  intro p l e R s m args below meth c Q bs bS bM Ls xs cA Dg i h0 a raw len pc L L' st st' h h' hd hk hp hc hs ls H locs cells slots o k
  obtain ⟨hx, hb, hml, hown, hts, hG, hsz, hfr, hlo, hini⟩ := a
  simp only [xP] at hp
  obtain ⟨st2, h1, h2⟩ := Option.map_eq_some_iff.mp hp
  cases h2
  obtain ⟨rfl, rfl⟩ := xsimple hk rfl
  obtain ⟨x, y, r, rfl, rfl⟩ := xii_inv h1
  exact lv_iadd hx hb hd (k _ _ _ _ _ o)

theorem x_isub : xOK .isub := by
  intro p l e R s m args below meth c Q bs bS bM Ls xs cA Dg i h0 a raw len pc L L' st st' h h' hd hk hp hc hs ls H locs cells slots o k
  obtain ⟨hx, hb, hml, hown, hts, hG, hsz, hfr, hlo, hini⟩ := a
  simp only [xP] at hp
  obtain ⟨st2, h1, h2⟩ := Option.map_eq_some_iff.mp hp
  cases h2
  obtain ⟨rfl, rfl⟩ := xsimple hk rfl
  obtain ⟨x, y, r, rfl, rfl⟩ := xii_inv h1
  exact lv_isub hx hb hd (k _ _ _ _ _ o)

theorem x_imul : xOK .imul := by
  intro p l e R s m args below meth c Q bs bS bM Ls xs cA Dg i h0 a raw len pc L L' st st' h h' hd hk hp hc hs ls H locs cells slots o k
  obtain ⟨hx, hb, hml, hown, hts, hG, hsz, hfr, hlo, hini⟩ := a
  simp only [xP] at hp
  obtain ⟨st2, h1, h2⟩ := Option.map_eq_some_iff.mp hp
  cases h2
  obtain ⟨rfl, rfl⟩ := xsimple hk rfl
  obtain ⟨x, y, r, rfl, rfl⟩ := xii_inv h1
  exact lv_imul hx hb hd (k _ _ _ _ _ o)

theorem x_iand : xOK .iand := by
  intro p l e R s m args below meth c Q bs bS bM Ls xs cA Dg i h0 a raw len pc L L' st st' h h' hd hk hp hc hs ls H locs cells slots o k
  obtain ⟨hx, hb, hml, hown, hts, hG, hsz, hfr, hlo, hini⟩ := a
  simp only [xP] at hp
  obtain ⟨st2, h1, h2⟩ := Option.map_eq_some_iff.mp hp
  cases h2
  obtain ⟨rfl, rfl⟩ := xsimple hk rfl
  obtain ⟨x, y, r, rfl, rfl⟩ := xii_inv h1
  exact lv_iand hx hb hd (k _ _ _ _ _ o)

theorem x_ior : xOK .ior := by
  intro p l e R s m args below meth c Q bs bS bM Ls xs cA Dg i h0 a raw len pc L L' st st' h h' hd hk hp hc hs ls H locs cells slots o k
  obtain ⟨hx, hb, hml, hown, hts, hG, hsz, hfr, hlo, hini⟩ := a
  simp only [xP] at hp
  obtain ⟨st2, h1, h2⟩ := Option.map_eq_some_iff.mp hp
  cases h2
  obtain ⟨rfl, rfl⟩ := xsimple hk rfl
  obtain ⟨x, y, r, rfl, rfl⟩ := xii_inv h1
  exact lv_ior hx hb hd (k _ _ _ _ _ o)

theorem x_ixor : xOK .ixor := by
  intro p l e R s m args below meth c Q bs bS bM Ls xs cA Dg i h0 a raw len pc L L' st st' h h' hd hk hp hc hs ls H locs cells slots o k
  obtain ⟨hx, hb, hml, hown, hts, hG, hsz, hfr, hlo, hini⟩ := a
  simp only [xP] at hp
  obtain ⟨st2, h1, h2⟩ := Option.map_eq_some_iff.mp hp
  cases h2
  obtain ⟨rfl, rfl⟩ := xsimple hk rfl
  obtain ⟨x, y, r, rfl, rfl⟩ := xii_inv h1
  exact lv_ixor hx hb hd (k _ _ _ _ _ o)

theorem x_ishl : xOK .ishl := by
  intro p l e R s m args below meth c Q bs bS bM Ls xs cA Dg i h0 a raw len pc L L' st st' h h' hd hk hp hc hs ls H locs cells slots o k
  obtain ⟨hx, hb, hml, hown, hts, hG, hsz, hfr, hlo, hini⟩ := a
  simp only [xP] at hp
  obtain ⟨st2, h1, h2⟩ := Option.map_eq_some_iff.mp hp
  cases h2
  obtain ⟨rfl, rfl⟩ := xsimple hk rfl
  obtain ⟨x, y, r, rfl, rfl⟩ := xii_inv h1
  exact lv_ishl hx hb hd (k _ _ _ _ _ o)

theorem x_ishr : xOK .ishr := by
  intro p l e R s m args below meth c Q bs bS bM Ls xs cA Dg i h0 a raw len pc L L' st st' h h' hd hk hp hc hs ls H locs cells slots o k
  obtain ⟨hx, hb, hml, hown, hts, hG, hsz, hfr, hlo, hini⟩ := a
  simp only [xP] at hp
  obtain ⟨st2, h1, h2⟩ := Option.map_eq_some_iff.mp hp
  cases h2
  obtain ⟨rfl, rfl⟩ := xsimple hk rfl
  obtain ⟨x, y, r, rfl, rfl⟩ := xii_inv h1
  exact lv_ishr hx hb hd (k _ _ _ _ _ o)

theorem x_iushr : xOK .iushr := by
  intro p l e R s m args below meth c Q bs bS bM Ls xs cA Dg i h0 a raw len pc L L' st st' h h' hd hk hp hc hs ls H locs cells slots o k
  obtain ⟨hx, hb, hml, hown, hts, hG, hsz, hfr, hlo, hini⟩ := a
  simp only [xP] at hp
  obtain ⟨st2, h1, h2⟩ := Option.map_eq_some_iff.mp hp
  cases h2
  obtain ⟨rfl, rfl⟩ := xsimple hk rfl
  obtain ⟨x, y, r, rfl, rfl⟩ := xii_inv h1
  exact lv_iushr hx hb hd rfl (k _ _ _ _ _ o)

theorem x_idiv : xOK .idiv := by
  intro p l e R s m args below meth c Q bs bS bM Ls xs cA Dg i h0 a raw len pc L L' st st' h h' hd hk hp hc hs ls H locs cells slots o k
  obtain ⟨hx, hb, hml, hown, hts, hG, hsz, hfr, hlo, hini⟩ := a
  simp only [xP] at hp
  obtain ⟨st2, h1, h2⟩ := Option.map_eq_some_iff.mp hp
  cases h2
  obtain ⟨rfl, rfl⟩ := xsimple hk rfl
  obtain ⟨x, y, r, rfl, rfl, hne⟩ := xid_inv h1
  exact lv_idiv hx hb hd hne (k _ _ _ _ _ o)

theorem x_irem : xOK .irem := by
  intro p l e R s m args below meth c Q bs bS bM Ls xs cA Dg i h0 a raw len pc L L' st st' h h' hd hk hp hc hs ls H locs cells slots o k
  obtain ⟨hx, hb, hml, hown, hts, hG, hsz, hfr, hlo, hini⟩ := a
  simp only [xP] at hp
  obtain ⟨st2, h1, h2⟩ := Option.map_eq_some_iff.mp hp
  cases h2
  obtain ⟨rfl, rfl⟩ := xsimple hk rfl
  obtain ⟨x, y, r, rfl, rfl, hne⟩ := xid_inv h1
  exact lv_irem hx hb hd hne (k _ _ _ _ _ o)

theorem x_ladd : xOK .ladd := by
  intro p l e R s m args below meth c Q bs bS bM Ls xs cA Dg i h0 a raw len pc L L' st st' h h' hd hk hp hc hs ls H locs cells slots o k
  obtain ⟨hx, hb, hml, hown, hts, hG, hsz, hfr, hlo, hini⟩ := a
  simp only [xP] at hp
  obtain ⟨st2, h1, h2⟩ := Option.map_eq_some_iff.mp hp
  cases h2
  obtain ⟨rfl, rfl⟩ := xsimple hk rfl
  obtain ⟨x, y, r, rfl, rfl⟩ := xll_inv h1
  exact lv_ladd hx hb hd (k _ _ _ _ _ o)

theorem x_lsub : xOK .lsub := by
  intro p l e R s m args below meth c Q bs bS bM Ls xs cA Dg i h0 a raw len pc L L' st st' h h' hd hk hp hc hs ls H locs cells slots o k
  obtain ⟨hx, hb, hml, hown, hts, hG, hsz, hfr, hlo, hini⟩ := a
  simp only [xP] at hp
  obtain ⟨st2, h1, h2⟩ := Option.map_eq_some_iff.mp hp
  cases h2
  obtain ⟨rfl, rfl⟩ := xsimple hk rfl
  obtain ⟨x, y, r, rfl, rfl⟩ := xll_inv h1
  exact lv_lsub hx hb hd (k _ _ _ _ _ o)

theorem x_lmul : xOK .lmul := by
  intro p l e R s m args below meth c Q bs bS bM Ls xs cA Dg i h0 a raw len pc L L' st st' h h' hd hk hp hc hs ls H locs cells slots o k
  obtain ⟨hx, hb, hml, hown, hts, hG, hsz, hfr, hlo, hini⟩ := a
  simp only [xP] at hp
  obtain ⟨st2, h1, h2⟩ := Option.map_eq_some_iff.mp hp
  cases h2
  obtain ⟨rfl, rfl⟩ := xsimple hk rfl
  obtain ⟨x, y, r, rfl, rfl⟩ := xll_inv h1
  exact lv_lmul hx hb hd (k _ _ _ _ _ o)

theorem x_land : xOK .land := by
  intro p l e R s m args below meth c Q bs bS bM Ls xs cA Dg i h0 a raw len pc L L' st st' h h' hd hk hp hc hs ls H locs cells slots o k
  obtain ⟨hx, hb, hml, hown, hts, hG, hsz, hfr, hlo, hini⟩ := a
  simp only [xP] at hp
  obtain ⟨st2, h1, h2⟩ := Option.map_eq_some_iff.mp hp
  cases h2
  obtain ⟨rfl, rfl⟩ := xsimple hk rfl
  obtain ⟨x, y, r, rfl, rfl⟩ := xll_inv h1
  exact lv_land hx hb hd (k _ _ _ _ _ o)

theorem x_lor : xOK .lor := by
  intro p l e R s m args below meth c Q bs bS bM Ls xs cA Dg i h0 a raw len pc L L' st st' h h' hd hk hp hc hs ls H locs cells slots o k
  obtain ⟨hx, hb, hml, hown, hts, hG, hsz, hfr, hlo, hini⟩ := a
  simp only [xP] at hp
  obtain ⟨st2, h1, h2⟩ := Option.map_eq_some_iff.mp hp
  cases h2
  obtain ⟨rfl, rfl⟩ := xsimple hk rfl
  obtain ⟨x, y, r, rfl, rfl⟩ := xll_inv h1
  exact lv_lor hx hb hd (k _ _ _ _ _ o)

theorem x_lxor : xOK .lxor := by
  intro p l e R s m args below meth c Q bs bS bM Ls xs cA Dg i h0 a raw len pc L L' st st' h h' hd hk hp hc hs ls H locs cells slots o k
  obtain ⟨hx, hb, hml, hown, hts, hG, hsz, hfr, hlo, hini⟩ := a
  simp only [xP] at hp
  obtain ⟨st2, h1, h2⟩ := Option.map_eq_some_iff.mp hp
  cases h2
  obtain ⟨rfl, rfl⟩ := xsimple hk rfl
  obtain ⟨x, y, r, rfl, rfl⟩ := xll_inv h1
  exact lv_lxor hx hb hd (k _ _ _ _ _ o)

theorem x_ldiv : xOK .ldiv := by
  intro p l e R s m args below meth c Q bs bS bM Ls xs cA Dg i h0 a raw len pc L L' st st' h h' hd hk hp hc hs ls H locs cells slots o k
  obtain ⟨hx, hb, hml, hown, hts, hG, hsz, hfr, hlo, hini⟩ := a
  simp only [xP] at hp
  obtain ⟨st2, h1, h2⟩ := Option.map_eq_some_iff.mp hp
  cases h2
  obtain ⟨rfl, rfl⟩ := xsimple hk rfl
  obtain ⟨x, y, r, rfl, rfl, hne⟩ := xlv_inv h1
  exact lv_ldiv hx hb hd hne (k _ _ _ _ _ o)

theorem x_lrem : xOK .lrem := by
  intro p l e R s m args below meth c Q bs bS bM Ls xs cA Dg i h0 a raw len pc L L' st st' h h' hd hk hp hc hs ls H locs cells slots o k
  obtain ⟨hx, hb, hml, hown, hts, hG, hsz, hfr, hlo, hini⟩ := a
  simp only [xP] at hp
  obtain ⟨st2, h1, h2⟩ := Option.map_eq_some_iff.mp hp
  cases h2
  obtain ⟨rfl, rfl⟩ := xsimple hk rfl
  obtain ⟨x, y, r, rfl, rfl, hne⟩ := xlv_inv h1
  exact lv_lrem hx hb hd hne (k _ _ _ _ _ o)

theorem x_lshl : xOK .lshl := by
  intro p l e R s m args below meth c Q bs bS bM Ls xs cA Dg i h0 a raw len pc L L' st st' h h' hd hk hp hc hs ls H locs cells slots o k
  obtain ⟨hx, hb, hml, hown, hts, hG, hsz, hfr, hlo, hini⟩ := a
  simp only [xP] at hp
  obtain ⟨st2, h1, h2⟩ := Option.map_eq_some_iff.mp hp
  cases h2
  obtain ⟨rfl, rfl⟩ := xsimple hk rfl
  obtain ⟨x, y, r, rfl, rfl⟩ := xls_inv h1
  exact lv_lshl hx hb hd rfl (k _ _ _ _ _ o)

theorem x_lshr : xOK .lshr := by
  intro p l e R s m args below meth c Q bs bS bM Ls xs cA Dg i h0 a raw len pc L L' st st' h h' hd hk hp hc hs ls H locs cells slots o k
  obtain ⟨hx, hb, hml, hown, hts, hG, hsz, hfr, hlo, hini⟩ := a
  simp only [xP] at hp
  obtain ⟨st2, h1, h2⟩ := Option.map_eq_some_iff.mp hp
  cases h2
  obtain ⟨rfl, rfl⟩ := xsimple hk rfl
  obtain ⟨x, y, r, rfl, rfl⟩ := xls_inv h1
  exact lv_lshr hx hb hd rfl (k _ _ _ _ _ o)

theorem x_lushr : xOK .lushr := by
  intro p l e R s m args below meth c Q bs bS bM Ls xs cA Dg i h0 a raw len pc L L' st st' h h' hd hk hp hc hs ls H locs cells slots o k
  obtain ⟨hx, hb, hml, hown, hts, hG, hsz, hfr, hlo, hini⟩ := a
  simp only [xP] at hp
  obtain ⟨st2, h1, h2⟩ := Option.map_eq_some_iff.mp hp
  cases h2
  obtain ⟨rfl, rfl⟩ := xsimple hk rfl
  obtain ⟨x, y, r, rfl, rfl⟩ := xls_inv h1
  exact lv_lushr hx hb hd rfl (k _ _ _ _ _ o)

theorem x_lcmp : xOK .lcmp := by
  intro p l e R s m args below meth c Q bs bS bM Ls xs cA Dg i h0 a raw len pc L L' st st' h h' hd hk hp hc hs ls H locs cells slots o k
  obtain ⟨hx, hb, hml, hown, hts, hG, hsz, hfr, hlo, hini⟩ := a
  simp only [xP] at hp
  obtain ⟨st2, h1, h2⟩ := Option.map_eq_some_iff.mp hp
  cases h2
  obtain ⟨rfl, rfl⟩ := xsimple hk rfl
  obtain ⟨x, y, r, rfl, rfl⟩ := xlc_inv h1
  exact W.lcmp hx hb hd (k _ _ _ _ _ o)

theorem x_i2l : xOK .i2l := by
  intro p l e R s m args below meth c Q bs bS bM Ls xs cA Dg i h0 a raw len pc L L' st st' h h' hd hk hp hc hs ls H locs cells slots o k
  obtain ⟨hx, hb, hml, hown, hts, hG, hsz, hfr, hlo, hini⟩ := a
  simp only [xP] at hp
  obtain ⟨st2, h1, h2⟩ := Option.map_eq_some_iff.mp hp
  cases h2
  obtain ⟨rfl, rfl⟩ := xsimple hk rfl
  obtain ⟨x, r, rfl, rfl⟩ := xil_inv h1
  exact lv_i2l hx hb hd rfl (k _ _ _ _ _ o)

theorem x_l2i : xOK .l2i := by
  intro p l e R s m args below meth c Q bs bS bM Ls xs cA Dg i h0 a raw len pc L L' st st' h h' hd hk hp hc hs ls H locs cells slots o k
  obtain ⟨hx, hb, hml, hown, hts, hG, hsz, hfr, hlo, hini⟩ := a
  simp only [xP] at hp
  obtain ⟨st2, h1, h2⟩ := Option.map_eq_some_iff.mp hp
  cases h2
  obtain ⟨rfl, rfl⟩ := xsimple hk rfl
  obtain ⟨x, r, rfl, rfl⟩ := xli_inv h1
  exact lv_l2i hx hb hd rfl (k _ _ _ _ _ o)

