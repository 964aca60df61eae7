/-! ===== the class: a state becomes another (2); states kept ===== -/
theorem sI_s (s : xSt) (k : Nat) (x : Int32) : (sI s k x).1 k = x := by
  unfold sI
  exact u_s _ _ _
theorem sb_ge (i : Nat) : 3 ≤ sb i := by
  cases i with
  | zero => exact Nat.le_refl 3
  | succ n => show 3 ≤ 26 + 21 * n; omega
section
variable {q : Nat × (Nat → Int32)} {S : Nat → xSt} {P : Int32 × (Nat → Nat)} {A : (Nat → Int64) × Int32 × Int32 × (Nat → Int64) × (Nat → Nat → Int64)} {D : (Nat → Int64) × Int64} {K : Nat → Int64} {X : Int32 × Int32 × Int32 × (Nat → Int32) × (Nat → Int32)} {E Z : Nat → Int32} {I : Nat → Int32} {J : Nat → Int64} {V : Nat → Nat → Int32}
theorem rdF {i f : Nat} (hi : i < 6) (hf : f < 4) : xaald (hp q S P A D K X E Z I J V) (sb i + 1) (nI f) = some (.ref (sb i + 5 + 2 * f)) := by
  have := sb_ge i
  rw [rT_fields _ _ _ _ _ _ _ _ _ _ _ _ i hi, if_pos ⟨x_in hf (by omega), by omega, rfl⟩, nI_clamp (by omega), if_pos hf]
  rfl
theorem rdR {i k : Nat} (hi : i < 6) (hk : k < 8) : xaald (hp q S P A D K X E Z I J V) (sb i + 3) (nI k) = some (.ref (sb i + 13 + k)) := by
  have := sb_ge i
  rw [rT_rules _ _ _ _ _ _ _ _ _ _ _ _ i hi, if_pos ⟨x_in hk (by omega), by omega, rfl⟩, nI_clamp (by omega), if_pos hk]
  rfl
theorem rdS0 {k : Nat} (hk : k < 5) : xaald (hp q S P A D K X E Z I J V) 25 (nI k) = some (.ref (sb (P.2 k))) := by
  rw [r_slots, if_pos ⟨x_in hk (by omega), by omega, rfl⟩, nI_clamp (by omega), if_pos hk]
  rfl
theorem rd0F {f : Nat} (hf : f < 4) : xaald (hp q S P A D K X E Z I J V) 4 (nI f) = some (.ref (8 + 2 * f)) := by
  rw [r_fields, if_pos ⟨x_in hf (by omega), by omega, rfl⟩, nI_clamp (by omega), if_pos hf]
  rfl
theorem rd0R {k : Nat} (hk : k < 8) : xaald (hp q S P A D K X E Z I J V) 6 (nI k) = some (.ref (16 + k)) := by
  rw [r_rules, if_pos ⟨x_in hk (by omega), by omega, rfl⟩, nI_clamp (by omega), if_pos hk]
  rfl
theorem rdK {k : Nat} (hk : k < 8) : xaald (hp q S P A D K X E Z I J V) 136 (nI k) = some (.ref (137 + 2 * k)) := by
  rw [r_keepers, if_pos ⟨x_in hk (by omega), by omega, rfl⟩, nI_clamp (by omega), if_pos hk]
  rfl
set_option maxRecDepth 100000 in
theorem c_sb_10 {i j : Nat} (hi : i < 6) (hj : j < 6) (hne : j ≠ i) (s : xSt) : den 44 10 [some (.ref (sb i)), some (.ref (sb j)), some (.int (nI 0))] [] (hp q (vf_upd S i s) P A D K X E Z I J V) = den 44 36 [some (.ref (sb i)), some (.ref (sb j)), some (.int (nI 4))] [] (hp q (vf_upd S i (bF s (S j) 4)) P A D K X E Z I J V) := by
  have hl := x_loop (i := 44) (pc := 10) (fun k => [some (.ref (sb i)), some (.ref (sb j)), some (.int (nI k))]) (fun k => (hp q (vf_upd S i (bF s (S j) k)) P A D K X E Z I J V)) 4 (fun k hk => by
    rw [D44_10]
    have h1 : ¬ 4 ≤ k := by omega
    have eb := c_fb_0 (q := q) (S := vf_upd S i (bF s (S j) k)) (P := P) (A := A) (D := D) (K := K) (X := X) (E := E) (Z := Z) (I := I) (J := J) (V := V) hi hj hne hk _ rfl
    rw [vu_s, vu_n _ _ hne, vu_vu] at eb
    have es : bF s (S j) (k + 1) = fB (bF s (S j) k) (S j) k := rfl
    rw [es]
    simp (maxSteps := 2000000) (disch := omega) only [e_inl, e_goto, e_fall, e_if, e_icmp, e_iret, e_zret, e_lret, e_vret, e_call0_0, e_call0_1, e_call0_2, e_call0_3, e_call0_4, e_call1_0, e_call1_1, e_call1_2, e_call1_3, e_call1_4, e_call2_0, e_call2_1, e_call2_2, e_call2_3, e_call2_4, e_call3_0, e_call3_1, e_call3_2, e_call3_3, e_call3_4, e_call4_0, e_call4_1, e_call4_2, e_call4_3, e_call4_4, e_call5_0, e_call5_1, e_call5_2, e_call5_3, e_call5_4, e_call6_0, e_call6_1, e_call6_2, e_call6_3, e_call6_4, xP, xld, xst1, xst2, xis2, xii, xid, xll, xlv, xls, xlc, xil, xli, xrd, xdup, xdup2, xc1, xpu, c_eq, c_ne, c_lt, c_ge, c_gt, c_le, Option.bind_some, Option.map_some, List.length_nil, List.length_cons, Nat.reduceAdd, Nat.reduceLeDiff, Int.reduceToNat, Bool.and_self, Bool.false_eq_true, if_true, if_false, n_lit, nI_leI, nI_add, h1, gT_1, rdF, eb])
  have e0 : bF s (S j) 0 = s := rfl
  rw [e0] at hl
  rw [hl, D44_10]
  simp (maxSteps := 2000000) (disch := omega) only [e_inl, e_goto, e_fall, e_if, e_icmp, e_iret, e_zret, e_lret, e_vret, e_call0_0, e_call0_1, e_call0_2, e_call0_3, e_call0_4, e_call1_0, e_call1_1, e_call1_2, e_call1_3, e_call1_4, e_call2_0, e_call2_1, e_call2_2, e_call2_3, e_call2_4, e_call3_0, e_call3_1, e_call3_2, e_call3_3, e_call3_4, e_call4_0, e_call4_1, e_call4_2, e_call4_3, e_call4_4, e_call5_0, e_call5_1, e_call5_2, e_call5_3, e_call5_4, e_call6_0, e_call6_1, e_call6_2, e_call6_3, e_call6_4, xP, xld, xst1, xst2, xis2, xii, xid, xll, xlv, xls, xlc, xil, xli, xrd, xdup, xdup2, xc1, xpu, c_eq, c_ne, c_lt, c_ge, c_gt, c_le, Option.bind_some, Option.map_some, List.length_nil, List.length_cons, Nat.reduceAdd, Nat.reduceLeDiff, Int.reduceToNat, Bool.and_self, Bool.false_eq_true, if_true, if_false, n_lit, nI_leI, Nat.le_refl]
set_option maxRecDepth 100000 in
theorem c_sb_60 {i j n : Nat} (hi : i < 6) (hj : j < 6) (hne : j ≠ i) (hn : n ≤ 8) (s : xSt) (h3 : s.1 3 = nI n) : den 44 60 [some (.ref (sb i)), some (.ref (sb j)), some (.int (nI 0))] [] (hp q (vf_upd S i s) P A D K X E Z I J V) = den 44 89 [some (.ref (sb i)), some (.ref (sb j)), some (.int (nI n))] [] (hp q (vf_upd S i (bR s (S j) n)) P A D K X E Z I J V) := by
  have h3k : ∀ k, (bR s (S j) k).1 3 = nI n := fun k => by rw [(bR_keep s (S j) k).1]; exact h3
  have hl := x_loop (i := 44) (pc := 60) (fun k => [some (.ref (sb i)), some (.ref (sb j)), some (.int (nI k))]) (fun k => (hp q (vf_upd S i (bR s (S j) k)) P A D K X E Z I J V)) n (fun k hk => by
    rw [D44_60]
    have h1 : ¬ n ≤ k := by omega
    have e3 := h3k k
    obtain ⟨s2, eb, e2⟩ := c_rb_0 (q := q) (S := vf_upd S i (bR s (S j) k)) (P := P) (A := A) (D := D) (K := K) (X := X) (E := E) (Z := Z) (I := I) (J := J) (V := V) (a := k) (k := k) hi hj (Or.inl hne) (by omega) (by omega)
    rw [vu_s, vu_n _ _ hne] at e2
    rw [vu_vu, e2] at eb
    have es : bR s (S j) (k + 1) = rB (bR s (S j) k) (S j) k := rfl
    rw [es]
    unfold rB
    simp (maxSteps := 2000000) (disch := omega) only [e_inl, e_goto, e_fall, e_if, e_icmp, e_iret, e_zret, e_lret, e_vret, e_call0_0, e_call0_1, e_call0_2, e_call0_3, e_call0_4, e_call1_0, e_call1_1, e_call1_2, e_call1_3, e_call1_4, e_call2_0, e_call2_1, e_call2_2, e_call2_3, e_call2_4, e_call3_0, e_call3_1, e_call3_2, e_call3_3, e_call3_4, e_call4_0, e_call4_1, e_call4_2, e_call4_3, e_call4_4, e_call5_0, e_call5_1, e_call5_2, e_call5_3, e_call5_4, e_call6_0, e_call6_1, e_call6_2, e_call6_3, e_call6_4, xP, xld, xst1, xst2, xis2, xii, xid, xll, xlv, xls, xlc, xil, xli, xrd, xdup, xdup2, xc1, xpu, c_eq, c_ne, c_lt, c_ge, c_gt, c_le, Option.bind_some, Option.map_some, List.length_nil, List.length_cons, Nat.reduceAdd, Nat.reduceLeDiff, Int.reduceToNat, Bool.and_self, Bool.false_eq_true, if_true, if_false, n_lit, nI_leI, nI_add, h1, gT_3, gT_4, vu_s, e3, rdR, eb])
  have e0 : bR s (S j) 0 = s := rfl
  rw [e0] at hl
  have e3 := h3k n
  rw [hl, D44_60]
  simp (maxSteps := 2000000) (disch := omega) only [e_inl, e_goto, e_fall, e_if, e_icmp, e_iret, e_zret, e_lret, e_vret, e_call0_0, e_call0_1, e_call0_2, e_call0_3, e_call0_4, e_call1_0, e_call1_1, e_call1_2, e_call1_3, e_call1_4, e_call2_0, e_call2_1, e_call2_2, e_call2_3, e_call2_4, e_call3_0, e_call3_1, e_call3_2, e_call3_3, e_call3_4, e_call4_0, e_call4_1, e_call4_2, e_call4_3, e_call4_4, e_call5_0, e_call5_1, e_call5_2, e_call5_3, e_call5_4, e_call6_0, e_call6_1, e_call6_2, e_call6_3, e_call6_4, xP, xld, xst1, xst2, xis2, xii, xid, xll, xlv, xls, xlc, xil, xli, xrd, xdup, xdup2, xc1, xpu, c_eq, c_ne, c_lt, c_ge, c_gt, c_le, Option.bind_some, Option.map_some, List.length_nil, List.length_cons, Nat.reduceAdd, Nat.reduceLeDiff, Int.reduceToNat, Bool.and_self, Bool.false_eq_true, if_true, if_false, n_lit, nI_leI, gT_3, vu_s, e3, Nat.le_refl]
set_option maxRecDepth 100000 in
theorem c_becomes {i j n u : Nat} (hi : i < 6) (hj : j < 6) (hne : j ≠ i) (hn : n ≤ 8) (hu : u ≤ 16) (h3 : (S j).1 3 = nI n) (h6 : (S j).1 6 = nI u) : xcall 44 [.ref (sb i), .ref (sb j)] (hp q S P A D K X E Z I J V) = some (none, (hp q (vf_upd S i (stB (S i) (S j) n u)) P A D K X E Z I J V)) := by
  have hij := sb_ge i
  have hjj := sb_ge j
  have a0 : ∀ t : List xI, xB xcall (den 44) (.inl (.aload 0) :: .inl (.aload 1) :: .inl (.getfield 192) :: .inl (.putfield 192) :: t) [some (.ref (sb i)), some (.ref (sb j)), none] [] (hp q S P A D K X E Z I J V) = xB xcall (den 44) t [some (.ref (sb i)), some (.ref (sb j)), none] [] (hp q (vf_upd S i (sI (S i) 0 ((S j).1 0))) P A D K X E Z I J V) := by
    intro t
    simp (maxSteps := 2000000) (disch := omega) only [e_inl, e_goto, e_fall, e_if, e_icmp, e_iret, e_zret, e_lret, e_vret, e_call0_0, e_call0_1, e_call0_2, e_call0_3, e_call0_4, e_call1_0, e_call1_1, e_call1_2, e_call1_3, e_call1_4, e_call2_0, e_call2_1, e_call2_2, e_call2_3, e_call2_4, e_call3_0, e_call3_1, e_call3_2, e_call3_3, e_call3_4, e_call4_0, e_call4_1, e_call4_2, e_call4_3, e_call4_4, e_call5_0, e_call5_1, e_call5_2, e_call5_3, e_call5_4, e_call6_0, e_call6_1, e_call6_2, e_call6_3, e_call6_4, xP, xld, xst1, xst2, xis2, xii, xid, xll, xlv, xls, xlc, xil, xli, xrd, xdup, xdup2, xc1, xpu, c_eq, c_ne, c_lt, c_ge, c_gt, c_le, Option.bind_some, Option.map_some, List.length_nil, List.length_cons, Nat.reduceAdd, Nat.reduceLeDiff, Int.reduceToNat, Bool.and_self, Bool.false_eq_true, if_true, if_false, gT_0, pT_0]
  have a1 : ∀ (s : xSt) (t : List xI), xB xcall (den 44) (.inl (.aload 1) :: .inl (.getfield 194) :: .inl (.iconst 0) :: .inl (.aload 0) :: .inl (.getfield 194) :: .inl (.iconst 0) :: .inl (.iconst 4) :: .inl .nop :: t) [some (.ref (sb i)), some (.ref (sb j)), some (.int (nI 4))] [] (hp q (vf_upd S i s) P A D K X E Z I J V) = xB xcall (den 44) t [some (.ref (sb i)), some (.ref (sb j)), some (.int (nI 4))] [] (hp q (vf_upd S i (sO s (va_cpy (S j).2.2.2.1 s.2.2.2.1 0 0 4))) P A D K X E Z I J V) := by
    intro s t
    simp (maxSteps := 2000000) (disch := omega) only [e_inl, e_goto, e_fall, e_if, e_icmp, e_iret, e_zret, e_lret, e_vret, e_call0_0, e_call0_1, e_call0_2, e_call0_3, e_call0_4, e_call1_0, e_call1_1, e_call1_2, e_call1_3, e_call1_4, e_call2_0, e_call2_1, e_call2_2, e_call2_3, e_call2_4, e_call3_0, e_call3_1, e_call3_2, e_call3_3, e_call3_4, e_call4_0, e_call4_1, e_call4_2, e_call4_3, e_call4_4, e_call5_0, e_call5_1, e_call5_2, e_call5_3, e_call5_4, e_call6_0, e_call6_1, e_call6_2, e_call6_3, e_call6_4, xP, xld, xst1, xst2, xis2, xii, xid, xll, xlv, xls, xlc, xil, xli, xrd, xdup, xdup2, xc1, xpu, c_eq, c_ne, c_lt, c_ge, c_gt, c_le, Option.bind_some, Option.map_some, List.length_nil, List.length_cons, Nat.reduceAdd, Nat.reduceLeDiff, Int.reduceToNat, Bool.and_self, Bool.false_eq_true, if_true, if_false, n_lit, gT_2, xT_O, eq_self, vu_s, vu_vu, vu_n _ _ hne]
  have a2 : ∀ (s : xSt), xB xcall (den 44) [.inl (.aload 0), .inl (.aload 1), .inl (.getfield 195), .inl (.putfield 195), .inl (.iconst 0), .inl (.istore 2), xto 60] [some (.ref (sb i)), some (.ref (sb j)), some (.int (nI 4))] [] (hp q (vf_upd S i s) P A D K X E Z I J V) = den 44 60 [some (.ref (sb i)), some (.ref (sb j)), some (.int (nI 0))] [] (hp q (vf_upd S i (sI s 3 ((S j).1 3))) P A D K X E Z I J V) := by
    intro s
    simp (maxSteps := 2000000) (disch := omega) only [e_inl, e_goto, e_fall, e_if, e_icmp, e_iret, e_zret, e_lret, e_vret, e_call0_0, e_call0_1, e_call0_2, e_call0_3, e_call0_4, e_call1_0, e_call1_1, e_call1_2, e_call1_3, e_call1_4, e_call2_0, e_call2_1, e_call2_2, e_call2_3, e_call2_4, e_call3_0, e_call3_1, e_call3_2, e_call3_3, e_call3_4, e_call4_0, e_call4_1, e_call4_2, e_call4_3, e_call4_4, e_call5_0, e_call5_1, e_call5_2, e_call5_3, e_call5_4, e_call6_0, e_call6_1, e_call6_2, e_call6_3, e_call6_4, xP, xld, xst1, xst2, xis2, xii, xid, xll, xlv, xls, xlc, xil, xli, xrd, xdup, xdup2, xc1, xpu, c_eq, c_ne, c_lt, c_ge, c_gt, c_le, Option.bind_some, Option.map_some, List.length_nil, List.length_cons, Nat.reduceAdd, Nat.reduceLeDiff, Int.reduceToNat, Bool.and_self, Bool.false_eq_true, if_true, if_false, n_lit, gT_3, pT_3, vu_s, vu_vu, vu_n _ _ hne]
  have a3 : ∀ (s : xSt) (t : List xI), xB xcall (den 44) (.inl (.aload 0) :: .inl (.aload 1) :: .inl (.getfield 197) :: .inl (.putfield 197) :: .inl (.aload 0) :: .inl (.aload 1) :: .inl (.getfield 198) :: .inl (.putfield 198) :: t) [some (.ref (sb i)), some (.ref (sb j)), some (.int (nI n))] [] (hp q (vf_upd S i s) P A D K X E Z I J V) = xB xcall (den 44) t [some (.ref (sb i)), some (.ref (sb j)), some (.int (nI n))] [] (hp q (vf_upd S i (sI (sI s 5 ((S j).1 5)) 6 ((S j).1 6))) P A D K X E Z I J V) := by
    intro s t
    simp (maxSteps := 2000000) (disch := omega) only [e_inl, e_goto, e_fall, e_if, e_icmp, e_iret, e_zret, e_lret, e_vret, e_call0_0, e_call0_1, e_call0_2, e_call0_3, e_call0_4, e_call1_0, e_call1_1, e_call1_2, e_call1_3, e_call1_4, e_call2_0, e_call2_1, e_call2_2, e_call2_3, e_call2_4, e_call3_0, e_call3_1, e_call3_2, e_call3_3, e_call3_4, e_call4_0, e_call4_1, e_call4_2, e_call4_3, e_call4_4, e_call5_0, e_call5_1, e_call5_2, e_call5_3, e_call5_4, e_call6_0, e_call6_1, e_call6_2, e_call6_3, e_call6_4, xP, xld, xst1, xst2, xis2, xii, xid, xll, xlv, xls, xlc, xil, xli, xrd, xdup, xdup2, xc1, xpu, c_eq, c_ne, c_lt, c_ge, c_gt, c_le, Option.bind_some, Option.map_some, List.length_nil, List.length_cons, Nat.reduceAdd, Nat.reduceLeDiff, Int.reduceToNat, Bool.and_self, Bool.false_eq_true, if_true, if_false, gT_5, pT_5, gT_6, pT_6, vu_s, vu_vu, vu_n _ _ hne]
  have hu0 : (0 : Int32) ≤ nI 0 := by decide
  have hun : (0 : Int32) ≤ nI u := by rw [n_0]; exact (nI_leI (by omega) (by omega)).mpr (Nat.zero_le _)
  have cz : (nI 0).toNatClampNeg = 0 := rfl
  have cu : (nI u).toNatClampNeg = u := nI_clamp (by omega)
  have a4 : ∀ (s : xSt) (t : List xI), s.1 6 = nI u → xB xcall (den 44) (.inl (.aload 1) :: .inl (.getfield 199) :: .inl (.iconst 0) :: .inl (.aload 0) :: .inl (.getfield 199) :: .inl (.iconst 0) :: .inl (.aload 0) :: .inl (.getfield 198) :: .inl .nop :: t) [some (.ref (sb i)), some (.ref (sb j)), some (.int (nI n))] [] (hp q (vf_upd S i s) P A D K X E Z I J V) = xB xcall (den 44) t [some (.ref (sb i)), some (.ref (sb j)), some (.int (nI n))] [] (hp q (vf_upd S i (sU s (va_cpy (S j).2.2.2.2.2 s.2.2.2.2.2 0 0 u))) P A D K X E Z I J V) := by
    intro s t hs6
    have ex := xT_U q (vf_upd S i s) P A D K X E Z I J V i hi j hj (nI u)
    rw [if_pos ⟨hu0, hu0, hun, by omega, by omega⟩, cz, cu, if_pos ⟨by omega, by omega⟩, vu_s, vu_vu, vu_n _ _ hne] at ex
    simp (maxSteps := 2000000) (disch := omega) only [e_inl, e_goto, e_fall, e_if, e_icmp, e_iret, e_zret, e_lret, e_vret, e_call0_0, e_call0_1, e_call0_2, e_call0_3, e_call0_4, e_call1_0, e_call1_1, e_call1_2, e_call1_3, e_call1_4, e_call2_0, e_call2_1, e_call2_2, e_call2_3, e_call2_4, e_call3_0, e_call3_1, e_call3_2, e_call3_3, e_call3_4, e_call4_0, e_call4_1, e_call4_2, e_call4_3, e_call4_4, e_call5_0, e_call5_1, e_call5_2, e_call5_3, e_call5_4, e_call6_0, e_call6_1, e_call6_2, e_call6_3, e_call6_4, xP, xld, xst1, xst2, xis2, xii, xid, xll, xlv, xls, xlc, xil, xli, xrd, xdup, xdup2, xc1, xpu, c_eq, c_ne, c_lt, c_ge, c_gt, c_le, Option.bind_some, Option.map_some, List.length_nil, List.length_cons, Nat.reduceAdd, Nat.reduceLeDiff, Int.reduceToNat, Bool.and_self, Bool.false_eq_true, if_true, if_false, n_lit, gT_7, gT_6, vu_s, hs6, ex, eq_self]
  have a5 : ∀ (s : xSt), xB xcall (den 44) [.inl (.aload 0), .inl (.iconst 0), .inl (.putfield 200), .inr .return_] [some (.ref (sb i)), some (.ref (sb j)), some (.int (nI n))] [] (hp q (vf_upd S i s) P A D K X E Z I J V) = some (none, (hp q (vf_upd S i (sI s 8 (nI 0))) P A D K X E Z I J V)) := by
    intro s
    simp (maxSteps := 2000000) (disch := omega) only [e_inl, e_goto, e_fall, e_if, e_icmp, e_iret, e_zret, e_lret, e_vret, e_call0_0, e_call0_1, e_call0_2, e_call0_3, e_call0_4, e_call1_0, e_call1_1, e_call1_2, e_call1_3, e_call1_4, e_call2_0, e_call2_1, e_call2_2, e_call2_3, e_call2_4, e_call3_0, e_call3_1, e_call3_2, e_call3_3, e_call3_4, e_call4_0, e_call4_1, e_call4_2, e_call4_3, e_call4_4, e_call5_0, e_call5_1, e_call5_2, e_call5_3, e_call5_4, e_call6_0, e_call6_1, e_call6_2, e_call6_3, e_call6_4, xP, xld, xst1, xst2, xis2, xii, xid, xll, xlv, xls, xlc, xil, xli, xrd, xdup, xdup2, xc1, xpu, c_eq, c_ne, c_lt, c_ge, c_gt, c_le, Option.bind_some, Option.map_some, List.length_nil, List.length_cons, Nat.reduceAdd, Nat.reduceLeDiff, Int.reduceToNat, Bool.and_self, Bool.false_eq_true, if_true, if_false, n_lit, pT_8, vu_s, vu_vu]
  rw [N44 _ _ _ (oT _ _ _ _ _ _ _ _ _ _ _ _ i hi), D44_0, a0]
  simp (maxSteps := 2000000) (disch := omega) only [e_inl, e_goto, e_fall, e_if, e_icmp, e_iret, e_zret, e_lret, e_vret, e_call0_0, e_call0_1, e_call0_2, e_call0_3, e_call0_4, e_call1_0, e_call1_1, e_call1_2, e_call1_3, e_call1_4, e_call2_0, e_call2_1, e_call2_2, e_call2_3, e_call2_4, e_call3_0, e_call3_1, e_call3_2, e_call3_3, e_call3_4, e_call4_0, e_call4_1, e_call4_2, e_call4_3, e_call4_4, e_call5_0, e_call5_1, e_call5_2, e_call5_3, e_call5_4, e_call6_0, e_call6_1, e_call6_2, e_call6_3, e_call6_4, xP, xld, xst1, xst2, xis2, xii, xid, xll, xlv, xls, xlc, xil, xli, xrd, xdup, xdup2, xc1, xpu, c_eq, c_ne, c_lt, c_ge, c_gt, c_le, Option.bind_some, Option.map_some, List.length_nil, List.length_cons, Nat.reduceAdd, Nat.reduceLeDiff, Int.reduceToNat, Bool.and_self, Bool.false_eq_true, if_true, if_false, n_lit]
  rw [c_sb_10 hi hj hne, D44_36, a1, a2, c_sb_60 (n := n) hi hj hne hn, D44_89, a3, a4, a5]
  · have eO : (bF (sI (S i) 0 ((S j).1 0)) (S j) 4).2.2.2.1 = (S i).2.2.2.1 := by rw [(bF_keep (sI (S i) 0 ((S j).1 0)) (S j) 4).2]; rfl
    rw [eO]
    rfl
  · rw [sI_s]
    exact h6
  · rw [sI_s]
    exact h3
end
