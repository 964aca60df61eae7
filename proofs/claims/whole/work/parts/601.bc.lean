/-! ===== how many bits a long, or a small int, has: the JDK's methods ===== -/
theorem mk85 : mkB 85 8 = 6148914691236517205 := by decide +kernel
theorem mk51 : mkB 51 8 = 3689348814741910323 := by decide +kernel
theorem mk15 : mkB 15 8 = 1085102592571150095 := by decide +kernel
theorem st1_le (m n : Nat) : st1 m n ≤ n := Nat.sub_le _ _
theorem pcS8 (n : Nat) (h : n < 2 ^ 64) : ∃ s0 s1 s2 s3 s4 s5 s6 s7, s0 ≤ 8 ∧ s1 ≤ 8 ∧ s2 ≤ 8 ∧ s3 ≤ 8 ∧ s4 ≤ 8 ∧ s5 ≤ 8 ∧ s6 ≤ 8 ∧ s7 ≤ 8 ∧ pcS 8 n = s0 + 256 * (s1 + 256 * (s2 + 256 * (s3 + 256 * (s4 + 256 * (s5 + 256 * (s6 + 256 * s7)))))) ∧ fb_ct (fun j => n.testBit j) 64 = s0 + s1 + (s2 + s3) + (s4 + s5 + (s6 + s7)) := by
  refine ⟨pcB (n % 256), pcB (n / 256 % 256), pcB (n / 256 / 256 % 256), pcB (n / 256 / 256 / 256 % 256), pcB (n / 256 / 256 / 256 / 256 % 256), pcB (n / 256 / 256 / 256 / 256 / 256 % 256), pcB (n / 256 / 256 / 256 / 256 / 256 / 256 % 256), pcB (n / 256 / 256 / 256 / 256 / 256 / 256 / 256 % 256), pcB_le _, pcB_le _, pcB_le _, pcB_le _, pcB_le _, pcB_le _, pcB_le _, pcB_le _, ?_, ?_⟩
  · simp only [pcS, Nat.mul_zero, Nat.add_zero]
  · have e7 := pcS_bit 7 n
    have e6 := pcS_bit 6 (n / 256)
    have e5 := pcS_bit 5 (n / 256 / 256)
    have e4 := pcS_bit 4 (n / 256 / 256 / 256)
    have e3 := pcS_bit 3 (n / 256 / 256 / 256 / 256)
    have e2 := pcS_bit 2 (n / 256 / 256 / 256 / 256 / 256)
    have e1 := pcS_bit 1 (n / 256 / 256 / 256 / 256 / 256 / 256)
    have e0 := pcS_bit 0 (n / 256 / 256 / 256 / 256 / 256 / 256 / 256)
    have ez : fb_ct (fun j => (n / 256 / 256 / 256 / 256 / 256 / 256 / 256 / 256).testBit j) (8 * 0) = 0 := rfl
    simp only [Nat.reduceMul, Nat.reduceAdd, Nat.zero_add] at e7 e6 e5 e4 e3 e2 e1 e0 ez
    rw [e7, e6, e5, e4, e3, e2, e1, e0, ez]
    simp only [Nat.add_assoc, Nat.add_zero]
section
variable {jmp : Nat → xL → xS → xH → xR} {h : xH} {t : List xI}
set_option maxRecDepth 100000 in
theorem t_bc_a {n : Nat} (hn : n < 2 ^ 64) : xB xcall jmp (.inl (.lload 0) :: .inl (.lload 0) :: .inl (.iconst 1) :: .inl .lushr :: .inl (.sipush 6148914691236517205) :: .inl .land :: .inl .lsub :: .inl (.lstore 0) :: t) [some (.long (lN n)), none] [] h = xB xcall jmp t [some (.long (lN (st1 (mkB 85 8) n))), none] [] h := by
  have hle : (n / 2 ^ 1) &&& 6148914691236517205 ≤ n := Nat.le_trans Nat.and_le_left (Nat.div_le_self _ _)
  have e : st1 (mkB 85 8) n = n - ((n / 2 ^ 1) &&& 6148914691236517205) := by rw [mk85]; rfl
  rw [e]
  simp (maxSteps := 2000000) (disch := omega) only [e_inl, e_goto, e_fall, e_if, e_icmp, e_iret, e_zret, e_lret, e_vret, e_call0_0, e_call0_1, e_call0_2, e_call0_3, e_call0_4, e_call1_0, e_call1_1, e_call1_2, e_call1_3, e_call1_4, e_call2_0, e_call2_1, e_call2_2, e_call2_3, e_call2_4, e_call3_0, e_call3_1, e_call3_2, e_call3_3, e_call3_4, e_call4_0, e_call4_1, e_call4_2, e_call4_3, e_call4_4, e_call5_0, e_call5_1, e_call5_2, e_call5_3, e_call5_4, e_call6_0, e_call6_1, e_call6_2, e_call6_3, e_call6_4, xP, xld, xst1, xst2, xis2, xii, xid, xll, xlv, xls, xlc, xil, xli, xrd, xdup, xdup2, xc1, xpu, c_eq, c_ne, c_lt, c_ge, c_gt, c_le, Option.bind_some, Option.map_some, List.length_nil, List.length_cons, Nat.reduceAdd, Nat.reduceLeDiff, Int.reduceToNat, Bool.and_self, Bool.false_eq_true, if_true, if_false, n_lit, m_lit, wb_shr, wb_and, lN_sub]
set_option maxRecDepth 100000 in
theorem t_bc_b {n : Nat} (hn : n < 2 ^ 64) : xB xcall jmp (.inl (.lload 0) :: .inl (.sipush 3689348814741910323) :: .inl .land :: .inl (.lload 0) :: .inl (.iconst 2) :: .inl .lushr :: .inl (.sipush 3689348814741910323) :: .inl .land :: .inl .ladd :: .inl (.lstore 0) :: t) [some (.long (lN n)), none] [] h = xB xcall jmp t [some (.long (lN (st2 (mkB 51 8) n))), none] [] h := by
  have e : st2 (mkB 51 8) n = (n &&& 3689348814741910323) + ((n / 2 ^ 2) &&& 3689348814741910323) := by rw [mk51]; rfl
  rw [e]
  simp (maxSteps := 2000000) (disch := omega) only [e_inl, e_goto, e_fall, e_if, e_icmp, e_iret, e_zret, e_lret, e_vret, e_call0_0, e_call0_1, e_call0_2, e_call0_3, e_call0_4, e_call1_0, e_call1_1, e_call1_2, e_call1_3, e_call1_4, e_call2_0, e_call2_1, e_call2_2, e_call2_3, e_call2_4, e_call3_0, e_call3_1, e_call3_2, e_call3_3, e_call3_4, e_call4_0, e_call4_1, e_call4_2, e_call4_3, e_call4_4, e_call5_0, e_call5_1, e_call5_2, e_call5_3, e_call5_4, e_call6_0, e_call6_1, e_call6_2, e_call6_3, e_call6_4, xP, xld, xst1, xst2, xis2, xii, xid, xll, xlv, xls, xlc, xil, xli, xrd, xdup, xdup2, xc1, xpu, c_eq, c_ne, c_lt, c_ge, c_gt, c_le, Option.bind_some, Option.map_some, List.length_nil, List.length_cons, Nat.reduceAdd, Nat.reduceLeDiff, Int.reduceToNat, Bool.and_self, Bool.false_eq_true, if_true, if_false, n_lit, m_lit, wb_shr, wb_and, lN_add]
set_option maxRecDepth 100000 in
theorem t_bc_c {n : Nat} (hn : n + n / 2 ^ 4 < 2 ^ 64) : xB xcall jmp (.inl (.lload 0) :: .inl (.lload 0) :: .inl (.iconst 4) :: .inl .lushr :: .inl .ladd :: .inl (.sipush 1085102592571150095) :: .inl .land :: .inl (.lstore 0) :: t) [some (.long (lN n)), none] [] h = xB xcall jmp t [some (.long (lN (st3 (mkB 15 8) n))), none] [] h := by
  have e : st3 (mkB 15 8) n = (n + n / 2 ^ 4) &&& 1085102592571150095 := by rw [mk15]; rfl
  rw [e]
  simp (maxSteps := 2000000) (disch := omega) only [e_inl, e_goto, e_fall, e_if, e_icmp, e_iret, e_zret, e_lret, e_vret, e_call0_0, e_call0_1, e_call0_2, e_call0_3, e_call0_4, e_call1_0, e_call1_1, e_call1_2, e_call1_3, e_call1_4, e_call2_0, e_call2_1, e_call2_2, e_call2_3, e_call2_4, e_call3_0, e_call3_1, e_call3_2, e_call3_3, e_call3_4, e_call4_0, e_call4_1, e_call4_2, e_call4_3, e_call4_4, e_call5_0, e_call5_1, e_call5_2, e_call5_3, e_call5_4, e_call6_0, e_call6_1, e_call6_2, e_call6_3, e_call6_4, xP, xld, xst1, xst2, xis2, xii, xid, xll, xlv, xls, xlc, xil, xli, xrd, xdup, xdup2, xc1, xpu, c_eq, c_ne, c_lt, c_ge, c_gt, c_le, Option.bind_some, Option.map_some, List.length_nil, List.length_cons, Nat.reduceAdd, Nat.reduceLeDiff, Int.reduceToNat, Bool.and_self, Bool.false_eq_true, if_true, if_false, n_lit, m_lit, wb_shr, wb_and, lN_add]
set_option maxRecDepth 100000 in
theorem t_bc_d {n : Nat} (hn : n < 2 ^ 64) : xB xcall jmp (.inl (.lload 0) :: .inl (.lload 0) :: .inl (.iconst 8) :: .inl .lushr :: .inl .ladd :: .inl (.lstore 0) :: t) [some (.long (lN n)), none] [] h = xB xcall jmp t [some (.long (lN (n + n / 2 ^ 8))), none] [] h := by
  simp (maxSteps := 2000000) (disch := omega) only [e_inl, e_goto, e_fall, e_if, e_icmp, e_iret, e_zret, e_lret, e_vret, e_call0_0, e_call0_1, e_call0_2, e_call0_3, e_call0_4, e_call1_0, e_call1_1, e_call1_2, e_call1_3, e_call1_4, e_call2_0, e_call2_1, e_call2_2, e_call2_3, e_call2_4, e_call3_0, e_call3_1, e_call3_2, e_call3_3, e_call3_4, e_call4_0, e_call4_1, e_call4_2, e_call4_3, e_call4_4, e_call5_0, e_call5_1, e_call5_2, e_call5_3, e_call5_4, e_call6_0, e_call6_1, e_call6_2, e_call6_3, e_call6_4, xP, xld, xst1, xst2, xis2, xii, xid, xll, xlv, xls, xlc, xil, xli, xrd, xdup, xdup2, xc1, xpu, c_eq, c_ne, c_lt, c_ge, c_gt, c_le, Option.bind_some, Option.map_some, List.length_nil, List.length_cons, Nat.reduceAdd, Nat.reduceLeDiff, Int.reduceToNat, Bool.and_self, Bool.false_eq_true, if_true, if_false, n_lit, m_lit, wb_shr, lN_add]
set_option maxRecDepth 100000 in
theorem t_bc_e {n : Nat} (hn : n < 2 ^ 64) : xB xcall jmp (.inl (.lload 0) :: .inl (.lload 0) :: .inl (.iconst 16) :: .inl .lushr :: .inl .ladd :: .inl (.lstore 0) :: t) [some (.long (lN n)), none] [] h = xB xcall jmp t [some (.long (lN (n + n / 2 ^ 16))), none] [] h := by
  simp (maxSteps := 2000000) (disch := omega) only [e_inl, e_goto, e_fall, e_if, e_icmp, e_iret, e_zret, e_lret, e_vret, e_call0_0, e_call0_1, e_call0_2, e_call0_3, e_call0_4, e_call1_0, e_call1_1, e_call1_2, e_call1_3, e_call1_4, e_call2_0, e_call2_1, e_call2_2, e_call2_3, e_call2_4, e_call3_0, e_call3_1, e_call3_2, e_call3_3, e_call3_4, e_call4_0, e_call4_1, e_call4_2, e_call4_3, e_call4_4, e_call5_0, e_call5_1, e_call5_2, e_call5_3, e_call5_4, e_call6_0, e_call6_1, e_call6_2, e_call6_3, e_call6_4, xP, xld, xst1, xst2, xis2, xii, xid, xll, xlv, xls, xlc, xil, xli, xrd, xdup, xdup2, xc1, xpu, c_eq, c_ne, c_lt, c_ge, c_gt, c_le, Option.bind_some, Option.map_some, List.length_nil, List.length_cons, Nat.reduceAdd, Nat.reduceLeDiff, Int.reduceToNat, Bool.and_self, Bool.false_eq_true, if_true, if_false, n_lit, m_lit, wb_shr, lN_add]
set_option maxRecDepth 100000 in
theorem t_bc_f {n : Nat} (hn : n < 2 ^ 64) : xB xcall jmp (.inl (.lload 0) :: .inl (.lload 0) :: .inl (.iconst 32) :: .inl .lushr :: .inl .ladd :: .inl (.lstore 0) :: t) [some (.long (lN n)), none] [] h = xB xcall jmp t [some (.long (lN (n + n / 2 ^ 32))), none] [] h := by
  simp (maxSteps := 2000000) (disch := omega) only [e_inl, e_goto, e_fall, e_if, e_icmp, e_iret, e_zret, e_lret, e_vret, e_call0_0, e_call0_1, e_call0_2, e_call0_3, e_call0_4, e_call1_0, e_call1_1, e_call1_2, e_call1_3, e_call1_4, e_call2_0, e_call2_1, e_call2_2, e_call2_3, e_call2_4, e_call3_0, e_call3_1, e_call3_2, e_call3_3, e_call3_4, e_call4_0, e_call4_1, e_call4_2, e_call4_3, e_call4_4, e_call5_0, e_call5_1, e_call5_2, e_call5_3, e_call5_4, e_call6_0, e_call6_1, e_call6_2, e_call6_3, e_call6_4, xP, xld, xst1, xst2, xis2, xii, xid, xll, xlv, xls, xlc, xil, xli, xrd, xdup, xdup2, xc1, xpu, c_eq, c_ne, c_lt, c_ge, c_gt, c_le, Option.bind_some, Option.map_some, List.length_nil, List.length_cons, Nat.reduceAdd, Nat.reduceLeDiff, Int.reduceToNat, Bool.and_self, Bool.false_eq_true, if_true, if_false, n_lit, m_lit, wb_shr, lN_add]
set_option maxRecDepth 100000 in
theorem t_bc_g {n : Nat} : xB xcall jmp [.inl (.lload 0), .inl .l2i, .inl (.iconst 127), .inl .iand, .inr .ireturn] [some (.long (lN n)), none] [] h = some (some (.int (nI (n % 128))), h) := by
  have e := fa_mask n 7
  rw [show 2 ^ 7 - 1 = 127 from rfl, show 2 ^ 7 = 128 from rfl] at e
  simp (maxSteps := 2000000) (disch := omega) only [e_inl, e_goto, e_fall, e_if, e_icmp, e_iret, e_zret, e_lret, e_vret, e_call0_0, e_call0_1, e_call0_2, e_call0_3, e_call0_4, e_call1_0, e_call1_1, e_call1_2, e_call1_3, e_call1_4, e_call2_0, e_call2_1, e_call2_2, e_call2_3, e_call2_4, e_call3_0, e_call3_1, e_call3_2, e_call3_3, e_call3_4, e_call4_0, e_call4_1, e_call4_2, e_call4_3, e_call4_4, e_call5_0, e_call5_1, e_call5_2, e_call5_3, e_call5_4, e_call6_0, e_call6_1, e_call6_2, e_call6_3, e_call6_4, xP, xld, xst1, xst2, xis2, xii, xid, xll, xlv, xls, xlc, xil, xli, xrd, xdup, xdup2, xc1, xpu, c_eq, c_ne, c_lt, c_ge, c_gt, c_le, Option.bind_some, Option.map_some, List.length_nil, List.length_cons, Nat.reduceAdd, Nat.reduceLeDiff, Int.reduceToNat, Bool.and_self, Bool.false_eq_true, if_true, if_false, n_lit, lN_i, e]
end
theorem bc_bd {x : Nat} (h : x < 2 ^ 60) : x < 2 ^ 64 ∧ x + x / 2 ^ 8 < 2 ^ 64 ∧ x + x / 2 ^ 8 + (x + x / 2 ^ 8) / 2 ^ 16 < 2 ^ 64 := by
  have a := Nat.div_le_self x (2 ^ 8)
  have b := Nat.div_le_self (x + x / 2 ^ 8) (2 ^ 16)
  generalize x / 2 ^ 8 = u at *
  generalize (x + u) / 2 ^ 16 = v at *
  omega
set_option maxRecDepth 100000 in
theorem t_bitCountL {n : Nat} (hn : n < 2 ^ 64) (h : xH) : xcall 187 [.long (lN n)] h = some (some (.int (nI (fb_ct (fun j => n.testBit j) 64))), h) := by
  have h256 : n < 256 ^ 8 := hn
  have e3 := st123 8 n h256
  have hb1 : st1 (mkB 85 8) n < 2 ^ 64 := Nat.lt_of_le_of_lt (st1_le _ _) hn
  have a1 : ∀ x, x &&& mkB 51 8 ≤ 3689348814741910323 := fun x => by rw [mk51]; exact Nat.and_le_right
  have hb2 : st2 (mkB 51 8) (st1 (mkB 85 8) n) ≤ 3689348814741910323 + 3689348814741910323 := Nat.add_le_add (a1 _) (a1 _)
  obtain ⟨s0, s1, s2, s3, s4, s5, s6, s7, p0, p1, p2, p3, p4, p5, p6, p7, ex, ec⟩ := pcS8 n hn
  obtain ⟨f1, f2⟩ := pc_fold p0 p1 p2 p3 p4 p5 p6 p7 rfl rfl rfl rfl rfl rfl ex
  have hb3 : st2 (mkB 51 8) (st1 (mkB 85 8) n) + st2 (mkB 51 8) (st1 (mkB 85 8) n) / 2 ^ 4 < 2 ^ 64 := by
    clear e3 ex ec f1 f2
    generalize st2 (mkB 51 8) (st1 (mkB 85 8) n) = u at *
    omega
  rw [N187, D187_0, t_bc_a hn, t_bc_b hb1, t_bc_c hb3, e3]
  generalize pcS 8 n = x at *
  obtain ⟨k1, k2, k3⟩ := bc_bd f2
  rw [t_bc_d k1, t_bc_e k2, t_bc_f k3, t_bc_g, ec]
  have f1' : (x + x / 2 ^ 8 + (x + x / 2 ^ 8) / 2 ^ 16 + (x + x / 2 ^ 8 + (x + x / 2 ^ 8) / 2 ^ 16) / 2 ^ 32) % 128 = s0 + s1 + (s2 + s3) + (s4 + s5 + (s6 + s7)) := f1
  rw [f1']
/-- the JDK's sum for an int -/
def bcF (x : Int32) : Int32 :=
  let a := x - ((x.toUInt32 >>> ((nI 1).toUInt32 &&& Int32.toUInt32 31)).toInt32 &&& Int32.ofInt 1431655765)
  let b := (a &&& Int32.ofInt 858993459) + ((a.toUInt32 >>> ((nI 2).toUInt32 &&& Int32.toUInt32 31)).toInt32 &&& Int32.ofInt 858993459)
  let c := (b + (b.toUInt32 >>> ((nI 4).toUInt32 &&& Int32.toUInt32 31)).toInt32) &&& Int32.ofInt 252645135
  let d := c + (c.toUInt32 >>> ((nI 8).toUInt32 &&& Int32.toUInt32 31)).toInt32
  let e := d + (d.toUInt32 >>> ((nI 16).toUInt32 &&& Int32.toUInt32 31)).toInt32
  e &&& nI 63
theorem bcF_ok : ∀ c, c < 256 → bcF (nI c) = nI (fb_ct (fun j => c.testBit j) 8) := by decide +kernel
set_option maxRecDepth 100000 in
theorem t_bitCountI {c : Nat} (hc : c < 256) (h : xH) : xcall 186 [.int (nI c)] h = some (some (.int (nI (fb_ct (fun j => c.testBit j) 8))), h) := by
  rw [← bcF_ok c hc, N186, D186_0]
  generalize nI c = x
  unfold bcF
  simp only [e_inl, e_goto, e_fall, e_if, e_icmp, e_iret, e_zret, e_lret, e_vret, e_call0_0, e_call0_1, e_call0_2, e_call0_3, e_call0_4, e_call1_0, e_call1_1, e_call1_2, e_call1_3, e_call1_4, e_call2_0, e_call2_1, e_call2_2, e_call2_3, e_call2_4, e_call3_0, e_call3_1, e_call3_2, e_call3_3, e_call3_4, e_call4_0, e_call4_1, e_call4_2, e_call4_3, e_call4_4, e_call5_0, e_call5_1, e_call5_2, e_call5_3, e_call5_4, e_call6_0, e_call6_1, e_call6_2, e_call6_3, e_call6_4, xP, xld, xst1, xst2, xis2, xii, xid, xll, xlv, xls, xlc, xil, xli, xrd, xdup, xdup2, xc1, xpu, c_eq, c_ne, c_lt, c_ge, c_gt, c_le, Option.bind_some, Option.map_some, List.length_nil, List.length_cons, Nat.reduceAdd, Nat.reduceLeDiff, Int.reduceToNat, Bool.and_self, Bool.false_eq_true, if_true, if_false, n_lit]
