/-! ===== rows for rewriting: blocks instruction by instruction, numbers ===== -/
def xpu : Option Value → xS → xS
  | some v, r => v :: r
  | none, r => r
theorem xpu_eq (v : Option Value) (r : xS) : v.toList ++ r = xpu v r := by cases v <;> rfl
section
variable (call : Nat → List Value → xH → xR) (jmp : Nat → xL → xS → xH → xR) (t : List xI) (L : xL) (h : xH)
theorem e_inl (i : Instr) (st : xS) : xB call jmp (.inl i :: t) L st h = (xP i L st h).bind (fun q => xB call jmp t q.1 q.2.1 q.2.2) := rfl
theorem e_goto (u : Int) (st : xS) : xB call jmp (.inr (.goto u) :: t) L st h = jmp u.toNat L st h := rfl
theorem e_fall (u : Int) (st : xS) : xB call jmp (xto u :: t) L st h = jmp u.toNat L st h := rfl
theorem e_if (c : Jvm.ClassFile.Cond) (u : Int) (a : Int32) (st : xS) : xB call jmp (.inr (.ifCond c u) :: t) L (.int a :: st) h = if xcnd c a 0 = true then jmp u.toNat L st h else xB call jmp t L st h := rfl
theorem e_icmp (c : Jvm.ClassFile.Cond) (u : Int) (a b : Int32) (st : xS) : xB call jmp (.inr (.if_icmp c u) :: t) L (.int b :: .int a :: st) h = if xcnd c a b = true then jmp u.toNat L st h else xB call jmp t L st h := rfl
theorem e_sw (d : Int) (ps : Array (Int × Int)) (a : Int32) (st : xS) : xB call jmp (.inr (.lookupswitch d ps) :: t) L (.int a :: st) h = jmp (xsw ps.toList d a.toInt).toNat L st h := rfl
theorem e_iret (v : Int32) : xB call jmp (.inr .ireturn :: t) L [.int v] h = some (some (.int v), h) := rfl
theorem e_zret (v : Int32) : xB call jmp (.inr .areturn :: t) L [.int v] h = if v = 0 ∨ v = 1 then some (some (.int v), h) else none := rfl
theorem e_lret (v : Int64) : xB call jmp (.inr .lreturn :: t) L [.long v] h = some (some (.long v), h) := rfl
theorem e_vret : xB call jmp (.inr .return_ :: t) L [] h = some (none, h) := rfl
theorem e_call0_0 (j : Nat) : xB call jmp (.inr (.invokeinterface j 0) :: t) L [] h = (call j [] h).bind (fun q => xB call jmp t L (xpu q.1 []) q.2) := by
  rw [xB, if_pos ⟨Nat.le_of_ble_eq_true rfl, Nat.le_of_ble_eq_true rfl⟩]
  simp only [xpu_eq]
  rfl
theorem e_call0_1 (j : Nat) (r0 : Value) : xB call jmp (.inr (.invokeinterface j 0) :: t) L [r0] h = (call j [] h).bind (fun q => xB call jmp t L (xpu q.1 [r0]) q.2) := by
  rw [xB, if_pos ⟨Nat.le_of_ble_eq_true rfl, Nat.le_of_ble_eq_true rfl⟩]
  simp only [xpu_eq]
  rfl
theorem e_call0_2 (j : Nat) (r0 : Value) (r1 : Value) : xB call jmp (.inr (.invokeinterface j 0) :: t) L [r0, r1] h = (call j [] h).bind (fun q => xB call jmp t L (xpu q.1 [r0, r1]) q.2) := by
  rw [xB, if_pos ⟨Nat.le_of_ble_eq_true rfl, Nat.le_of_ble_eq_true rfl⟩]
  simp only [xpu_eq]
  rfl
theorem e_call0_3 (j : Nat) (r0 : Value) (r1 : Value) (r2 : Value) : xB call jmp (.inr (.invokeinterface j 0) :: t) L [r0, r1, r2] h = (call j [] h).bind (fun q => xB call jmp t L (xpu q.1 [r0, r1, r2]) q.2) := by
  rw [xB, if_pos ⟨Nat.le_of_ble_eq_true rfl, Nat.le_of_ble_eq_true rfl⟩]
  simp only [xpu_eq]
  rfl
theorem e_call0_4 (j : Nat) (r0 : Value) (r1 : Value) (r2 : Value) (r3 : Value) : xB call jmp (.inr (.invokeinterface j 0) :: t) L [r0, r1, r2, r3] h = (call j [] h).bind (fun q => xB call jmp t L (xpu q.1 [r0, r1, r2, r3]) q.2) := by
  rw [xB, if_pos ⟨Nat.le_of_ble_eq_true rfl, Nat.le_of_ble_eq_true rfl⟩]
  simp only [xpu_eq]
  rfl
theorem e_call1_0 (j : Nat) (a0 : Value) : xB call jmp (.inr (.invokeinterface j 1) :: t) L [a0] h = (call j [a0] h).bind (fun q => xB call jmp t L (xpu q.1 []) q.2) := by
  rw [xB, if_pos ⟨Nat.le_of_ble_eq_true rfl, Nat.le_of_ble_eq_true rfl⟩]
  simp only [xpu_eq]
  rfl
theorem e_call1_1 (j : Nat) (a0 : Value) (r0 : Value) : xB call jmp (.inr (.invokeinterface j 1) :: t) L [a0, r0] h = (call j [a0] h).bind (fun q => xB call jmp t L (xpu q.1 [r0]) q.2) := by
  rw [xB, if_pos ⟨Nat.le_of_ble_eq_true rfl, Nat.le_of_ble_eq_true rfl⟩]
  simp only [xpu_eq]
  rfl
theorem e_call1_2 (j : Nat) (a0 : Value) (r0 : Value) (r1 : Value) : xB call jmp (.inr (.invokeinterface j 1) :: t) L [a0, r0, r1] h = (call j [a0] h).bind (fun q => xB call jmp t L (xpu q.1 [r0, r1]) q.2) := by
  rw [xB, if_pos ⟨Nat.le_of_ble_eq_true rfl, Nat.le_of_ble_eq_true rfl⟩]
  simp only [xpu_eq]
  rfl
theorem e_call1_3 (j : Nat) (a0 : Value) (r0 : Value) (r1 : Value) (r2 : Value) : xB call jmp (.inr (.invokeinterface j 1) :: t) L [a0, r0, r1, r2] h = (call j [a0] h).bind (fun q => xB call jmp t L (xpu q.1 [r0, r1, r2]) q.2) := by
  rw [xB, if_pos ⟨Nat.le_of_ble_eq_true rfl, Nat.le_of_ble_eq_true rfl⟩]
  simp only [xpu_eq]
  rfl
theorem e_call1_4 (j : Nat) (a0 : Value) (r0 : Value) (r1 : Value) (r2 : Value) (r3 : Value) : xB call jmp (.inr (.invokeinterface j 1) :: t) L [a0, r0, r1, r2, r3] h = (call j [a0] h).bind (fun q => xB call jmp t L (xpu q.1 [r0, r1, r2, r3]) q.2) := by
  rw [xB, if_pos ⟨Nat.le_of_ble_eq_true rfl, Nat.le_of_ble_eq_true rfl⟩]
  simp only [xpu_eq]
  rfl
theorem e_call2_0 (j : Nat) (a0 : Value) (a1 : Value) : xB call jmp (.inr (.invokeinterface j 2) :: t) L [a1, a0] h = (call j [a0, a1] h).bind (fun q => xB call jmp t L (xpu q.1 []) q.2) := by
  rw [xB, if_pos ⟨Nat.le_of_ble_eq_true rfl, Nat.le_of_ble_eq_true rfl⟩]
  simp only [xpu_eq]
  rfl
theorem e_call2_1 (j : Nat) (a0 : Value) (a1 : Value) (r0 : Value) : xB call jmp (.inr (.invokeinterface j 2) :: t) L [a1, a0, r0] h = (call j [a0, a1] h).bind (fun q => xB call jmp t L (xpu q.1 [r0]) q.2) := by
  rw [xB, if_pos ⟨Nat.le_of_ble_eq_true rfl, Nat.le_of_ble_eq_true rfl⟩]
  simp only [xpu_eq]
  rfl
theorem e_call2_2 (j : Nat) (a0 : Value) (a1 : Value) (r0 : Value) (r1 : Value) : xB call jmp (.inr (.invokeinterface j 2) :: t) L [a1, a0, r0, r1] h = (call j [a0, a1] h).bind (fun q => xB call jmp t L (xpu q.1 [r0, r1]) q.2) := by
  rw [xB, if_pos ⟨Nat.le_of_ble_eq_true rfl, Nat.le_of_ble_eq_true rfl⟩]
  simp only [xpu_eq]
  rfl
theorem e_call2_3 (j : Nat) (a0 : Value) (a1 : Value) (r0 : Value) (r1 : Value) (r2 : Value) : xB call jmp (.inr (.invokeinterface j 2) :: t) L [a1, a0, r0, r1, r2] h = (call j [a0, a1] h).bind (fun q => xB call jmp t L (xpu q.1 [r0, r1, r2]) q.2) := by
  rw [xB, if_pos ⟨Nat.le_of_ble_eq_true rfl, Nat.le_of_ble_eq_true rfl⟩]
  simp only [xpu_eq]
  rfl
theorem e_call2_4 (j : Nat) (a0 : Value) (a1 : Value) (r0 : Value) (r1 : Value) (r2 : Value) (r3 : Value) : xB call jmp (.inr (.invokeinterface j 2) :: t) L [a1, a0, r0, r1, r2, r3] h = (call j [a0, a1] h).bind (fun q => xB call jmp t L (xpu q.1 [r0, r1, r2, r3]) q.2) := by
  rw [xB, if_pos ⟨Nat.le_of_ble_eq_true rfl, Nat.le_of_ble_eq_true rfl⟩]
  simp only [xpu_eq]
  rfl
theorem e_call3_0 (j : Nat) (a0 : Value) (a1 : Value) (a2 : Value) : xB call jmp (.inr (.invokeinterface j 3) :: t) L [a2, a1, a0] h = (call j [a0, a1, a2] h).bind (fun q => xB call jmp t L (xpu q.1 []) q.2) := by
  rw [xB, if_pos ⟨Nat.le_of_ble_eq_true rfl, Nat.le_of_ble_eq_true rfl⟩]
  simp only [xpu_eq]
  rfl
theorem e_call3_1 (j : Nat) (a0 : Value) (a1 : Value) (a2 : Value) (r0 : Value) : xB call jmp (.inr (.invokeinterface j 3) :: t) L [a2, a1, a0, r0] h = (call j [a0, a1, a2] h).bind (fun q => xB call jmp t L (xpu q.1 [r0]) q.2) := by
  rw [xB, if_pos ⟨Nat.le_of_ble_eq_true rfl, Nat.le_of_ble_eq_true rfl⟩]
  simp only [xpu_eq]
  rfl
theorem e_call3_2 (j : Nat) (a0 : Value) (a1 : Value) (a2 : Value) (r0 : Value) (r1 : Value) : xB call jmp (.inr (.invokeinterface j 3) :: t) L [a2, a1, a0, r0, r1] h = (call j [a0, a1, a2] h).bind (fun q => xB call jmp t L (xpu q.1 [r0, r1]) q.2) := by
  rw [xB, if_pos ⟨Nat.le_of_ble_eq_true rfl, Nat.le_of_ble_eq_true rfl⟩]
  simp only [xpu_eq]
  rfl
theorem e_call3_3 (j : Nat) (a0 : Value) (a1 : Value) (a2 : Value) (r0 : Value) (r1 : Value) (r2 : Value) : xB call jmp (.inr (.invokeinterface j 3) :: t) L [a2, a1, a0, r0, r1, r2] h = (call j [a0, a1, a2] h).bind (fun q => xB call jmp t L (xpu q.1 [r0, r1, r2]) q.2) := by
  rw [xB, if_pos ⟨Nat.le_of_ble_eq_true rfl, Nat.le_of_ble_eq_true rfl⟩]
  simp only [xpu_eq]
  rfl
theorem e_call3_4 (j : Nat) (a0 : Value) (a1 : Value) (a2 : Value) (r0 : Value) (r1 : Value) (r2 : Value) (r3 : Value) : xB call jmp (.inr (.invokeinterface j 3) :: t) L [a2, a1, a0, r0, r1, r2, r3] h = (call j [a0, a1, a2] h).bind (fun q => xB call jmp t L (xpu q.1 [r0, r1, r2, r3]) q.2) := by
  rw [xB, if_pos ⟨Nat.le_of_ble_eq_true rfl, Nat.le_of_ble_eq_true rfl⟩]
  simp only [xpu_eq]
  rfl
theorem e_call4_0 (j : Nat) (a0 : Value) (a1 : Value) (a2 : Value) (a3 : Value) : xB call jmp (.inr (.invokeinterface j 4) :: t) L [a3, a2, a1, a0] h = (call j [a0, a1, a2, a3] h).bind (fun q => xB call jmp t L (xpu q.1 []) q.2) := by
  rw [xB, if_pos ⟨Nat.le_of_ble_eq_true rfl, Nat.le_of_ble_eq_true rfl⟩]
  simp only [xpu_eq]
  rfl
theorem e_call4_1 (j : Nat) (a0 : Value) (a1 : Value) (a2 : Value) (a3 : Value) (r0 : Value) : xB call jmp (.inr (.invokeinterface j 4) :: t) L [a3, a2, a1, a0, r0] h = (call j [a0, a1, a2, a3] h).bind (fun q => xB call jmp t L (xpu q.1 [r0]) q.2) := by
  rw [xB, if_pos ⟨Nat.le_of_ble_eq_true rfl, Nat.le_of_ble_eq_true rfl⟩]
  simp only [xpu_eq]
  rfl
theorem e_call4_2 (j : Nat) (a0 : Value) (a1 : Value) (a2 : Value) (a3 : Value) (r0 : Value) (r1 : Value) : xB call jmp (.inr (.invokeinterface j 4) :: t) L [a3, a2, a1, a0, r0, r1] h = (call j [a0, a1, a2, a3] h).bind (fun q => xB call jmp t L (xpu q.1 [r0, r1]) q.2) := by
  rw [xB, if_pos ⟨Nat.le_of_ble_eq_true rfl, Nat.le_of_ble_eq_true rfl⟩]
  simp only [xpu_eq]
  rfl
theorem e_call4_3 (j : Nat) (a0 : Value) (a1 : Value) (a2 : Value) (a3 : Value) (r0 : Value) (r1 : Value) (r2 : Value) : xB call jmp (.inr (.invokeinterface j 4) :: t) L [a3, a2, a1, a0, r0, r1, r2] h = (call j [a0, a1, a2, a3] h).bind (fun q => xB call jmp t L (xpu q.1 [r0, r1, r2]) q.2) := by
  rw [xB, if_pos ⟨Nat.le_of_ble_eq_true rfl, Nat.le_of_ble_eq_true rfl⟩]
  simp only [xpu_eq]
  rfl
theorem e_call4_4 (j : Nat) (a0 : Value) (a1 : Value) (a2 : Value) (a3 : Value) (r0 : Value) (r1 : Value) (r2 : Value) (r3 : Value) : xB call jmp (.inr (.invokeinterface j 4) :: t) L [a3, a2, a1, a0, r0, r1, r2, r3] h = (call j [a0, a1, a2, a3] h).bind (fun q => xB call jmp t L (xpu q.1 [r0, r1, r2, r3]) q.2) := by
  rw [xB, if_pos ⟨Nat.le_of_ble_eq_true rfl, Nat.le_of_ble_eq_true rfl⟩]
  simp only [xpu_eq]
  rfl
theorem e_call5_0 (j : Nat) (a0 : Value) (a1 : Value) (a2 : Value) (a3 : Value) (a4 : Value) : xB call jmp (.inr (.invokeinterface j 5) :: t) L [a4, a3, a2, a1, a0] h = (call j [a0, a1, a2, a3, a4] h).bind (fun q => xB call jmp t L (xpu q.1 []) q.2) := by
  rw [xB, if_pos ⟨Nat.le_of_ble_eq_true rfl, Nat.le_of_ble_eq_true rfl⟩]
  simp only [xpu_eq]
  rfl
theorem e_call5_1 (j : Nat) (a0 : Value) (a1 : Value) (a2 : Value) (a3 : Value) (a4 : Value) (r0 : Value) : xB call jmp (.inr (.invokeinterface j 5) :: t) L [a4, a3, a2, a1, a0, r0] h = (call j [a0, a1, a2, a3, a4] h).bind (fun q => xB call jmp t L (xpu q.1 [r0]) q.2) := by
  rw [xB, if_pos ⟨Nat.le_of_ble_eq_true rfl, Nat.le_of_ble_eq_true rfl⟩]
  simp only [xpu_eq]
  rfl
theorem e_call5_2 (j : Nat) (a0 : Value) (a1 : Value) (a2 : Value) (a3 : Value) (a4 : Value) (r0 : Value) (r1 : Value) : xB call jmp (.inr (.invokeinterface j 5) :: t) L [a4, a3, a2, a1, a0, r0, r1] h = (call j [a0, a1, a2, a3, a4] h).bind (fun q => xB call jmp t L (xpu q.1 [r0, r1]) q.2) := by
  rw [xB, if_pos ⟨Nat.le_of_ble_eq_true rfl, Nat.le_of_ble_eq_true rfl⟩]
  simp only [xpu_eq]
  rfl
theorem e_call5_3 (j : Nat) (a0 : Value) (a1 : Value) (a2 : Value) (a3 : Value) (a4 : Value) (r0 : Value) (r1 : Value) (r2 : Value) : xB call jmp (.inr (.invokeinterface j 5) :: t) L [a4, a3, a2, a1, a0, r0, r1, r2] h = (call j [a0, a1, a2, a3, a4] h).bind (fun q => xB call jmp t L (xpu q.1 [r0, r1, r2]) q.2) := by
  rw [xB, if_pos ⟨Nat.le_of_ble_eq_true rfl, Nat.le_of_ble_eq_true rfl⟩]
  simp only [xpu_eq]
  rfl
theorem e_call5_4 (j : Nat) (a0 : Value) (a1 : Value) (a2 : Value) (a3 : Value) (a4 : Value) (r0 : Value) (r1 : Value) (r2 : Value) (r3 : Value) : xB call jmp (.inr (.invokeinterface j 5) :: t) L [a4, a3, a2, a1, a0, r0, r1, r2, r3] h = (call j [a0, a1, a2, a3, a4] h).bind (fun q => xB call jmp t L (xpu q.1 [r0, r1, r2, r3]) q.2) := by
  rw [xB, if_pos ⟨Nat.le_of_ble_eq_true rfl, Nat.le_of_ble_eq_true rfl⟩]
  simp only [xpu_eq]
  rfl
theorem e_call6_0 (j : Nat) (a0 : Value) (a1 : Value) (a2 : Value) (a3 : Value) (a4 : Value) (a5 : Value) : xB call jmp (.inr (.invokeinterface j 6) :: t) L [a5, a4, a3, a2, a1, a0] h = (call j [a0, a1, a2, a3, a4, a5] h).bind (fun q => xB call jmp t L (xpu q.1 []) q.2) := by
  rw [xB, if_pos ⟨Nat.le_of_ble_eq_true rfl, Nat.le_of_ble_eq_true rfl⟩]
  simp only [xpu_eq]
  rfl
theorem e_call6_1 (j : Nat) (a0 : Value) (a1 : Value) (a2 : Value) (a3 : Value) (a4 : Value) (a5 : Value) (r0 : Value) : xB call jmp (.inr (.invokeinterface j 6) :: t) L [a5, a4, a3, a2, a1, a0, r0] h = (call j [a0, a1, a2, a3, a4, a5] h).bind (fun q => xB call jmp t L (xpu q.1 [r0]) q.2) := by
  rw [xB, if_pos ⟨Nat.le_of_ble_eq_true rfl, Nat.le_of_ble_eq_true rfl⟩]
  simp only [xpu_eq]
  rfl
theorem e_call6_2 (j : Nat) (a0 : Value) (a1 : Value) (a2 : Value) (a3 : Value) (a4 : Value) (a5 : Value) (r0 : Value) (r1 : Value) : xB call jmp (.inr (.invokeinterface j 6) :: t) L [a5, a4, a3, a2, a1, a0, r0, r1] h = (call j [a0, a1, a2, a3, a4, a5] h).bind (fun q => xB call jmp t L (xpu q.1 [r0, r1]) q.2) := by
  rw [xB, if_pos ⟨Nat.le_of_ble_eq_true rfl, Nat.le_of_ble_eq_true rfl⟩]
  simp only [xpu_eq]
  rfl
theorem e_call6_3 (j : Nat) (a0 : Value) (a1 : Value) (a2 : Value) (a3 : Value) (a4 : Value) (a5 : Value) (r0 : Value) (r1 : Value) (r2 : Value) : xB call jmp (.inr (.invokeinterface j 6) :: t) L [a5, a4, a3, a2, a1, a0, r0, r1, r2] h = (call j [a0, a1, a2, a3, a4, a5] h).bind (fun q => xB call jmp t L (xpu q.1 [r0, r1, r2]) q.2) := by
  rw [xB, if_pos ⟨Nat.le_of_ble_eq_true rfl, Nat.le_of_ble_eq_true rfl⟩]
  simp only [xpu_eq]
  rfl
theorem e_call6_4 (j : Nat) (a0 : Value) (a1 : Value) (a2 : Value) (a3 : Value) (a4 : Value) (a5 : Value) (r0 : Value) (r1 : Value) (r2 : Value) (r3 : Value) : xB call jmp (.inr (.invokeinterface j 6) :: t) L [a5, a4, a3, a2, a1, a0, r0, r1, r2, r3] h = (call j [a0, a1, a2, a3, a4, a5] h).bind (fun q => xB call jmp t L (xpu q.1 [r0, r1, r2, r3]) q.2) := by
  rw [xB, if_pos ⟨Nat.le_of_ble_eq_true rfl, Nat.le_of_ble_eq_true rfl⟩]
  simp only [xpu_eq]
  rfl
end
theorem c_eq (a b : Int32) : (xcnd .eq a b = true) = (a = b) := decide_eq_true_eq
theorem c_ne (a b : Int32) : (xcnd .ne a b = true) = (¬ a = b) := decide_eq_true_eq
theorem c_lt (a b : Int32) : (xcnd .lt a b = true) = (a < b) := decide_eq_true_eq
theorem c_ge (a b : Int32) : (xcnd .ge a b = true) = (b ≤ a) := decide_eq_true_eq
theorem c_gt (a b : Int32) : (xcnd .gt a b = true) = (b < a) := decide_eq_true_eq
theorem c_le (a b : Int32) : (xcnd .le a b = true) = (a ≤ b) := decide_eq_true_eq
/-- numbers -/
theorem n_lit (n : Nat) : Int32.ofInt (no_index (OfNat.ofNat n)) = nI (no_index (OfNat.ofNat n)) := rfl
theorem n_0 : (0 : Int32) = nI 0 := rfl
theorem n_1 : (1 : Int32) = nI 1 := rfl
theorem n_mul (a b : Nat) : nI a * nI b = nI (a * b) := (Int32.ofNat_mul a b).symm
theorem n_sub {a b : Nat} (h : b ≤ a) : nI a - nI b = nI (a - b) := by
  have e : nI (a - b) + nI b = nI a := by rw [nI_add, Nat.sub_add_cancel h]
  rw [← e, Int32.add_sub_cancel]
theorem x_in {n N : Nat} (h : n < N) (hN : N ≤ 100000) : xin (nI n) N = true := by
  unfold xin
  rw [Bool.and_eq_true, decide_eq_true_eq, decide_eq_true_eq, nI_clamp (by omega)]
  exact ⟨nI_pos' (by omega), h⟩
theorem x_loop {i pc : Nat} (L : Nat → xL) (H : Nat → xH) (n : Nat) (hs : ∀ k, k < n → den i pc (L k) [] (H k) = den i pc (L (k + 1)) [] (H (k + 1))) : den i pc (L 0) [] (H 0) = den i pc (L n) [] (H n) := by
  induction n with
  | zero => rfl
  | succ n ih => rw [ih (fun k hk => hs k (by omega)), hs n (by omega)]
/-- a number folded up -/
def x_it {β : Type} (f : β → Nat → β) (b : β) : Nat → β
  | 0 => b
  | k + 1 => f (x_it f b k) k
