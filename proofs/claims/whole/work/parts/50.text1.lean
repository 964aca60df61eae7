/-! ===== the text, read ===== -/
/-- a text: how long, its bytes -/
abbrev tx : Type := Nat × (Nat → Nat)
def isB (T : tx) (p : Nat) : Bool := decide (p < T.1) && decide (T.2 p = 32)
def isD (T : tx) (p : Nat) : Bool := decide (p < T.1) && (decide (48 ≤ T.2 p) && decide (T.2 p ≤ 57))
def skF (T : tx) : Nat → Nat → Nat
  | 0, p => p
  | k + 1, p => if isB T p = true then skF T k (p + 1) else p
/-- the first place from p on that is no blank -/
def skp (T : tx) (p : Nat) : Nat := skF T (T.1 - p) p
theorem isB_lt {T : tx} {p : Nat} (h : isB T p = true) : p < T.1 ∧ T.2 p = 32 := by
  unfold isB at h
  rw [Bool.and_eq_true, decide_eq_true_eq, decide_eq_true_eq] at h
  exact h
theorem isD_lt {T : tx} {p : Nat} (h : isD T p = true) : p < T.1 ∧ 48 ≤ T.2 p ∧ T.2 p ≤ 57 := by
  unfold isD at h
  rw [Bool.and_eq_true, Bool.and_eq_true, decide_eq_true_eq, decide_eq_true_eq, decide_eq_true_eq] at h
  exact h
theorem skp_yes {T : tx} {p : Nat} (h : isB T p = true) : skp T p = skp T (p + 1) := by
  have h1 := (isB_lt h).1
  unfold skp
  rw [show T.1 - p = (T.1 - (p + 1)) + 1 by omega, skF, if_pos h]
theorem skp_no {T : tx} {p : Nat} (h : isB T p = false) : skp T p = p := by
  unfold skp
  cases T.1 - p with
  | zero => rfl
  | succ k => rw [skF, if_neg (by rw [h]; decide)]
theorem skp_ok (T : tx) : ∀ (k p : Nat), T.1 - p ≤ k → isB T (skp T p) = false ∧ p ≤ skp T p ∧ (p ≤ T.1 → skp T p ≤ T.1)
  | 0, p, h => by
    have hb : isB T p = false := by
      cases hb : isB T p
      · rfl
      · have := (isB_lt hb).1
        omega
    rw [skp_no hb]
    exact ⟨hb, Nat.le_refl _, id⟩
  | k + 1, p, h => by
    cases hb : isB T p
    · rw [skp_no hb]
      exact ⟨hb, Nat.le_refl _, id⟩
    · have h1 := (isB_lt hb).1
      rw [skp_yes hb]
      obtain ⟨a, b, c⟩ := skp_ok T k (p + 1) (by omega)
      exact ⟨a, by omega, fun _ => c (by omega)⟩
theorem skp_nb (T : tx) (p : Nat) : isB T (skp T p) = false := (skp_ok T _ p (Nat.le_refl _)).1
theorem skp_ge (T : tx) (p : Nat) : p ≤ skp T p := (skp_ok T _ p (Nat.le_refl _)).2.1
theorem skp_le {T : tx} {p : Nat} (h : p ≤ T.1) : skp T p ≤ T.1 := (skp_ok T _ p (Nat.le_refl _)).2.2 h
theorem skp_skp (T : tx) (p : Nat) : skp T (skp T p) = skp T p := skp_no (skp_nb T p)
/-- at most k figures from q on: the number, and the place behind them -/
def dg (T : tx) : Nat → Nat → Nat → Nat × Nat
  | 0, v, q => (v, q)
  | k + 1, v, q => if isD T q = true then dg T k (10 * v + T.2 q - 48) (q + 1) else (v, q)
theorem dg_bd (T : tx) : ∀ (k v q : Nat), q ≤ T.1 → q ≤ (dg T k v q).2 ∧ (dg T k v q).2 ≤ T.1 ∧ (dg T k v q).1 + 1 ≤ (v + 1) * 10 ^ k
  | 0, v, q, h => ⟨Nat.le_refl _, h, by simp [dg]⟩
  | k + 1, v, q, h => by
    rw [dg]
    cases hd : isD T q
    · simp only [Bool.false_eq_true, if_false]
      refine ⟨Nat.le_refl _, h, ?_⟩
      have : 0 < 10 ^ (k + 1) := Nat.pow_pos (by decide)
      exact Nat.le_mul_of_pos_right _ this
    · simp only [if_true]
      obtain ⟨h1, h2, h3⟩ := isD_lt hd
      obtain ⟨a, b, c⟩ := dg_bd T k (10 * v + T.2 q - 48) (q + 1) (by omega)
      refine ⟨by omega, b, Nat.le_trans c ?_⟩
      rw [Nat.pow_succ, Nat.mul_comm (10 ^ k) 10, ← Nat.mul_assoc]
      exact Nat.mul_le_mul_right _ (by omega)
/-- a number from p on: itself, the place behind it (or of the fault), whether it is one -/
def rN (T : tx) (p : Nat) : Nat × Nat × Bool := ((dg T 6 0 (skp T p)).1, (dg T 6 0 (skp T p)).2, isD T (skp T p) && !isD T (dg T 6 0 (skp T p)).2)
theorem rN_bd {T : tx} {p : Nat} (h : p ≤ T.1) : p ≤ (rN T p).2.1 ∧ (rN T p).2.1 ≤ T.1 ∧ (rN T p).1 < 1000000 := by
  obtain ⟨a, b, c⟩ := dg_bd T 6 0 (skp T p) (skp_le h)
  have := skp_ge T p
  show p ≤ (dg T 6 0 (skp T p)).2 ∧ (dg T 6 0 (skp T p)).2 ≤ T.1 ∧ (dg T 6 0 (skp T p)).1 < 1000000
  exact ⟨by omega, b, by omega⟩
theorem rN_gt {T : tx} {p : Nat} (h : p ≤ T.1) (hok : (rN T p).2.2 = true) : p + 1 ≤ (rN T p).2.1 := by
  unfold rN at hok ⊢
  rw [Bool.and_eq_true] at hok
  have h1 := skp_ge T p
  have h2 := isD_lt hok.1
  show p + 1 ≤ (dg T 6 0 (skp T p)).2
  rw [dg, if_pos hok.1]
  obtain ⟨a, -, -⟩ := dg_bd T 5 (10 * 0 + T.2 (skp T p) - 48) (skp T p + 1) (by omega)
  omega
/-- k numbers from p on: the place behind them (or of the fault), whether they are there -/
def rK (T : tx) (p : Nat) : Nat → Nat × Bool
  | 0 => (p, true)
  | k + 1 => if (rK T p k).2 = true then (rN T (rK T p k).1).2 else rK T p k
def nv (T : tx) (p k : Nat) : Nat := (rN T (rK T p k).1).1
theorem rK_bd {T : tx} {p : Nat} (h : p ≤ T.1) : ∀ k, p ≤ (rK T p k).1 ∧ (rK T p k).1 ≤ T.1 ∧ ((rK T p k).2 = true → p + k ≤ (rK T p k).1)
  | 0 => ⟨Nat.le_refl _, h, fun _ => Nat.le_refl _⟩
  | k + 1 => by
    obtain ⟨a, b, c⟩ := rK_bd h k
    rw [rK]
    split
    · rename_i hok
      obtain ⟨d, e, f⟩ := rN_bd b
      refine ⟨by omega, e, fun h2 => ?_⟩
      have := rN_gt b h2
      have := c hok
      omega
    · rename_i hok
      exact ⟨a, b, fun h2 => absurd h2 hok⟩
theorem rK_no {T : tx} {p : Nat} {k : Nat} (h : (rK T p k).2 = false) : ∀ j, rK T p (k + j) = rK T p k
  | 0 => rfl
  | j + 1 => by
    have := rK_no h j
    rw [← Nat.add_assoc, rK, this, if_neg (by rw [h]; decide)]
theorem nv_lt {T : tx} {p : Nat} (h : p ≤ T.1) (k : Nat) : nv T p k < 1000000 := (rN_bd (rK_bd h k).2.1).2.2
/-- how many numbers stand behind a letter -/
def nb (c : Nat) : Nat := if c = 114 ∨ c = 120 ∨ c = 100 ∨ c = 111 then 1 else if c = 102 then 2 else if c = 119 then 3 else if c = 104 then 4 else if c = 115 then 5 else 0
theorem nb_le (c : Nat) : nb c ≤ 5 := by
  unfold nb
  repeat' split
  all_goals omega
/-- an order at p, which is no blank: whether it is one, the place behind it or of the fault -/
def ord (T : tx) (p : Nat) : Bool × Nat := if (decide (p < T.1) && decide (nb (T.2 p) ≠ 0)) = true then (if (rK T (p + 1) (nb (T.2 p))).2 = true then (if (decide (skp T (rK T (p + 1) (nb (T.2 p))).1 < T.1) && decide (T.2 (skp T (rK T (p + 1) (nb (T.2 p))).1) = 59)) = true then (true, skp T (rK T (p + 1) (nb (T.2 p))).1 + 1) else (false, skp T (rK T (p + 1) (nb (T.2 p))).1)) else (false, (rK T (p + 1) (nb (T.2 p))).1)) else (false, p)
theorem ord_bd {T : tx} {p : Nat} (h : p ≤ T.1) : (ord T p).2 ≤ T.1 ∧ ((ord T p).1 = true → p < T.1 ∧ p + 3 ≤ (ord T p).2) := by
  unfold ord
  split
  · rename_i h1
    rw [Bool.and_eq_true, decide_eq_true_eq, decide_eq_true_eq] at h1
    obtain ⟨a, b, c⟩ := rK_bd (T := T) (p := p + 1) (by omega) (nb (T.2 p))
    have hs := skp_le b
    have hg := skp_ge T (rK T (p + 1) (nb (T.2 p))).1
    split
    · rename_i h2
      have := c h2
      split
      · rename_i h3
        rw [Bool.and_eq_true, decide_eq_true_eq, decide_eq_true_eq] at h3
        refine ⟨?_, fun _ => ⟨h1.1, ?_⟩⟩
        · show skp T _ + 1 ≤ T.1
          omega
        · show p + 3 ≤ skp T _ + 1
          have : nb (T.2 p) ≠ 0 := h1.2
          omega
      · exact ⟨hs, fun q => Bool.noConfusion q⟩
    · exact ⟨b, fun q => Bool.noConfusion q⟩
  · exact ⟨h, fun q => Bool.noConfusion q⟩
/-- where the k-th order begins -/
def op (T : tx) : Nat → Nat
  | 0 => skp T 0
  | k + 1 => skp T (ord T (op T k)).2
theorem op_le (T : tx) : ∀ k, op T k ≤ T.1
  | 0 => skp_le (Nat.zero_le _)
  | k + 1 => skp_le (ord_bd (op_le T k)).1
theorem op_nb (T : tx) : ∀ k, isB T (op T k) = false
  | 0 => skp_nb T 0
  | k + 1 => skp_nb T _
theorem op_ge (T : tx) : ∀ k, (∀ j, j < k → (ord T (op T j)).1 = true) → 3 * k ≤ op T k
  | 0, _ => Nat.zero_le _
  | k + 1, h => by
    have h1 := op_ge T k (fun j hj => h j (by omega))
    have h2 := (ord_bd (op_le T k)).2 (h k (by omega))
    have h3 := skp_ge T (ord T (op T k)).2
    show 3 * (k + 1) ≤ skp T _
    omega
/-- how many orders there are up to the end or a fault; the fault -/
def oN (T : tx) : Nat := fa_first (fun k => !(ord T (op T k)).1) 60
theorem oN_lt {T : tx} (hT : T.1 ≤ 150) : oN T ≤ 50 ∧ (ord T (op T (oN T))).1 = false ∧ ∀ k, k < oN T → (ord T (op T k)).1 = true := by
  have hk : ∀ k, k < oN T → (ord T (op T k)).1 = true := fun k hk => by
    have := fa_first_no _ 60 k hk
    simpa using this
  have h1 := op_ge T (oN T) hk
  have h2 := op_le T (oN T)
  have h3 : oN T ≤ 50 := by omega
  have h4 : (!(ord T (op T (oN T))).1) = true := fa_first_yes (fun k => !(ord T (op T k)).1) 60 (show oN T < 60 by omega)
  exact ⟨h3, by simpa using h4, hk⟩
def flt (T : tx) : Option Nat := if op T (oN T) < T.1 then some (ord T (op T (oN T))).2 else if oN T = 0 then some (op T 0) else none
