/-! ===== sets of rows as 64 words ===== -/
def wdN (m : Nat → Bool) (w : Nat) : Nat := bset (fun b => m (64 * w + b)) 64
def RS (m : Nat → Bool) (W : Nat → Int64) : Prop := ∀ w, w < 64 → W w = lN (wdN m w)
theorem wdN_lt (m : Nat → Bool) (w : Nat) : wdN m w < 2 ^ 64 := bset_lt _ 64
theorem wdN_bit {m : Nat → Bool} {w b : Nat} (hb : b < 64) : (wdN m w).testBit b = m (64 * w + b) := by
  unfold wdN
  rw [bset_bit]
  simp [hb]
theorem wdN_cong {m m' : Nat → Bool} {w : Nat} (h : ∀ b, b < 64 → m (64 * w + b) = m' (64 * w + b)) : wdN m w = wdN m' w := bset_ext h
theorem wdN_and (m m' : Nat → Bool) (w : Nat) : wdN m w &&& wdN m' w = wdN (fun x => m x && m' x) w := by
  apply Nat.eq_of_testBit_eq
  intro j
  unfold wdN
  rw [Nat.testBit_and, bset_bit, bset_bit, bset_bit]
  by_cases h : j < 64
  · simp [h]
  · simp [h]
theorem wdN_or (m m' : Nat → Bool) (w : Nat) : wdN m w ||| wdN m' w = wdN (fun x => m x || m' x) w := by
  apply Nat.eq_of_testBit_eq
  intro j
  unfold wdN
  rw [Nat.testBit_or, bset_bit, bset_bit, bset_bit]
  by_cases h : j < 64
  · simp [h]
  · simp [h]
theorem wdN_0 {m : Nat → Bool} {w : Nat} (h : ∀ b, b < 64 → m (64 * w + b) = false) : wdN m w = 0 := bset_none h
theorem wdN_z {m : Nat → Bool} {w : Nat} (h : wdN m w = 0) {b : Nat} (hb : b < 64) : m (64 * w + b) = false := by
  have e := wdN_bit (m := m) (w := w) hb
  rw [h, Nat.zero_testBit] at e
  exact e.symm
theorem wdN_ct (m : Nat → Bool) (w : Nat) : fb_ct (fun j => (wdN m w).testBit j) 64 = fb_ct (fun b => m (64 * w + b)) 64 := fb_ct_cong (fun b hb => wdN_bit hb)
theorem ct_word (m : Nat → Bool) (w : Nat) : fb_ct m (64 * (w + 1)) = fb_ct m (64 * w) + fb_ct (fun b => m (64 * w + b)) 64 := by
  rw [Nat.mul_succ, fb_ct_split]
theorem vl_w {w b : Nat} (hw : w < 64) (hb : b < 64) : vl (64 * w + b) 0 = w / 8 ∧ vl (64 * w + b) 1 = w % 8 ∧ vl (64 * w + b) 2 = b / 8 ∧ vl (64 * w + b) 3 = b % 8 := by
  rw [vl_0, vl_1, vl_2, vl_3]
  omega
/-- the value that all rows of a word have at field 0 or 1 -/
def wv (w f : Nat) : Nat := if f = 0 then w / 8 else w % 8
theorem wv_lt {w : Nat} (hw : w < 64) (f : Nat) : wv w f < 8 := by
  unfold wv
  split <;> omega
theorem wv_vl {w b f : Nat} (hw : w < 64) (hb : b < 64) (hf : f < 2) : vl (64 * w + b) f = wv w f := by
  obtain ⟨a, c, -, -⟩ := vl_w hw hb
  unfold wv
  match f, hf with
  | 0, _ => exact a
  | 1, _ => exact c
/-- whether a word has rows whose field f has one of the values; which of its rows -/
def hwB (w f vs : Nat) : Bool := decide (2 ≤ f) || vs.testBit (wv w f)
def wiN (f vs : Nat) : Nat := bset (fun b => decide (f < 2) || vs.testBit (vl b f)) 64
theorem wiN_lt (f vs : Nat) : wiN f vs < 2 ^ 64 := bset_lt _ 64
theorem vl_b {w b f : Nat} (hw : w < 64) (hb : b < 64) (hf : 2 ≤ f) (hf4 : f < 4) : vl (64 * w + b) f = vl b f := by
  obtain ⟨-, -, a, c⟩ := vl_w hw hb
  have h2 := vl_2 b
  have h3 := vl_3 b
  have hc : f = 2 ∨ f = 3 := by omega
  rcases hc with h | h
  · rw [h, a, h2]; omega
  · rw [h, c, h3]
/-- of a row: its word has them and it is one of them there -/
theorem hw_wi {w b f vs : Nat} (hw : w < 64) (hb : b < 64) (hf : f < 4) : (hwB w f vs && (wiN f vs).testBit b) = vs.testBit (vl (64 * w + b) f) := by
  unfold hwB wiN
  rw [bset_bit]
  by_cases h : f < 2
  · have h2 : ¬ 2 ≤ f := by omega
    rw [wv_vl hw hb h]
    simp [h, h2, hb]
  · have h2 : 2 ≤ f := by omega
    rw [vl_b hw hb h2 hf]
    simp [h, h2, hb]
theorem wi_all (vs : Nat) {f : Nat} (hf : f < 2) : wiN f vs = 2 ^ 64 - 1 := by
  apply Nat.eq_of_testBit_eq
  intro j
  unfold wiN
  rw [bset_bit, Nat.testBit_two_pow_sub_one]
  simp [hf]
theorem wi_2 : ∀ k, k < 8 → 255 * 2 ^ (8 * k) = bset (fun b => decide (vl b 2 = k)) 64 := by decide +kernel
theorem wi_3 : ∀ k, k < 8 → 72340172838076673 * 2 ^ k = bset (fun b => decide (vl b 3 = k)) 64 := by decide +kernel
/-- the values below k alone -/
def wiK (f vs k : Nat) : Nat := bset (fun b => vs.testBit (vl b f) && decide (vl b f < k)) 64
theorem wiK_lt (f vs k : Nat) : wiK f vs k < 2 ^ 64 := bset_lt _ 64
theorem wiK_0 (f vs : Nat) : wiK f vs 0 = 0 := bset_none (fun b _ => by simp)
theorem wiK_8 (vs : Nat) {f : Nat} (hf : 2 ≤ f) : wiK f vs 8 = wiN f vs := by
  apply bset_ext
  intro b _
  have h := vl_lt b f
  have h2 : ¬ f < 2 := by omega
  simp [h, h2]
theorem wiK_no {f vs k : Nat} (h : vs.testBit k = false) : wiK f vs (k + 1) = wiK f vs k := by
  apply bset_ext
  intro b _
  show (vs.testBit (vl b f) && decide (vl b f < k + 1)) = (vs.testBit (vl b f) && decide (vl b f < k))
  by_cases e : vl b f = k
  · rw [e, h]; rfl
  · have : decide (vl b f < k + 1) = decide (vl b f < k) := decide_eq_decide.mpr (by omega)
    rw [this]
theorem wiK_yes {f vs k : Nat} (h : vs.testBit k = true) : wiK f vs k ||| bset (fun b => decide (vl b f = k)) 64 = wiK f vs (k + 1) := by
  apply Nat.eq_of_testBit_eq
  intro j
  unfold wiK
  rw [Nat.testBit_or, bset_bit, bset_bit, bset_bit]
  by_cases e : vl j f = k
  · have h2 : vl j f < k + 1 := by omega
    rw [decide_eq_true h2, decide_eq_true e, e, h]
    cases decide (j < 64) <;> simp
  · have h3 : decide (vl j f < k + 1) = decide (vl j f < k) := decide_eq_decide.mpr (by omega)
    rw [decide_eq_false e, h3]
    simp
theorem lN_m1 : Int64.ofInt (-1) = lN (2 ^ 64 - 1) := by decide +kernel
theorem m_cmp0 {a : Nat} (h : a < 2 ^ 64) : (lg_cmp (lN a) (Int64.ofInt 0) = 0) = (a = 0) := by
  have e : (lN a = lN 0) = (a = 0) := m_eq h (by omega)
  rw [← e]
  show (lg_cmp (lN a) (lN 0) = 0) = _
  exact propext (lg_cmp_eq _ _)
theorem fl_succ (f g : Nat → Int64) (i : Nat) : vp_updL (fa_fill f g i) i (f i) = fa_fill f g (i + 1) := by
  funext k
  by_cases h : k = i
  · subst h
    rw [l_s]
    exact (if_pos (Nat.lt_succ_self k)).symm
  · rw [l_n _ _ h]
    unfold fa_fill
    by_cases h2 : k < i
    · rw [if_pos h2, if_pos (by omega)]
    · rw [if_neg h2, if_neg (by omega)]
