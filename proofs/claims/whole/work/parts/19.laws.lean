/-! ===== reading and writing the fixed heap (by program: wip/whole/lay2.py) ===== -/
def sI (s : xSt) (k : Nat) (x : Int32) : xSt := (upd s.1 k x, s.2)
def sF (s : xSt) (f k : Nat) (x : Int32) : xSt := (s.1, vf_upd s.2.1 f (upd (s.2.1 f) k x), s.2.2)
def sW (s : xSt) (f : Nat) (w : Nat → Int32) : xSt := (s.1, s.2.1, vf_upd s.2.2.1 f w, s.2.2.2)
def sO (s : xSt) (o : Nat → Int32) : xSt := (s.1, s.2.1, s.2.2.1, o, s.2.2.2.2)
def sR (s : xSt) (k i : Nat) (x : Int32) : xSt := (s.1, s.2.1, s.2.2.1, s.2.2.2.1, vf_upd s.2.2.2.2.1 k (upd (s.2.2.2.2.1 k) i x), s.2.2.2.2.2)
def sU (s : xSt) (u : Nat → Int32) : xSt := (s.1, s.2.1, s.2.2.1, s.2.2.2.1, s.2.2.2.2.1, u)
section
variable (q : Nat × (Nat → Int32)) (S : Nat → xSt) (P : Int32 × (Nat → Nat)) (A : (Nat → Int64) × Int32 × Int32 × (Nat → Int64) × (Nat → Nat → Int64)) (D : (Nat → Int64) × Int64) (K : Nat → Int64) (X : Int32 × Int32 × Int32 × (Nat → Int32) × (Nat → Int32)) (E Z : Nat → Int32) (I : Nat → Int32) (J : Nat → Int64) (V : Nat → Nat → Int32)
set_option maxRecDepth 20000 in
theorem o_x : xobj (hp q S P A D K X E Z I J V) 2 8 = true := rfl
set_option maxRecDepth 20000 in
theorem g_x_0 : xget (hp q S P A D K X E Z I J V) 2 256 = some (.ref 3) := rfl
set_option maxRecDepth 20000 in
theorem g_x_1 : xget (hp q S P A D K X E Z I J V) 2 257 = some (.ref 24) := rfl
set_option maxRecDepth 20000 in
theorem g_x_2 : xget (hp q S P A D K X E Z I J V) 2 258 = some (.ref 131) := rfl
set_option maxRecDepth 20000 in
theorem g_x_3 : xget (hp q S P A D K X E Z I J V) 2 259 = some (.ref 153) := rfl
set_option maxRecDepth 20000 in
theorem g_x_4 : xget (hp q S P A D K X E Z I J V) 2 260 = some (.ref 156) := rfl
set_option maxRecDepth 20000 in
theorem g_x_5 : xget (hp q S P A D K X E Z I J V) 2 261 = some (.ref 158) := rfl
set_option maxRecDepth 20000 in
theorem g_x_6 : xget (hp q S P A D K X E Z I J V) 2 262 = some (.ref 161) := rfl
set_option maxRecDepth 20000 in
theorem g_x_7 : xget (hp q S P A D K X E Z I J V) 2 263 = some (.ref 162) := rfl
set_option maxRecDepth 20000 in
theorem o_S : xobj (hp q S P A D K X E Z I J V) 3 6 = true := rfl
set_option maxRecDepth 20000 in
theorem g_S_0 : xget (hp q S P A D K X E Z I J V) 3 192 = some (.int ((S 0).1 0)) := rfl
set_option maxRecDepth 20000 in
theorem g_S_1 : xget (hp q S P A D K X E Z I J V) 3 193 = some (.ref 4) := rfl
set_option maxRecDepth 20000 in
theorem g_S_2 : xget (hp q S P A D K X E Z I J V) 3 194 = some (.ref 5) := rfl
set_option maxRecDepth 20000 in
theorem g_S_3 : xget (hp q S P A D K X E Z I J V) 3 195 = some (.int ((S 0).1 3)) := rfl
set_option maxRecDepth 20000 in
theorem g_S_4 : xget (hp q S P A D K X E Z I J V) 3 196 = some (.ref 6) := rfl
set_option maxRecDepth 20000 in
theorem g_S_5 : xget (hp q S P A D K X E Z I J V) 3 197 = some (.int ((S 0).1 5)) := rfl
set_option maxRecDepth 20000 in
theorem g_S_6 : xget (hp q S P A D K X E Z I J V) 3 198 = some (.int ((S 0).1 6)) := rfl
set_option maxRecDepth 20000 in
theorem g_S_7 : xget (hp q S P A D K X E Z I J V) 3 199 = some (.ref 7) := rfl
set_option maxRecDepth 20000 in
theorem g_S_8 : xget (hp q S P A D K X E Z I J V) 3 200 = some (.int ((S 0).1 8)) := rfl
set_option maxRecDepth 20000 in
theorem p_S_0 (x : Int32) : xput (hp q S P A D K X E Z I J V) 3 192 (.int x) = some (hp q (vf_upd S 0 (sI (S 0) 0 x)) P A D K X E Z I J V) := rfl
set_option maxRecDepth 20000 in
theorem p_S_3 (x : Int32) : xput (hp q S P A D K X E Z I J V) 3 195 (.int x) = some (hp q (vf_upd S 0 (sI (S 0) 3 x)) P A D K X E Z I J V) := rfl
set_option maxRecDepth 20000 in
theorem p_S_5 (x : Int32) : xput (hp q S P A D K X E Z I J V) 3 197 (.int x) = some (hp q (vf_upd S 0 (sI (S 0) 5 x)) P A D K X E Z I J V) := rfl
set_option maxRecDepth 20000 in
theorem p_S_6 (x : Int32) : xput (hp q S P A D K X E Z I J V) 3 198 (.int x) = some (hp q (vf_upd S 0 (sI (S 0) 6 x)) P A D K X E Z I J V) := rfl
set_option maxRecDepth 20000 in
theorem p_S_8_0 : xput (hp q S P A D K X E Z I J V) 3 200 (.int (nI 0)) = some (hp q (vf_upd S 0 (sI (S 0) 8 (nI 0))) P A D K X E Z I J V) := rfl
set_option maxRecDepth 20000 in
theorem p_S_8_1 : xput (hp q S P A D K X E Z I J V) 3 200 (.int (nI 1)) = some (hp q (vf_upd S 0 (sI (S 0) 8 (nI 1))) P A D K X E Z I J V) := rfl
set_option maxRecDepth 20000 in
theorem r_fields (i : Int32) : xaald (hp q S P A D K X E Z I J V) 4 i = if xin i 4 ∧ 2 ≤ 4 ∧ xra 11 = true then some (va_rf (if i.toNatClampNeg < 4 then some (8 + 2 * i.toNatClampNeg) else none)) else none := rfl
set_option maxRecDepth 20000 in
theorem r_rules (i : Int32) : xaald (hp q S P A D K X E Z I J V) 6 i = if xin i 8 ∧ 2 ≤ 6 ∧ xra 15 = true then some (va_rf (if i.toNatClampNeg < 8 then some (16 + i.toNatClampNeg) else none)) else none := rfl
set_option maxRecDepth 20000 in
theorem r_order (i : Int32) : xiald (hp q S P A D K X E Z I J V) 5 i = if xin i 4 then some (.int ((S 0).2.2.2.1 i.toNatClampNeg)) else none := rfl
set_option maxRecDepth 20000 in
theorem s_order (i x : Int32) : xiast (hp q S P A D K X E Z I J V) 5 i x = if xin i 4 ∧ 2 ≤ 5 then some (hp q (vf_upd S 0 (sO (S 0) (upd (S 0).2.2.2.1 i.toNatClampNeg x))) P A D K X E Z I J V) else none := rfl
set_option maxRecDepth 20000 in
theorem r_unlike (i : Int32) : xiald (hp q S P A D K X E Z I J V) 7 i = if xin i 16 then some (.int ((S 0).2.2.2.2.2 i.toNatClampNeg)) else none := rfl
set_option maxRecDepth 20000 in
theorem s_unlike (i x : Int32) : xiast (hp q S P A D K X E Z I J V) 7 i x = if xin i 16 ∧ 2 ≤ 7 then some (hp q (vf_upd S 0 (sU (S 0) (upd (S 0).2.2.2.2.2 i.toNatClampNeg x))) P A D K X E Z I J V) else none := rfl
set_option maxRecDepth 20000 in
theorem o_F (f : Nat) (h : f < 4) : xobj (hp q S P A D K X E Z I J V) (8 + 2 * f) 1 = true := match f, h with
  | 0, _ => rfl
  | 1, _ => rfl
  | 2, _ => rfl
  | 3, _ => rfl
  | n + 4, h => absurd h (by omega)
set_option maxRecDepth 20000 in
theorem g_F_0 (f : Nat) (h : f < 4) : xget (hp q S P A D K X E Z I J V) (8 + 2 * f) 32 = some (.int ((S 0).2.1 f 0)) := match f, h with
  | 0, _ => rfl
  | 1, _ => rfl
  | 2, _ => rfl
  | 3, _ => rfl
  | n + 4, h => absurd h (by omega)
set_option maxRecDepth 20000 in
theorem p_F_0 (f : Nat) (h : f < 4) (x : Int32) : xput (hp q S P A D K X E Z I J V) (8 + 2 * f) 32 (.int x) = some (hp q (vf_upd S 0 (sF (S 0) f 0 x)) P A D K X E Z I J V) := match f, h with
  | 0, _ => rfl
  | 1, _ => rfl
  | 2, _ => rfl
  | 3, _ => rfl
  | n + 4, h => absurd h (by omega)
set_option maxRecDepth 20000 in
theorem g_F_1 (f : Nat) (h : f < 4) : xget (hp q S P A D K X E Z I J V) (8 + 2 * f) 33 = some (.int ((S 0).2.1 f 1)) := match f, h with
  | 0, _ => rfl
  | 1, _ => rfl
  | 2, _ => rfl
  | 3, _ => rfl
  | n + 4, h => absurd h (by omega)
set_option maxRecDepth 20000 in
theorem p_F_1 (f : Nat) (h : f < 4) (x : Int32) : xput (hp q S P A D K X E Z I J V) (8 + 2 * f) 33 (.int x) = some (hp q (vf_upd S 0 (sF (S 0) f 1 x)) P A D K X E Z I J V) := match f, h with
  | 0, _ => rfl
  | 1, _ => rfl
  | 2, _ => rfl
  | 3, _ => rfl
  | n + 4, h => absurd h (by omega)
set_option maxRecDepth 20000 in
theorem g_F_2 (f : Nat) (h : f < 4) : xget (hp q S P A D K X E Z I J V) (8 + 2 * f) 34 = some (.int ((S 0).2.1 f 2)) := match f, h with
  | 0, _ => rfl
  | 1, _ => rfl
  | 2, _ => rfl
  | 3, _ => rfl
  | n + 4, h => absurd h (by omega)
set_option maxRecDepth 20000 in
theorem p_F_2 (f : Nat) (h : f < 4) (x : Int32) : xput (hp q S P A D K X E Z I J V) (8 + 2 * f) 34 (.int x) = some (hp q (vf_upd S 0 (sF (S 0) f 2 x)) P A D K X E Z I J V) := match f, h with
  | 0, _ => rfl
  | 1, _ => rfl
  | 2, _ => rfl
  | 3, _ => rfl
  | n + 4, h => absurd h (by omega)
set_option maxRecDepth 20000 in
theorem g_F_3 (f : Nat) (h : f < 4) : xget (hp q S P A D K X E Z I J V) (8 + 2 * f) 35 = some (.int ((S 0).2.1 f 3)) := match f, h with
  | 0, _ => rfl
  | 1, _ => rfl
  | 2, _ => rfl
  | 3, _ => rfl
  | n + 4, h => absurd h (by omega)
set_option maxRecDepth 20000 in
theorem p_F_3 (f : Nat) (h : f < 4) (x : Int32) : xput (hp q S P A D K X E Z I J V) (8 + 2 * f) 35 (.int x) = some (hp q (vf_upd S 0 (sF (S 0) f 3 x)) P A D K X E Z I J V) := match f, h with
  | 0, _ => rfl
  | 1, _ => rfl
  | 2, _ => rfl
  | 3, _ => rfl
  | n + 4, h => absurd h (by omega)
set_option maxRecDepth 20000 in
theorem g_F_4 (f : Nat) (h : f < 4) : xget (hp q S P A D K X E Z I J V) (8 + 2 * f) 36 = some (.ref (9 + 2 * f)) := match f, h with
  | 0, _ => rfl
  | 1, _ => rfl
  | 2, _ => rfl
  | 3, _ => rfl
  | n + 4, h => absurd h (by omega)
set_option maxRecDepth 20000 in
theorem r_W (f : Nat) (h : f < 4) (i : Int32) : xiald (hp q S P A D K X E Z I J V) (9 + 2 * f) i = if xin i 8 then some (.int ((S 0).2.2.1 f i.toNatClampNeg)) else none := match f, h with
  | 0, _ => rfl
  | 1, _ => rfl
  | 2, _ => rfl
  | 3, _ => rfl
  | n + 4, h => absurd h (by omega)
set_option maxRecDepth 20000 in
theorem s_W (f : Nat) (h : f < 4) (i x : Int32) : xiast (hp q S P A D K X E Z I J V) (9 + 2 * f) i x = if xin i 8 ∧ 2 ≤ 9 + 2 * f then some (hp q (vf_upd S 0 (sW (S 0) f (upd ((S 0).2.2.1 f) i.toNatClampNeg x))) P A D K X E Z I J V) else none := match f, h with
  | 0, _ => rfl
  | 1, _ => rfl
  | 2, _ => rfl
  | 3, _ => rfl
  | n + 4, h => absurd h (by omega)
set_option maxRecDepth 20000 in
theorem o_R (k : Nat) (h : k < 8) : xobj (hp q S P A D K X E Z I J V) (16 + k) 5 = true := match k, h with
  | 0, _ => rfl
  | 1, _ => rfl
  | 2, _ => rfl
  | 3, _ => rfl
  | 4, _ => rfl
  | 5, _ => rfl
  | 6, _ => rfl
  | 7, _ => rfl
  | n + 8, h => absurd h (by omega)
set_option maxRecDepth 20000 in
theorem g_R_0 (k : Nat) (h : k < 8) : xget (hp q S P A D K X E Z I J V) (16 + k) 160 = some (.int ((S 0).2.2.2.2.1 k 0)) := match k, h with
  | 0, _ => rfl
  | 1, _ => rfl
  | 2, _ => rfl
  | 3, _ => rfl
  | 4, _ => rfl
  | 5, _ => rfl
  | 6, _ => rfl
  | 7, _ => rfl
  | n + 8, h => absurd h (by omega)
set_option maxRecDepth 20000 in
theorem p_R_0 (k : Nat) (h : k < 8) (x : Int32) : xput (hp q S P A D K X E Z I J V) (16 + k) 160 (.int x) = some (hp q (vf_upd S 0 (sR (S 0) k 0 x)) P A D K X E Z I J V) := match k, h with
  | 0, _ => rfl
  | 1, _ => rfl
  | 2, _ => rfl
  | 3, _ => rfl
  | 4, _ => rfl
  | 5, _ => rfl
  | 6, _ => rfl
  | 7, _ => rfl
  | n + 8, h => absurd h (by omega)
set_option maxRecDepth 20000 in
theorem g_R_1 (k : Nat) (h : k < 8) : xget (hp q S P A D K X E Z I J V) (16 + k) 161 = some (.int ((S 0).2.2.2.2.1 k 1)) := match k, h with
  | 0, _ => rfl
  | 1, _ => rfl
  | 2, _ => rfl
  | 3, _ => rfl
  | 4, _ => rfl
  | 5, _ => rfl
  | 6, _ => rfl
  | 7, _ => rfl
  | n + 8, h => absurd h (by omega)
set_option maxRecDepth 20000 in
theorem p_R_1 (k : Nat) (h : k < 8) (x : Int32) : xput (hp q S P A D K X E Z I J V) (16 + k) 161 (.int x) = some (hp q (vf_upd S 0 (sR (S 0) k 1 x)) P A D K X E Z I J V) := match k, h with
  | 0, _ => rfl
  | 1, _ => rfl
  | 2, _ => rfl
  | 3, _ => rfl
  | 4, _ => rfl
  | 5, _ => rfl
  | 6, _ => rfl
  | 7, _ => rfl
  | n + 8, h => absurd h (by omega)
set_option maxRecDepth 20000 in
theorem g_R_2 (k : Nat) (h : k < 8) : xget (hp q S P A D K X E Z I J V) (16 + k) 162 = some (.int ((S 0).2.2.2.2.1 k 2)) := match k, h with
  | 0, _ => rfl
  | 1, _ => rfl
  | 2, _ => rfl
  | 3, _ => rfl
  | 4, _ => rfl
  | 5, _ => rfl
  | 6, _ => rfl
  | 7, _ => rfl
  | n + 8, h => absurd h (by omega)
set_option maxRecDepth 20000 in
theorem p_R_2 (k : Nat) (h : k < 8) (x : Int32) : xput (hp q S P A D K X E Z I J V) (16 + k) 162 (.int x) = some (hp q (vf_upd S 0 (sR (S 0) k 2 x)) P A D K X E Z I J V) := match k, h with
  | 0, _ => rfl
  | 1, _ => rfl
  | 2, _ => rfl
  | 3, _ => rfl
  | 4, _ => rfl
  | 5, _ => rfl
  | 6, _ => rfl
  | 7, _ => rfl
  | n + 8, h => absurd h (by omega)
set_option maxRecDepth 20000 in
theorem g_R_3 (k : Nat) (h : k < 8) : xget (hp q S P A D K X E Z I J V) (16 + k) 163 = some (.int ((S 0).2.2.2.2.1 k 3)) := match k, h with
  | 0, _ => rfl
  | 1, _ => rfl
  | 2, _ => rfl
  | 3, _ => rfl
  | 4, _ => rfl
  | 5, _ => rfl
  | 6, _ => rfl
  | 7, _ => rfl
  | n + 8, h => absurd h (by omega)
set_option maxRecDepth 20000 in
theorem p_R_3 (k : Nat) (h : k < 8) (x : Int32) : xput (hp q S P A D K X E Z I J V) (16 + k) 163 (.int x) = some (hp q (vf_upd S 0 (sR (S 0) k 3 x)) P A D K X E Z I J V) := match k, h with
  | 0, _ => rfl
  | 1, _ => rfl
  | 2, _ => rfl
  | 3, _ => rfl
  | 4, _ => rfl
  | 5, _ => rfl
  | 6, _ => rfl
  | 7, _ => rfl
  | n + 8, h => absurd h (by omega)
set_option maxRecDepth 20000 in
theorem g_R_4 (k : Nat) (h : k < 8) : xget (hp q S P A D K X E Z I J V) (16 + k) 164 = some (.int ((S 0).2.2.2.2.1 k 4)) := match k, h with
  | 0, _ => rfl
  | 1, _ => rfl
  | 2, _ => rfl
  | 3, _ => rfl
  | 4, _ => rfl
  | 5, _ => rfl
  | 6, _ => rfl
  | 7, _ => rfl
  | n + 8, h => absurd h (by omega)
set_option maxRecDepth 20000 in
theorem p_R_4 (k : Nat) (h : k < 8) (x : Int32) : xput (hp q S P A D K X E Z I J V) (16 + k) 164 (.int x) = some (hp q (vf_upd S 0 (sR (S 0) k 4 x)) P A D K X E Z I J V) := match k, h with
  | 0, _ => rfl
  | 1, _ => rfl
  | 2, _ => rfl
  | 3, _ => rfl
  | 4, _ => rfl
  | 5, _ => rfl
  | 6, _ => rfl
  | 7, _ => rfl
  | n + 8, h => absurd h (by omega)
set_option maxRecDepth 20000 in
theorem o_past : xobj (hp q S P A D K X E Z I J V) 24 3 = true := rfl
set_option maxRecDepth 20000 in
theorem g_past_0 : xget (hp q S P A D K X E Z I J V) 24 96 = some (.int P.1) := rfl
set_option maxRecDepth 20000 in
theorem g_past_1 : xget (hp q S P A D K X E Z I J V) 24 97 = some (.ref 25) := rfl
set_option maxRecDepth 20000 in
theorem p_past_0 (x : Int32) : xput (hp q S P A D K X E Z I J V) 24 96 (.int x) = some (hp q S (x, P.2) A D K X E Z I J V) := rfl
set_option maxRecDepth 20000 in
theorem r_slots (i : Int32) : xaald (hp q S P A D K X E Z I J V) 25 i = if xin i 5 ∧ 2 ≤ 25 ∧ xra 16 = true then some (va_rf (if i.toNatClampNeg < 5 then some (sb (P.2 i.toNatClampNeg)) else none)) else none := rfl
set_option maxRecDepth 20000 in
theorem o_law : xobj (hp q S P A D K X E Z I J V) 131 2 = true := rfl
set_option maxRecDepth 20000 in
theorem g_law_0 : xget (hp q S P A D K X E Z I J V) 131 64 = some (.ref 132) := rfl
set_option maxRecDepth 20000 in
theorem g_law_1 : xget (hp q S P A D K X E Z I J V) 131 65 = some (.int A.2.1) := rfl
set_option maxRecDepth 20000 in
theorem g_law_2 : xget (hp q S P A D K X E Z I J V) 131 66 = some (.int A.2.2.1) := rfl
set_option maxRecDepth 20000 in
theorem g_law_3 : xget (hp q S P A D K X E Z I J V) 131 67 = some (.ref 134) := rfl
set_option maxRecDepth 20000 in
theorem g_law_4 : xget (hp q S P A D K X E Z I J V) 131 68 = some (.ref 136) := rfl
set_option maxRecDepth 20000 in
theorem p_law_1 (x : Int32) : xput (hp q S P A D K X E Z I J V) 131 65 (.int x) = some (hp q S P (A.1, x, A.2.2) D K X E Z I J V) := rfl
set_option maxRecDepth 20000 in
theorem p_law_2 (x : Int32) : xput (hp q S P A D K X E Z I J V) 131 66 (.int x) = some (hp q S P (A.1, A.2.1, x, A.2.2.2) D K X E Z I J V) := rfl
set_option maxRecDepth 20000 in
theorem o_lawful : xobj (hp q S P A D K X E Z I J V) 132 4 = true := rfl
set_option maxRecDepth 20000 in
theorem g_lawful_0 : xget (hp q S P A D K X E Z I J V) 132 128 = some (.ref 133) := rfl
set_option maxRecDepth 20000 in
theorem r_lawful (i : Int32) : xlald (hp q S P A D K X E Z I J V) 133 i = if xin i 64 ∧ 2 ≤ 133 then some (.long (A.1 i.toNatClampNeg)) else none := rfl
set_option maxRecDepth 20000 in
theorem s_lawful (i : Int32) (x : Int64) : xlast (hp q S P A D K X E Z I J V) 133 i x = if xin i 64 ∧ 2 ≤ 133 then some (hp q S P (vp_updL A.1 i.toNatClampNeg x, A.2) D K X E Z I J V) else none := rfl
set_option maxRecDepth 20000 in
theorem o_inRanges : xobj (hp q S P A D K X E Z I J V) 134 4 = true := rfl
set_option maxRecDepth 20000 in
theorem g_inRanges_0 : xget (hp q S P A D K X E Z I J V) 134 128 = some (.ref 135) := rfl
set_option maxRecDepth 20000 in
theorem r_inRanges (i : Int32) : xlald (hp q S P A D K X E Z I J V) 135 i = if xin i 64 ∧ 2 ≤ 135 then some (.long (A.2.2.2.1 i.toNatClampNeg)) else none := rfl
set_option maxRecDepth 20000 in
theorem s_inRanges (i : Int32) (x : Int64) : xlast (hp q S P A D K X E Z I J V) 135 i x = if xin i 64 ∧ 2 ≤ 135 then some (hp q S P (A.1, A.2.1, A.2.2.1, vp_updL A.2.2.2.1 i.toNatClampNeg x, A.2.2.2.2) D K X E Z I J V) else none := rfl
set_option maxRecDepth 20000 in
theorem o_mayBe : xobj (hp q S P A D K X E Z I J V) 154 4 = true := rfl
set_option maxRecDepth 20000 in
theorem g_mayBe_0 : xget (hp q S P A D K X E Z I J V) 154 128 = some (.ref 155) := rfl
set_option maxRecDepth 20000 in
theorem r_mayBe (i : Int32) : xlald (hp q S P A D K X E Z I J V) 155 i = if xin i 64 ∧ 2 ≤ 155 then some (.long (D.1 i.toNatClampNeg)) else none := rfl
set_option maxRecDepth 20000 in
theorem s_mayBe (i : Int32) (x : Int64) : xlast (hp q S P A D K X E Z I J V) 155 i x = if xin i 64 ∧ 2 ≤ 155 then some (hp q S P A (vp_updL D.1 i.toNatClampNeg x, D.2) K X E Z I J V) else none := rfl
set_option maxRecDepth 20000 in
theorem o_picked : xobj (hp q S P A D K X E Z I J V) 156 4 = true := rfl
set_option maxRecDepth 20000 in
theorem g_picked_0 : xget (hp q S P A D K X E Z I J V) 156 128 = some (.ref 157) := rfl
set_option maxRecDepth 20000 in
theorem r_picked (i : Int32) : xlald (hp q S P A D K X E Z I J V) 157 i = if xin i 64 ∧ 2 ≤ 157 then some (.long (K i.toNatClampNeg)) else none := rfl
set_option maxRecDepth 20000 in
theorem s_picked (i : Int32) (x : Int64) : xlast (hp q S P A D K X E Z I J V) 157 i x = if xin i 64 ∧ 2 ≤ 157 then some (hp q S P A D (vp_updL K i.toNatClampNeg x) X E Z I J V) else none := rfl
set_option maxRecDepth 20000 in
theorem r_keepers (i : Int32) : xaald (hp q S P A D K X E Z I J V) 136 i = if xin i 8 ∧ 2 ≤ 136 ∧ xra 14 = true then some (va_rf (if i.toNatClampNeg < 8 then some (137 + 2 * i.toNatClampNeg) else none)) else none := rfl
set_option maxRecDepth 20000 in
theorem o_keep (k : Nat) (h : k < 8) : xobj (hp q S P A D K X E Z I J V) (137 + 2 * k) 4 = true := match k, h with
  | 0, _ => rfl
  | 1, _ => rfl
  | 2, _ => rfl
  | 3, _ => rfl
  | 4, _ => rfl
  | 5, _ => rfl
  | 6, _ => rfl
  | 7, _ => rfl
  | n + 8, h => absurd h (by omega)
set_option maxRecDepth 20000 in
theorem g_keep_0 (k : Nat) (h : k < 8) : xget (hp q S P A D K X E Z I J V) (137 + 2 * k) 128 = some (.ref (138 + 2 * k)) := match k, h with
  | 0, _ => rfl
  | 1, _ => rfl
  | 2, _ => rfl
  | 3, _ => rfl
  | 4, _ => rfl
  | 5, _ => rfl
  | 6, _ => rfl
  | 7, _ => rfl
  | n + 8, h => absurd h (by omega)
set_option maxRecDepth 20000 in
theorem r_keep (k : Nat) (h : k < 8) (i : Int32) : xlald (hp q S P A D K X E Z I J V) (138 + 2 * k) i = if xin i 64 ∧ 2 ≤ 138 + 2 * k then some (.long (A.2.2.2.2 k i.toNatClampNeg)) else none := match k, h with
  | 0, _ => rfl
  | 1, _ => rfl
  | 2, _ => rfl
  | 3, _ => rfl
  | 4, _ => rfl
  | 5, _ => rfl
  | 6, _ => rfl
  | 7, _ => rfl
  | n + 8, h => absurd h (by omega)
set_option maxRecDepth 20000 in
theorem s_keep (k : Nat) (h : k < 8) (i : Int32) (x : Int64) : xlast (hp q S P A D K X E Z I J V) (138 + 2 * k) i x = if xin i 64 ∧ 2 ≤ 138 + 2 * k then some (hp q S P (A.1, A.2.1, A.2.2.1, A.2.2.2.1, vf_upd A.2.2.2.2 k (vp_updL (A.2.2.2.2 k) i.toNatClampNeg x)) D K X E Z I J V) else none := match k, h with
  | 0, _ => rfl
  | 1, _ => rfl
  | 2, _ => rfl
  | 3, _ => rfl
  | 4, _ => rfl
  | 5, _ => rfl
  | 6, _ => rfl
  | 7, _ => rfl
  | n + 8, h => absurd h (by omega)
set_option maxRecDepth 20000 in
theorem o_drawer : xobj (hp q S P A D K X E Z I J V) 153 0 = true := rfl
set_option maxRecDepth 20000 in
theorem g_drawer_0 : xget (hp q S P A D K X E Z I J V) 153 0 = some (.ref 154) := rfl
set_option maxRecDepth 20000 in
theorem g_drawer_1 : xget (hp q S P A D K X E Z I J V) 153 1 = some (.long D.2) := rfl
set_option maxRecDepth 20000 in
theorem p_drawer_1 (x : Int64) : xput (hp q S P A D K X E Z I J V) 153 1 (.long x) = some (hp q S P A (D.1, x) K X E Z I J V) := rfl
set_option maxRecDepth 20000 in
theorem o_text : xobj (hp q S P A D K X E Z I J V) 158 7 = true := rfl
set_option maxRecDepth 20000 in
theorem g_text_0 : xget (hp q S P A D K X E Z I J V) 158 224 = some (.int X.1) := rfl
set_option maxRecDepth 20000 in
theorem g_text_1 : xget (hp q S P A D K X E Z I J V) 158 225 = some (.int X.2.1) := rfl
set_option maxRecDepth 20000 in
theorem g_text_2 : xget (hp q S P A D K X E Z I J V) 158 226 = some (.int X.2.2.1) := rfl
set_option maxRecDepth 20000 in
theorem g_text_3 : xget (hp q S P A D K X E Z I J V) 158 227 = some (.ref 159) := rfl
set_option maxRecDepth 20000 in
theorem g_text_4 : xget (hp q S P A D K X E Z I J V) 158 228 = some (.ref 160) := rfl
set_option maxRecDepth 20000 in
theorem p_text_0 (x : Int32) : xput (hp q S P A D K X E Z I J V) 158 224 (.int x) = some (hp q S P A D K (x, X.2) E Z I J V) := rfl
set_option maxRecDepth 20000 in
theorem p_text_1 (x : Int32) : xput (hp q S P A D K X E Z I J V) 158 225 (.int x) = some (hp q S P A D K (X.1, x, X.2.2) E Z I J V) := rfl
set_option maxRecDepth 20000 in
theorem p_text_2 (x : Int32) : xput (hp q S P A D K X E Z I J V) 158 226 (.int x) = some (hp q S P A D K (X.1, X.2.1, x, X.2.2.2) E Z I J V) := rfl
set_option maxRecDepth 20000 in
theorem r_numbers (i : Int32) : xiald (hp q S P A D K X E Z I J V) 159 i = if xin i 5 then some (.int (X.2.2.2.1 i.toNatClampNeg)) else none := rfl
set_option maxRecDepth 20000 in
theorem s_numbers (i x : Int32) : xiast (hp q S P A D K X E Z I J V) 159 i x = if xin i 5 ∧ 2 ≤ 159 then some (hp q S P A D K (X.1, X.2.1, X.2.2.1, upd X.2.2.2.1 i.toNatClampNeg x, X.2.2.2.2) E Z I J V) else none := rfl
set_option maxRecDepth 20000 in
theorem r_bytes (i : Int32) : xiald (hp q S P A D K X E Z I J V) 160 i = if xin i 150 then some (.int (X.2.2.2.2 i.toNatClampNeg)) else none := rfl
set_option maxRecDepth 20000 in
theorem s_bytes (i x : Int32) : xiast (hp q S P A D K X E Z I J V) 160 i x = if xin i 150 ∧ 2 ≤ 160 then some (hp q S P A D K (X.1, X.2.1, X.2.2.1, X.2.2.2.1, upd X.2.2.2.2 i.toNatClampNeg x) E Z I J V) else none := rfl
set_option maxRecDepth 20000 in
theorem r_refusals (i : Int32) : xiald (hp q S P A D K X E Z I J V) 161 i = if xin i 3 then some (.int (E i.toNatClampNeg)) else none := rfl
set_option maxRecDepth 20000 in
theorem s_refusals (i x : Int32) : xiast (hp q S P A D K X E Z I J V) 161 i x = if xin i 3 ∧ 2 ≤ 161 then some (hp q S P A D K X (upd E i.toNatClampNeg x) Z I J V) else none := rfl
set_option maxRecDepth 20000 in
theorem r_rowsBySum (i : Int32) : xiald (hp q S P A D K X E Z I J V) 162 i = if xin i 29 then some (.int (Z i.toNatClampNeg)) else none := rfl
set_option maxRecDepth 20000 in
theorem s_rowsBySum (i x : Int32) : xiast (hp q S P A D K X E Z I J V) 162 i x = if xin i 29 ∧ 2 ≤ 162 then some (hp q S P A D K X E (upd Z i.toNatClampNeg x) I J V) else none := rfl
set_option maxRecDepth 20000 in
theorem l_rowsBySum : xlen (hp q S P A D K X E Z I J V) 162 = some (.int (Int32.ofNat 29)) := rfl
set_option maxRecDepth 20000 in
theorem r_most (i : Int32) : xiald (hp q S P A D K X E Z I J V) 1 i = if xin i 6 then some (.int (xmost6 i.toNatClampNeg)) else none := rfl
set_option maxRecDepth 20000 in
theorem r_script (i : Int32) : xiald (hp q S P A D K X E Z I J V) 0 i = if xin i q.1 then some (.int (q.2 i.toNatClampNeg)) else none := rfl
set_option maxRecDepth 20000 in
theorem l_script : xlen (hp q S P A D K X E Z I J V) 0 = some (.int (Int32.ofNat q.1)) := rfl
set_option maxRecDepth 20000 in
theorem o_m : xobj (hp q S P A D K X E Z I J V) 163 9 = true := rfl
set_option maxRecDepth 20000 in
theorem g_m_0 : xget (hp q S P A D K X E Z I J V) 163 288 = some (.ref 164) := rfl
set_option maxRecDepth 20000 in
theorem g_m_1 : xget (hp q S P A D K X E Z I J V) 163 289 = some (.ref 165) := rfl
set_option maxRecDepth 20000 in
theorem g_m_2 : xget (hp q S P A D K X E Z I J V) 163 290 = some (.ref 166) := rfl
set_option maxRecDepth 20000 in
theorem g_m_3 : xget (hp q S P A D K X E Z I J V) 163 291 = some (.int (I 3)) := rfl
set_option maxRecDepth 20000 in
theorem g_m_4 : xget (hp q S P A D K X E Z I J V) 163 292 = some (.ref 167) := rfl
set_option maxRecDepth 20000 in
theorem g_m_5 : xget (hp q S P A D K X E Z I J V) 163 293 = some (.int (I 5)) := rfl
set_option maxRecDepth 20000 in
theorem g_m_6 : xget (hp q S P A D K X E Z I J V) 163 294 = some (.ref 168) := rfl
set_option maxRecDepth 20000 in
theorem g_m_7 : xget (hp q S P A D K X E Z I J V) 163 295 = some (.int (I 7)) := rfl
set_option maxRecDepth 20000 in
theorem g_m_8 : xget (hp q S P A D K X E Z I J V) 163 296 = some (.int (I 8)) := rfl
set_option maxRecDepth 20000 in
theorem g_m_9 : xget (hp q S P A D K X E Z I J V) 163 297 = some (.ref 169) := rfl
set_option maxRecDepth 20000 in
theorem g_m_10 : xget (hp q S P A D K X E Z I J V) 163 298 = some (.ref 170) := rfl
set_option maxRecDepth 20000 in
theorem g_m_11 : xget (hp q S P A D K X E Z I J V) 163 299 = some (.int (I 11)) := rfl
set_option maxRecDepth 20000 in
theorem g_m_12 : xget (hp q S P A D K X E Z I J V) 163 300 = some (.ref 171) := rfl
set_option maxRecDepth 20000 in
theorem g_m_13 : xget (hp q S P A D K X E Z I J V) 163 301 = some (.long (J 13)) := rfl
set_option maxRecDepth 20000 in
theorem g_m_14 : xget (hp q S P A D K X E Z I J V) 163 302 = some (.ref 172) := rfl
set_option maxRecDepth 20000 in
theorem g_m_15 : xget (hp q S P A D K X E Z I J V) 163 303 = some (.int (I 15)) := rfl
set_option maxRecDepth 20000 in
theorem g_m_16 : xget (hp q S P A D K X E Z I J V) 163 304 = some (.int (I 16)) := rfl
set_option maxRecDepth 20000 in
theorem g_m_17 : xget (hp q S P A D K X E Z I J V) 163 305 = some (.int (I 17)) := rfl
set_option maxRecDepth 20000 in
theorem g_m_18 : xget (hp q S P A D K X E Z I J V) 163 306 = some (.int (I 18)) := rfl
set_option maxRecDepth 20000 in
theorem g_m_19 : xget (hp q S P A D K X E Z I J V) 163 307 = some (.ref 173) := rfl
set_option maxRecDepth 20000 in
theorem g_m_20 : xget (hp q S P A D K X E Z I J V) 163 308 = some (.ref 174) := rfl
set_option maxRecDepth 20000 in
theorem g_m_21 : xget (hp q S P A D K X E Z I J V) 163 309 = some (.long (J 21)) := rfl
set_option maxRecDepth 20000 in
theorem p_m_3 (x : Int32) : xput (hp q S P A D K X E Z I J V) 163 291 (.int x) = some (hp q S P A D K X E Z (upd I 3 x) J V) := rfl
set_option maxRecDepth 20000 in
theorem p_m_7 (x : Int32) : xput (hp q S P A D K X E Z I J V) 163 295 (.int x) = some (hp q S P A D K X E Z (upd I 7 x) J V) := rfl
set_option maxRecDepth 20000 in
theorem p_m_8 (x : Int32) : xput (hp q S P A D K X E Z I J V) 163 296 (.int x) = some (hp q S P A D K X E Z (upd I 8 x) J V) := rfl
set_option maxRecDepth 20000 in
theorem p_m_11 (x : Int32) : xput (hp q S P A D K X E Z I J V) 163 299 (.int x) = some (hp q S P A D K X E Z (upd I 11 x) J V) := rfl
set_option maxRecDepth 20000 in
theorem p_m_15 (x : Int32) : xput (hp q S P A D K X E Z I J V) 163 303 (.int x) = some (hp q S P A D K X E Z (upd I 15 x) J V) := rfl
set_option maxRecDepth 20000 in
theorem p_m_16 (x : Int32) : xput (hp q S P A D K X E Z I J V) 163 304 (.int x) = some (hp q S P A D K X E Z (upd I 16 x) J V) := rfl
set_option maxRecDepth 20000 in
theorem p_m_17 (x : Int32) : xput (hp q S P A D K X E Z I J V) 163 305 (.int x) = some (hp q S P A D K X E Z (upd I 17 x) J V) := rfl
set_option maxRecDepth 20000 in
theorem p_m_18 (x : Int32) : xput (hp q S P A D K X E Z I J V) 163 306 (.int x) = some (hp q S P A D K X E Z (upd I 18 x) J V) := rfl
set_option maxRecDepth 20000 in
theorem p_m_5_0 : xput (hp q S P A D K X E Z I J V) 163 293 (.int (nI 0)) = some (hp q S P A D K X E Z (upd I 5 (nI 0)) J V) := rfl
set_option maxRecDepth 20000 in
theorem p_m_5_1 : xput (hp q S P A D K X E Z I J V) 163 293 (.int (nI 1)) = some (hp q S P A D K X E Z (upd I 5 (nI 1)) J V) := rfl
set_option maxRecDepth 20000 in
theorem p_m_13 (x : Int64) : xput (hp q S P A D K X E Z I J V) 163 301 (.long x) = some (hp q S P A D K X E Z I (vp_updL J 13 x) V) := rfl
set_option maxRecDepth 20000 in
theorem p_m_21 (x : Int64) : xput (hp q S P A D K X E Z I J V) 163 309 (.long x) = some (hp q S P A D K X E Z I (vp_updL J 21 x) V) := rfl
set_option maxRecDepth 20000 in
theorem r_m0 (i : Int32) : xiald (hp q S P A D K X E Z I J V) 164 i = if xin i 115 then some (.int (V 0 i.toNatClampNeg)) else none := rfl
set_option maxRecDepth 20000 in
theorem s_m0 (i x : Int32) : xiast (hp q S P A D K X E Z I J V) 164 i x = if xin i 115 ∧ 2 ≤ 164 then some (hp q S P A D K X E Z I J (vf_upd V 0 (upd (V 0) i.toNatClampNeg x))) else none := rfl
set_option maxRecDepth 20000 in
theorem r_m1 (i : Int32) : xiald (hp q S P A D K X E Z I J V) 165 i = if xin i 115 then some (.int (V 1 i.toNatClampNeg)) else none := rfl
set_option maxRecDepth 20000 in
theorem s_m1 (i x : Int32) : xiast (hp q S P A D K X E Z I J V) 165 i x = if xin i 115 ∧ 2 ≤ 165 then some (hp q S P A D K X E Z I J (vf_upd V 1 (upd (V 1) i.toNatClampNeg x))) else none := rfl
set_option maxRecDepth 20000 in
theorem r_m2 (i : Int32) : xiald (hp q S P A D K X E Z I J V) 166 i = if xin i 460 then some (.int (V 2 i.toNatClampNeg)) else none := rfl
set_option maxRecDepth 20000 in
theorem s_m2 (i x : Int32) : xiast (hp q S P A D K X E Z I J V) 166 i x = if xin i 460 ∧ 2 ≤ 166 then some (hp q S P A D K X E Z I J (vf_upd V 2 (upd (V 2) i.toNatClampNeg x))) else none := rfl
set_option maxRecDepth 20000 in
theorem r_m4 (i : Int32) : xiald (hp q S P A D K X E Z I J V) 167 i = if xin i 3 then some (.int (V 4 i.toNatClampNeg)) else none := rfl
set_option maxRecDepth 20000 in
theorem s_m4 (i x : Int32) : xiast (hp q S P A D K X E Z I J V) 167 i x = if xin i 3 ∧ 2 ≤ 167 then some (hp q S P A D K X E Z I J (vf_upd V 4 (upd (V 4) i.toNatClampNeg x))) else none := rfl
set_option maxRecDepth 20000 in
theorem r_m6 (i : Int32) : xiald (hp q S P A D K X E Z I J V) 168 i = if xin i 4096 then some (.int (V 6 i.toNatClampNeg)) else none := rfl
set_option maxRecDepth 20000 in
theorem s_m6 (i x : Int32) : xiast (hp q S P A D K X E Z I J V) 168 i x = if xin i 4096 ∧ 2 ≤ 168 then some (hp q S P A D K X E Z I J (vf_upd V 6 (upd (V 6) i.toNatClampNeg x))) else none := rfl
set_option maxRecDepth 20000 in
theorem r_m9 (i : Int32) : xzald (hp q S P A D K X E Z I J V) 169 i = if xin i 256 ∧ 2 ≤ 169 then some (.int (V 9 i.toNatClampNeg)) else none := rfl
set_option maxRecDepth 20000 in
theorem s_m9 (i x : Int32) : xzast (hp q S P A D K X E Z I J V) 169 i x = if xin i 256 ∧ 2 ≤ 169 ∧ (x = 0 ∨ x = 1) then some (hp q S P A D K X E Z I J (vf_upd V 9 (upd (V 9) i.toNatClampNeg x))) else none := rfl
set_option maxRecDepth 20000 in
theorem r_m10 (i : Int32) : xiald (hp q S P A D K X E Z I J V) 170 i = if xin i 8 then some (.int (V 10 i.toNatClampNeg)) else none := rfl
set_option maxRecDepth 20000 in
theorem s_m10 (i x : Int32) : xiast (hp q S P A D K X E Z I J V) 170 i x = if xin i 8 ∧ 2 ≤ 170 then some (hp q S P A D K X E Z I J (vf_upd V 10 (upd (V 10) i.toNatClampNeg x))) else none := rfl
set_option maxRecDepth 20000 in
theorem r_m12 (i : Int32) : xzald (hp q S P A D K X E Z I J V) 171 i = if xin i 4096 ∧ 2 ≤ 171 then some (.int (V 12 i.toNatClampNeg)) else none := rfl
set_option maxRecDepth 20000 in
theorem s_m12 (i x : Int32) : xzast (hp q S P A D K X E Z I J V) 171 i x = if xin i 4096 ∧ 2 ≤ 171 ∧ (x = 0 ∨ x = 1) then some (hp q S P A D K X E Z I J (vf_upd V 12 (upd (V 12) i.toNatClampNeg x))) else none := rfl
set_option maxRecDepth 20000 in
theorem r_m14 (i : Int32) : xiald (hp q S P A D K X E Z I J V) 172 i = if xin i 150 then some (.int (V 14 i.toNatClampNeg)) else none := rfl
set_option maxRecDepth 20000 in
theorem s_m14 (i x : Int32) : xiast (hp q S P A D K X E Z I J V) 172 i x = if xin i 150 ∧ 2 ≤ 172 then some (hp q S P A D K X E Z I J (vf_upd V 14 (upd (V 14) i.toNatClampNeg x))) else none := rfl
set_option maxRecDepth 20000 in
theorem r_m19 (i : Int32) : xiald (hp q S P A D K X E Z I J V) 173 i = if xin i 60 then some (.int (V 19 i.toNatClampNeg)) else none := rfl
set_option maxRecDepth 20000 in
theorem s_m19 (i x : Int32) : xiast (hp q S P A D K X E Z I J V) 173 i x = if xin i 60 ∧ 2 ≤ 173 then some (hp q S P A D K X E Z I J (vf_upd V 19 (upd (V 19) i.toNatClampNeg x))) else none := rfl
set_option maxRecDepth 20000 in
theorem r_m20 (i : Int32) : xiald (hp q S P A D K X E Z I J V) 174 i = if xin i 300 then some (.int (V 20 i.toNatClampNeg)) else none := rfl
set_option maxRecDepth 20000 in
theorem s_m20 (i x : Int32) : xiast (hp q S P A D K X E Z I J V) 174 i x = if xin i 300 ∧ 2 ≤ 174 then some (hp q S P A D K X E Z I J (vf_upd V 20 (upd (V 20) i.toNatClampNeg x))) else none := rfl
end
