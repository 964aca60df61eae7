/-! ===== the abstract machine: values as the kit's, .ref k the k-th cell; cell 0 the script, cell 1 the static array MOST_C, cell k + 2 the k-th cell made since the law's entry ===== -/
abbrev xC : Type := (Nat × vp_A) ⊕ (Nat × List Value)
abbrev xH : Type := List xC
abbrev xL : Type := List (Option Value)
abbrev xS : Type := List Value
abbrev xR : Type := Option (Option Value × xH)
abbrev xI : Type := Instr ⊕ Instr
/-- tags of arrays: 0 int, 1 long, 2 boolean, 10 + c an array of references to class c -/
def xty (t : Nat) : FieldType := match t with
  | 0 => .int
  | 1 => .long
  | 2 => .boolean
  | n => .object ((vwCl[n - 10]?).elim "" (fun q => q.1))
def xra (t : Nat) : Bool := t == 11 || t == 14 || t == 15 || t == 16
def xld : xL → Nat → Option Value
  | [], _ => none
  | a :: _, 0 => a
  | _ :: t, n + 1 => xld t n
def xis2 : Option Value → Bool
  | some (.long _) => true
  | some (.double _) => true
  | _ => false
/-- a store of one slot; a long ahead of it is gone -/
def xst1 : xL → Nat → Value → Option xL
  | [], _, _ => none
  | _ :: t, 0, v => some (some v :: t)
  | a :: t, 1, v => (xst1 t 0 v).map (fun t' => (if xis2 a then none else a) :: t')
  | a :: t, n + 2, v => (xst1 t (n + 1) v).map (fun t' => a :: t')
/-- a store of two slots -/
def xst2 : xL → Nat → Value → Option xL
  | [], _, _ => none
  | _ :: [], 0, _ => none
  | _ :: _ :: t, 0, v => some (some v :: none :: t)
  | a :: t, 1, v => (xst2 t 0 v).map (fun t' => (if xis2 a then none else a) :: t')
  | a :: t, n + 2, v => (xst2 t (n + 1) v).map (fun t' => a :: t')
def xc1 : Value → Bool
  | .long _ => false
  | .double _ => false
  | _ => true
def xin (i : Int32) (n : Nat) : Bool := decide (0 ≤ i) && decide (i.toNatClampNeg < n)
def xget (h : xH) (a n : Nat) : Option Value := match h[a]? with
  | some (.inr (c, fs)) => if c = n / 32 then fs[n % 32]? else none
  | _ => none
/-- what a field of a type takes: 0 int, 1 long, 2 boolean, 3 a reference (to anything) -/
def xfit (k : Nat) (v : Value) : Bool := match k, v with
  | 0, .int _ => true
  | 1, .long _ => true
  | 2, .int x => x == 0 || x == 1
  | 3, .ref _ => true
  | _, _ => false
/-- kinds of the fields of each class -/
def xkinds : List (List Nat) := [[3, 1], [0, 0, 0, 0, 3], [3, 0, 0, 3, 3], [0, 3], [3], [0, 0, 0, 0, 0], [0, 3, 3, 0, 3, 0, 0, 3, 2], [0, 0, 0, 3, 3], [3, 3, 3, 3, 3, 3, 3, 3], [3, 3, 3, 0, 3, 2, 3, 0, 0, 3, 3, 0, 3, 1, 3, 0, 0, 0, 0, 3, 3, 1]]
def xkd (c k : Nat) : Nat := (xkinds.getD c []).getD k 9
def xput (h : xH) (a n : Nat) (v : Value) : Option xH := match h[a]? with
  | some (.inr (c, fs)) => if c = n / 32 ∧ n % 32 < fs.length ∧ xfit (xkd c (n % 32)) v = true then some (h.set a (.inr (c, fs.set (n % 32) v))) else none
  | _ => none
def xiald (h : xH) (a : Nat) (i : Int32) : Option Value := match h[a]? with
  | some (.inl (0, n, .inl f)) => if xin i n then some (.int (f i.toNatClampNeg)) else none
  | _ => none
def xzald (h : xH) (a : Nat) (i : Int32) : Option Value := match h[a]? with
  | some (.inl (2, n, .inl f)) => if xin i n ∧ 2 ≤ a then some (.int (f i.toNatClampNeg)) else none
  | _ => none
def xlald (h : xH) (a : Nat) (i : Int32) : Option Value := match h[a]? with
  | some (.inl (1, n, .inr (.inl f))) => if xin i n ∧ 2 ≤ a then some (.long (f i.toNatClampNeg)) else none
  | _ => none
def xaald (h : xH) (a : Nat) (i : Int32) : Option Value := match h[a]? with
  | some (.inl (t, n, .inr (.inr (.inr (.inr f))))) => if xin i n ∧ 2 ≤ a ∧ xra t = true then some (va_rf (f i.toNatClampNeg)) else none
  | _ => none
def xiast (h : xH) (a : Nat) (i x : Int32) : Option xH := match h[a]? with
  | some (.inl (0, n, .inl f)) => if xin i n ∧ 2 ≤ a then some (h.set a (.inl (0, n, .inl (upd f i.toNatClampNeg x)))) else none
  | _ => none
def xzast (h : xH) (a : Nat) (i x : Int32) : Option xH := match h[a]? with
  | some (.inl (2, n, .inl f)) => if xin i n ∧ 2 ≤ a ∧ (x = 0 ∨ x = 1) then some (h.set a (.inl (2, n, .inl (upd f i.toNatClampNeg x)))) else none
  | _ => none
def xlast (h : xH) (a : Nat) (i : Int32) (x : Int64) : Option xH := match h[a]? with
  | some (.inl (1, n, .inr (.inl f))) => if xin i n ∧ 2 ≤ a then some (h.set a (.inl (1, n, .inr (.inl (vp_updL f i.toNatClampNeg x))))) else none
  | _ => none
/-- the value's class is the array's -/
def xobj (h : xH) (v c : Nat) : Bool := match h[v]? with
  | some (.inr (c', _)) => c' == c
  | _ => false
def xaast (h : xH) (a : Nat) (i : Int32) (v : Nat) : Option xH := match h[a]? with
  | some (.inl (t, n, .inr (.inr (.inr (.inr f))))) => if xin i n ∧ 2 ≤ a ∧ xra t = true ∧ 2 ≤ v ∧ xobj h v (t - 10) = true then some (h.set a (.inl (t, n, .inr (.inr (.inr (.inr (va_up f i.toNatClampNeg (some v)))))))) else none
  | _ => none
def xlen (h : xH) (a : Nat) : Option Value := match h[a]? with
  | some (.inl (t, n, .inl _)) => if t = 0 then some (.int (Int32.ofNat n)) else none
  | _ => none
/-- at most so many cells, and elements of one -/
def xmost : Nat := 100000
def xnewa (h : xH) (ty : ArrayType) (n : Int32) : Option xH :=
  if 0 ≤ n ∧ n.toNatClampNeg ≤ xmost ∧ h.length < xmost then
    match ty with
    | .int => some (h ++ [.inl (0, n.toNatClampNeg, .inl (fun _ => 0))])
    | .long => some (h ++ [.inl (1, n.toNatClampNeg, .inr (.inl (fun _ => 0)))])
    | .boolean => some (h ++ [.inl (2, n.toNatClampNeg, .inl (fun _ => 0))])
    | _ => none
  else none
def xanew (h : xH) (c : Nat) (n : Int32) : Option xH :=
  if 0 ≤ n ∧ n.toNatClampNeg ≤ xmost ∧ h.length < xmost ∧ xra (10 + c) = true then some (h ++ [.inl (10 + c, n.toNatClampNeg, .inr (.inr (.inr (.inr (fun _ => none)))))])
  else none
def xdef (k : Nat) : Value := match k with
  | 1 => .long 0
  | 3 => .null
  | _ => .int 0
def xnewo (h : xH) (c : Nat) : Option xH := if h.length < xmost then (xkinds[c]?).map (fun ks => h ++ [.inr (c, ks.map xdef)]) else none
/-- System.arraycopy of ints, or of longs -/
def xcopy (h : xH) (s : Nat) (sp : Int32) (d : Nat) (dp n : Int32) : Option xH :=
  if 0 ≤ sp ∧ 0 ≤ dp ∧ 0 ≤ n ∧ 2 ≤ s ∧ 2 ≤ d then
    match h[s]?, h[d]? with
    | some (.inl (0, n0, .inl f)), some (.inl (0, n1, .inl g)) => if sp.toNatClampNeg + n.toNatClampNeg ≤ n0 ∧ dp.toNatClampNeg + n.toNatClampNeg ≤ n1 then some (h.set d (.inl (0, n1, .inl (va_cpy f g sp.toNatClampNeg dp.toNatClampNeg n.toNatClampNeg)))) else none
    | some (.inl (1, n0, .inr (.inl f))), some (.inl (1, n1, .inr (.inl g))) => if sp.toNatClampNeg + n.toNatClampNeg ≤ n0 ∧ dp.toNatClampNeg + n.toNatClampNeg ≤ n1 then some (h.set d (.inl (1, n1, .inr (.inl (va_cpy f g sp.toNatClampNeg dp.toNatClampNeg n.toNatClampNeg))))) else none
    | _, _ => none
  else none
def xii (f : Int32 → Int32 → Int32) : xS → Option xS
  | .int b :: .int a :: r => some (.int (f a b) :: r)
  | _ => none
def xid (f : Int32 → Int32 → Int32) : xS → Option xS
  | .int b :: .int a :: r => if b = 0 then none else some (.int (f a b) :: r)
  | _ => none
def xll (f : Int64 → Int64 → Int64) : xS → Option xS
  | .long b :: .long a :: r => some (.long (f a b) :: r)
  | _ => none
def xlv (f : Int64 → Int64 → Int64) : xS → Option xS
  | .long b :: .long a :: r => if b = 0 then none else some (.long (f a b) :: r)
  | _ => none
def xls (f : Int64 → Int32 → Int64) : xS → Option xS
  | .int b :: .long a :: r => some (.long (f a b) :: r)
  | _ => none
def xlc : xS → Option xS
  | .long b :: .long a :: r => some (.int (lg_cmp a b) :: r)
  | _ => none
def xil (f : Int32 → Int64) : xS → Option xS
  | .int a :: r => some (.long (f a) :: r)
  | _ => none
def xli (f : Int64 → Int32) : xS → Option xS
  | .long a :: r => some (.int (f a) :: r)
  | _ => none
def xdup : xS → Option xS
  | v :: r => if xc1 v then some (v :: v :: r) else none
  | _ => none
def xdup2 : xS → Option xS
  | .long x :: r => some (.long x :: .long x :: r)
  | a :: b :: r => if xc1 a && xc1 b then some (a :: b :: a :: b :: r) else none
  | _ => none
def xrd (f : Nat → Int32 → Option Value) : xS → Option xS
  | .int i :: .ref a :: r => (f a i).map (fun v => v :: r)
  | _ => none
/-- instructions that neither jump nor call -/
def xP : Instr → xL → xS → xH → Option (xL × xS × xH)
  | .iconst v, L, st, h => some (L, .int (Int32.ofInt v) :: st, h)
  | .sipush v, L, st, h => some (L, .long (Int64.ofInt v) :: st, h)
  | .iload i, L, st, h => (match xld L i with | some (.int x) => some (L, .int x :: st, h) | _ => none)
  | .lload i, L, st, h => (match xld L i with | some (.long x) => some (L, .long x :: st, h) | _ => none)
  | .aload i, L, st, h => (match xld L i with | some (.ref x) => some (L, .ref x :: st, h) | _ => none)
  | .istore i, L, st, h => (match st with | .int x :: r => (xst1 L i (.int x)).map (fun L' => (L', r, h)) | _ => none)
  | .lstore i, L, st, h => (match st with | .long x :: r => (xst2 L i (.long x)).map (fun L' => (L', r, h)) | _ => none)
  | .astore i, L, st, h => (match st with | .ref x :: r => (xst1 L i (.ref x)).map (fun L' => (L', r, h)) | _ => none)
  | .iinc i n, L, st, h => (match xld L i with | some (.int x) => (xst1 L i (.int (x + Int32.ofInt n))).map (fun L' => (L', st, h)) | _ => none)
  | .getfield n, L, st, h => (match st with | .ref a :: r => (xget h a n).map (fun v => (L, v :: r, h)) | _ => none)
  | .putfield n, L, st, h => (match st with | v :: .ref a :: r => (xput h a n v).map (fun h' => (L, r, h')) | _ => none)
  | .getstatic _, L, st, h => some (L, .ref 1 :: st, h)
  | .iaload, L, st, h => (xrd (xiald h) st).map (fun st' => (L, st', h))
  | .baload, L, st, h => (xrd (xzald h) st).map (fun st' => (L, st', h))
  | .laload, L, st, h => (xrd (xlald h) st).map (fun st' => (L, st', h))
  | .aaload, L, st, h => (xrd (xaald h) st).map (fun st' => (L, st', h))
  | .iastore, L, st, h => (match st with | .int x :: .int i :: .ref a :: r => (xiast h a i x).map (fun h' => (L, r, h')) | _ => none)
  | .bastore, L, st, h => (match st with | .int x :: .int i :: .ref a :: r => (xzast h a i x).map (fun h' => (L, r, h')) | _ => none)
  | .lastore, L, st, h => (match st with | .long x :: .int i :: .ref a :: r => (xlast h a i x).map (fun h' => (L, r, h')) | _ => none)
  | .aastore, L, st, h => (match st with | .ref v :: .int i :: .ref a :: r => (xaast h a i v).map (fun h' => (L, r, h')) | _ => none)
  | .arraylength, L, st, h => (match st with | .ref a :: r => (xlen h a).map (fun v => (L, v :: r, h)) | _ => none)
  | .newarray ty, L, st, h => (match st with | .int n :: r => (xnewa h ty n).map (fun h' => (L, .ref h.length :: r, h')) | _ => none)
  | .anewarray c, L, st, h => (match st with | .int n :: r => (xanew h c n).map (fun h' => (L, .ref h.length :: r, h')) | _ => none)
  | .new c, L, st, h => (xnewo h c).map (fun h' => (L, .ref h.length :: st, h'))
  | .nop, L, st, h => (match st with | .int n :: .int dp :: .ref d :: .int sp :: .ref s :: r => if r = [] then (xcopy h s sp d dp n).map (fun h' => (L, r, h')) else none | _ => none)
  | .pop, L, st, h => (match st with | .ref _ :: r => if r.length ≤ 4 then some (L, r, h) else none | _ => none)
  | .iadd, L, st, h => (xii (fun a b => a + b) st).map (fun st' => (L, st', h))
  | .isub, L, st, h => (xii (fun a b => a - b) st).map (fun st' => (L, st', h))
  | .imul, L, st, h => (xii (fun a b => a * b) st).map (fun st' => (L, st', h))
  | .idiv, L, st, h => (xid (fun a b => a / b) st).map (fun st' => (L, st', h))
  | .irem, L, st, h => (xid (fun a b => a - a / b * b) st).map (fun st' => (L, st', h))
  | .iand, L, st, h => (xii (fun a b => a &&& b) st).map (fun st' => (L, st', h))
  | .ior, L, st, h => (xii (fun a b => a ||| b) st).map (fun st' => (L, st', h))
  | .ixor, L, st, h => (xii (fun a b => a ^^^ b) st).map (fun st' => (L, st', h))
  | .ishl, L, st, h => (xii (fun a b => a <<< (b &&& 31)) st).map (fun st' => (L, st', h))
  | .ishr, L, st, h => (xii (fun a b => a >>> (b &&& 31)) st).map (fun st' => (L, st', h))
  | .iushr, L, st, h => (xii (fun a b => (a.toUInt32 >>> (b.toUInt32 &&& Int32.toUInt32 31)).toInt32) st).map (fun st' => (L, st', h))
  | .ladd, L, st, h => (xll (fun a b => a + b) st).map (fun st' => (L, st', h))
  | .lsub, L, st, h => (xll (fun a b => a - b) st).map (fun st' => (L, st', h))
  | .lmul, L, st, h => (xll (fun a b => a * b) st).map (fun st' => (L, st', h))
  | .ldiv, L, st, h => (xlv (fun a b => a / b) st).map (fun st' => (L, st', h))
  | .lrem, L, st, h => (xlv (fun a b => a - a / b * b) st).map (fun st' => (L, st', h))
  | .land, L, st, h => (xll (fun a b => a &&& b) st).map (fun st' => (L, st', h))
  | .lor, L, st, h => (xll (fun a b => a ||| b) st).map (fun st' => (L, st', h))
  | .lxor, L, st, h => (xll (fun a b => a ^^^ b) st).map (fun st' => (L, st', h))
  | .lshl, L, st, h => (xls (fun a b => a <<< (b.toInt64 &&& 63)) st).map (fun st' => (L, st', h))
  | .lshr, L, st, h => (xls (fun a b => a >>> (b.toInt64 &&& 63)) st).map (fun st' => (L, st', h))
  | .lushr, L, st, h => (xls (fun a b => (a.toUInt64 >>> (b.toInt64.toUInt64 &&& Int64.toUInt64 63)).toInt64) st).map (fun st' => (L, st', h))
  | .lcmp, L, st, h => (xlc st).map (fun st' => (L, st', h))
  | .i2l, L, st, h => (xil (fun a => a.toInt64) st).map (fun st' => (L, st', h))
  | .l2i, L, st, h => (xli (fun a => a.toInt32) st).map (fun st' => (L, st', h))
  | .dup, L, st, h => (xdup st).map (fun st' => (L, st', h))
  | .dup2, L, st, h => (xdup2 st).map (fun st' => (L, st', h))
  | _, _, _, _ => none
def xcnd (c : Jvm.ClassFile.Cond) (a b : Int32) : Bool := match c with
  | .eq => decide (a = b)
  | .ne => decide (¬ a = b)
  | .lt => decide (a < b)
  | .ge => decide (b ≤ a)
  | .gt => decide (b < a)
  | .le => decide (a ≤ b)
def xsw : List (Int × Int) → Int → Int → Int
  | [], d, _ => d
  | (k, t) :: r, d, a => if a = k then t else xsw r d a
/-- a block of instructions: what neither jumps nor calls on the left; jumps name their targets, calls the method's number and how many values it takes -/
def xB (call : Nat → List Value → xH → xR) (jmp : Nat → xL → xS → xH → xR) : List xI → xL → xS → xH → xR
  | [], _, _, _ => none
  | .inl i :: r, L, st, h => (xP i L st h).bind (fun q => xB call jmp r q.1 q.2.1 q.2.2)
  | .inr (.goto t) :: _, L, st, h => jmp t.toNat L st h
  | .inr (.ifCond c t) :: r, L, st, h => (match st with | .int a :: st' => if xcnd c a 0 = true then jmp t.toNat L st' h else xB call jmp r L st' h | _ => none)
  | .inr (.if_icmp c t) :: r, L, st, h => (match st with | .int b :: .int a :: st' => if xcnd c a b = true then jmp t.toNat L st' h else xB call jmp r L st' h | _ => none)
  | .inr (.lookupswitch d ps) :: _, L, st, h => (match st with | .int a :: st' => jmp (xsw ps.toList d a.toInt).toNat L st' h | _ => none)
  | .inr .ireturn :: _, _, st, h => (match st with | [.int v] => some (some (.int v), h) | _ => none)
  | .inr .areturn :: _, _, st, h => (match st with | [.int v] => if v = 0 ∨ v = 1 then some (some (.int v), h) else none | _ => none)
  | .inr .lreturn :: _, _, st, h => (match st with | [.long v] => some (some (.long v), h) | _ => none)
  | .inr .return_ :: _, _, st, h => (match st with | [] => some (none, h) | _ => none)
  | .inr (.invokeinterface j n) :: r, L, st, h => if n ≤ st.length ∧ (st.drop n).length ≤ 4 then (call j (st.take n).reverse h).bind (fun q => xB call jmp r L (q.1.toList ++ st.drop n) q.2) else none
  | .inr (.goto_w t) :: _, L, st, h => jmp t.toNat L st h
  | .inr _ :: _, _, _, _ => none
/-- a fall into the next block -/
abbrev xto (t : Int) : xI := .inr (.goto_w t)
def xlo : List Value → xL
  | [] => []
  | .long v :: t => some (.long v) :: none :: xlo t
  | .double v :: t => some (.double v) :: none :: xlo t
  | v :: t => some v :: xlo t
