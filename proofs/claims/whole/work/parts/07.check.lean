/-! ===== a block is what the bytes decode to ===== -/
def xsim (p : Instr) : Bool := match p with
  | .iaload => true
  | .baload => true
  | .laload => true
  | .aaload => true
  | .iastore => true
  | .bastore => true
  | .lastore => true
  | .aastore => true
  | .arraylength => true
  | .iadd => true
  | .isub => true
  | .imul => true
  | .idiv => true
  | .irem => true
  | .iand => true
  | .ior => true
  | .ixor => true
  | .ishl => true
  | .ishr => true
  | .iushr => true
  | .ladd => true
  | .lsub => true
  | .lmul => true
  | .ldiv => true
  | .lrem => true
  | .land => true
  | .lor => true
  | .lxor => true
  | .lshl => true
  | .lshr => true
  | .lushr => true
  | .lcmp => true
  | .i2l => true
  | .l2i => true
  | .dup => true
  | .dup2 => true
  | _ => false
def xhasF (o k n : Nat) : Bool := xFL.any (fun q => q.1 == o && (q.2.1 == k && q.2.2.1 == n))
def xhasM (o k j d : Nat) : Bool := xML.any (fun q => q.1 == o && (q.2.1 == k && (q.2.2.1 == j && q.2.2.2.1 == d)))
def xhasC (o k c : Nat) : Bool := xCL.any (fun q => q.1 == o && (q.2.1 == k && q.2.2.1 == c))
def xhasI (o k : Nat) (v : Int) : Bool := xKI.any (fun q => q.1 == o && (q.2.1 == k && q.2.2.1 == v))
def xhasJ (o k : Nat) (v : Int) : Bool := xKJ.any (fun q => q.1 == o && (q.2.1 == k && q.2.2.1 == v))
def xinit (i : Nat) : Bool := (xyn i).name == "<init>"
def xroom (i j : Nat) : Bool := decide (xfm j + 1 ≤ xfm i) && (decide (8 + (xmL j + 11) + xlw j ≤ xlw i) && decide (j < 188))
/-- an instruction that neither jumps nor calls -/
def xckp (i : Nat) (raw : Instr) (len : Nat) (p : Instr) : Bool := match p with
  | .iconst v => (match raw with
    | .iconst n => n == v && len == 1
    | .bipush n => n == v && (len == 2 && (Int8.ofInt n).toInt32 == Int32.ofInt n)
    | .sipush n => n == v && (len == 3 && (Int16.ofInt n).toInt32 == Int32.ofInt n)
    | .ldc k => len == 2 && xhasI (xon i) k v
    | .ldc_w k => len == 3 && xhasI (xon i) k v
    | _ => false)
  | .sipush v => (match raw with
    | .lconst n => len == 1 && Int64.ofNat n.val == Int64.ofInt v
    | .ldc2_w k => len == 3 && xhasJ (xon i) k v
    | _ => false)
  | .iload k => (match raw with
    | .iload_n n => n.val == k && len == 1
    | .iload n => n == k && len == 2
    | _ => false)
  | .lload k => (match raw with
    | .lload_n n => n.val == k && len == 1
    | .lload n => n == k && len == 2
    | _ => false)
  | .aload k => (match raw with
    | .aload_n n => n.val == k && len == 1
    | .aload n => n == k && len == 2
    | _ => false)
  | .istore k => (match raw with
    | .istore_n n => n.val == k && len == 1
    | .istore n => n == k && len == 2
    | _ => false)
  | .lstore k => (match raw with
    | .lstore_n n => n.val == k && len == 1
    | .lstore n => n == k && len == 2
    | _ => false)
  | .astore k => (match raw with
    | .astore_n n => n.val == k && len == 1
    | .astore n => n == k && len == 2
    | _ => false)
  | .iinc k v => (match raw with
    | .iinc n w => n == k && (w == v && len == 3)
    | _ => false)
  | .getfield n => (match raw with
    | .getfield k => len == 3 && xhasF (xon i) k n
    | _ => false)
  | .putfield n => (match raw with
    | .putfield k => len == 3 && (xhasF (xon i) k n && (!(xfd n).2.2.2 || (xinit i && (xfd n).1 == xcn (xon i))))
    | _ => false)
  | .getstatic n => (match raw with
    | .getstatic k => len == 3 && (n == 0 && (k == 66 && xcn (xon i) == "DrawnFields$State"))
    | _ => false)
  | .new c => (match raw with
    | .new k => len == 3 && (xhasC (xon i) k c && decide (c < 10))
    | _ => false)
  | .anewarray c => (match raw with
    | .anewarray k => len == 3 && (xhasC (xon i) k c && decide (c < 10))
    | _ => false)
  | .newarray t => (match raw with
    | .newarray u => len == 2 && decide (t = u)
    | _ => false)
  | .pop => (match raw with
    | .invokespecial k => len == 3 && (xhasM (xon i) k 1000 1 && (decide (1 ≤ xfm i) && decide (20 ≤ xlw i)))
    | _ => false)
  | .nop => (match raw with
    | .invokestatic k => len == 3 && (xhasM (xon i) k 1001 2 && (decide (1 ≤ xfm i) && decide (18 ≤ xlw i)))
    | _ => false)
  | p => len == 1 && (decide (raw = p) && xsim p)
def xpairs (pc : Nat) (lo : Int) : List Int → List (Int × Int)
  | [] => []
  | o :: r => (lo, (pc : Int) + o) :: xpairs pc (lo + 1) r
def xckc (i pc : Nat) (raw : Instr) (len : Nat) (c : Instr) : Bool := match c with
  | .goto t => (match raw with
    | .goto o => len == 3 && ((pc : Int) + o == t && decide (0 ≤ t))
    | _ => false)
  | .ifCond d t => (match raw with
    | .ifCond e o => len == 3 && (decide (d = e) && ((pc : Int) + o == t && decide (0 ≤ t)))
    | _ => false)
  | .if_icmp d t => (match raw with
    | .if_icmp e o => len == 3 && (decide (d = e) && ((pc : Int) + o == t && decide (0 ≤ t)))
    | _ => false)
  | .lookupswitch d ps => (match raw with
    | .tableswitch e lo hi offs => (pc : Int) + e == d && (decide (0 ≤ d) && (ps.toList == xpairs pc lo offs.toList && (hi == lo + offs.toList.length - 1 && ps.toList.all (fun q => decide (0 ≤ q.2)))))
    | _ => false)
  | .ireturn => (match raw with
    | .ireturn => len == 1 && decide (xrt i = some .int)
    | _ => false)
  | .areturn => (match raw with
    | .ireturn => len == 1 && decide (xrt i = some .boolean)
    | _ => false)
  | .lreturn => (match raw with
    | .lreturn => len == 1 && decide (xrt i = some .long)
    | _ => false)
  | .return_ => (match raw with
    | .return_ => len == 1 && decide (xrt i = none)
    | _ => false)
  | .invokeinterface j n => (match raw with
    | .invokevirtual k => len == 3 && (xhasM (xon i) k j 0 && (n == xnp j + 1 && (xroom i j && (!(xmw j).2.2.2.2 && (!xinit j && xvk.getD j 0 == xon j + 2)))))
    | .invokespecial k => len == 3 && ((xhasM (xon i) k j 1 || xhasM (xon i) k j 4) && (n == xnp j + 1 && (xroom i j && (!(xmw j).2.2.2.2 && (xinit j && xvk.getD j 0 == 1)))))
    | .invokestatic k => len == 3 && ((xhasM (xon i) k j 2 || xhasM (xon i) k j 5) && (n == xnp j && (xroom i j && (xmw j).2.2.2.2)))
    | _ => false)
  | _ => false
/-- whether the block goes on behind an instruction -/
def xend : xI → Bool
  | .inr (.ifCond _ _) => false
  | .inr (.if_icmp _ _) => false
  | .inr (.invokeinterface _ _) => false
  | .inr _ => true
  | .inl _ => false
def xckB (i : Nat) : Nat → List xI → Bool
  | _, [] => true
  | pc, .inr (.goto_w t) :: _ => t == (pc : Int)
  | pc, .inl p :: r => (match decode (xby i) pc with
    | .ok (raw, len) => xckp i raw len p && xckB i (pc + len) r
    | _ => false)
  | pc, .inr c :: r => (match decode (xby i) pc with
    | .ok (raw, len) => xckc i pc raw len c && (xend (.inr c) || xckB i (pc + len) r)
    | _ => false)
def xckM (i : Nat) : Bool := (xtab.getD i []).all (fun q => xckB i q.1 q.2)
