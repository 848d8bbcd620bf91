/-! THE DATA ARE THE CODE: what each block says is what the bytes say, held by the kernel -/
/-- an instruction's length -/
def xl (i : IR) : Nat := match i with
  | .bipush _ => 2
  | .ldc _ => 2
  | .iload _ => 2
  | .lload _ => 2
  | .aload _ => 2
  | .istore _ => 2
  | .lstore _ => 2
  | .astore _ => 2
  | .newarray _ => 2
  | .sipush _ => 3
  | .ldc_w _ => 3
  | .ldc2_w _ => 3
  | .iinc _ _ => 3
  | .ifCond _ _ => 3
  | .if_icmp _ _ => 3
  | .ifnonnull _ => 3
  | .goto _ => 3
  | .getfield _ => 3
  | .putfield _ => 3
  | .getstatic _ => 3
  | .new _ => 3
  | .invokespecial _ => 3
  | .invokestatic _ => 3
  | .invokeinterface _ _ => 3
  | _ => 1
def lab (k : Nat) (t : Int) : Bool := decide (0 ≤ t) && (lbl k).contains t.toNat
/-- a final field is written in its class's constructor alone -/
def finl : List (List Bool) := [[false, false, true, true, true, true, true, true], [true, false, true, true, true, false], [true, true, true, true, true, false, false], [false, false], [true, false], [true, true, true, true, true, true, true, true, true, true, true, true, false, false, false, false, false, false], [true, false, false, false, false, false], [true, true, true, false, false, false, false], [false, true, false, false, false, false], [true, false, false, false, false, false, false], [true, true, false], [true, true, true, true, true, true, true, false, false, false], [true, false, false, false, false, false, false, false, false, false, true, true, true, true, true, true, true, true, true, false, false, false, false, false, false, true, true, true, true, true, true, true, true, true, true, true, true, true, true, true, false, false, false, false, false, false, false, false, false, false, false, false, false, false, false, false, false, false, false, false, true, true, true, true, false, false, true, false, true, true, false, true, true, true, true, false, false, true, true, true, true, true, false, false, true, true, true, true]]
def ffin (f : Nat) : Bool := (finl.getD (f / 100) []).getD (f % 100) false
def okR (k pc : Nat) (i raw : IR) (len : Nat) : Bool := match i with
  | .goto t => decide (raw = .goto (t - pc)) && (len == 3 && lab k t)
  | .ifCond c t => decide (raw = .ifCond c (t - pc)) && (len == 3 && lab k t)
  | .if_icmp c t => decide (raw = .if_icmp c (t - pc)) && (len == 3 && lab k t)
  | .ifnonnull t => decide (raw = .ifnonnull (t - pc)) && (len == 3 && lab k t)
  | .tableswitch d lo hi os => decide (raw = .tableswitch (d - pc) lo hi (os.map (fun t => t - pc))) && (lab k d && os.all (lab k))
  | .lookupswitch d ps => decide (raw = .lookupswitch (d - pc) (ps.map (fun q => (q.1, q.2 - pc)))) && (lab k d && ps.all (fun q => lab k q.2) && (ps.toList.zip (ps.toList.drop 1)).all (fun (a, next) => a.1 < next.1))
  | .getfield f => match raw with
    | .getfield x => len == 3 && (fT.contains (mC k, x, f) && decide (f % 100 < flen.getD (f / 100) 0))
    | _ => false
  | .putfield f => match raw with
    | .putfield x => len == 3 && (fT.contains (mC k, x, f) && (decide (f % 100 < flen.getD (f / 100) 0) && (!ffin f || (mC k == f / 100 && (mY k).name == "<init>"))))
    | _ => false
  | .getstatic _ => match raw with
    | .getstatic x => len == 3 && gST.contains (mC k, x)
    | _ => false
  | .new c => match raw with
    | .new x => len == 3 && clT.contains (mC k, x, c)
    | _ => false
  | .ldc v => match raw with
    | .ldc x => len == 2 && k1T.contains (mC k, x, v)
    | _ => false
  | .ldc_w v => match raw with
    | .ldc_w x => len == 3 && k1T.contains (mC k, x, v)
    | _ => false
  | .ldc2_w v => match raw with
    | .ldc2_w x => len == 3 && k2T.contains (mC k, x, v)
    | _ => false
  | .invokespecial _ => match raw with
    | .invokespecial x => len == 3 && oIT.contains (mC k, x)
    | _ => false
  | .invokestatic _ => match raw with
    | .invokestatic x => len == 3 && aCT.contains (mC k, x)
    | _ => false
  | .invokeinterface k' n => n == mnl.getD k' 99 && (len == 3 && match raw with
    | .invokevirtual x => cV.contains (mC k, x, k')
    | .invokestatic x => cS.contains (mC k, x, k')
    | .invokespecial x => cI.contains (mC k, x, k') || cM.contains (mC k, x, k')
    | _ => false)
  | _ => decide (raw = i) && len == xl i
def okI (k pc : Nat) (i : IR) : Bool := match decode (mB k) pc with
  | .ok (raw, len) => okR k pc i raw len
  | .error _ => false
def isE (i : IR) : Bool := match i with
  | .goto _ => true
  | .tableswitch _ _ _ _ => true
  | .lookupswitch _ _ => true
  | .ireturn => true
  | .lreturn => true
  | .areturn => true
  | .return_ => true
  | _ => false
def okL (k : Nat) : Nat → List IR → Bool
  | _, [] => false
  | pc, i :: cs => match i with
    | .goto_w t => decide (t = (pc : Int)) && lab k t
    | i => okI k pc i && (isE i || okL k (pc + xl i) cs)
def okM (k : Nat) : Bool := (lbl k).all (fun t => okL k t (blk k t)) && (lbl k).contains 0
