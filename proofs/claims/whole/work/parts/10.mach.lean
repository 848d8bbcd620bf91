/-! A SMALL MACHINE: the same instructions over a heap of numbered cells (0: the script, 1: the static array, then each cell as it is made). -/
abbrev MH : Type := List (Nat × Nat) × (Nat → Nat → Int32) × (Nat → Nat → Int64) × (Nat → Nat → Value)
/-- the kind of a cell (a class's number; 20 int[], 21 long[], 22 short[], 23 byte[], 24 boolean[]), its length -/
def kd (h : MH) (a : Nat) : Nat := (h.1.getD a (99, 0)).1
def ln (h : MH) (a : Nat) : Nat := (h.1.getD a (99, 0)).2
def gI (h : MH) (a k : Nat) : Int32 := h.2.1 a k
def gL (h : MH) (a k : Nat) : Int64 := h.2.2.1 a k
def gR (h : MH) (a k : Nat) : Value := h.2.2.2 a k
def sI (h : MH) (a k : Nat) (v : Int32) : MH := (h.1, fun x y => if x = a ∧ y = k then v else h.2.1 x y, h.2.2.1, h.2.2.2)
def sL (h : MH) (a k : Nat) (v : Int64) : MH := (h.1, h.2.1, fun x y => if x = a ∧ y = k then v else h.2.2.1 x y, h.2.2.2)
def sR (h : MH) (a k : Nat) (v : Value) : MH := (h.1, h.2.1, h.2.2.1, fun x y => if x = a ∧ y = k then v else h.2.2.2 x y)
def nC (h : MH) (t n : Nat) : MH := (h.1 ++ [(t, n)], fun x y => if x = h.1.length then 0 else h.2.1 x y, fun x y => if x = h.1.length then 0 else h.2.2.1 x y, fun x y => if x = h.1.length then .null else h.2.2.2 x y)
/-- n places of a from sp on into b from dp on -/
def cpI (h : MH) (a sp b dp n : Nat) : MH := (h.1, fun x y => if x = b then va_cpy (h.2.1 a) (h.2.1 b) sp dp n y else h.2.1 x y, h.2.2.1, h.2.2.2)
/-- how many slots all cells have -/
def szH (h : MH) : Nat := (h.1.map (fun q => q.2)).sum
abbrev LV : Type := List (Option Value)
abbrev Rz : Type := Option Value × MH
abbrev Stt : Type := List IR × LV × List Value × MH
abbrev Ouc : Type := Option (Rz ⊕ (Stt ⊕ (Nat × List Value × Stt)))
def nx (cs : List IR) (ls : LV) (st : List Value) (h : MH) : Ouc := some (.inr (.inl (cs, ls, st, h)))
def clr (a : Option Value) : Option Value := match a with
  | some (.long _) => none
  | some (.double _) => none
  | x => x
/-- a value of one word into place i -/
def st1 : LV → Nat → Value → LV
  | [], _, _ => []
  | _ :: l, 0, v => some v :: l
  | a :: l, 1, v => clr a :: st1 l 0 v
  | a :: l, i + 2, v => a :: st1 l (i + 1) v
/-- a long into places i, i + 1 -/
def st2 (ls : LV) (i : Nat) (v : Value) : LV := (st1 ls i v).set (i + 1) none
def o1 (f : Int32 → Int32) (cs : List IR) (ls : LV) (st : List Value) (h : MH) : Ouc := match st with
  | .int a :: st => nx cs ls (.int (f a) :: st) h
  | _ => none
def o2 (f : Int32 → Int32 → Int32) (cs : List IR) (ls : LV) (st : List Value) (h : MH) : Ouc := match st with
  | .int b :: .int a :: st => nx cs ls (.int (f a b) :: st) h
  | _ => none
def o2z (f : Int32 → Int32 → Int32) (cs : List IR) (ls : LV) (st : List Value) (h : MH) : Ouc := match st with
  | .int b :: .int a :: st => if b = 0 then none else nx cs ls (.int (f a b) :: st) h
  | _ => none
def q2 (f : Int64 → Int64 → Int64) (cs : List IR) (ls : LV) (st : List Value) (h : MH) : Ouc := match st with
  | .long b :: .long a :: st => nx cs ls (.long (f a b) :: st) h
  | _ => none
def ldi (i : Nat) (cs : List IR) (ls : LV) (st : List Value) (h : MH) : Ouc := match ls.getD i none with
  | some (.int x) => nx cs ls (.int x :: st) h
  | _ => none
def ldl (i : Nat) (cs : List IR) (ls : LV) (st : List Value) (h : MH) : Ouc := match ls.getD i none with
  | some (.long x) => nx cs ls (.long x :: st) h
  | _ => none
def lda (i : Nat) (cs : List IR) (ls : LV) (st : List Value) (h : MH) : Ouc := match ls.getD i none with
  | some (.ref x) => nx cs ls (.ref x :: st) h
  | _ => none
def sti (i : Nat) (cs : List IR) (ls : LV) (st : List Value) (h : MH) : Ouc := match st with
  | .int x :: st => if i < ls.length then nx cs (st1 ls i (.int x)) st h else none
  | _ => none
def sta (i : Nat) (cs : List IR) (ls : LV) (st : List Value) (h : MH) : Ouc := match st with
  | .ref x :: st => if i < ls.length then nx cs (st1 ls i (.ref x)) st h else none
  | _ => none
def stg (i : Nat) (cs : List IR) (ls : LV) (st : List Value) (h : MH) : Ouc := match st with
  | .long x :: st => if i + 1 < ls.length then nx cs (st2 ls i (.long x)) st h else none
  | _ => none
def tgt (k : Nat) (t : Int) : List IR := blk k t.toNat
/-- if: one word against 0 -/
def bf (k : Nat) (c : Jvm.ClassFile.Cond) (t : Int) (cs : List IR) (ls : LV) (st : List Value) (h : MH) : Ouc := match st with
  | .int x :: st => match c with
    | .eq => if x = 0 then nx (tgt k t) ls st h else nx cs ls st h
    | .ne => if x = 0 then nx cs ls st h else nx (tgt k t) ls st h
    | .lt => if x < 0 then nx (tgt k t) ls st h else nx cs ls st h
    | .ge => if 0 ≤ x then nx (tgt k t) ls st h else nx cs ls st h
    | .gt => if 0 < x then nx (tgt k t) ls st h else nx cs ls st h
    | .le => if x ≤ 0 then nx (tgt k t) ls st h else nx cs ls st h
  | _ => none
def bc (k : Nat) (c : Jvm.ClassFile.Cond) (t : Int) (cs : List IR) (ls : LV) (st : List Value) (h : MH) : Ouc := match st with
  | .int y :: .int x :: st => match c with
    | .eq => if x = y then nx (tgt k t) ls st h else nx cs ls st h
    | .ne => if x = y then nx cs ls st h else nx (tgt k t) ls st h
    | .lt => if x < y then nx (tgt k t) ls st h else nx cs ls st h
    | .ge => if y ≤ x then nx (tgt k t) ls st h else nx cs ls st h
    | .gt => if y < x then nx (tgt k t) ls st h else nx cs ls st h
    | .le => if x ≤ y then nx (tgt k t) ls st h else nx cs ls st h
  | _ => none
def bnn (k : Nat) (t : Int) (cs : List IR) (ls : LV) (st : List Value) (h : MH) : Ouc := match st with
  | .ref _ :: st => nx (tgt k t) ls st h
  | .null :: st => nx cs ls st h
  | _ => none
def tsw (k : Nat) (d lo hi : Int) (os : Array Int) (ls : LV) (st : List Value) (h : MH) : Ouc := match st with
  | .int x :: st => if x.toInt < lo ∨ hi < x.toInt then nx (tgt k d) ls st h else match os[(x.toInt - lo).toNat]? with
    | some t => nx (tgt k t) ls st h
    | none => none
  | _ => none
/-- the place of the first pair -/
def lkp : List (Int × Int) → Int → Int → Int
  | [], d, _ => d
  | (m, t) :: r, d, x => if x = m then t else lkp r d x
def lsw (k : Nat) (d : Int) (ps : Array (Int × Int)) (ls : LV) (st : List Value) (h : MH) : Ouc := match st with
  | .int x :: st => nx (tgt k (lkp ps.toList d x.toInt)) ls st h
  | _ => none
def inB (i : Int32) (n : Nat) : Prop := ¬ (i < 0 ∨ n ≤ i.toNatClampNeg)
def inBd (i : Int32) (n : Nat) : Bool := decide (¬ (i < 0 ∨ n ≤ i.toNatClampNeg))
def ali (t : Nat) (cs : List IR) (ls : LV) (st : List Value) (h : MH) : Ouc := match st with
  | .int i :: .ref a :: st => if kd h a = t ∧ inBd i (ln h a) = true then nx cs ls (.int (gI h a i.toNatClampNeg) :: st) h else none
  | _ => none
def alb (cs : List IR) (ls : LV) (st : List Value) (h : MH) : Ouc := match st with
  | .int i :: .ref a :: st => if (kd h a = 23 ∨ kd h a = 24) ∧ inBd i (ln h a) = true then nx cs ls (.int (gI h a i.toNatClampNeg) :: st) h else none
  | _ => none
def all_ (cs : List IR) (ls : LV) (st : List Value) (h : MH) : Ouc := match st with
  | .int i :: .ref a :: st => if kd h a = 21 ∧ inBd i (ln h a) = true then nx cs ls (.long (gL h a i.toNatClampNeg) :: st) h else none
  | _ => none
def asi (cs : List IR) (ls : LV) (st : List Value) (h : MH) : Ouc := match st with
  | .int x :: .int i :: .ref a :: st => if 2 ≤ a ∧ kd h a = 20 ∧ inBd i (ln h a) = true then nx cs ls st (sI h a i.toNatClampNeg x) else none
  | _ => none
def ass (cs : List IR) (ls : LV) (st : List Value) (h : MH) : Ouc := match st with
  | .int x :: .int i :: .ref a :: st => if 2 ≤ a ∧ kd h a = 22 ∧ inBd i (ln h a) = true then nx cs ls st (sI h a i.toNatClampNeg (x.toInt16.toInt32)) else none
  | _ => none
def asb (cs : List IR) (ls : LV) (st : List Value) (h : MH) : Ouc := match st with
  | .int x :: .int i :: .ref a :: st => if 2 ≤ a ∧ kd h a = 23 ∧ inBd i (ln h a) = true then nx cs ls st (sI h a i.toNatClampNeg (x.toInt8.toInt32)) else
      if 2 ≤ a ∧ kd h a = 24 ∧ inBd i (ln h a) = true then nx cs ls st (sI h a i.toNatClampNeg (x &&& 1)) else none
  | _ => none
def asl (cs : List IR) (ls : LV) (st : List Value) (h : MH) : Ouc := match st with
  | .long x :: .int i :: .ref a :: st => if 2 ≤ a ∧ kd h a = 21 ∧ inBd i (ln h a) = true then nx cs ls st (sL h a i.toNatClampNeg x) else none
  | _ => none
def aln (cs : List IR) (ls : LV) (st : List Value) (h : MH) : Ouc := match st with
  | .ref a :: st => if 20 ≤ kd h a ∧ kd h a ≤ 24 then nx cs ls (.int (nI (ln h a)) :: st) h else none
  | _ => none
def rdF (h : MH) (a f : Nat) : Value := match fty f with
  | 1 => .long (gL h a (f % 100))
  | 2 => gR h a (f % 100)
  | _ => .int (gI h a (f % 100))
def gtf (f : Nat) (cs : List IR) (ls : LV) (st : List Value) (h : MH) : Ouc := match st with
  | .ref a :: st => if kd h a = f / 100 ∧ f / 100 < 13 ∧ 2 ≤ a then nx cs ls (rdF h a f :: st) h else none
  | _ => none
def ptf (f : Nat) (cs : List IR) (ls : LV) (st : List Value) (h : MH) : Ouc := match st with
  | v :: .ref a :: st => if kd h a = f / 100 ∧ f / 100 < 13 ∧ 2 ≤ a then (match fty f, v with
    | 0, .int x => nx cs ls st (sI h a (f % 100) x)
    | 1, .long x => nx cs ls st (sL h a (f % 100) x)
    | 2, .ref x => nx cs ls st (sR h a (f % 100) (.ref x))
    | 3, .int x => if x = 0 ∨ x = 1 then nx cs ls st (sI h a (f % 100) x) else none
    | _, _ => none) else none
  | _ => none
def aty (t : ArrayType) : Nat := match t with
  | .int => 20
  | .long => 21
  | .short => 22
  | .byte => 23
  | .boolean => 24
  | _ => 90
def nwa (t : ArrayType) (cs : List IR) (ls : LV) (st : List Value) (h : MH) : Ouc := match st with
  | .int n :: st => if aty t ≤ 24 ∧ ¬ n < 0 ∧ n.toNatClampNeg ≤ 65536 then nx cs ls (.ref h.1.length :: st) (nC h (aty t) n.toNatClampNeg) else none
  | _ => none
def nwo (c : Nat) (cs : List IR) (ls : LV) (st : List Value) (h : MH) : Ouc := if c < 13 then nx cs ls (.ref h.1.length :: st) (nC h c (flen.getD c 0)) else none
def acp (cs : List IR) (ls : LV) (st : List Value) (h : MH) : Ouc := match st with
  | .int n :: .int dp :: .ref b :: .int sp :: .ref a :: st => if (2 ≤ a ∧ a = b ∧ kd h a = 20 ∧ st.length ≤ 4) ∧ ¬ sp < 0 ∧ ¬ dp < 0 ∧ ¬ n < 0 ∧ sp.toNatClampNeg + n.toNatClampNeg ≤ ln h a ∧ dp.toNatClampNeg + n.toNatClampNeg ≤ ln h a
      then nx cs ls st (cpI h a sp.toNatClampNeg a dp.toNatClampNeg n.toNatClampNeg) else none
  | _ => none
def isZ (k : Nat) : Bool := decide (mR k = some .boolean)
def rti (k : Nat) (st : List Value) (h : MH) : Ouc := match st with
  | [.int x] => if isZ k = true then (if x = 0 ∨ x = 1 then some (.inl (some (.int x), h)) else none) else (if mR k = some .int then some (.inl (some (.int x), h)) else none)
  | _ => none
def stp (k : Nat) (i : IR) (cs : List IR) (ls : LV) (st : List Value) (h : MH) : Ouc := match i with
  | .iconst n => nx cs ls (.int (Int32.ofInt n) :: st) h
  | .bipush n => nx cs ls (.int (Int8.ofInt n).toInt32 :: st) h
  | .sipush n => nx cs ls (.int (Int16.ofInt n).toInt32 :: st) h
  | .lconst n => nx cs ls (.long (Int64.ofNat (n : Nat)) :: st) h
  | .ldc v => nx cs ls (.int (Int32.ofNat v) :: st) h
  | .ldc_w v => nx cs ls (.int (Int32.ofNat v) :: st) h
  | .ldc2_w v => nx cs ls (.long (Int64.ofNat v) :: st) h
  | .iload i => ldi i cs ls st h
  | .iload_n i => ldi i cs ls st h
  | .lload i => ldl i cs ls st h
  | .lload_n i => ldl i cs ls st h
  | .aload i => lda i cs ls st h
  | .aload_n i => lda i cs ls st h
  | .istore i => sti i cs ls st h
  | .istore_n i => sti i cs ls st h
  | .lstore i => stg i cs ls st h
  | .lstore_n i => stg i cs ls st h
  | .astore i => sta i cs ls st h
  | .astore_n i => sta i cs ls st h
  | .iinc i n => match ls.getD i none with
    | some (.int x) => nx cs (st1 ls i (.int (x + Int32.ofInt n))) st h
    | _ => none
  | .iadd => o2 (fun a b => a + b) cs ls st h
  | .isub => o2 (fun a b => a - b) cs ls st h
  | .imul => o2 (fun a b => a * b) cs ls st h
  | .idiv => o2z (fun a b => a / b) cs ls st h
  | .irem => o2z (fun a b => a - a / b * b) cs ls st h
  | .ineg => o1 (fun a => -a) cs ls st h
  | .iand => o2 (fun a b => a &&& b) cs ls st h
  | .ior => o2 (fun a b => a ||| b) cs ls st h
  | .ixor => o2 (fun a b => a ^^^ b) cs ls st h
  | .ishl => o2 (fun a b => a <<< (b &&& 31)) cs ls st h
  | .ishr => o2 (fun a b => a >>> (b &&& 31)) cs ls st h
  | .iushr => o2 (fun a b => (a.toUInt32 >>> (b.toUInt32 &&& Int32.toUInt32 31)).toInt32) cs ls st h
  | .i2b => o1 (fun a => a.toInt8.toInt32) cs ls st h
  | .i2s => o1 (fun a => a.toInt16.toInt32) cs ls st h
  | .ladd => q2 (fun a b => a + b) cs ls st h
  | .lor => q2 (fun a b => a ||| b) cs ls st h
  | .lshl => match st with
    | .int b :: .long a :: st => nx cs ls (.long (a <<< (b.toInt64 &&& 63)) :: st) h
    | _ => none
  | .i2l => match st with
    | .int a :: st => nx cs ls (.long a.toInt64 :: st) h
    | _ => none
  | .lcmp => match st with
    | .long b :: .long a :: st => nx cs ls (.int (lg_cmp a b) :: st) h
    | _ => none
  | .dup => match st with
    | .int a :: st => nx cs ls (.int a :: .int a :: st) h
    | .ref a :: st => nx cs ls (.ref a :: .ref a :: st) h
    | _ => none
  | .dup2 => match st with
    | .int a :: .ref b :: st => nx cs ls (.int a :: .ref b :: .int a :: .ref b :: st) h
    | _ => none
  | .ifCond c t => bf k c t cs ls st h
  | .if_icmp c t => bc k c t cs ls st h
  | .ifnonnull t => bnn k t cs ls st h
  | .goto t => nx (tgt k t) ls st h
  | .goto_w t => nx (tgt k t) ls st h
  | .tableswitch d lo hi os => tsw k d lo hi os ls st h
  | .lookupswitch d ps => lsw k d ps ls st h
  | .iaload => ali 20 cs ls st h
  | .saload => ali 22 cs ls st h
  | .baload => alb cs ls st h
  | .laload => all_ cs ls st h
  | .iastore => asi cs ls st h
  | .sastore => ass cs ls st h
  | .bastore => asb cs ls st h
  | .lastore => asl cs ls st h
  | .arraylength => aln cs ls st h
  | .getfield f => gtf f cs ls st h
  | .putfield f => ptf f cs ls st h
  | .getstatic _ => nx cs ls (.ref 1 :: st) h
  | .new c => nwo c cs ls st h
  | .newarray t => nwa t cs ls st h
  | .invokespecial _ => match st with
    | .ref _ :: st => if st.length ≤ 4 then nx cs ls st h else none
    | _ => none
  | .invokestatic _ => acp cs ls st h
  | .invokeinterface k' n => if n ≤ st.length ∧ (st.drop n).length ≤ 4 then some (.inr (.inr (k', (st.take n).reverse, cs, ls, st.drop n, h))) else none
  | .ireturn => rti k st h
  | .lreturn => match st with
    | [.long x] => if mR k = some .long then some (.inl (some (.long x), h)) else none
    | _ => none
  | .areturn => match st with
    | [.ref x] => if mR k = some (.object RX7) then some (.inl (some (.ref x), h)) else none
    | _ => none
  | .return_ => match st with
    | [] => if mR k = none then some (.inl (none, h)) else none
    | _ => none
  | _ => none
/-- what a call may ask: its frames, its receiver -/
def rcv (k : Nat) (a : List Value) (h : MH) : Bool := match mrc k with
  | none => true
  | some c => match a with
    | .ref x :: _ => decide (kd h x = c ∧ 2 ≤ x ∧ c < 13)
    | _ => false
/-- a call's locals -/
def lcs : List Value → LV
  | [] => []
  | .long x :: a => some (.long x) :: none :: lcs a
  | .double x :: a => some (.double x) :: none :: lcs a
  | v :: a => some v :: lcs a
def okC (k : Nat) (a : List Value) (μ : Nat) (h : MH) : Prop := mu k a < μ ∧ rcv k a h = true ∧ a.length = mnl.getD k 99 ∧ 0 < k ∧ (lcs a).length ≤ mX k
def ent (k : Nat) (a : List Value) : LV := lcs a ++ List.replicate (mX k - (lcs a).length) none
def psh (r : Option Value) (st : List Value) : List Value := match r with
  | some v => v :: st
  | none => st
abbrev Rec : Type := Nat → Nat → List IR → LV → List Value → MH → Option Rz
noncomputable section
theorem okC_dec (k : Nat) (a : List Value) (μ : Nat) (h : MH) : okC k a μ h ∨ ¬ okC k a μ h := Classical.em _
def KK (rec : Rec) (k μ : Nat) (o : Ouc) : Option Rz := match o with
  | none => none
  | some (.inl r) => some r
  | some (.inr (.inl s)) => rec k μ s.1 s.2.1 s.2.2.1 s.2.2.2
  | some (.inr (.inr (k', a, s))) => @ite _ (okC k' a μ s.2.2.2) (Classical.propDecidable _) ((rec k' (mu k' a) (blk k' 0) (ent k' a) [] s.2.2.2).bind fun r => rec k μ s.1 s.2.1 (psh r.1 s.2.2.1) r.2) none
def xec : Nat → Rec
  | 0 => fun _ _ _ _ _ _ => none
  | n + 1 => fun k μ cs ls st h => match cs with
    | [] => none
    | i :: cs => KK (xec n) k μ (stp k i cs ls st h)
/-- a record of runs is below another -/
def Le (a b : Rec) : Prop := ∀ k μ cs ls st h r, a k μ cs ls st h = some r → b k μ cs ls st h = some r
theorem KK_le {a b : Rec} (hab : Le a b) (k μ : Nat) (o : Ouc) (r : Rz) (h : KK a k μ o = some r) : KK b k μ o = some r := by
  match o, h with
  | some (.inl q), h => exact h
  | some (.inr (.inl s)), h => exact hab _ _ _ _ _ _ _ h
  | some (.inr (.inr (k', ar, s))), h =>
    simp only [KK] at h ⊢
    split at h
    · rename_i hc
      rw [if_pos hc]
      obtain ⟨q, h1, h2⟩ := Option.bind_eq_some_iff.mp h
      exact Option.bind_eq_some_iff.mpr ⟨q, hab _ _ _ _ _ _ _ h1, hab _ _ _ _ _ _ _ h2⟩
    · cases h
theorem xec_le (n : Nat) : Le (xec n) (xec (n + 1)) := by
  induction n with
  | zero => intro k μ cs ls st h r e; cases e
  | succ n ih =>
    intro k μ cs ls st h r e
    match cs, e with
    | i :: cs, e => exact KK_le ih _ _ _ _ e
theorem xec_add (n d : Nat) : Le (xec n) (xec (n + d)) := by
  induction d with
  | zero => exact fun _ _ _ _ _ _ _ e => e
  | succ d ih => exact fun _ _ _ _ _ _ _ e => xec_le _ _ _ _ _ _ _ _ (ih _ _ _ _ _ _ _ e)
theorem xec_up {n m : Nat} (h : n ≤ m) : Le (xec n) (xec m) := by
  obtain ⟨d, rfl⟩ := Nat.exists_eq_add_of_le h
  exact xec_add n d
/-- the run, without a clock -/
def rn : Rec := fun k μ cs ls st h => @dite _ (∃ n r, xec n k μ cs ls st h = some r) (Classical.propDecidable _) (fun e => some (Classical.choose (Classical.choose_spec e))) (fun _ => none)
theorem rn_of {n k μ : Nat} {cs : List IR} {ls : LV} {st : List Value} {h : MH} {r : Rz} (e : xec n k μ cs ls st h = some r) : rn k μ cs ls st h = some r := by
  have hx : ∃ n r, xec n k μ cs ls st h = some r := ⟨n, r, e⟩
  have h1 := Classical.choose_spec (Classical.choose_spec hx)
  unfold rn
  rw [dif_pos hx]
  have a := xec_up (Nat.le_max_left n (Classical.choose hx)) _ _ _ _ _ _ _ e
  have b := xec_up (Nat.le_max_right n (Classical.choose hx)) _ _ _ _ _ _ _ h1
  rw [a] at b
  exact b.symm
theorem rn_to {k μ : Nat} {cs : List IR} {ls : LV} {st : List Value} {h : MH} {r : Rz} (e : rn k μ cs ls st h = some r) : ∃ n, xec n k μ cs ls st h = some r := by
  unfold rn at e
  split at e
  · rename_i hx
    have h1 := Classical.choose_spec (Classical.choose_spec hx)
    refine ⟨Classical.choose hx, ?_⟩
    rw [h1]
    exact e
  · cases e
theorem rn_iff {k μ : Nat} {cs : List IR} {ls : LV} {st : List Value} {h : MH} {r : Rz} : rn k μ cs ls st h = some r ↔ ∃ n, xec n k μ cs ls st h = some r := ⟨rn_to, fun ⟨_, e⟩ => rn_of e⟩
theorem opt_ext {α : Type} {a b : Option α} (h : ∀ r, a = some r ↔ b = some r) : a = b := by
  cases a with
  | none =>
    cases b with
    | none => rfl
    | some y => exact ((h y).mpr rfl)
  | some x => exact ((h x).mp rfl).symm
theorem KK_to {k μ : Nat} (o : Ouc) {r : Rz} (h : KK rn k μ o = some r) : ∃ n, KK (xec n) k μ o = some r := by
  match o, h with
  | some (.inl q), h => exact ⟨0, h⟩
  | some (.inr (.inl s)), h => exact rn_to h
  | some (.inr (.inr (k', ar, s))), h =>
    simp only [KK] at h ⊢
    split at h
    · rename_i hc
      obtain ⟨q, h1, h2⟩ := Option.bind_eq_some_iff.mp h
      obtain ⟨n1, e1⟩ := rn_to h1
      obtain ⟨n2, e2⟩ := rn_to h2
      refine ⟨max n1 n2, ?_⟩
      rw [if_pos hc]
      exact Option.bind_eq_some_iff.mpr ⟨q, xec_up (Nat.le_max_left n1 n2) _ _ _ _ _ _ _ e1, xec_up (Nat.le_max_right n1 n2) _ _ _ _ _ _ _ e2⟩
    · cases h
/-- THE STEP -/
theorem rn_fix (k μ : Nat) (i : IR) (cs : List IR) (ls : LV) (st : List Value) (h : MH) : rn k μ (i :: cs) ls st h = KK rn k μ (stp k i cs ls st h) := by
  refine opt_ext fun r => ⟨fun e => ?_, fun e => ?_⟩
  · obtain ⟨n, e⟩ := rn_to e
    cases n with
    | zero => cases e
    | succ n => exact KK_le (fun _ _ _ _ _ _ _ e => rn_of e) _ _ _ _ e
  · obtain ⟨n, e⟩ := KK_to _ e
    exact rn_of (n := n + 1) e
/-- a call -/
def cal (k : Nat) (a : List Value) (μ : Nat) (h : MH) : Option Rz := @ite _ (okC k a μ h) (Classical.propDecidable _) (rn k (mu k a) (blk k 0) (ent k a) [] h) none
theorem rn_cal (k μ k' n : Nat) (cs : List IR) (ls : LV) (st : List Value) (h : MH) (hn : n ≤ st.length) (hs : (st.drop n).length ≤ 4) : rn k μ (.invokeinterface k' n :: cs) ls st h = (cal k' (st.take n).reverse μ h).bind fun r => rn k μ cs ls (psh r.1 (st.drop n)) r.2 := by
  rw [rn_fix]
  simp only [stp, if_pos (And.intro hn hs), KK, cal]
  split
  · rfl
  · rfl
end
