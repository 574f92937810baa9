/-! The small machine: cells by number, a kind and a size each; ints, references and longs by cell and place. A frame: pc, locals, operand stack. -/
abbrev mH : Type := List (Nat × Nat) × (Nat → Nat → Int32) × (Nat → Nat → Option Nat) × (Nat → Nat → Int64)
abbrev mF : Type := Nat × List Value × List Value
/-- an instruction, its length, three numbers, a constant -/
abbrev mE : Type := Instr × Nat × (Nat × Nat × Nat) × Value
abbrev mB : Type := List (Nat × List mE × Option mE)
def mStr : List (List Int32) := [[99, 104, 97, 112, 116, 101, 114], [108, 101, 97, 110, 115], [108, 105, 107, 101, 115], [108, 97, 109, 112], [112, 101, 114, 115, 111, 110], [104, 101, 97, 114, 115], [114, 101, 97, 100], [115, 107, 105, 112], [112, 105, 101], [116, 101, 108, 108], [99, 111, 108, 100], [100, 97, 121], [107, 110, 111, 119, 115], [110, 111, 116]]
def mI (h : mH) (a j : Nat) : Int32 := h.2.1 a j
def mR (h : mH) (a j : Nat) : Option Nat := h.2.2.1 a j
def mL (h : mH) (a j : Nat) : Int64 := h.2.2.2 a j
def mK (h : mH) (a : Nat) : Nat × Nat := h.1.getD a (999, 0)
def mU {α : Type} (f : Nat → Nat → α) (a j : Nat) (v : α) : Nat → Nat → α := fun a' j' => if a' = a ∧ j' = j then v else f a' j'
def mSI (h : mH) (a j : Nat) (v : Int32) : mH := (h.1, mU h.2.1 a j v, h.2.2.1, h.2.2.2)
def mSR (h : mH) (a j : Nat) (v : Option Nat) : mH := (h.1, h.2.1, mU h.2.2.1 a j v, h.2.2.2)
def mSL (h : mH) (a j : Nat) (v : Int64) : mH := (h.1, h.2.1, h.2.2.1, mU h.2.2.2 a j v)
/-- one cell more, of zeroes -/
def mNw (h : mH) (k n : Nat) : mH := (h.1 ++ [(k, n)], (fun a j => if a = h.1.length then 0 else h.2.1 a j), (fun a j => if a = h.1.length then none else h.2.2.1 a j), (fun a j => if a = h.1.length then 0 else h.2.2.2 a j))
def mCp (h : mH) (s sp d dp n : Nat) : mH := (h.1, (fun a j => if a = d ∧ dp ≤ j ∧ j < dp + n then h.2.1 s (sp + (j - dp)) else h.2.1 a j), h.2.2.1, h.2.2.2)
def mS (h : mH) : Nat := (h.1.map (·.2)).sum
def mIn (i : Int32) (n : Nat) : Bool := decide (¬ (i < 0 ∨ n ≤ i.toNatClampNeg))
def mBad (f : mF) (h : mH) : mF × mH × Bool := (f, h, false)
def mClob (ls : List Value) (k : Nat) : List Value := match ls.getD (k - 1) .null with
  | .long _ => ls.set (k - 1) (.retAddr 0)
  | _ => ls
def mSt1 (ls : List Value) (k : Nat) (v : Value) : List Value := (mClob ls k).set k v
def mSt2 (ls : List Value) (k : Nat) (v : Value) : List Value := ((mClob ls k).set k v).set (k + 1) (.retAddr 0)
def mIsI : Value → Bool
  | .int _ => true
  | _ => false
def mIsL : Value → Bool
  | .long _ => true
  | _ => false
def mIsR : Value → Bool
  | .ref _ => true
  | .null => true
  | _ => false
def mLd (ok : Value → Bool) (k : Nat) (e : mE) (f : mF) (h : mH) : mF × mH × Bool := ((f.1 + e.2.1, f.2.1, f.2.1.getD k (.retAddr 0) :: f.2.2), h, ok (f.2.1.getD k (.retAddr 0)))
def mSto (ok : Value → Bool) (k : Nat) (e : mE) (f : mF) (h : mH) : mF × mH × Bool := match f.2.2 with
  | v :: st => ((f.1 + e.2.1, mSt1 f.2.1 k v, st), h, ok v && Nat.blt k f.2.1.length)
  | _ => mBad f h
def mSto2 (k : Nat) (e : mE) (f : mF) (h : mH) : mF × mH × Bool := match f.2.2 with
  | .long v :: st => ((f.1 + e.2.1, mSt2 f.2.1 k (.long v), st), h, Nat.blt (k + 1) f.2.1.length)
  | _ => mBad f h
def mB2 (g : Int32 → Int32 → Int32) (ok : Int32 → Bool) (e : mE) (f : mF) (h : mH) : mF × mH × Bool := match f.2.2 with
  | .int b :: .int a :: st => ((f.1 + e.2.1, f.2.1, .int (g a b) :: st), h, ok b)
  | _ => mBad f h
def mB2L (g : Int64 → Int64 → Int64) (ok : Int64 → Bool) (e : mE) (f : mF) (h : mH) : mF × mH × Bool := match f.2.2 with
  | .long b :: .long a :: st => ((f.1 + e.2.1, f.2.1, .long (g a b) :: st), h, ok b)
  | _ => mBad f h
def mIf (c : ClassFile.Cond) (e : mE) (f : mF) (h : mH) : mF × mH × Bool := match f.2.2 with
  | .int x :: st => match c with
    | .eq => ((if x = 0 then e.2.2.1.1 else f.1 + e.2.1, f.2.1, st), h, true)
    | .ne => ((if x = 0 then f.1 + e.2.1 else e.2.2.1.1, f.2.1, st), h, true)
    | .lt => ((if x < 0 then e.2.2.1.1 else f.1 + e.2.1, f.2.1, st), h, true)
    | .ge => ((if 0 ≤ x then e.2.2.1.1 else f.1 + e.2.1, f.2.1, st), h, true)
    | .gt => ((if 0 < x then e.2.2.1.1 else f.1 + e.2.1, f.2.1, st), h, true)
    | .le => ((if x ≤ 0 then e.2.2.1.1 else f.1 + e.2.1, f.2.1, st), h, true)
  | _ => mBad f h
def mIc (c : ClassFile.Cond) (e : mE) (f : mF) (h : mH) : mF × mH × Bool := match f.2.2 with
  | .int y :: .int x :: st => match c with
    | .eq => ((if x = y then e.2.2.1.1 else f.1 + e.2.1, f.2.1, st), h, true)
    | .ne => ((if x = y then f.1 + e.2.1 else e.2.2.1.1, f.2.1, st), h, true)
    | .lt => ((if x < y then e.2.2.1.1 else f.1 + e.2.1, f.2.1, st), h, true)
    | .ge => ((if y ≤ x then e.2.2.1.1 else f.1 + e.2.1, f.2.1, st), h, true)
    | .gt => ((if y < x then e.2.2.1.1 else f.1 + e.2.1, f.2.1, st), h, true)
    | .le => ((if x ≤ y then e.2.2.1.1 else f.1 + e.2.1, f.2.1, st), h, true)
  | _ => mBad f h
/-- a switch: by its cases in order, else the last one -/
def mSw (x : Int32) (d : Nat) : List (Int32 × Nat) → Nat
  | [] => d
  | q :: r => if x = q.1 then q.2 else mSw x d r
def mTb (pc : Nat) : Int → List Int → List (Int32 × Nat)
  | _, [] => []
  | lo, o :: r => (Int32.ofInt lo, ((pc : Int) + o).toNat) :: mTb pc (lo + 1) r
def mLk (pc : Nat) : List (Int × Int) → List (Int32 × Nat)
  | [] => []
  | q :: r => (Int32.ofInt q.1, ((pc : Int) + q.2).toNat) :: mLk pc r
def mGet (e : mE) (f : mF) (h : mH) : mF × mH × Bool := match f.2.2 with
  | .ref a :: st => match e.2.2.1 with
    | (ci, j, 0) => ((f.1 + e.2.1, f.2.1, .int (mI h a j) :: st), h, Nat.beq (mK h a).1 ci)
    | (ci, j, 1) => ((f.1 + e.2.1, f.2.1, .int (mI h a j) :: st), h, Nat.beq (mK h a).1 ci)
    | (ci, j, 2) => ((f.1 + e.2.1, f.2.1, .long (mL h a j) :: st), h, Nat.beq (mK h a).1 ci)
    | (ci, j, _) => ((f.1 + e.2.1, f.2.1, .ref ((mR h a j).getD 0) :: st), h, Nat.beq (mK h a).1 ci && (mR h a j).isSome)
  | _ => mBad f h
def mIs01 (x : Int32) : Bool := x == 0 || x == 1
def mPut (e : mE) (f : mF) (h : mH) : mF × mH × Bool := match f.2.2 with
  | .int v :: .ref a :: st => match e.2.2.1 with
    | (ci, j, 0) => ((f.1 + e.2.1, f.2.1, st), mSI h a j v, Nat.beq (mK h a).1 ci)
    | (ci, j, 1) => ((f.1 + e.2.1, f.2.1, st), mSI h a j v, Nat.beq (mK h a).1 ci && mIs01 v)
    | _ => mBad f h
  | .long v :: .ref a :: st => match e.2.2.1 with
    | (ci, j, 2) => ((f.1 + e.2.1, f.2.1, st), mSL h a j v, Nat.beq (mK h a).1 ci)
    | _ => mBad f h
  | .ref v :: .ref a :: st => match e.2.2.1 with
    | (ci, j, 3) => ((f.1 + e.2.1, f.2.1, st), mSR h a j (some v), Nat.beq (mK h a).1 ci)
    | _ => mBad f h
  | _ => mBad f h
/-- a load of an int: kind 100 is ints, 101 bytes, 102 booleans; 7: the law's own script (its reference: 2000000; its length at 2000001) -/
def mAl (e : mE) (f : mF) (h : mH) : mF × mH × Bool := match f.2.2 with
  | .int i :: .ref a :: st => match e.2.2.1.1 with
    | 7 => ((f.1 + e.2.1, f.2.1, .int (mI h 2000000 i.toNatClampNeg) :: st), h, Nat.beq a 2000000 && mIn i (mI h 2000001 0).toNatClampNeg)
    | k => ((f.1 + e.2.1, f.2.1, .int (mI h a i.toNatClampNeg) :: st), h, Nat.beq (mK h a).1 k && mIn i (mK h a).2)
  | _ => mBad f h
def mAs (g : Int32 → Int32) (e : mE) (f : mF) (h : mH) : mF × mH × Bool := match f.2.2 with
  | .int v :: .int i :: .ref a :: st => ((f.1 + e.2.1, f.2.1, st), mSI h a i.toNatClampNeg (g v), Nat.beq (mK h a).1 e.2.2.1.1 && mIn i (mK h a).2)
  | _ => mBad f h
/-- calls that are as one instruction: 1 Object.<init>, 2 max, 3 min, 4 abs, 5 arraycopy of ints, 6 and 7 length and charAt of a constant text (its reference: 1000000 and its place) -/
def mPr (e : mE) (f : mF) (h : mH) : mF × mH × Bool := match e.2.2.1.1, f.2.2 with
  | 1, .ref _ :: st => ((f.1 + e.2.1, f.2.1, st), h, Nat.ble (st.map fun v => v.category).sum 8)
  | 2, .int y :: .int x :: st => ((f.1 + e.2.1, f.2.1, .int (if x < y then y else x) :: st), h, Nat.ble (st.map fun v => v.category).sum 8)
  | 3, .int y :: .int x :: st => ((f.1 + e.2.1, f.2.1, .int (if y < x then y else x) :: st), h, Nat.ble (st.map fun v => v.category).sum 8)
  | 4, .int x :: st => ((f.1 + e.2.1, f.2.1, .int (if 0 ≤ x then x else 0 - x) :: st), h, Nat.ble (st.map fun v => v.category).sum 8)
  | 6, .ref a :: st => ((f.1 + e.2.1, f.2.1, .int (Int32.ofNat (mStr.getD (a - 1000000) []).length) :: st), h, Nat.ble 1000000 a && Nat.blt a 1000014 && Nat.ble (st.map fun v => v.category).sum 8)
  | 7, .int i :: .ref a :: st => ((f.1 + e.2.1, f.2.1, .int ((mStr.getD (a - 1000000) []).getD i.toNatClampNeg 0) :: st), h, Nat.ble 1000000 a && Nat.blt a 1000014 && mIn i (mStr.getD (a - 1000000) []).length && Nat.ble (st.map fun v => v.category).sum 8)
  | 5, .int n :: .int dp :: .ref d :: .int sp :: .ref s :: st => ((f.1 + e.2.1, f.2.1, st), mCp h s sp.toNatClampNeg d dp.toNatClampNeg n.toNatClampNeg, Nat.beq (mK h s).1 100 && Nat.beq (mK h d).1 100 && decide (¬ sp < 0) && decide (¬ dp < 0) && decide (¬ n < 0) && Nat.ble (sp.toNatClampNeg + n.toNatClampNeg) (mK h s).2 && Nat.ble (dp.toNatClampNeg + n.toNatClampNeg) (mK h d).2 && Nat.ble (st.map fun v => v.category).sum 8)
  | _, _ => mBad f h
def mstep (e : mE) (f : mF) (h : mH) : mF × mH × Bool := match e.1 with
  | .iconst _ => ((f.1 + e.2.1, f.2.1, e.2.2.2 :: f.2.2), h, true)
  | .bipush _ => ((f.1 + e.2.1, f.2.1, e.2.2.2 :: f.2.2), h, true)
  | .sipush _ => ((f.1 + e.2.1, f.2.1, e.2.2.2 :: f.2.2), h, true)
  | .lconst _ => ((f.1 + e.2.1, f.2.1, e.2.2.2 :: f.2.2), h, true)
  | .ldc _ => ((f.1 + e.2.1, f.2.1, e.2.2.2 :: f.2.2), h, true)
  | .ldc_w _ => ((f.1 + e.2.1, f.2.1, e.2.2.2 :: f.2.2), h, true)
  | .ldc2_w _ => ((f.1 + e.2.1, f.2.1, e.2.2.2 :: f.2.2), h, true)
  | .aconst_null => ((f.1 + e.2.1, f.2.1, .null :: f.2.2), h, true)
  | .iload k => mLd mIsI k e f h
  | .iload_n k => mLd mIsI k e f h
  | .lload k => mLd mIsL k e f h
  | .lload_n k => mLd mIsL k e f h
  | .aload k => mLd mIsR k e f h
  | .aload_n k => mLd mIsR k e f h
  | .istore k => mSto mIsI k e f h
  | .istore_n k => mSto mIsI k e f h
  | .astore k => mSto mIsR k e f h
  | .astore_n k => mSto mIsR k e f h
  | .lstore k => mSto2 k e f h
  | .lstore_n k => mSto2 k e f h
  | .iinc k _ => match f.2.1.getD k (.retAddr 0), e.2.2.2 with
    | .int x, .int c => ((f.1 + e.2.1, mSt1 f.2.1 k (.int (x + c)), f.2.2), h, Nat.blt k f.2.1.length)
    | _, _ => mBad f h
  | .iadd => mB2 (fun a b => a + b) (fun _ => true) e f h
  | .isub => mB2 (fun a b => a - b) (fun _ => true) e f h
  | .imul => mB2 (fun a b => a * b) (fun _ => true) e f h
  | .idiv => mB2 (fun a b => a / b) (fun b => !(b == 0)) e f h
  | .irem => mB2 (fun a b => a - a / b * b) (fun b => !(b == 0)) e f h
  | .iand => mB2 (fun a b => a &&& b) (fun _ => true) e f h
  | .ior => mB2 (fun a b => a ||| b) (fun _ => true) e f h
  | .ixor => mB2 (fun a b => a ^^^ b) (fun _ => true) e f h
  | .ishl => mB2 (fun a b => a <<< (b &&& 31)) (fun _ => true) e f h
  | .ishr => mB2 (fun a b => a >>> (b &&& 31)) (fun _ => true) e f h
  | .iushr => mB2 (fun a b => (a.toUInt32 >>> (b.toUInt32 &&& Int32.toUInt32 31)).toInt32) (fun _ => true) e f h
  | .ineg => match f.2.2 with
    | .int a :: st => ((f.1 + e.2.1, f.2.1, .int (-a) :: st), h, true)
    | _ => mBad f h
  | .i2l => match f.2.2 with
    | .int a :: st => ((f.1 + e.2.1, f.2.1, .long a.toInt64 :: st), h, true)
    | _ => mBad f h
  | .i2b => match f.2.2 with
    | .int a :: st => ((f.1 + e.2.1, f.2.1, .int a.toInt8.toInt32 :: st), h, true)
    | _ => mBad f h
  | .ladd => mB2L (fun a b => a + b) (fun _ => true) e f h
  | .lsub => mB2L (fun a b => a - b) (fun _ => true) e f h
  | .lmul => mB2L (fun a b => a * b) (fun _ => true) e f h
  | .ldiv => mB2L (fun a b => a / b) (fun b => !(b == 0)) e f h
  | .lrem => mB2L (fun a b => a - a / b * b) (fun b => !(b == 0)) e f h
  | .lor => mB2L (fun a b => a ||| b) (fun _ => true) e f h
  | .lshl => match f.2.2 with
    | .int b :: .long a :: st => ((f.1 + e.2.1, f.2.1, .long (a <<< (b.toInt64 &&& 63)) :: st), h, true)
    | _ => mBad f h
  | .lcmp => match f.2.2 with
    | .long b :: .long a :: st => ((f.1 + e.2.1, f.2.1, .int (lg_cmp a b) :: st), h, true)
    | _ => mBad f h
  | .dup => match f.2.2 with
    | v :: st => ((f.1 + e.2.1, f.2.1, v :: v :: st), h, Nat.beq v.category 1)
    | _ => mBad f h
  | .dup2 => match f.2.2 with
    | v :: w :: st => ((f.1 + e.2.1, f.2.1, v :: w :: v :: w :: st), h, Nat.beq v.category 1 && Nat.beq w.category 1)
    | _ => mBad f h
  | .pop => match f.2.2 with
    | v :: st => ((f.1 + e.2.1, f.2.1, st), h, Nat.beq v.category 1)
    | _ => mBad f h
  | .ifCond c _ => mIf c e f h
  | .if_icmp c _ => mIc c e f h
  | .goto _ => ((e.2.2.1.1, f.2.1, f.2.2), h, true)
  | .ifnull _ => match f.2.2 with
    | .null :: st => ((e.2.2.1.1, f.2.1, st), h, true)
    | .ref _ :: st => ((f.1 + e.2.1, f.2.1, st), h, true)
    | _ => mBad f h
  | .ifnonnull _ => match f.2.2 with
    | .null :: st => ((f.1 + e.2.1, f.2.1, st), h, true)
    | .ref _ :: st => ((e.2.2.1.1, f.2.1, st), h, true)
    | _ => mBad f h
  | .tableswitch d lo _ offs => match f.2.2 with
    | .int x :: st => ((mSw x ((f.1 : Int) + d).toNat (mTb f.1 lo offs.toList), f.2.1, st), h, true)
    | _ => mBad f h
  | .lookupswitch d ps => match f.2.2 with
    | .int x :: st => ((mSw x ((f.1 : Int) + d).toNat (mLk f.1 ps.toList), f.2.1, st), h, true)
    | _ => mBad f h
  | .getfield _ => mGet e f h
  | .putfield _ => mPut e f h
  | .iaload => mAl e f h
  | .baload => mAl e f h
  | .iastore => mAs (fun v => v) e f h
  | .bastore => match e.2.2.1.1 with
    | 101 => mAs (fun v => v.toInt8.toInt32) e f h
    | _ => match f.2.2 with
      | .int v :: .int i :: .ref a :: st => ((f.1 + e.2.1, f.2.1, st), mSI h a i.toNatClampNeg v, Nat.beq (mK h a).1 102 && mIn i (mK h a).2 && mIs01 v)
      | _ => mBad f h
  | .aaload => match f.2.2 with
    | .int i :: .ref a :: st => ((f.1 + e.2.1, f.2.1, .ref ((mR h a i.toNatClampNeg).getD 0) :: st), h, Nat.beq (mK h a).1 e.2.2.1.1 && mIn i (mK h a).2 && (mR h a i.toNatClampNeg).isSome)
    | _ => mBad f h
  | .aastore => match f.2.2 with
    | .ref v :: .int i :: .ref a :: st => ((f.1 + e.2.1, f.2.1, st), mSR h a i.toNatClampNeg (some v), Nat.beq (mK h a).1 e.2.2.1.1 && Nat.beq (200 + (mK h v).1) e.2.2.1.1 && mIn i (mK h a).2)
    | _ => mBad f h
  | .arraylength => match f.2.2 with
    | .ref a :: st => match e.2.2.1.1 with
      | 7 => ((f.1 + e.2.1, f.2.1, .int (mI h 2000001 0) :: st), h, Nat.beq a 2000000)
      | k => ((f.1 + e.2.1, f.2.1, .int (Int32.ofNat (mK h a).2) :: st), h, Nat.beq (mK h a).1 k)
    | _ => mBad f h
  | .new _ => ((f.1 + e.2.1, f.2.1, .ref h.1.length :: f.2.2), mNw h e.2.2.1.1 e.2.2.1.2.1, Nat.blt h.1.length 1000000)
  | .newarray _ => match f.2.2 with
    | .int n :: st => ((f.1 + e.2.1, f.2.1, .ref h.1.length :: st), mNw h e.2.2.1.1 n.toNatClampNeg, Nat.blt h.1.length 1000000 && decide (¬ n < 0) && Nat.ble n.toNatClampNeg 100000)
    | _ => mBad f h
  | .anewarray _ => match f.2.2 with
    | .int n :: st => ((f.1 + e.2.1, f.2.1, .ref h.1.length :: st), mNw h e.2.2.1.1 n.toNatClampNeg, Nat.blt h.1.length 1000000 && decide (¬ n < 0) && Nat.ble n.toNatClampNeg 100000)
    | _ => mBad f h
  | .invokestatic _ => mPr e f h
  | .invokespecial _ => mPr e f h
  | .invokevirtual _ => mPr e f h
  | _ => mBad f h
/-- a row of instructions, one behind the other -/
def mrun : List mE → mF → mH → mF × mH × Bool
  | [], f, h => (f, h, true)
  | e :: r, f, h => match mstep e f h with
    | (f', h', ok) => match mrun r f' h' with
      | (f2, h2, ok2) => (f2, h2, ok && ok2)
