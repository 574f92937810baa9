/-! What is asked of each instruction's row: that the bytes decode to it, and its numbers and constant are its links'. -/
def mLen : Instr → Nat
  | .bipush _ => 2
  | .ldc _ => 2
  | .iload _ => 2
  | .lload _ => 2
  | .aload _ => 2
  | .istore _ => 2
  | .lstore _ => 2
  | .astore _ => 2
  | .newarray _ => 2
  | .sipush _ => 3
  | .ldc_w _ => 3
  | .ldc2_w _ => 3
  | .iinc _ _ => 3
  | .ifCond _ _ => 3
  | .if_icmp _ _ => 3
  | .goto _ => 3
  | .ifnull _ => 3
  | .ifnonnull _ => 3
  | .getfield _ => 3
  | .putfield _ => 3
  | .new _ => 3
  | .anewarray _ => 3
  | .invokestatic _ => 3
  | .invokespecial _ => 3
  | .invokevirtual _ => 3
  | _ => 1
def mBr : Instr → Bool
  | .ifCond _ _ => true
  | .if_icmp _ _ => true
  | .goto _ => true
  | .ifnull _ => true
  | .ifnonnull _ => true
  | .tableswitch _ _ _ _ => true
  | .lookupswitch _ _ => true
  | _ => false
def eJmp (pc : Nat) (off : Int) (t : Nat) : Bool := decide ((pc : Int) + off = (t : Int))
def eLn (l : List (Nat × Nat × Nat × Nat)) (o idx t : Nat) : Bool := l.any (fun q => Nat.beq q.1 o && Nat.beq q.2.1 idx && Nat.beq q.2.2.1 t)
def eLk (y pc : Nat) (e : mE) : Bool := match e.1 with
  | .iconst k => decide (e.2.2.2 = .int (Int32.ofInt k))
  | .bipush k => decide (e.2.2.2 = .int (Int8.ofInt k).toInt32)
  | .sipush k => decide (e.2.2.2 = .int (Int16.ofInt k).toInt32)
  | .lconst k => decide (e.2.2.2 = .long (Int64.ofNat (k : Nat)))
  | .ldc idx => match e.2.2.2 with
    | .int v => kIn.any (fun q => Nat.beq q.1 (yO y) && Nat.beq q.2.1 idx && decide (q.2.2.1 = v))
    | .ref a => Nat.ble 1000000 a && Nat.blt a 1000014 && (match sLn[a - 1000000]? with
      | some q => Nat.beq q.1 (yO y) && Nat.beq q.2.1 idx
      | none => false)
    | _ => false
  | .ldc_w idx => match e.2.2.2 with
    | .int v => kIn.any (fun q => Nat.beq q.1 (yO y) && Nat.beq q.2.1 idx && decide (q.2.2.1 = v))
    | _ => false
  | .ldc2_w idx => match e.2.2.2 with
    | .long v => kLn.any (fun q => Nat.beq q.1 (yO y) && Nat.beq q.2.1 idx && decide (q.2.2.1 = v))
    | _ => false
  | .iinc _ c => decide (e.2.2.2 = .int (Int32.ofInt c))
  | .ifCond _ off => eJmp pc off e.2.2.1.1
  | .if_icmp _ off => eJmp pc off e.2.2.1.1
  | .goto off => eJmp pc off e.2.2.1.1
  | .ifnull off => eJmp pc off e.2.2.1.1
  | .ifnonnull off => eJmp pc off e.2.2.1.1
  | .tableswitch d lo hi offs => decide (hi = lo + (offs.size : Int) - 1) && decide (0 ≤ (pc : Int) + d) && offs.toList.all (fun o => decide (0 ≤ (pc : Int) + o)) && decide (-1000 ≤ lo) && decide (hi ≤ 1000)
  | .lookupswitch d ps => decide (0 ≤ (pc : Int) + d) && ps.toList.all (fun q => decide (0 ≤ (pc : Int) + q.2) && decide (-1000000 ≤ q.1) && decide (q.1 ≤ 1000000)) && (ps.toList.zip (ps.toList.drop 1)).all (fun (a, next) => decide (a.1 < next.1))
  | .getfield idx => fL.any (fun q => Nat.beq q.1 (yO y) && Nat.beq q.2.1 idx && Nat.beq q.2.2.1 e.2.2.1.1 && Nat.beq q.2.2.2.1 e.2.2.1.2.1) && Nat.beq (kFd e.2.2.1.1 e.2.2.1.2.1).2.2.2.1 e.2.2.1.2.2
  | .putfield idx => fL.any (fun q => Nat.beq q.1 (yO y) && Nat.beq q.2.1 idx && Nat.beq q.2.2.1 e.2.2.1.1 && Nat.beq q.2.2.2.1 e.2.2.1.2.1) && Nat.beq (kFd e.2.2.1.1 e.2.2.1.2.1).2.2.2.1 e.2.2.1.2.2 && (!(kFd e.2.2.1.1 e.2.2.1.2.1).2.2.1 || (Nat.beq (yKd y) 2 && Nat.beq (yO y) e.2.2.1.1))
  | .iaload => Nat.beq e.2.2.1.1 100 || (Nat.beq e.2.2.1.1 7 && Nat.beq y 302)
  | .iastore => Nat.beq e.2.2.1.1 100
  | .baload => Nat.beq e.2.2.1.1 101 || Nat.beq e.2.2.1.1 102
  | .bastore => Nat.beq e.2.2.1.1 101 || Nat.beq e.2.2.1.1 102
  | .aaload => Nat.ble 201 e.2.2.1.1 && Nat.ble e.2.2.1.1 204
  | .aastore => Nat.ble 201 e.2.2.1.1 && Nat.ble e.2.2.1.1 204
  | .arraylength => (Nat.ble 100 e.2.2.1.1 && Nat.ble e.2.2.1.1 102) || (Nat.beq e.2.2.1.1 7 && Nat.beq y 302)
  | .new idx => eLn cLn (yO y) idx e.2.2.1.1 && Nat.beq e.2.2.1.2.1 (kF e.2.2.1.1).length
  | .newarray t => match t with
    | .int => Nat.beq e.2.2.1.1 100
    | .byte => Nat.beq e.2.2.1.1 101
    | .boolean => Nat.beq e.2.2.1.1 102
    | _ => false
  | .anewarray idx => Nat.ble 201 e.2.2.1.1 && Nat.ble e.2.2.1.1 204 && eLn cLn (yO y) idx (e.2.2.1.1 - 200)
  | .invokestatic idx => Nat.ble 2 e.2.2.1.1 && Nat.ble e.2.2.1.1 5 && eLn pLn (yO y) idx e.2.2.1.1 && Nat.ble 1 (yFr y) && Nat.ble 26 (yLo y)
  | .invokespecial idx => Nat.beq e.2.2.1.1 1 && eLn pLn (yO y) idx e.2.2.1.1 && Nat.ble 1 (yFr y) && Nat.ble 26 (yLo y)
  | .invokevirtual idx => Nat.ble 6 e.2.2.1.1 && Nat.ble e.2.2.1.1 7 && eLn pLn (yO y) idx e.2.2.1.1 && Nat.ble 4 (yFr y) && Nat.ble 108 (yLo y)
  | _ => true
def mSwi : Instr → Bool
  | .tableswitch _ _ _ _ => true
  | .lookupswitch _ _ => true
  | _ => false
def eOK (y pc : Nat) (e : mE) : Bool := decide (decode (yBy y) pc = .ok (e.1, e.2.1)) && (mSwi e.1 || Nat.beq e.2.1 (mLen e.1)) && eLk y pc e
/-- a block's rows, one behind the other; a jump comes last alone -/
def bOKl (y : Nat) : Nat → List mE → Bool
  | _, [] => true
  | pc, e :: r => eOK y pc e && (r.isEmpty || !mBr e.1) && bOKl y (pc + e.2.1) r
def bEnd : Nat → List mE → Nat
  | pc, [] => pc
  | pc, e :: r => bEnd (pc + e.2.1) r
/-- a call or a return, at the end -/
def tmOK (y pc : Nat) (e : mE) : Bool := decide (decode (yBy y) pc = .ok (e.1, e.2.1)) && (match e.1 with
  | .invokevirtual idx => Nat.beq e.2.1 3 && eLn mLn (yO y) idx e.2.2.1.1 && Nat.beq (yKd e.2.2.1.1) 1 && Nat.beq e.2.2.1.2.1 (yNa e.2.2.1.1)
  | .invokestatic idx => Nat.beq e.2.1 3 && (eLn mLn (yO y) idx e.2.2.1.1 || eLn nLn (yO y) idx e.2.2.1.1) && Nat.beq (yKd e.2.2.1.1) 0 && Nat.beq e.2.2.1.2.1 (yNa e.2.2.1.1)
  | .invokespecial idx => Nat.beq e.2.1 3 && eLn mLn (yO y) idx e.2.2.1.1 && Nat.beq (yKd e.2.2.1.1) 2 && Nat.beq e.2.2.1.2.1 (yNa e.2.2.1.1)
  | .ireturn => Nat.beq e.2.1 1 && (decide (yRt y = some .int) || decide (yRt y = some .boolean))
  | .lreturn => Nat.beq e.2.1 1 && decide (yRt y = some .long)
  | .areturn => Nat.beq e.2.1 1 && (match yRt y with
    | some (.object _) => true
    | _ => false)
  | .return_ => Nat.beq e.2.1 1 && decide (yRt y = none)
  | _ => false)
def blkOK (y : Nat) (b : Nat × List mE × Option mE) : Bool := bOKl y b.1 b.2.1 && (match b.2.2 with
  | none => true
  | some e => b.2.1.all (fun q => !mBr q.1) && tmOK y (bEnd b.1 b.2.1) e)
