/-! The small machine runs: block by block; a call runs its callee. -/
def mEnt (nL : Nat) (as : List Value) : List Value := as.flatMap (fun v => if v.category = 2 then [v, .retAddr 0] else [v]) ++ List.replicate (nL - (as.flatMap (fun v => if v.category = 2 then [v, .retAddr 0] else [v])).length) (.retAddr 0)
/-- a call: the callee, its arguments, what stays on the stack; whether it may be -/
def mCall (y : Nat) (e : mE) (f : mF) (h : mH) : Nat × List Value × List Value × Bool := match e.1 with
  | .invokestatic _ => (e.2.2.1.1, (f.2.2.take e.2.2.1.2.1).reverse, f.2.2.drop e.2.2.1.2.1, Nat.ble e.2.2.1.2.1 f.2.2.length && Nat.blt (yFr e.2.2.1.1) (yFr y) && Nat.ble (8 + (yML e.2.2.1.1 + 11) + yLo e.2.2.1.1) (yLo y) && Nat.ble ((f.2.2.drop e.2.2.1.2.1).map fun v => v.category).sum 8 && Nat.ble (((f.2.2.take e.2.2.1.2.1).reverse.flatMap (fun v => if v.category = 2 then [v, .retAddr 0] else [v])).length) (yML e.2.2.1.1))
  | _ => (e.2.2.1.1, (f.2.2.take (e.2.2.1.2.1 + 1)).reverse, f.2.2.drop (e.2.2.1.2.1 + 1), Nat.ble (e.2.2.1.2.1 + 1) f.2.2.length && Nat.blt (yFr e.2.2.1.1) (yFr y) && Nat.ble (8 + (yML e.2.2.1.1 + 11) + yLo e.2.2.1.1) (yLo y) && Nat.ble ((f.2.2.drop (e.2.2.1.2.1 + 1)).map fun v => v.category).sum 8 && Nat.ble (((f.2.2.take (e.2.2.1.2.1 + 1)).reverse.flatMap (fun v => if v.category = 2 then [v, .retAddr 0] else [v])).length) (yML e.2.2.1.1) && (match f.2.2.drop e.2.2.1.2.1 with
    | .ref a :: _ => (match e.1 with
      | .invokevirtual _ => Nat.beq (mK h a).1 (yO e.2.2.1.1)
      | _ => true)
    | _ => false))
/-- a return: the answer; whether it may be -/
def mRet (y : Nat) (e : mE) (st : List Value) : Option Value × Bool := match e.1, st with
  | .ireturn, [.int v] => (some (.int v), decide (yRt y = some .int) || mIs01 v)
  | .lreturn, [.long v] => (some (.long v), true)
  | .areturn, [.ref a] => (some (.ref a), true)
  | .areturn, [.null] => (some .null, true)
  | .return_, [] => (none, true)
  | _, _ => (none, false)
def mIsRet : Instr → Bool
  | .ireturn => true
  | .lreturn => true
  | .areturn => true
  | .return_ => true
  | _ => false
def mexec : Nat → Nat → mF → mH → Option (Option Value × mH)
  | 0, _, _, _ => none
  | n + 1, y, f, h => match (bk y).find? (fun b => Nat.beq b.1 f.1) with
    | none => none
    | some b => match mrun b.2.1 f h with
      | (f', h', ok) => if ok = true then (match b.2.2 with
          | none => mexec n y f' h'
          | some e => if mIsRet e.1 = true then (match mRet y e f'.2.2 with
              | (r, ok2) => if ok2 = true then some (r, h') else none)
            else (match mCall y e f' h' with
              | (y', as, rest, ok2) => if ok2 = true then (mexec n y' (0, mEnt (yML y') as, []) h').bind (fun r => mexec n y (f'.1 + 3, f'.2.1, r.1.toList ++ rest) r.2) else none))
        else none
