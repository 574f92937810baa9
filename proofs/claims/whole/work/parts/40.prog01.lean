/-! The methods as programs; printed by a program of ours. -/
def f104_57 (h : mH) (l0 : Nat) (l1 : Nat) (l2 : Int32) (l3 : Int32) (l4 : Int32) (l5 : Int32) : Option ((Int32) ⊕ (Int32)) :=
some (.inl ((l5 + 1)))
def f104_10 (h : mH) (l0 : Nat) (l1 : Nat) (l2 : Int32) (l3 : Int32) (l4 : Int32) (s : (Int32)) : Option ((Int32) ⊕ (Int32)) :=
mGd (Nat.beq (mK h l1).1 2 && true) (
    if ((mI h l1 6) : Int32) ≤ s then
    mX (mGd (true && true) (some ((-1) : Int32)))
  else 
    mGd (true && true) ((f71 h l4 s).bind (fun r2 =>
      if (r2 : Int32) = 0 then
      f104_57 h l0 l1 l2 l3 l4 s
    else 
      mGd ((Nat.beq (mK h l1).1 2 && (mR h l1 0).isSome) && ((Nat.beq (mK h ((mR h l1 0).getD 0)).1 100 && mIn s (mK h ((mR h l1 0).getD 0)).2) && true)) (
        if (l3 : Int32) < (mI h ((mR h l1 0).getD 0) (Int32.toNatClampNeg s)) then
        f104_57 h l0 l1 l2 l3 l4 s
      else 
        mGd ((Nat.beq (mK h l0).1 9 && (mR h l0 5).isSome) && ((Nat.beq (mK h ((mR h l0 5).getD 0)).1 102 && mIn (l2 ||| ((1 : Int32) <<< (s &&& (31 : Int32)))) (mK h ((mR h l0 5).getD 0)).2) && true)) (
          if ((mI h ((mR h l0 5).getD 0) (Int32.toNatClampNeg (l2 ||| ((1 : Int32) <<< (s &&& (31 : Int32)))))) : Int32) = 0 then
          mX (mGd (true && true) (some (s : Int32)))
        else 
          f104_57 h l0 l1 l2 l3 l4 s)))))
def f104 (h : mH) (l0 : Nat) (l1 : Nat) (l2 : Int32) (l3 : Int32) : Option (Int32) :=
mGd (true && Nat.beq (mK h l1).1 2) ((f70 h l1 l2).bind (fun r1 =>
    mLoop (f104_10 h l0 l1 l2 l3 r1) mFuel (0)))
def f103_8 (l0 : Nat) (l1 : Nat) (l2 : Int32) (s : (Int32 × Int32 × mH)) : Option ((Int32 × Int32 × mH) ⊕ (Int32 × mH)) :=
if (s.2.1 : Int32) < 0 then
    mX (mGd (true && true) (some (s.1, s.2.2)))
  else 
    mGd (true && Nat.beq (mK s.2.2 l1).1 2) ((f95 s.2.2 l1 s.2.1).bind (fun r2 =>
      mGd (true && Nat.beq (mK s.2.2 l0).1 9) ((f104 s.2.2 l0 l1 s.2.1 (l2 - r2)).bind (fun r3 =>
      mGd ((Nat.beq (mK s.2.2 l0).1 9 && (mR s.2.2 l0 5).isSome) && true) (
      if (r3 : Int32) = (-1) then
      mGd ((Nat.beq (mK s.2.2 ((mR s.2.2 l0 5).getD 0)).1 102 && mIn s.2.1 (mK s.2.2 ((mR s.2.2 l0 5).getD 0)).2 && mIs01 0) && true) (
        some (.inl (r3, (s.2.1 + (-1)), (mSI s.2.2 ((mR s.2.2 l0 5).getD 0) (Int32.toNatClampNeg s.2.1) 0))))
    else 
      mGd ((Nat.beq (mK s.2.2 ((mR s.2.2 l0 5).getD 0)).1 102 && mIn s.2.1 (mK s.2.2 ((mR s.2.2 l0 5).getD 0)).2 && mIs01 1) && true) (
        some (.inl (r3, (s.2.1 + (-1)), (mSI s.2.2 ((mR s.2.2 l0 5).getD 0) (Int32.toNatClampNeg s.2.1) 1)))))))))
def f103 (h : mH) (l0 : Nat) (l1 : Nat) (l2 : Int32) : Option (Int32 × mH) :=
mGd (true && Nat.beq (mK h l1).1 2) ((f94 h l1).bind (fun r1 =>
    mLoop (f103_8 l0 l1 l2) mFuel ((-1), r1, h)))
def f102_25 (h : mH) : Option (Int32 × mH) :=
mGd (true && true) (some ((-2), h))
def f102_58 (h : mH) (q0 : Int32) : Option (Int32 × mH) :=
mGd (true && true) (some (q0, h))
def f102 (h : mH) (l0 : Nat) (l1 : Int32) (l2 : Int32) (l3 : Int32) : Option (Int32 × mH) :=
mGd (((Nat.beq (mK h l0).1 0 && (mR h l0 0).isSome) && true) && Nat.beq (mK h ((mR h l0 0).getD 0)).1 1) ((f53 h ((mR h l0 0).getD 0) l1).bind (fun r1 =>
    match r1 with
  | none =>
    f102_25 h
  | some a1 =>
    mGd (true && true) ((f17 h l2 0 72).bind (fun r2 =>
      if (r2 : Int32) = 0 then
      f102_25 h
    else 
      mGd (((Nat.beq (mK h l0).1 0 && (mR h l0 6).isSome) && true) && Nat.beq (mK h ((mR h l0 6).getD 0)).1 9) ((f103 h ((mR h l0 6).getD 0) a1 l2).bind (fun r3 =>
        if (l3 : Int32) = 0 then
        if (r3.1 : Int32) = (-1) then
          f102_58 r3.2 0
        else 
          f102_58 r3.2 1
      else 
        mGd (true && true) (some (r3.1, r3.2))))))))
def f106_29 (h : mH) (q0 : Int32) : Option (Int32) :=
mGd (true && true) (some (q0 : Int32))
def f106 (h : mH) (l0 : Nat) (l1 : Int32) : Option (Int32) :=
mGd (Nat.beq (mK h l0).1 2 && true) (
    if (1 : Int32) ≤ (mI h l0 8) then
    mGd (true && Nat.beq (mK h l0).1 2) ((f95 h l0 l1).bind (fun r1 =>
      mGd (Nat.beq (mK h l0).1 2 && (Nat.beq (mK h l0).1 2 && (!((mI h l0 8) == (0 : Int32)) && true))) (
      f106_29 h (((r1 + (mI h l0 8)) - 1) / (mI h l0 8)))))
  else 
    f106_29 h (-1))
def f107_5 (h : mH) (l0 : Int32) (l1 : Int32) (s : (Int64 × Int32)) : Option ((Int64 × Int32) ⊕ (Int64)) :=
if (l1 : Int32) < s.2 then
    mX (mGd (true && true) (some (s.1 : Int64)))
  else 
    mGd (!((Int32.toInt64 s.2) == (0 : Int64)) && true) (
      some (.inl (((s.1 * (Int32.toInt64 ((l0 - l1) + s.2))) / (Int32.toInt64 s.2)), (s.2 + 1))))
def f107 (h : mH) (l0 : Int32) (l1 : Int32) : Option (Int64) :=
mLoop (f107_5 h l0 l1) mFuel (1, 1)
def f108_5 (h : mH) (l0 : Int64) (l2 : Int32) (s : (Int64 × Int32)) : Option ((Int64 × Int32) ⊕ (Int64)) :=
if (l2 : Int32) ≤ s.2 then
    mX (mGd (true && true) (some (s.1 : Int64)))
  else 
    some (.inl ((s.1 * l0), (s.2 + 1)))
def f108 (h : mH) (l0 : Int64) (l2 : Int32) : Option (Int64) :=
mLoop (f108_5 h l0 l2) mFuel (1, 0)
def f109_71 (h : mH) (q0 : Int64) : Option (Int64) :=
mGd (true && true) (some (q0 : Int64))
def f109_44 (h : mH) (l0 : Int64) (l2 : Int64) (l4 : Int32) (l5 : Int64) : Option (Int64) :=
if ((lg_cmp l5 0) : Int32) = 0 then
    mGd (true && true) (some ((-1) : Int64))
  else 
    if (l4 : Int32) = 0 then
      mGd (!(l5 == (0 : Int64)) && true) (
        f109_71 h (l0 / l5))
    else 
      mGd (!(l5 == (0 : Int64)) && true) (
        f109_71 h (l2 / l5))
def f109_9 (h : mH) (l0 : Int64) (l2 : Int64) (l4 : Int32) (s : (Int64 × Int64 × Int32)) : Option ((Int64 × Int64 × Int32) ⊕ (Int64)) :=
if (100 : Int32) ≤ s.2.2 then
    mX (f109_44 h l0 l2 l4 s.1)
  else 
    if ((lg_cmp s.2.1 0) : Int32) = 0 then
      mX (f109_44 h l0 l2 l4 s.1)
    else 
      mGd (!(s.2.1 == (0 : Int64)) && true) (
        some (.inl (s.2.1, (s.1 - s.1 / s.2.1 * s.2.1), (s.2.2 + 1))))
def f109 (h : mH) (l0 : Int64) (l2 : Int64) (l4 : Int32) : Option (Int64) :=
mLoop (f109_9 h l0 l2 l4) mFuel (l2, l0, 0)
def f105_49 (h : mH) : Option (Int64) :=
mGd (true && true) (some ((-1) : Int64))
def f105_68 (h : mH) (l3 : Int32) (l4 : Int32) (l5 : Int32) (s : (Int64 × Int32)) : Option ((Int64 × Int32) ⊕ (Int64)) :=
if (l3 : Int32) < s.2 then
    mX (
mGd (true && true) ((f108 h 10 l3).bind (fun r7 =>
      mGd (true && true) ((f109 h s.1 r7 l5).bind (fun r8 =>
      mGd (true && true) (some (r8 : Int64)))))))
  else 
    mGd (true && true) ((f107 h l3 s.2).bind (fun r9 =>
      mGd (true && true) ((f108 h (Int32.toInt64 (10 - l4)) s.2).bind (fun r10 =>
      mGd (true && true) ((f108 h (Int32.toInt64 l4) (l3 - s.2)).bind (fun r11 =>
      some (.inl ((s.1 + ((r9 * r10) * r11)), (s.2 + 1)))))))))
def f105 (h : mH) (l0 : Nat) (l1 : Int32) (l2 : Int32) (l3 : Int32) (l4 : Int32) (l5 : Int32) : Option (Int64) :=
mGd (((Nat.beq (mK h l0).1 0 && (mR h l0 0).isSome) && true) && Nat.beq (mK h ((mR h l0 0).getD 0)).1 1) ((f53 h ((mR h l0 0).getD 0) l1).bind (fun r1 =>
    match r1 with
  | none =>
    f105_49 h
  | some a1 =>
    mGd (true && Nat.beq (mK h a1).1 2) ((f94 h a1).bind (fun r2 =>
      mGd (true && true) ((f17 h l2 0 r2).bind (fun r3 =>
      if (r3 : Int32) = 0 then
      f105_49 h
    else 
      mGd (true && true) ((f17 h l3 1 9).bind (fun r4 =>
        if (r4 : Int32) = 0 then
        f105_49 h
      else 
        mGd (true && true) ((f17 h l4 0 10).bind (fun r5 =>
          if (r5 : Int32) = 0 then
          f105_49 h
        else 
          mGd (true && Nat.beq (mK h a1).1 2) ((f106 h a1 l2).bind (fun r6 =>
            mLoop (f105_68 h l3 l4 l5) mFuel (0, r6)))))))))))))
def f111 (h : mH) (l0 : Nat) (l1 : Int32) : Option (Option Nat) :=
mGd (((Nat.beq (mK h l0).1 1 && (mR h l0 1).isSome) && ((Nat.beq (mK h ((mR h l0 1).getD 0)).1 100 && mIn 2 (mK h ((mR h l0 1).getD 0)).2) && true)) && true) ((f17 h l1 0 ((mI h ((mR h l0 1).getD 0) (Int32.toNatClampNeg 2)) - 1)).bind (fun r1 =>
    if (r1 : Int32) = 0 then
    mGd (true && true) (some (none : Option Nat))
  else 
    mGd ((Nat.beq (mK h l0).1 1 && (mR h l0 4).isSome) && ((Nat.beq (mK h ((mR h l0 4).getD 0)).1 204 && mIn l1 (mK h ((mR h l0 4).getD 0)).2 && (mR h ((mR h l0 4).getD 0) (Int32.toNatClampNeg l1)).isSome) && true)) (
      mGd (true && true) (some ((some ((mR h ((mR h l0 4).getD 0) (Int32.toNatClampNeg l1)).getD 0)) : Option Nat)))))
def f112_14 (h : mH) (l0 : Nat) (l1 : Int32) (l2 : Int32) : Option (Int32) :=
mGd ((Nat.beq (mK h l0).1 4 && true) && true) ((f17 h l1 0 ((mI h l0 2) - 1)).bind (fun r1 =>
    if (r1 : Int32) = 0 then
    mGd (true && true) (some ((-2) : Int32))
  else 
    if (l2 : Int32) = 0 then
      mGd (((Nat.beq (mK h l0).1 4 && (mR h l0 0).isSome) && ((Nat.beq (mK h ((mR h l0 0).getD 0)).1 100 && mIn l1 (mK h ((mR h l0 0).getD 0)).2) && true)) && true) (some (((mI h ((mR h l0 0).getD 0) (Int32.toNatClampNeg l1)) - 12) : Int32))
    else if (l2 : Int32) = 1 then
      mGd (((Nat.beq (mK h l0).1 4 && (mR h l0 1).isSome) && ((Nat.beq (mK h ((mR h l0 1).getD 0)).1 100 && mIn l1 (mK h ((mR h l0 1).getD 0)).2) && true)) && true) (some ((mI h ((mR h l0 1).getD 0) (Int32.toNatClampNeg l1)) : Int32))
    else 
      mGd (true && true) (some ((-2) : Int32))))
def f112 (h : mH) (l0 : Nat) (l1 : Int32) (l2 : Int32) : Option (Int32) :=
if (l1 : Int32) = (-1) then
    if (l2 : Int32) = 0 then
      mGd ((Nat.beq (mK h l0).1 4 && true) && true) (some ((mI h l0 2) : Int32))
    else 
      f112_14 h l0 l1 l2
  else 
    f112_14 h l0 l1 l2
def f110_27 (h : mH) (q0 : Int32) : Option (Int32) :=
mGd (true && true) (some (q0 : Int32))
def f110 (h : mH) (l0 : Nat) (l1 : Int32) (l2 : Int32) (l3 : Int32) : Option (Int32) :=
mGd (((Nat.beq (mK h l0).1 0 && (mR h l0 0).isSome) && true) && Nat.beq (mK h ((mR h l0 0).getD 0)).1 1) ((f111 h ((mR h l0 0).getD 0) l1).bind (fun r1 =>
    match r1 with
  | none =>
    f110_27 h (-2)
  | some a1 =>
    mGd (true && Nat.beq (mK h a1).1 4) ((f112 h a1 l2 l3).bind (fun r2 =>
      f110_27 h r2))))
def f116_2 (h : mH) (l0 : Nat) (l1 : Nat) (s : (Int32)) : Option ((Int32) ⊕ (Int32)) :=
mGd (Nat.beq (mK h l0).1 4 && true) (
    if ((mI h l0 2) : Int32) ≤ s then
    mX (mGd (true && mIs01 0) (some (0 : Int32)))
  else 
    mGd (((Nat.beq (mK h l0).1 4 && (mR h l0 1).isSome) && ((Nat.beq (mK h ((mR h l0 1).getD 0)).1 100 && mIn s (mK h ((mR h l0 1).getD 0)).2) && true)) && Nat.beq (mK h l1).1 2) ((f57 h l1 (mI h ((mR h l0 1).getD 0) (Int32.toNatClampNeg s))).bind (fun r1 =>
      if (r1 : Int32) = 0 then
      mX (mGd (true && mIs01 1) (some (1 : Int32)))
    else 
      some (.inl ((s + 1))))))
def f116 (h : mH) (l0 : Nat) (l1 : Nat) : Option (Int32) :=
mLoop (f116_2 h l0 l1) mFuel (0)
def f117_36 (h : mH) (l0 : Nat) (l1 : Int32) (l2 : Int32) (q0 : Int32) (q1 : Int32) : Option ((Int32) ⊕ (Int32)) :=
if (q0 : Int32) = q1 then
    some (.inl ((l2 + 1)))
  else 
    mX (mGd (true && mIs01 0) (some (0 : Int32)))
def f117_2 (h : mH) (l0 : Nat) (l1 : Int32) (s : (Int32)) : Option ((Int32) ⊕ (Int32)) :=
mGd (Nat.beq (mK h l0).1 4 && true) (
    if ((mI h l0 2) : Int32) ≤ s then
    mX (mGd (true && mIs01 1) (some (1 : Int32)))
  else 
    mGd (((Nat.beq (mK h l0).1 4 && (mR h l0 1).isSome) && ((Nat.beq (mK h ((mR h l0 1).getD 0)).1 100 && mIn s (mK h ((mR h l0 1).getD 0)).2) && true)) && true) ((f71 h l1 (mI h ((mR h l0 1).getD 0) (Int32.toNatClampNeg s))).bind (fun r1 =>
      mGd ((Nat.beq (mK h l0).1 4 && (mR h l0 0).isSome) && ((Nat.beq (mK h ((mR h l0 0).getD 0)).1 100 && mIn s (mK h ((mR h l0 0).getD 0)).2) && true)) (
      if ((mI h ((mR h l0 0).getD 0) (Int32.toNatClampNeg s)) : Int32) = 12 then
      f117_36 h l0 l1 s r1 1
    else 
      f117_36 h l0 l1 s r1 0))))
def f117 (h : mH) (l0 : Nat) (l1 : Int32) : Option (Int32) :=
mLoop (f117_2 h l0 l1) mFuel (0)
def f115_103 (h : mH) (l0 : Nat) (l1 : Nat) (l2 : Nat) (l3 : Int32) (l4 : Int32) (l5 : Int32) : Option ((Int32 × Int32 × mH) ⊕ ((Int32 × mH) ⊕ (Int32 × mH))) :=
mGd (true && Nat.beq (mK h l1).1 2) ((f98 h l1).bind (fun r3 =>
    mGd (true && Nat.beq (mK h l1).1 2) ((f99 h l1 l4 1 r3).bind (fun r4 =>
    some (.inl (r4, (l5 + 1), h))))))
def f115_93 (h : mH) (l0 : Nat) (l1 : Nat) (l2 : Nat) (l3 : Int32) (l4 : Int32) (l5 : Int32) : Option ((Int32 × Int32 × mH) ⊕ ((Int32 × mH) ⊕ (Int32 × mH))) :=
mGd (Nat.beq (mK h l0).1 11 && (Nat.beq (mK h l0).1 11 && true)) (
    f115_103 (mSI h l0 1 ((mI h l0 1) + 1)) l0 l1 l2 l3 l4 l5)
def f115_41 (l0 : Nat) (l1 : Nat) (l2 : Nat) (l3 : Int32) (s : (Int32 × Int32 × mH)) : Option ((Int32 × Int32 × mH) ⊕ ((Int32 × mH) ⊕ (Int32 × mH))) :=
if (9 : Int32) < s.2.1 then
    mX (some (.inl ((l3 + 1), s.2.2)))
  else 
    mGd (true && Nat.beq (mK s.2.2 l2).1 4) ((f117 s.2.2 l2 s.1).bind (fun r2 =>
      if (r2 : Int32) = 0 then
      f115_103 s.2.2 l0 l1 l2 l3 s.1 s.2.1
    else 
      mGd (Nat.beq (mK s.2.2 l0).1 11 && true) (
        if (60 : Int32) ≤ (mI s.2.2 l0 1) then
        f115_103 s.2.2 l0 l1 l2 l3 s.1 s.2.1
      else 
        mGd ((Nat.beq (mK s.2.2 l0).1 11 && (mR s.2.2 l0 0).isSome) && (Nat.beq (mK s.2.2 l0).1 11 && ((Nat.beq (mK s.2.2 ((mR s.2.2 l0 0).getD 0)).1 100 && mIn (mI s.2.2 l0 1) (mK s.2.2 ((mR s.2.2 l0 0).getD 0)).2) && true))) (
          mGd ((Nat.beq (mK s.2.2 l0).1 11 && (mR s.2.2 l0 2).isSome) && (Nat.beq (mK s.2.2 l0).1 11 && ((Nat.beq (mK s.2.2 ((mR s.2.2 l0 2).getD 0)).1 100 && mIn (mI (mSI s.2.2 ((mR s.2.2 l0 0).getD 0) (Int32.toNatClampNeg (mI s.2.2 l0 1)) ((10 * l3) + s.2.1)) l0 1) (mK s.2.2 ((mR s.2.2 l0 2).getD 0)).2) && true))) (
          f115_93 (mSI (mSI s.2.2 ((mR s.2.2 l0 0).getD 0) (Int32.toNatClampNeg (mI s.2.2 l0 1)) ((10 * l3) + s.2.1)) ((mR s.2.2 l0 2).getD 0) (Int32.toNatClampNeg (mI (mSI s.2.2 ((mR s.2.2 l0 0).getD 0) (Int32.toNatClampNeg (mI s.2.2 l0 1)) ((10 * l3) + s.2.1)) l0 1)) s.1) l0 l1 l2 l3 s.1 s.2.1)))))
def f115_25 (l0 : Nat) (l1 : Nat) (l2 : Nat) (s : (Int32 × mH)) : Option ((Int32 × mH) ⊕ (Int32 × mH)) :=
mGd (Nat.beq (mK s.2 l0).1 11 && true) (
    if ((mI s.2 l0 3) : Int32) ≤ s.1 then
    mX (mGd (true && mIs01 1) (some (1, s.2)))
  else 
    mLoop (f115_41 l0 l1 l2 s.1) mFuel (((1 : Int32) <<< (s.1 &&& (31 : Int32))), 0, s.2))
def f115 (h : mH) (l0 : Nat) (l1 : Nat) (l2 : Nat) : Option (Int32 × mH) :=
mGd (Nat.beq (mK h l0).1 11 && true) (
    mGd (Nat.beq (mK h l1).1 2 && (Nat.beq (mK h l0).1 11 && true)) (
    mGd (true && Nat.beq (mK h l2).1 4) ((f116 (mSI (mSI h l0 1 0) l0 3 (mI (mSI h l0 1 0) l1 7)) l2 l1).bind (fun r1 =>
    if (r1 : Int32) = 0 then
    mLoop (f115_25 l0 l1 l2) mFuel (0, (mSI (mSI h l0 1 0) l0 3 (mI (mSI h l0 1 0) l1 7)))
  else 
    mGd (true && mIs01 0) (some (0, (mSI (mSI h l0 1 0) l0 3 (mI (mSI h l0 1 0) l1 7))))))))
def f114_46 (h : mH) (q0 : Int32) : Option (Int32 × mH) :=
mGd (true && mIs01 q0) (some (q0, h))
def f114_45 (h : mH) : Option (Int32 × mH) :=
f114_46 h 0
def f114 (h : mH) (l0 : Nat) (l1 : Int32) (l2 : Int32) : Option (Int32 × mH) :=
mGd (((Nat.beq (mK h l0).1 0 && (mR h l0 0).isSome) && true) && Nat.beq (mK h ((mR h l0 0).getD 0)).1 1) ((f53 h ((mR h l0 0).getD 0) l1).bind (fun r1 =>
    match r1 with
  | none =>
    mGd (((Nat.beq (mK h l0).1 0 && (mR h l0 0).isSome) && true) && Nat.beq (mK h ((mR h l0 0).getD 0)).1 1) ((f111 h ((mR h l0 0).getD 0) l2).bind (fun r2 =>
      match r2 with
    | none =>
      f114_45 h
    | some a2 =>
      f114_45 h))
  | some a1 =>
    mGd (((Nat.beq (mK h l0).1 0 && (mR h l0 0).isSome) && true) && Nat.beq (mK h ((mR h l0 0).getD 0)).1 1) ((f111 h ((mR h l0 0).getD 0) l2).bind (fun r3 =>
      match r3 with
    | none =>
      f114_45 h
    | some a3 =>
      mGd (((Nat.beq (mK h l0).1 0 && (mR h l0 8).isSome) && true) && Nat.beq (mK h ((mR h l0 8).getD 0)).1 11) ((f115 h ((mR h l0 8).getD 0) a1 a3).bind (fun r4 =>
        if (r4.1 : Int32) = 0 then
        f114_45 r4.2
      else 
        f114_46 r4.2 1))))))
def f118_33 (h : mH) : Option (Int32) :=
mGd (true && true) (some ((-1) : Int32))
def f118 (h : mH) (l0 : Nat) : Option (Int32) :=
mGd (Nat.beq (mK h l0).1 11 && true) (
    if ((mI h l0 1) : Int32) = 0 then
    f118_33 h
  else 
    mGd ((Nat.beq (mK h l0).1 11 && (mR h l0 0).isSome) && ((Nat.beq (mK h ((mR h l0 0).getD 0)).1 100 && mIn 0 (mK h ((mR h l0 0).getD 0)).2) && (!(10 == (0 : Int32)) && ((Nat.beq (mK h l0).1 11 && (mR h l0 0).isSome) && (Nat.beq (mK h l0).1 11 && ((Nat.beq (mK h ((mR h l0 0).getD 0)).1 100 && mIn ((mI h l0 1) - 1) (mK h ((mR h l0 0).getD 0)).2) && (!(10 == (0 : Int32)) && true))))))) (
      if (((mI h ((mR h l0 0).getD 0) (Int32.toNatClampNeg 0)) / 10) : Int32) = ((mI h ((mR h l0 0).getD 0) (Int32.toNatClampNeg ((mI h l0 1) - 1))) / 10) then
      mGd (((Nat.beq (mK h l0).1 11 && (mR h l0 0).isSome) && ((Nat.beq (mK h ((mR h l0 0).getD 0)).1 100 && mIn 0 (mK h ((mR h l0 0).getD 0)).2) && (!(10 == (0 : Int32)) && true))) && true) (some (((mI h ((mR h l0 0).getD 0) (Int32.toNatClampNeg 0)) / 10) : Int32))
    else 
      f118_33 h))
def f120_28 (h : mH) (l0 : Nat) (l1 : Int32) (l2 : Int32) (l3 : Int32) : Option ((Int32 × Int32) ⊕ (Int32)) :=
some (.inl (l2, (l3 + 1)))
def f120_4 (h : mH) (l0 : Nat) (l1 : Int32) (s : (Int32 × Int32)) : Option ((Int32 × Int32) ⊕ (Int32)) :=
mGd (Nat.beq (mK h l0).1 11 && true) (
    if ((mI h l0 1) : Int32) ≤ s.2 then
    mX (mGd (true && true) (some (s.1 : Int32)))
  else 
    mGd (((Nat.beq (mK h l0).1 11 && (mR h l0 2).isSome) && ((Nat.beq (mK h ((mR h l0 2).getD 0)).1 100 && mIn s.2 (mK h ((mR h l0 2).getD 0)).2) && true)) && true) ((f71 h (mI h ((mR h l0 2).getD 0) (Int32.toNatClampNeg s.2)) l1).bind (fun r1 =>
      if (r1 : Int32) = 0 then
      f120_28 h l0 l1 s.1 s.2
    else 
      f120_28 h l0 l1 (s.1 + 1) s.2)))
def f120 (h : mH) (l0 : Nat) (l1 : Int32) : Option (Int32) :=
mLoop (f120_4 h l0 l1) mFuel (0, 0)
def f119_59 (h : mH) (l1 : Int32) : Option (Int32) :=
mGd (true && true) (some (l1 : Int32))
def f119_53 (h : mH) (l0 : Nat) (l1 : Int32) (l2 : Int32) (l3 : Int32) : Option ((Int32 × Int32 × Int32) ⊕ (Int32)) :=
some (.inl (l1, l2, (l3 + 1)))
def f119_7 (h : mH) (l0 : Nat) (s : (Int32 × Int32 × Int32)) : Option ((Int32 × Int32 × Int32) ⊕ (Int32)) :=
mGd (Nat.beq (mK h l0).1 11 && true) (
    if ((mI h l0 3) : Int32) ≤ s.2.2 then
    mX (f119_59 h s.1)
  else 
    mGd (Nat.beq (mK h l0).1 11 && true) (
      if ((mI h l0 1) : Int32) ≤ 0 then
      mX (f119_59 h s.1)
    else 
      mGd (true && Nat.beq (mK h l0).1 11) ((f120 h l0 s.2.2).bind (fun r1 =>
        mGd ((Nat.beq (mK h l0).1 11 && true) && Nat.beq (mK h l0).1 11) ((f120 h l0 s.2.2).bind (fun r2 =>
        if (s.2.1 : Int32) ≤ (if (r1 : Int32) < ((mI h l0 1) - r2) then ((mI h l0 1) - r2) else r1) then
        f119_53 h l0 s.1 s.2.1 s.2.2
      else 
        f119_53 h l0 s.2.2 (if (r1 : Int32) < ((mI h l0 1) - r2) then ((mI h l0 1) - r2) else r1) s.2.2))))))
def f119 (h : mH) (l0 : Nat) : Option (Int32) :=
mLoop (f119_7 h l0) mFuel ((-1), 61, 0)
def f113_101 (h : mH) (q0 : Int32) : Option (Int32 × mH) :=
mGd (true && true) (some (q0, h))
def f113_99 (h : mH) : Option (Int32 × mH) :=
f113_101 h (-2)
def f113 (h : mH) (l0 : Nat) (l1 : Int32) (l2 : Int32) (l3 : Int32) : Option (Int32 × mH) :=
mGd (true && Nat.beq (mK h l0).1 0) ((f114 h l0 l1 l2).bind (fun r1 =>
    if (r1.1 : Int32) = 0 then
    mGd (true && true) (some ((-2), r1.2))
  else 
    if (l3 : Int32) = 0 then
      mGd (((Nat.beq (mK r1.2 l0).1 0 && (mR r1.2 l0 8).isSome) && (Nat.beq (mK r1.2 ((mR r1.2 l0 8).getD 0)).1 11 && true)) && true) (some ((mI r1.2 ((mR r1.2 l0 8).getD 0) 1), r1.2))
    else if (l3 : Int32) = 1 then
      mGd (((Nat.beq (mK r1.2 l0).1 0 && (mR r1.2 l0 8).isSome) && true) && Nat.beq (mK r1.2 ((mR r1.2 l0 8).getD 0)).1 11) ((f118 r1.2 ((mR r1.2 l0 8).getD 0)).bind (fun r2 =>
        mGd (true && true) (some (r2, r1.2))))
    else if (l3 : Int32) = 2 then
      mGd (((Nat.beq (mK r1.2 l0).1 0 && (mR r1.2 l0 8).isSome) && true) && Nat.beq (mK r1.2 ((mR r1.2 l0 8).getD 0)).1 11) ((f119 r1.2 ((mR r1.2 l0 8).getD 0)).bind (fun r3 =>
        mGd (true && true) (some (r3, r1.2))))
    else 
      if (l3 : Int32) < 10 then
        f113_99 r1.2
      else 
        mGd ((Nat.beq (mK r1.2 l0).1 0 && (mR r1.2 l0 8).isSome) && (Nat.beq (mK r1.2 ((mR r1.2 l0 8).getD 0)).1 11 && true)) (
          if ((mI r1.2 ((mR r1.2 l0 8).getD 0) 1) : Int32) ≤ (l3 - 10) then
          f113_99 r1.2
        else 
          mGd ((Nat.beq (mK r1.2 l0).1 0 && (mR r1.2 l0 8).isSome) && ((Nat.beq (mK r1.2 ((mR r1.2 l0 8).getD 0)).1 11 && (mR r1.2 ((mR r1.2 l0 8).getD 0) 0).isSome) && ((Nat.beq (mK r1.2 ((mR r1.2 ((mR r1.2 l0 8).getD 0) 0).getD 0)).1 100 && mIn (l3 - 10) (mK r1.2 ((mR r1.2 ((mR r1.2 l0 8).getD 0) 0).getD 0)).2) && true))) (
            f113_101 r1.2 (mI r1.2 ((mR r1.2 ((mR r1.2 l0 8).getD 0) 0).getD 0) (Int32.toNatClampNeg (l3 - 10)))))))
def f123_33 (h : mH) (q0 : Int32) : Option (Int32 × mH) :=
mGd (true && true) (some (q0, h))
def f123 (h : mH) (l0 : Nat) (l1 : Int32) : Option (Int32 × mH) :=
mGd (Nat.beq (mK h l0).1 7 && (Nat.beq (mK h l0).1 7 && true)) (
    if (1 : Int32) ≤ l1 then
    mGd (Nat.beq (mK h l0).1 7 && (!(l1 == (0 : Int32)) && true)) (
      f123_33 (mSI h l0 14 (((mI h l0 14) * 1103515245) + 12345)) (((Int32.toUInt32 (mI (mSI h l0 14 (((mI h l0 14) * 1103515245) + 12345)) l0 14) >>> (Int32.toUInt32 16 &&& Int32.toUInt32 31)).toInt32) - ((Int32.toUInt32 (mI (mSI h l0 14 (((mI h l0 14) * 1103515245) + 12345)) l0 14) >>> (Int32.toUInt32 16 &&& Int32.toUInt32 31)).toInt32) / l1 * l1))
  else 
    f123_33 (mSI h l0 14 (((mI h l0 14) * 1103515245) + 12345)) 0)
def f124_176 (h : mH) : Option (Unit × mH) :=
mGd (true && true) (some ((), h))
def f124_60 (h : mH) (l0 : Nat) (l1 : Int32) (l2 : Int32) : Option (Unit × mH) :=
if (l2 : Int32) = 0 then
    if (l1 : Int32) = 2 then
      mGd (((Nat.beq (mK h l0).1 7 && (mR h l0 3).isSome) && (Nat.beq (mK h ((mR h l0 3).getD 0)).1 2 && true)) && Nat.beq (mK h l0).1 7) ((f123 h l0 (mI h ((mR h l0 3).getD 0) 6)).bind (fun r1 =>
        mGd (true && Nat.beq (mK r1.2 l0).1 7) ((f67 r1.2 l0 1 r1.1 (-1)).bind (fun r2 =>
        f124_176 r2.2))))
    else 
      mGd (((Nat.beq (mK h l0).1 7 && (mR h l0 3).isSome) && (Nat.beq (mK h ((mR h l0 3).getD 0)).1 2 && true)) && Nat.beq (mK h l0).1 7) ((f123 h l0 (mI h ((mR h l0 3).getD 0) 6)).bind (fun r3 =>
        mGd (true && Nat.beq (mK r3.2 l0).1 7) ((f67 r3.2 l0 0 r3.1 (-1)).bind (fun r4 =>
        f124_176 r4.2))))
  else 
    f124_176 h
def f124_110 (h : mH) (l0 : Nat) (l2 : Int32) : Option (Unit × mH) :=
if (l2 : Int32) = 0 then
    mGd ((Nat.beq (mK h l0).1 7 && (mR h l0 3).isSome) && (Nat.beq (mK h ((mR h l0 3).getD 0)).1 2 && true)) (
      if ((mI h ((mR h l0 3).getD 0) 7) : Int32) ≤ 0 then
      f124_176 h
    else 
      mGd (((Nat.beq (mK h l0).1 7 && (mR h l0 3).isSome) && (Nat.beq (mK h ((mR h l0 3).getD 0)).1 2 && true)) && Nat.beq (mK h l0).1 7) ((f123 h l0 (mI h ((mR h l0 3).getD 0) 6)).bind (fun r7 =>
        mGd (((Nat.beq (mK r7.2 l0).1 7 && (mR r7.2 l0 3).isSome) && (Nat.beq (mK r7.2 ((mR r7.2 l0 3).getD 0)).1 2 && true)) && Nat.beq (mK r7.2 l0).1 7) ((f123 r7.2 l0 (mI r7.2 ((mR r7.2 l0 3).getD 0) 7)).bind (fun r8 =>
        mGd (true && Nat.beq (mK r8.2 l0).1 7) ((f67 r8.2 l0 3 r7.1 r8.1).bind (fun r9 =>
        f124_176 r9.2)))))))
  else 
    f124_176 h
def f124_15 (h : mH) (l0 : Nat) (l1 : Int32) (q0 : Int32) : Option (Unit × mH) :=
if (l1 : Int32) = 0 then
    f124_60 h l0 l1 q0
  else if (l1 : Int32) = 1 then
    f124_60 h l0 l1 q0
  else if (l1 : Int32) = 2 then
    f124_60 h l0 l1 q0
  else if (l1 : Int32) = 3 then
    mGd (true && Nat.beq (mK h l0).1 7) ((f123 h l0 6).bind (fun r5 =>
      mGd (true && Nat.beq (mK r5.2 l0).1 7) ((f67 r5.2 l0 2 r5.1 (-1)).bind (fun r6 =>
      f124_176 r6.2))))
  else if (l1 : Int32) = 4 then
    f124_110 h l0 q0
  else if (l1 : Int32) = 5 then
    f124_110 h l0 q0
  else if (l1 : Int32) = 6 then
    mGd (true && Nat.beq (mK h l0).1 7) ((f67 h l0 4 (-1) (-1)).bind (fun r10 =>
      f124_176 r10.2))
  else 
    mGd (true && Nat.beq (mK h l0).1 7) ((f67 h l0 5 (-1) (-1)).bind (fun r11 =>
      f124_176 r11.2))
def f124 (h : mH) (l0 : Nat) (l1 : Int32) : Option (Unit × mH) :=
mGd ((Nat.beq (mK h l0).1 7 && (mR h l0 3).isSome) && (Nat.beq (mK h ((mR h l0 3).getD 0)).1 2 && true)) (
    if ((mI h ((mR h l0 3).getD 0) 6) : Int32) = 0 then
    f124_15 h l0 l1 1
  else 
    f124_15 h l0 l1 0)
def f122_13 (l0 : Nat) (l3 : Int32) (s : (Int32 × mH)) : Option ((Int32 × mH) ⊕ (Unit × mH)) :=
if (l3 : Int32) ≤ s.1 then
    mX (mGd (true && true) (some ((), s.2)))
  else 
    mGd (true && Nat.beq (mK s.2 l0).1 7) ((f123 s.2 l0 8).bind (fun r2 =>
      mGd (true && Nat.beq (mK r2.2 l0).1 7) ((f124 r2.2 l0 r2.1).bind (fun r3 =>
      some (.inl ((s.1 + 1), r3.2))))))
def f122 (h : mH) (l0 : Nat) (l1 : Nat) (l2 : Int32) (l3 : Int32) : Option (Unit × mH) :=
mGd (true && Nat.beq (mK h l0).1 7) ((f63 h l0 l1).bind (fun r1 =>
    mGd (Nat.beq (mK r1.2 l0).1 7 && true) (
    mLoop (f122_13 l0 l3) mFuel (0, (mSI r1.2 l0 14 l2)))))
def f121_25 (h : mH) : Option (Int32 × mH) :=
mGd (true && true) (some ((-2), h))
def f121 (h : mH) (l0 : Nat) (l1 : Int32) (l2 : Int32) (l3 : Int32) (l4 : Int32) : Option (Int32 × mH) :=
mGd (((Nat.beq (mK h l0).1 0 && (mR h l0 0).isSome) && true) && Nat.beq (mK h ((mR h l0 0).getD 0)).1 1) ((f53 h ((mR h l0 0).getD 0) l1).bind (fun r1 =>
    match r1 with
  | none =>
    f121_25 h
  | some a1 =>
    mGd (true && true) ((f17 h l3 0 60).bind (fun r2 =>
      if (r2 : Int32) = 0 then
      f121_25 h
    else 
      mGd (((Nat.beq (mK h l0).1 0 && (mR h l0 4).isSome) && true) && Nat.beq (mK h ((mR h l0 4).getD 0)).1 7) ((f122 h ((mR h l0 4).getD 0) a1 l2 l3).bind (fun r3 =>
        mGd (((Nat.beq (mK r3.2 l0).1 0 && (mR r3.2 l0 4).isSome) && true) && Nat.beq (mK r3.2 ((mR r3.2 l0 4).getD 0)).1 7) ((f81 r3.2 ((mR r3.2 l0 4).getD 0) l4).bind (fun r4 =>
        mGd (true && true) (some (r4, r3.2))))))))))
def f126_27 (h : mH) (q0 : Int32) : Option (Int32 × mH) :=
mGd (true && true) (some (q0, h))
def f126 (h : mH) (l0 : Nat) (l1 : Nat) : Option (Int32 × mH) :=
mGd (true && Nat.beq (mK h l0).1 8) ((f84 h l0 l1 99 0).bind (fun r1 =>
    mGd (Nat.beq (mK r1.2 l0).1 8 && (Nat.beq (mK r1.2 l1).1 2 && true)) (
    if ((mI r1.2 l0 3) : Int32) = (mI r1.2 l1 6) then
    mGd (Nat.beq (mK r1.2 l0).1 8 && true) (
      f126_27 r1.2 (mI r1.2 l0 5))
  else 
    f126_27 r1.2 (-1))))
def f127 (h : mH) (l0 : Nat) (l1 : Nat) : Option (Int32 × mH) :=
mGd (true && Nat.beq (mK h l0).1 8) ((f84 h l0 l1 99 0).bind (fun r1 =>
    mGd (true && Nat.beq (mK r1.2 l1).1 2) ((f94 r1.2 l1).bind (fun r2 =>
    mGd (((Nat.beq (mK r1.2 l0).1 8 && (mR r1.2 l0 4).isSome) && (Nat.beq (mK r1.2 ((mR r1.2 l0 4).getD 0)).1 7 && true)) && true) (some ((r2 &&& ((mI r1.2 ((mR r1.2 l0 4).getD 0) 1) ^^^ (-1))), r1.2))))))
def f130_33 (h : mH) (l0 : Nat) (l2 : Int32) (l3 : Int32) : Option ((Int32 × Int32) ⊕ (Int32)) :=
some (.inl (l2, (l3 + 1)))
def f130_8 (h : mH) (l0 : Nat) (s : (Int32 × Int32)) : Option ((Int32 × Int32) ⊕ (Int32)) :=
mGd (Nat.beq (mK h l0).1 2 && true) (
    if ((mI h l0 6) : Int32) ≤ s.2 then
    mX (mGd (true && true) (some (s.1 : Int32)))
  else 
    mGd ((Nat.beq (mK h l0).1 2 && (mR h l0 2).isSome) && ((Nat.beq (mK h ((mR h l0 2).getD 0)).1 100 && mIn s.2 (mK h ((mR h l0 2).getD 0)).2) && true)) (
      if (((mI h ((mR h l0 2).getD 0) (Int32.toNatClampNeg s.2)) &&& s.1) : Int32) = 0 then
      f130_33 h l0 s.1 s.2
    else 
      f130_33 h l0 (s.1 ||| ((1 : Int32) <<< (s.2 &&& (31 : Int32)))) s.2))
def f130 (h : mH) (l0 : Nat) (l1 : Int32) : Option (Int32) :=
mLoop (f130_8 h l0) mFuel (((1 : Int32) <<< (l1 &&& (31 : Int32))), (l1 + 1))
def f129_22 (h : mH) (q0 : Int32) : Option (Int32) :=
mGd (true && true) (some (q0 : Int32))
def f129 (h : mH) (l0 : Nat) (l1 : Int32) : Option (Int32) :=
mGd (true && Nat.beq (mK h l0).1 2) ((f56 h l0 l1).bind (fun r1 =>
    if (r1 : Int32) = 0 then
    f129_22 h (-1)
  else 
    mGd (true && Nat.beq (mK h l0).1 2) ((f130 h l0 l1).bind (fun r2 =>
      mGd (true && true) ((f66 h r2).bind (fun r3 =>
      f129_22 h (r3 - 1)))))))
def f128_32 (h : mH) (l0 : Nat) (l1 : Int32) (l2 : Int32) : Option ((Int32 × Int32) ⊕ (Int32)) :=
some (.inl (l1, (l2 + 1)))
def f128_30 (h : mH) (l0 : Nat) (l2 : Int32) : Option ((Int32 × Int32) ⊕ (Int32)) :=
f128_32 h l0 l2 l2
def f128_4 (h : mH) (l0 : Nat) (s : (Int32 × Int32)) : Option ((Int32 × Int32) ⊕ (Int32)) :=
mGd (Nat.beq (mK h l0).1 2 && true) (
    if ((mI h l0 6) : Int32) ≤ s.2 then
    mX (mGd (true && true) (some (s.1 : Int32)))
  else 
    if (s.1 : Int32) = (-1) then
      f128_30 h l0 s.2
    else 
      mGd (true && Nat.beq (mK h l0).1 2) ((f129 h l0 s.2).bind (fun r1 =>
        mGd (true && Nat.beq (mK h l0).1 2) ((f129 h l0 s.1).bind (fun r2 =>
        if (r1 : Int32) ≤ r2 then
        f128_32 h l0 s.1 s.2
      else 
        f128_30 h l0 s.2)))))
def f128 (h : mH) (l0 : Nat) : Option (Int32) :=
mLoop (f128_4 h l0) mFuel ((-1), 0)
def f132_129 (h : mH) (l0 : Nat) (l1 : Nat) (l2 : Int32) (l3 : Int32) (l4 : Int32) (l5 : Int32) : Option ((Int32 × Int32) ⊕ (Int32)) :=
some (.inl (l4, (l5 + 1)))
def f132_120 (h : mH) (l0 : Nat) (l1 : Nat) (l2 : Int32) (l3 : Int32) (l4 : Int32) (l5 : Int32) (l9 : Int32) : Option ((Int32 × Int32) ⊕ (Int32)) :=
f132_129 h l0 l1 l2 l3 (if (l9 : Int32) < l4 then l9 else l4) l5
def f132_118 (h : mH) (l0 : Nat) (l1 : Nat) (l2 : Int32) (l3 : Int32) (l4 : Int32) (l5 : Int32) (q0 : Int32) : Option ((Int32 × Int32) ⊕ (Int32)) :=
f132_120 h l0 l1 l2 l3 l4 l5 q0
def f132_81 (h : mH) (l0 : Nat) (l1 : Nat) (l2 : Int32) (l3 : Int32) (l4 : Int32) (l5 : Int32) (l7 : Int32) (l8 : Int32) : Option ((Int32 × Int32) ⊕ (Int32)) :=
if (l8 : Int32) = 0 then
    mGd (!(16 == (0 : Int32)) && ((Nat.beq (mK h l1).1 2 && (mR h l1 0).isSome) && ((Nat.beq (mK h ((mR h l1 0).getD 0)).1 100 && mIn l5 (mK h ((mR h l1 0).getD 0)).2) && true))) (
      f132_118 h l0 l1 l2 l3 l4 l5 ((((l7 / 16) * 16) + 16) + (mI h ((mR h l1 0).getD 0) (Int32.toNatClampNeg l5))))
  else 
    mGd ((Nat.beq (mK h l1).1 2 && (mR h l1 0).isSome) && ((Nat.beq (mK h ((mR h l1 0).getD 0)).1 100 && mIn l5 (mK h ((mR h l1 0).getD 0)).2) && true)) (
      f132_118 h l0 l1 l2 l3 l4 l5 (l7 + (mI h ((mR h l1 0).getD 0) (Int32.toNatClampNeg l5))))
def f132_79 (h : mH) (l0 : Nat) (l1 : Nat) (l2 : Int32) (l3 : Int32) (l4 : Int32) (l5 : Int32) (l7 : Int32) (q0 : Int32) : Option ((Int32 × Int32) ⊕ (Int32)) :=
f132_81 h l0 l1 l2 l3 l4 l5 l7 q0
def f132_57 (h : mH) (l0 : Nat) (l1 : Nat) (l2 : Int32) (l3 : Int32) (l4 : Int32) (l5 : Int32) (l7 : Int32) : Option ((Int32 × Int32) ⊕ (Int32)) :=
mGd (!(16 == (0 : Int32)) && ((Nat.beq (mK h l1).1 2 && (mR h l1 0).isSome) && ((Nat.beq (mK h ((mR h l1 0).getD 0)).1 100 && mIn l5 (mK h ((mR h l1 0).getD 0)).2) && true))) (
    if (l3 : Int32) < ((l7 - l7 / 16 * 16) + (mI h ((mR h l1 0).getD 0) (Int32.toNatClampNeg l5))) then
    f132_79 h l0 l1 l2 l3 l4 l5 l7 0
  else 
    f132_79 h l0 l1 l2 l3 l4 l5 l7 1)
def f132_27 (h : mH) (l0 : Nat) (l1 : Nat) (l2 : Int32) (l3 : Int32) (l4 : Int32) (l5 : Int32) (l6 : Int32) : Option ((Int32 × Int32) ⊕ (Int32)) :=
if (l6 : Int32) = l2 then
    f132_129 h l0 l1 l2 l3 l4 l5
  else 
    mGd ((Nat.beq (mK h l1).1 2 && (mR h l1 2).isSome) && ((Nat.beq (mK h ((mR h l1 2).getD 0)).1 100 && mIn l5 (mK h ((mR h l1 2).getD 0)).2) && true)) (
      if (((mI h ((mR h l1 2).getD 0) (Int32.toNatClampNeg l5)) &&& (l6 ^^^ (-1))) : Int32) = 0 then
      mGd ((Nat.beq (mK h l0).1 9 && (mR h l0 4).isSome) && ((Nat.beq (mK h ((mR h l0 4).getD 0)).1 100 && mIn l6 (mK h ((mR h l0 4).getD 0)).2) && true)) (
        f132_57 h l0 l1 l2 l3 l4 l5 (mI h ((mR h l0 4).getD 0) (Int32.toNatClampNeg l6)))
    else 
      f132_129 h l0 l1 l2 l3 l4 l5)
def f132_8 (h : mH) (l0 : Nat) (l1 : Nat) (l2 : Int32) (l3 : Int32) (s : (Int32 × Int32)) : Option ((Int32 × Int32) ⊕ (Int32)) :=
mGd (Nat.beq (mK h l1).1 2 && true) (
    if ((mI h l1 6) : Int32) ≤ s.2 then
    mX (mGd (true && true) (some (s.1 : Int32)))
  else 
    f132_27 h l0 l1 l2 l3 s.1 s.2 (l2 &&& (((1 : Int32) <<< (s.2 &&& (31 : Int32))) ^^^ (-1))))
def f132_5 (h : mH) (l0 : Nat) (l1 : Nat) (l2 : Int32) (l3 : Int32) (l4 : Int32) : Option (Int32) :=
mLoop (f132_8 h l0 l1 l2 l3) mFuel (l4, 0)
def f132 (h : mH) (l0 : Nat) (l1 : Nat) (l2 : Int32) (l3 : Int32) : Option (Int32) :=
f132_5 h l0 l1 l2 l3 1584
def f131_80 (h : mH) (l0 : Nat) (l1 : Nat) (l2 : Int32) (l3 : Int32) (l4 : Int32) : Option ((Int32 × mH) ⊕ (Int32 × mH)) :=
some (.inl ((l4 + 1), h))
def f131_50 (l0 : Nat) (l1 : Nat) (l2 : Int32) (l3 : Int32) (s : (Int32 × mH)) : Option ((Int32 × mH) ⊕ (Int32 × mH)) :=
if (l2 : Int32) < s.1 then
    mX (mGd (((Nat.beq (mK s.2 l0).1 9 && (mR s.2 l0 4).isSome) && ((Nat.beq (mK s.2 ((mR s.2 l0 4).getD 0)).1 100 && mIn l2 (mK s.2 ((mR s.2 l0 4).getD 0)).2) && (!(16 == (0 : Int32)) && true))) && true) (some (((mI s.2 ((mR s.2 l0 4).getD 0) (Int32.toNatClampNeg l2)) / 16), s.2)))
  else 
    if ((s.1 &&& (l2 ^^^ (-1))) : Int32) = 0 then
      mGd (((Nat.beq (mK s.2 l0).1 9 && (mR s.2 l0 4).isSome) && true) && Nat.beq (mK s.2 l0).1 9) ((f132 s.2 l0 l1 s.1 l3).bind (fun r1 =>
        mGd ((Nat.beq (mK s.2 ((mR s.2 l0 4).getD 0)).1 100 && mIn s.1 (mK s.2 ((mR s.2 l0 4).getD 0)).2) && true) (
        f131_80 (mSI s.2 ((mR s.2 l0 4).getD 0) (Int32.toNatClampNeg s.1) r1) l0 l1 l2 l3 s.1)))
    else 
      f131_80 s.2 l0 l1 l2 l3 s.1
def f131_34 (h : mH) (l0 : Nat) (l1 : Nat) (l2 : Int32) (l3 : Int32) (l4 : Int32) : Option ((Int32) ⊕ (Int32 × mH)) :=
some (.inl ((l4 + 1)))
def f131_3 (h : mH) (l0 : Nat) (l1 : Nat) (l2 : Int32) (l3 : Int32) (s : (Int32)) : Option ((Int32) ⊕ (Int32 × mH)) :=
mGd (Nat.beq (mK h l1).1 2 && true) (
    if ((mI h l1 6) : Int32) ≤ s then
    mX (
mGd ((Nat.beq (mK h l0).1 9 && (mR h l0 4).isSome) && ((Nat.beq (mK h ((mR h l0 4).getD 0)).1 100 && mIn 0 (mK h ((mR h l0 4).getD 0)).2) && true)) (
      mLoop (f131_50 l0 l1 l2 l3) mFuel (1, (mSI h ((mR h l0 4).getD 0) (Int32.toNatClampNeg 0) l3))))
  else 
    mGd (true && true) ((f71 h l2 s).bind (fun r2 =>
      if (r2 : Int32) = 0 then
      f131_34 h l0 l1 l2 l3 s
    else 
      mGd ((Nat.beq (mK h l1).1 2 && (mR h l1 0).isSome) && ((Nat.beq (mK h ((mR h l1 0).getD 0)).1 100 && mIn s (mK h ((mR h l1 0).getD 0)).2) && true)) (
        if ((mI h ((mR h l1 0).getD 0) (Int32.toNatClampNeg s)) : Int32) ≤ l3 then
        f131_34 h l0 l1 l2 l3 s
      else 
        mX (mGd (true && true) (some ((-1), h)))))))
def f131 (h : mH) (l0 : Nat) (l1 : Nat) (l2 : Int32) (l3 : Int32) : Option (Int32 × mH) :=
mLoop (f131_3 h l0 l1 l2 l3) mFuel (0)
def f133_72 (h : mH) (l0 : Nat) (l1 : Nat) (l2 : Int32) (l3 : Int32) (l4 : Int32) : Option ((Int32 × Int32) ⊕ ((Int32 × mH) ⊕ (Int32 × mH))) :=
some (.inl (l3, (l4 + 1)))
def f133_22 (h : mH) (l0 : Nat) (l1 : Nat) (l2 : Int32) (s : (Int32 × Int32)) : Option ((Int32 × Int32) ⊕ ((Int32 × mH) ⊕ (Int32 × mH))) :=
mGd (Nat.beq (mK h l1).1 2 && true) (
    if ((mI h l1 6) : Int32) ≤ s.2 then
    mX (
mGd ((Nat.beq (mK h l0).1 9 && (mR h l0 4).isSome) && ((Nat.beq (mK h ((mR h l0 4).getD 0)).1 100 && mIn l2 (mK h ((mR h l0 4).getD 0)).2) && true)) (
      some (.inl ((l2 + 1), (mSI h ((mR h l0 4).getD 0) (Int32.toNatClampNeg l2) s.1)))))
  else 
    if ((l2 &&& (((1 : Int32) <<< (s.2 &&& (31 : Int32))) ^^^ (-1))) : Int32) = l2 then
      f133_72 h l0 l1 l2 s.1 s.2
    else 
      mGd ((Nat.beq (mK h l1).1 2 && (mR h l1 2).isSome) && ((Nat.beq (mK h ((mR h l1 2).getD 0)).1 100 && mIn s.2 (mK h ((mR h l1 2).getD 0)).2) && true)) (
        if (((mI h ((mR h l1 2).getD 0) (Int32.toNatClampNeg s.2)) &&& ((l2 &&& (((1 : Int32) <<< (s.2 &&& (31 : Int32))) ^^^ (-1))) ^^^ (-1))) : Int32) = 0 then
        mGd ((Nat.beq (mK h l0).1 9 && (mR h l0 4).isSome) && ((Nat.beq (mK h ((mR h l0 4).getD 0)).1 100 && mIn (l2 &&& (((1 : Int32) <<< (s.2 &&& (31 : Int32))) ^^^ (-1))) (mK h ((mR h l0 4).getD 0)).2) && true)) (
          f133_72 h l0 l1 l2 (s.1 + (mI h ((mR h l0 4).getD 0) (Int32.toNatClampNeg (l2 &&& (((1 : Int32) <<< (s.2 &&& (31 : Int32))) ^^^ (-1)))))) s.2)
      else 
        f133_72 h l0 l1 l2 s.1 s.2))
def f133_9 (l0 : Nat) (l1 : Nat) (s : (Int32 × mH)) : Option ((Int32 × mH) ⊕ (Int32 × mH)) :=
mGd (true && Nat.beq (mK s.2 l1).1 2) ((f94 s.2 l1).bind (fun r1 =>
    if (r1 : Int32) < s.1 then
    mX (
mGd (((Nat.beq (mK s.2 l0).1 9 && (mR s.2 l0 4).isSome) && true) && Nat.beq (mK s.2 l1).1 2) ((f94 s.2 l1).bind (fun r2 =>
      mGd (((Nat.beq (mK s.2 ((mR s.2 l0 4).getD 0)).1 100 && mIn r2 (mK s.2 ((mR s.2 l0 4).getD 0)).2) && true) && true) (some ((mI s.2 ((mR s.2 l0 4).getD 0) (Int32.toNatClampNeg r2)), s.2)))))
  else 
    mLoop (f133_22 s.2 l0 l1 s.1) mFuel (0, 0)))
def f133 (h : mH) (l0 : Nat) (l1 : Nat) : Option (Int32 × mH) :=
mGd ((Nat.beq (mK h l0).1 9 && (mR h l0 4).isSome) && ((Nat.beq (mK h ((mR h l0 4).getD 0)).1 100 && mIn 0 (mK h ((mR h l0 4).getD 0)).2) && true)) (
    mLoop (f133_9 l0 l1) mFuel (1, (mSI h ((mR h l0 4).getD 0) (Int32.toNatClampNeg 0) 1)))
def f135 (h : mH) (l0 : Nat) (l1 : Int32) : Option (Int32) :=
mGd (true && Nat.beq (mK h l0).1 2) ((f94 h l0).bind (fun r1 =>
    mGd (true && Nat.beq (mK h l0).1 2) ((f95 h l0 r1).bind (fun r2 =>
    mGd (true && Nat.beq (mK h l0).1 2) ((f95 h l0 l1).bind (fun r3 =>
    mGd (true && true) (some ((if (0 : Int32) ≤ (r2 - (2 * r3)) then (r2 - (2 * r3)) else 0 - (r2 - (2 * r3))) : Int32))))))))
def f134_54 (h : mH) (l1 : Int32) : Option (Int32) :=
mGd (true && true) (some (l1 : Int32))
def f134_48 (h : mH) (l0 : Nat) (l1 : Int32) (l2 : Int32) (l3 : Int32) : Option ((Int32 × Int32 × Int32) ⊕ (Int32)) :=
some (.inl (l1, l2, (l3 + 1)))
def f134_10 (h : mH) (l0 : Nat) (s : (Int32 × Int32 × Int32)) : Option ((Int32 × Int32 × Int32) ⊕ (Int32)) :=
mGd (Nat.beq (mK h l0).1 2 && true) (
    if (((1 : Int32) <<< (((mI h l0 6) - 1) &&& (31 : Int32))) : Int32) ≤ s.2.2 then
    mX (f134_54 h s.1)
  else 
    mGd (Nat.beq (mK h l0).1 2 && true) (
      if ((mI h l0 6) : Int32) ≤ 1 then
      mX (f134_54 h s.1)
    else 
      mGd (true && Nat.beq (mK h l0).1 2) ((f135 h l0 s.2.2).bind (fun r2 =>
        if (s.2.1 : Int32) ≤ r2 then
        f134_48 h l0 s.1 s.2.1 s.2.2
      else 
        f134_48 h l0 s.2.2 r2 s.2.2))))
def f134 (h : mH) (l0 : Nat) : Option (Int32) :=
mGd (true && Nat.beq (mK h l0).1 2) ((f135 h l0 0).bind (fun r1 =>
    mLoop (f134_10 h l0) mFuel (0, r1, 1)))
def f136_44 (h : mH) (l0 : Nat) (l2 : Int32) (l3 : Int32) : Option ((Int32 × Int32) ⊕ (Int32)) :=
some (.inl (l2, (l3 + (-1))))
def f136_23 (h : mH) (l0 : Nat) (s : (Int32 × Int32)) : Option ((Int32 × Int32) ⊕ (Int32)) :=
if (s.2 : Int32) < 0 then
    mX (mGd (true && true) (some (s.1 : Int32)))
  else 
    mGd (true && true) ((f71 h s.1 s.2).bind (fun r2 =>
      if (r2 : Int32) = 0 then
      f136_44 h l0 s.1 s.2
    else 
      mGd ((Nat.beq (mK h l0).1 2 && (mR h l0 2).isSome) && ((Nat.beq (mK h ((mR h l0 2).getD 0)).1 100 && mIn s.2 (mK h ((mR h l0 2).getD 0)).2) && true)) (
        f136_44 h l0 (s.1 ||| (mI h ((mR h l0 2).getD 0) (Int32.toNatClampNeg s.2))) s.2)))
def f136_18 (h : mH) (l0 : Nat) (l1 : Int32) (q0 : Int32) : Option (Int32) :=
mLoop (f136_23 h l0) mFuel (q0, (l1 - 1))
def f136 (h : mH) (l0 : Nat) (l1 : Int32) : Option (Int32) :=
mGd (true && Nat.beq (mK h l0).1 2) ((f56 h l0 l1).bind (fun r1 =>
    if (r1 : Int32) = 0 then
    f136_18 h l0 l1 0
  else 
    mGd ((Nat.beq (mK h l0).1 2 && (mR h l0 2).isSome) && ((Nat.beq (mK h ((mR h l0 2).getD 0)).1 100 && mIn l1 (mK h ((mR h l0 2).getD 0)).2) && true)) (
      f136_18 h l0 l1 (mI h ((mR h l0 2).getD 0) (Int32.toNatClampNeg l1)))))
def f125_166 (h : mH) (q0 : Int32) : Option (Int32 × mH) :=
mGd (true && true) (some (q0, h))
def f125_164 (h : mH) : Option (Int32 × mH) :=
f125_166 h (-2)
def f125 (h : mH) (l0 : Nat) (l1 : Int32) (l2 : Int32) : Option (Int32 × mH) :=
mGd (((Nat.beq (mK h l0).1 0 && (mR h l0 0).isSome) && true) && Nat.beq (mK h ((mR h l0 0).getD 0)).1 1) ((f53 h ((mR h l0 0).getD 0) l1).bind (fun r1 =>
    match r1 with
  | none =>
    mGd (true && true) (some ((-2), h))
  | some a1 =>
    if (l2 : Int32) = 0 then
      mGd (((Nat.beq (mK h l0).1 0 && (mR h l0 5).isSome) && true) && Nat.beq (mK h ((mR h l0 5).getD 0)).1 8) ((f126 h ((mR h l0 5).getD 0) a1).bind (fun r2 =>
        mGd (true && true) (some (r2.1, r2.2))))
    else if (l2 : Int32) = 1 then
      mGd (((Nat.beq (mK h l0).1 0 && (mR h l0 5).isSome) && true) && Nat.beq (mK h ((mR h l0 5).getD 0)).1 8) ((f127 h ((mR h l0 5).getD 0) a1).bind (fun r3 =>
        mGd (true && true) (some (r3.1, r3.2))))
    else if (l2 : Int32) = 2 then
      mGd (true && Nat.beq (mK h a1).1 2) ((f128 h a1).bind (fun r4 =>
        mGd (true && true) (some (r4, h))))
    else if (l2 : Int32) = 3 then
      mGd (true && Nat.beq (mK h a1).1 2) ((f128 h a1).bind (fun r5 =>
        mGd (true && Nat.beq (mK h a1).1 2) ((f129 h a1 r5).bind (fun r6 =>
        mGd (true && true) (some (r6, h))))))
    else if (l2 : Int32) = 4 then
      mGd (((Nat.beq (mK h l0).1 0 && (mR h l0 6).isSome) && true) && Nat.beq (mK h a1).1 2) ((f94 h a1).bind (fun r7 =>
        mGd ((Nat.beq (mK h a1).1 2 && true) && Nat.beq (mK h ((mR h l0 6).getD 0)).1 9) ((f131 h ((mR h l0 6).getD 0) a1 r7 (mI h a1 8)).bind (fun r8 =>
        mGd (true && true) (some (r8.1, r8.2))))))
    else if (l2 : Int32) = 5 then
      mGd (((Nat.beq (mK h l0).1 0 && (mR h l0 6).isSome) && true) && Nat.beq (mK h ((mR h l0 6).getD 0)).1 9) ((f133 h ((mR h l0 6).getD 0) a1).bind (fun r9 =>
        mGd (true && true) (some (r9.1, r9.2))))
    else if (l2 : Int32) = 6 then
      mGd (true && Nat.beq (mK h a1).1 2) ((f134 h a1).bind (fun r10 =>
        mGd (true && Nat.beq (mK h a1).1 2) ((f135 h a1 r10).bind (fun r11 =>
        mGd (true && true) (some (r11, h))))))
    else if (l2 : Int32) = 7 then
      mGd (true && Nat.beq (mK h a1).1 2) ((f134 h a1).bind (fun r12 =>
        mGd (true && true) (some (r12, h))))
    else 
      if (l2 : Int32) < 10 then
        f125_164 h
      else 
        mGd (true && Nat.beq (mK h a1).1 2) ((f56 h a1 (l2 - 10)).bind (fun r13 =>
          if (r13 : Int32) = 0 then
          f125_164 h
        else 
          mGd (true && Nat.beq (mK h a1).1 2) ((f136 h a1 (l2 - 10)).bind (fun r14 =>
            f125_166 h r14))))))
def f139_101 (h : mH) (l3 : Int32) : Option (Int32) :=
mGd (true && true) (some (l3 : Int32))
def f139_63 (h : mH) (l0 : Nat) (l1 : Nat) (l2 : Int32) (l3 : Int32) (l4 : Int32) (l5 : Int32) (s : (Int32 × Int32)) : Option ((Int32 × Int32) ⊕ ((Int32 × Int32) ⊕ (Int32))) :=
if (l5 : Int32) ≤ s.2 then
    mX (some (.inl ((if (l3 : Int32) < s.1 then s.1 else l3), (l4 + 1))))
  else 
    mGd ((Nat.beq (mK h l1).1 2 && (mR h l1 0).isSome) && ((Nat.beq (mK h ((mR h l1 0).getD 0)).1 100 && mIn s.2 (mK h ((mR h l1 0).getD 0)).2) && true)) (
      some (.inl ((s.1 + (mI h ((mR h l1 0).getD 0) (Int32.toNatClampNeg s.2))), (s.2 + 1))))
def f139_49 (h : mH) (l0 : Nat) (l1 : Nat) (l2 : Int32) (l3 : Int32) (l4 : Int32) (q0 : Int32) : Option ((Int32 × Int32) ⊕ (Int32)) :=
mGd ((Nat.beq (mK h l0).1 10 && (mR h l0 1).isSome) && ((Nat.beq (mK h ((mR h l0 1).getD 0)).1 100 && mIn l4 (mK h ((mR h l0 1).getD 0)).2) && true)) (
    mLoop (f139_63 h l0 l1 l2 l3 l4 q0) mFuel (0, (mI h ((mR h l0 1).getD 0) (Int32.toNatClampNeg l4))))
def f139_45 (h : mH) (l0 : Nat) (l1 : Nat) (l2 : Int32) (l3 : Int32) (l4 : Int32) : Option ((Int32 × Int32) ⊕ (Int32)) :=
mGd (Nat.beq (mK h l1).1 2 && true) (
    f139_49 h l0 l1 l2 l3 l4 (mI h l1 6))
def f139_5 (h : mH) (l0 : Nat) (l1 : Nat) (l2 : Int32) (s : (Int32 × Int32)) : Option ((Int32 × Int32) ⊕ (Int32)) :=
if (l2 : Int32) ≤ s.2 then
    mX (f139_101 h s.1)
  else 
    if (4 : Int32) ≤ s.2 then
      mX (f139_101 h s.1)
    else 
      if (l2 : Int32) ≤ (s.2 + 1) then
        f139_45 h l0 l1 l2 s.1 s.2
      else 
        if (4 : Int32) ≤ (s.2 + 1) then
          f139_45 h l0 l1 l2 s.1 s.2
        else 
          mGd ((Nat.beq (mK h l0).1 10 && (mR h l0 1).isSome) && ((Nat.beq (mK h ((mR h l0 1).getD 0)).1 100 && mIn (s.2 + 1) (mK h ((mR h l0 1).getD 0)).2) && true)) (
            f139_49 h l0 l1 l2 s.1 s.2 (mI h ((mR h l0 1).getD 0) (Int32.toNatClampNeg (s.2 + 1))))
def f139 (h : mH) (l0 : Nat) (l1 : Nat) (l2 : Int32) : Option (Int32) :=
mLoop (f139_5 h l0 l1 l2) mFuel (0, 0)
def f140_76 (h : mH) : Option (Int32 × mH) :=
mGd (true && mIs01 1) (some (1, h))
def f140_49 (l0 : Nat) (l2 : Int32) (l4 : Int32) (s : (Int32 × mH)) : Option ((Int32 × mH) ⊕ (Int32 × mH)) :=
if (l2 : Int32) ≤ s.1 then
    mX (f140_76 s.2)
  else 
    if (4 : Int32) ≤ s.1 then
      mX (f140_76 s.2)
    else 
      mGd ((Nat.beq (mK s.2 l0).1 10 && (mR s.2 l0 1).isSome) && ((Nat.beq (mK s.2 ((mR s.2 l0 1).getD 0)).1 100 && mIn s.1 (mK s.2 ((mR s.2 l0 1).getD 0)).2) && true)) (
        some (.inl ((s.1 + 1), (mSI s.2 ((mR s.2 l0 1).getD 0) (Int32.toNatClampNeg s.1) l4))))
def f140_29 (h : mH) (l0 : Nat) (l2 : Int32) (l3 : Int32) : Option (Int32 × mH) :=
if (1 : Int32) ≤ l3 then
    mGd ((Nat.beq (mK h l0).1 10 && (mR h l0 1).isSome) && ((Nat.beq (mK h ((mR h l0 1).getD 0)).1 100 && mIn l3 (mK h ((mR h l0 1).getD 0)).2) && true)) (
      mLoop (f140_49 l0 l2 ((mI h ((mR h l0 1).getD 0) (Int32.toNatClampNeg l3)) + 1)) mFuel (l3, h))
  else 
    mGd (true && mIs01 0) (some (0, h))
def f140_8 (h : mH) (l0 : Nat) (l1 : Int32) (l2 : Int32) (s : (Int32)) : Option ((Int32) ⊕ (Int32 × mH)) :=
if (s : Int32) < 1 then
    mX (f140_29 h l0 l2 s)
  else 
    mGd ((Nat.beq (mK h l0).1 10 && (mR h l0 1).isSome) && ((Nat.beq (mK h ((mR h l0 1).getD 0)).1 100 && mIn s (mK h ((mR h l0 1).getD 0)).2) && true)) (
      if ((mI h ((mR h l0 1).getD 0) (Int32.toNatClampNeg s)) : Int32) = l1 then
      some (.inl ((s + (-1))))
    else 
      mX (f140_29 h l0 l2 s))
def f140 (h : mH) (l0 : Nat) (l1 : Int32) (l2 : Int32) : Option (Int32 × mH) :=
mLoop (f140_8 h l0 l1 l2) mFuel (((if (4 : Int32) < l2 then 4 else l2) - 1))
def f138_82 (h : mH) (l3 : Int32) : Option (Int32 × mH) :=
mGd (true && true) (some (l3, h))
def f138_65 (h : mH) (l0 : Nat) (l1 : Nat) (l2 : Int32) (l3 : Int32) (l5 : Int32) : Option ((Int32 × Int32 × Int32 × mH) ⊕ (Int32 × mH)) :=
mGd ((Nat.beq (mK h l1).1 2 && true) && Nat.beq (mK h l0).1 10) ((f140 h l0 (mI h l1 6) l2).bind (fun r3 =>
    some (.inl (l3, r3.1, (l5 + 1), r3.2))))
def f138_48 (h : mH) (l0 : Nat) (l1 : Nat) (l2 : Int32) (l5 : Int32) (l6 : Int32) : Option ((Int32 × Int32 × Int32 × mH) ⊕ (Int32 × mH)) :=
mGd ((Nat.beq (mK h l0).1 10 && (mR h l0 1).isSome) && ((Nat.beq (mK h l0).1 10 && (mR h l0 0).isSome) && ((Nat.beq (mK h ((mR h l0 1).getD 0)).1 100 && Nat.beq (mK h ((mR h l0 0).getD 0)).1 100 && decide (¬ (0 : Int32) < 0) && decide (¬ (0 : Int32) < 0) && decide (¬ (4 : Int32) < 0) && Nat.ble ((Int32.toNatClampNeg 0) + (Int32.toNatClampNeg 4)) (mK h ((mR h l0 1).getD 0)).2 && Nat.ble ((Int32.toNatClampNeg 0) + (Int32.toNatClampNeg 4)) (mK h ((mR h l0 0).getD 0)).2 && true) && true))) (
    f138_65 (mCp h ((mR h l0 1).getD 0) (Int32.toNatClampNeg 0) ((mR h l0 0).getD 0) (Int32.toNatClampNeg 0) (Int32.toNatClampNeg 4)) l0 l1 l2 l6 l5)
def f138_16 (l0 : Nat) (l1 : Nat) (l2 : Int32) (s : (Int32 × Int32 × Int32 × mH)) : Option ((Int32 × Int32 × Int32 × mH) ⊕ (Int32 × mH)) :=
if (1000 : Int32) ≤ s.2.2.1 then
    mX (f138_82 s.2.2.2 s.1)
  else 
    if (s.2.1 : Int32) = 0 then
      mX (f138_82 s.2.2.2 s.1)
    else 
      mGd (true && Nat.beq (mK s.2.2.2 l0).1 10) ((f139 s.2.2.2 l0 l1 l2).bind (fun r2 =>
        if (s.1 : Int32) = (-1) then
        f138_48 s.2.2.2 l0 l1 l2 s.2.2.1 r2
      else 
        if (s.1 : Int32) ≤ r2 then
          f138_65 s.2.2.2 l0 l1 l2 s.1 s.2.2.1
        else 
          f138_48 s.2.2.2 l0 l1 l2 s.2.2.1 r2))
def f138 (h : mH) (l0 : Nat) (l1 : Nat) (l2 : Int32) : Option (Int32 × mH) :=
mGd (((Nat.beq (mK h l0).1 10 && (mR h l0 1).isSome) && true) && true) ((f4 h ((mR h l0 1).getD 0) 0).bind (fun r1 =>
    mLoop (f138_16 l0 l1 l2) mFuel ((-1), 1, 0, r1.2)))
def f137_24 (h : mH) : Option (Int32 × mH) :=
mGd (true && true) (some ((-1), h))
def f137_70 (h : mH) (q0 : Int32) : Option (Int32 × mH) :=
mGd (true && true) (some (q0, h))
def f137 (h : mH) (l0 : Nat) (l1 : Int32) (l2 : Int32) (l3 : Int32) : Option (Int32 × mH) :=
mGd (((Nat.beq (mK h l0).1 0 && (mR h l0 0).isSome) && true) && Nat.beq (mK h ((mR h l0 0).getD 0)).1 1) ((f53 h ((mR h l0 0).getD 0) l1).bind (fun r1 =>
    match r1 with
  | none =>
    f137_24 h
  | some a1 =>
    mGd (true && true) ((f17 h l2 1 4).bind (fun r2 =>
      if (r2 : Int32) = 0 then
      f137_24 h
    else 
      mGd (((Nat.beq (mK h l0).1 0 && (mR h l0 7).isSome) && true) && Nat.beq (mK h ((mR h l0 7).getD 0)).1 10) ((f138 h ((mR h l0 7).getD 0) a1 l2).bind (fun r3 =>
        if (l3 : Int32) = (-1) then
        mGd (true && true) (some (r3.1, r3.2))
      else 
        mGd (true && true) ((f17 r3.2 l3 0 (l2 - 1)).bind (fun r4 =>
          if (r4 : Int32) = 0 then
          f137_70 r3.2 (-1)
        else 
          mGd ((Nat.beq (mK r3.2 l0).1 0 && (mR r3.2 l0 7).isSome) && ((Nat.beq (mK r3.2 ((mR r3.2 l0 7).getD 0)).1 10 && (mR r3.2 ((mR r3.2 l0 7).getD 0) 0).isSome) && ((Nat.beq (mK r3.2 ((mR r3.2 ((mR r3.2 l0 7).getD 0) 0).getD 0)).1 100 && mIn l3 (mK r3.2 ((mR r3.2 ((mR r3.2 l0 7).getD 0) 0).getD 0)).2) && true))) (
            f137_70 r3.2 (mI r3.2 ((mR r3.2 ((mR r3.2 l0 7).getD 0) 0).getD 0) (Int32.toNatClampNeg l3)))))))))))
def f142_79 (h : mH) (l4 : Int32) : Option (Int32 × mH) :=
mGd (true && true) (some (l4, h))
def f142_66 (h : mH) (l0 : Nat) (l1 : Nat) (l2 : Int32) (l3 : Int32) (l4 : Int32) (l6 : Int32) : Option ((Int32 × Int32 × Int32 × mH) ⊕ (Int32 × mH)) :=
mGd (true && Nat.beq (mK h l0).1 8) ((f91 h l0 l3).bind (fun r3 =>
    some (.inl (l4, r3.1, (l6 + 1), r3.2))))
def f142_17 (l0 : Nat) (l1 : Nat) (l2 : Int32) (l3 : Int32) (s : (Int32 × Int32 × Int32 × mH)) : Option ((Int32 × Int32 × Int32 × mH) ⊕ (Int32 × mH)) :=
if (1000 : Int32) ≤ s.2.2.1 then
    mX (f142_79 s.2.2.2 s.1)
  else 
    if (s.2.1 : Int32) = 0 then
      mX (f142_79 s.2.2.2 s.1)
    else 
      mGd (true && Nat.beq (mK s.2.2.2 l0).1 8) ((f84 s.2.2.2 l0 l1 l2 l3).bind (fun r2 =>
        mGd (Nat.beq (mK r2.2 l0).1 8 && true) (
        if ((mI r2.2 l0 3) : Int32) ≤ s.1 then
        f142_66 r2.2 l0 l1 l2 l3 s.1 s.2.2.1
      else 
        mGd (Nat.beq (mK r2.2 l0).1 8 && ((Nat.beq (mK r2.2 l0).1 8 && (mR r2.2 l0 1).isSome) && ((Nat.beq (mK r2.2 l0).1 8 && (mR r2.2 l0 2).isSome) && ((Nat.beq (mK r2.2 ((mR r2.2 l0 1).getD 0)).1 100 && Nat.beq (mK r2.2 ((mR r2.2 l0 2).getD 0)).1 100 && decide (¬ (0 : Int32) < 0) && decide (¬ (0 : Int32) < 0) && decide (¬ (4 : Int32) < 0) && Nat.ble ((Int32.toNatClampNeg 0) + (Int32.toNatClampNeg 4)) (mK r2.2 ((mR r2.2 l0 1).getD 0)).2 && Nat.ble ((Int32.toNatClampNeg 0) + (Int32.toNatClampNeg 4)) (mK r2.2 ((mR r2.2 l0 2).getD 0)).2 && true) && true)))) (
          f142_66 (mCp r2.2 ((mR r2.2 l0 1).getD 0) (Int32.toNatClampNeg 0) ((mR r2.2 l0 2).getD 0) (Int32.toNatClampNeg 0) (Int32.toNatClampNeg 4)) l0 l1 l2 l3 (mI r2.2 l0 3) s.2.2.1))))
def f142 (h : mH) (l0 : Nat) (l1 : Nat) (l2 : Int32) (l3 : Int32) : Option (Int32 × mH) :=
mGd (((Nat.beq (mK h l0).1 8 && (mR h l0 1).isSome) && true) && true) ((f4 h ((mR h l0 1).getD 0) 0).bind (fun r1 =>
    mLoop (f142_17 l0 l1 l2 l3) mFuel ((-1), 1, 0, r1.2)))
def f141_34 (h : mH) : Option (Int32 × mH) :=
mGd (true && true) (some ((-1), h))
def f141_84 (h : mH) (q0 : Int32) : Option (Int32 × mH) :=
mGd (true && true) (some (q0, h))
def f141 (h : mH) (l0 : Nat) (l1 : Int32) (l2 : Int32) (l3 : Int32) (l4 : Int32) : Option (Int32 × mH) :=
mGd (((Nat.beq (mK h l0).1 0 && (mR h l0 0).isSome) && true) && Nat.beq (mK h ((mR h l0 0).getD 0)).1 1) ((f53 h ((mR h l0 0).getD 0) l1).bind (fun r1 =>
    match r1 with
  | none =>
    f141_34 h
  | some a1 =>
    mGd (true && true) ((f17 h l2 0 20).bind (fun r2 =>
      if (r2 : Int32) = 0 then
      f141_34 h
    else 
      mGd (true && true) ((f17 h l3 0 3).bind (fun r3 =>
        if (r3 : Int32) = 0 then
        f141_34 h
      else 
        mGd (((Nat.beq (mK h l0).1 0 && (mR h l0 5).isSome) && true) && Nat.beq (mK h ((mR h l0 5).getD 0)).1 8) ((f142 h ((mR h l0 5).getD 0) a1 l2 l3).bind (fun r4 =>
          if (l4 : Int32) = (-1) then
          mGd (true && true) (some (r4.1, r4.2))
        else 
          mGd (true && true) ((f17 r4.2 l4 0 (l3 - 1)).bind (fun r5 =>
            if (r5 : Int32) = 0 then
            f141_84 r4.2 (-1)
          else 
            mGd ((Nat.beq (mK r4.2 l0).1 0 && (mR r4.2 l0 5).isSome) && ((Nat.beq (mK r4.2 ((mR r4.2 l0 5).getD 0)).1 8 && (mR r4.2 ((mR r4.2 l0 5).getD 0) 2).isSome) && ((Nat.beq (mK r4.2 ((mR r4.2 ((mR r4.2 l0 5).getD 0) 2).getD 0)).1 100 && mIn l4 (mK r4.2 ((mR r4.2 ((mR r4.2 l0 5).getD 0) 2).getD 0)).2) && true))) (
              f141_84 r4.2 (mI r4.2 ((mR r4.2 ((mR r4.2 l0 5).getD 0) 2).getD 0) (Int32.toNatClampNeg l4)))))))))))))
def f144 (h : mH) (l0 : Nat) (l1 : Nat) (l2 : Int32) (l3 : Int32) : Option (Int32 × mH) :=
mGd (true && Nat.beq (mK h l0).1 8) ((f84 h l0 l1 l3 0).bind (fun r1 =>
    mGd (Nat.beq (mK r1.2 l0).1 8 && ((Nat.beq (mK r1.2 l0).1 8 && (mR r1.2 l0 1).isSome) && ((Nat.beq (mK r1.2 ((mR r1.2 l0 1).getD 0)).1 100 && mIn 0 (mK r1.2 ((mR r1.2 l0 1).getD 0)).2) && true))) (
    mGd (true && Nat.beq (mK r1.2 l0).1 8) ((f84 (mSI r1.2 ((mR r1.2 l0 1).getD 0) (Int32.toNatClampNeg 0) l2) l0 l1 l3 1).bind (fun r2 =>
    mGd ((Nat.beq (mK r2.2 l0).1 8 && true) && true) (some (((mI r2.2 l0 3) - (mI r1.2 l0 3)), r2.2)))))))
def f143_34 (h : mH) : Option (Int32 × mH) :=
mGd (true && true) (some ((-99), h))
def f143 (h : mH) (l0 : Nat) (l1 : Int32) (l2 : Int32) (l3 : Int32) : Option (Int32 × mH) :=
mGd (((Nat.beq (mK h l0).1 0 && (mR h l0 0).isSome) && true) && Nat.beq (mK h ((mR h l0 0).getD 0)).1 1) ((f53 h ((mR h l0 0).getD 0) l1).bind (fun r1 =>
    match r1 with
  | none =>
    f143_34 h
  | some a1 =>
    mGd (true && true) ((f17 h l2 0 5).bind (fun r2 =>
      if (r2 : Int32) = 0 then
      f143_34 h
    else 
      mGd (true && true) ((f17 h l3 0 20).bind (fun r3 =>
        if (r3 : Int32) = 0 then
        f143_34 h
      else 
        mGd (((Nat.beq (mK h l0).1 0 && (mR h l0 5).isSome) && true) && Nat.beq (mK h ((mR h l0 5).getD 0)).1 8) ((f144 h ((mR h l0 5).getD 0) a1 l2 l3).bind (fun r4 =>
          mGd (true && true) (some (r4.1, r4.2))))))))))
def f147_87 (h : mH) : Option (Unit × mH) :=
mGd (true && true) (some ((), h))
def f147_81 (h : mH) (l0 : Nat) (l1 : Nat) (l2 : Int32) (l3 : Int32) : Option ((Int32 × Int32 × mH) ⊕ (Unit × mH)) :=
some (.inl (l2, (l3 + 1), h))
def f147_49 (h : mH) (l0 : Nat) (l1 : Nat) (l2 : Int32) (l3 : Int32) (q0 : Int32) : Option ((Int32 × Int32 × mH) ⊕ (Unit × mH)) :=
if (q0 : Int32) = 0 then
    f147_81 h l0 l1 l2 l3
  else 
    mGd ((Nat.beq (mK h l0).1 9 && (mR h l0 6).isSome) && ((Nat.beq (mK h ((mR h l0 6).getD 0)).1 100 && mIn l3 (mK h ((mR h l0 6).getD 0)).2) && (Nat.beq (mK h l0).1 9 && true))) (
      if ((mI h ((mR h l0 6).getD 0) (Int32.toNatClampNeg l3)) : Int32) = ((mI h l0 1) - l2) then
      mGd ((Nat.beq (mK h l0).1 9 && (mR h l0 0).isSome) && ((Nat.beq (mK h ((mR h l0 0).getD 0)).1 100 && mIn l2 (mK h ((mR h l0 0).getD 0)).2) && true)) (
        f147_81 (mSI h ((mR h l0 0).getD 0) (Int32.toNatClampNeg l2) l3) l0 l1 (l2 + 1) l3)
    else 
      f147_81 h l0 l1 l2 l3)
def f147_44 (h : mH) (l0 : Nat) (l1 : Nat) (l2 : Int32) (l3 : Int32) : Option ((Int32 × Int32 × mH) ⊕ (Unit × mH)) :=
f147_49 h l0 l1 l2 l3 1
def f147_4 (l0 : Nat) (l1 : Nat) (s : (Int32 × Int32 × mH)) : Option ((Int32 × Int32 × mH) ⊕ (Unit × mH)) :=
mGd (Nat.beq (mK s.2.2 l1).1 2 && true) (
    if ((mI s.2.2 l1 6) : Int32) ≤ s.2.1 then
    mX (f147_87 s.2.2)
  else 
    mGd (Nat.beq (mK s.2.2 l0).1 9 && true) (
      if ((mI s.2.2 l0 1) : Int32) ≤ s.1 then
      mX (f147_87 s.2.2)
    else 
      if (s.1 : Int32) = 0 then
        f147_44 s.2.2 l0 l1 s.1 s.2.1
      else 
        mGd (((Nat.beq (mK s.2.2 l1).1 2 && (mR s.2.2 l1 2).isSome) && ((Nat.beq (mK s.2.2 ((mR s.2.2 l1 2).getD 0)).1 100 && mIn s.2.1 (mK s.2.2 ((mR s.2.2 l1 2).getD 0)).2) && ((Nat.beq (mK s.2.2 l0).1 9 && (mR s.2.2 l0 0).isSome) && ((Nat.beq (mK s.2.2 ((mR s.2.2 l0 0).getD 0)).1 100 && mIn (s.1 - 1) (mK s.2.2 ((mR s.2.2 l0 0).getD 0)).2) && true)))) && true) ((f71 s.2.2 (mI s.2.2 ((mR s.2.2 l1 2).getD 0) (Int32.toNatClampNeg s.2.1)) (mI s.2.2 ((mR s.2.2 l0 0).getD 0) (Int32.toNatClampNeg (s.1 - 1)))).bind (fun r1 =>
          if (r1 : Int32) = 0 then
          f147_49 s.2.2 l0 l1 s.1 s.2.1 0
        else 
          f147_44 s.2.2 l0 l1 s.1 s.2.1))))
def f147 (h : mH) (l0 : Nat) (l1 : Nat) : Option (Unit × mH) :=
mLoop (f147_4 l0 l1) mFuel (0, 0, h)
def f146_94 (h : mH) (l0 : Nat) (l1 : Nat) (l2 : Int32) : Option ((Int32 × mH) ⊕ (Unit × mH)) :=
some (.inl ((l2 + (-1)), h))
def f146_71 (h : mH) (l0 : Nat) (l1 : Nat) (l2 : Int32) (l3 : Int32) : Option ((Int32 × mH) ⊕ ((Int32 × mH) ⊕ (Unit × mH))) :=
some (.inl ((l3 + 1), h))
def f146_27 (l0 : Nat) (l1 : Nat) (l2 : Int32) (s : (Int32 × mH)) : Option ((Int32 × mH) ⊕ ((Int32 × mH) ⊕ (Unit × mH))) :=
mGd (Nat.beq (mK s.2 l1).1 2 && true) (
    if ((mI s.2 l1 6) : Int32) ≤ s.1 then
    mX (
mGd (Nat.beq (mK s.2 l0).1 9 && ((Nat.beq (mK s.2 l0).1 9 && (mR s.2 l0 6).isSome) && ((Nat.beq (mK s.2 ((mR s.2 l0 6).getD 0)).1 100 && mIn l2 (mK s.2 ((mR s.2 l0 6).getD 0)).2) && (Nat.beq (mK s.2 l0).1 9 && true)))) (
      f146_94 (mSI s.2 l0 1 (if ((mI s.2 l0 1) : Int32) < (mI s.2 ((mR s.2 l0 6).getD 0) (Int32.toNatClampNeg l2)) then (mI s.2 ((mR s.2 l0 6).getD 0) (Int32.toNatClampNeg l2)) else (mI s.2 l0 1))) l0 l1 l2))
  else 
    mGd (((Nat.beq (mK s.2 l1).1 2 && (mR s.2 l1 2).isSome) && ((Nat.beq (mK s.2 ((mR s.2 l1 2).getD 0)).1 100 && mIn s.1 (mK s.2 ((mR s.2 l1 2).getD 0)).2) && true)) && true) ((f71 s.2 (mI s.2 ((mR s.2 l1 2).getD 0) (Int32.toNatClampNeg s.1)) l2).bind (fun r2 =>
      if (r2 : Int32) = 0 then
      f146_71 s.2 l0 l1 l2 s.1
    else 
      mGd ((Nat.beq (mK s.2 l0).1 9 && (mR s.2 l0 6).isSome) && ((Nat.beq (mK s.2 l0).1 9 && (mR s.2 l0 6).isSome) && ((Nat.beq (mK s.2 ((mR s.2 l0 6).getD 0)).1 100 && mIn l2 (mK s.2 ((mR s.2 l0 6).getD 0)).2) && ((Nat.beq (mK s.2 l0).1 9 && (mR s.2 l0 6).isSome) && ((Nat.beq (mK s.2 ((mR s.2 l0 6).getD 0)).1 100 && mIn s.1 (mK s.2 ((mR s.2 l0 6).getD 0)).2) && ((Nat.beq (mK s.2 ((mR s.2 l0 6).getD 0)).1 100 && mIn l2 (mK s.2 ((mR s.2 l0 6).getD 0)).2) && true)))))) (
        f146_71 (mSI s.2 ((mR s.2 l0 6).getD 0) (Int32.toNatClampNeg l2) (if ((mI s.2 ((mR s.2 l0 6).getD 0) (Int32.toNatClampNeg l2)) : Int32) < ((mI s.2 ((mR s.2 l0 6).getD 0) (Int32.toNatClampNeg s.1)) + 1) then ((mI s.2 ((mR s.2 l0 6).getD 0) (Int32.toNatClampNeg s.1)) + 1) else (mI s.2 ((mR s.2 l0 6).getD 0) (Int32.toNatClampNeg l2)))) l0 l1 l2 s.1))))
def f146_12 (l0 : Nat) (l1 : Nat) (s : (Int32 × mH)) : Option ((Int32 × mH) ⊕ (Unit × mH)) :=
if (s.1 : Int32) < 0 then
    mX (
mGd (true && Nat.beq (mK s.2 l0).1 9) ((f147 s.2 l0 l1).bind (fun r1 =>
      mGd (true && true) (some ((), r1.2)))))
  else 
    mGd ((Nat.beq (mK s.2 l0).1 9 && (mR s.2 l0 6).isSome) && ((Nat.beq (mK s.2 ((mR s.2 l0 6).getD 0)).1 100 && mIn s.1 (mK s.2 ((mR s.2 l0 6).getD 0)).2) && true)) (
      mLoop (f146_27 l0 l1 s.1) mFuel ((s.1 + 1), (mSI s.2 ((mR s.2 l0 6).getD 0) (Int32.toNatClampNeg s.1) 1)))
def f146 (h : mH) (l0 : Nat) (l1 : Nat) : Option (Unit × mH) :=
mGd (Nat.beq (mK h l0).1 9 && true) (
    mGd (Nat.beq (mK h l1).1 2 && true) (
    mLoop (f146_12 l0 l1) mFuel (((mI (mSI h l0 1 0) l1 6) - 1), (mSI h l0 1 0))))
def f145 (h : mH) (l0 : Nat) (l1 : Int32) (l2 : Int32) : Option (Int32 × mH) :=
mGd (((Nat.beq (mK h l0).1 0 && (mR h l0 0).isSome) && true) && Nat.beq (mK h ((mR h l0 0).getD 0)).1 1) ((f53 h ((mR h l0 0).getD 0) l1).bind (fun r1 =>
    match r1 with
  | none =>
    mGd (true && true) (some ((-1), h))
  | some a1 =>
    mGd (((Nat.beq (mK h l0).1 0 && (mR h l0 6).isSome) && true) && Nat.beq (mK h ((mR h l0 6).getD 0)).1 9) ((f146 h ((mR h l0 6).getD 0) a1).bind (fun r2 =>
      mGd (((Nat.beq (mK r2.2 l0).1 0 && (mR r2.2 l0 6).isSome) && ((Nat.beq (mK r2.2 ((mR r2.2 l0 6).getD 0)).1 9 && (mR r2.2 ((mR r2.2 l0 6).getD 0) 0).isSome) && ((Nat.beq (mK r2.2 l0).1 0 && (mR r2.2 l0 6).isSome) && (Nat.beq (mK r2.2 ((mR r2.2 l0 6).getD 0)).1 9 && true)))) && true) ((f88 r2.2 ((mR r2.2 ((mR r2.2 l0 6).getD 0) 0).getD 0) (mI r2.2 ((mR r2.2 l0 6).getD 0) 1) l2).bind (fun r3 =>
      mGd (true && true) (some (r3, r2.2))))))))
def f148_23 (h : mH) : Option (Int32 × mH) :=
mGd (true && true) (some ((-1), h))
def f148_66 (h : mH) (l0 : Nat) (l2 : Int32) (l3 : Nat) (l4 : Int32) : Option ((Int32 × mH) ⊕ (Int32 × mH)) :=
some (.inl ((l4 + 1), h))
def f148_28 (l0 : Nat) (l2 : Int32) (l3 : Nat) (s : (Int32 × mH)) : Option ((Int32 × mH) ⊕ (Int32 × mH)) :=
if (12 : Int32) < s.1 then
    mX (mGd (true && true) (some ((-1), s.2)))
  else 
    mGd (((Nat.beq (mK s.2 l0).1 0 && (mR s.2 l0 6).isSome) && true) && Nat.beq (mK s.2 l3).1 2) ((f94 s.2 l3).bind (fun r3 =>
      mGd (true && Nat.beq (mK s.2 ((mR s.2 l0 6).getD 0)).1 9) ((f131 s.2 ((mR s.2 l0 6).getD 0) l3 r3 s.1).bind (fun r4 =>
      if (r4.1 : Int32) = (-1) then
      f148_66 r4.2 l0 l2 l3 s.1
    else 
      if (l2 : Int32) < r4.1 then
        f148_66 r4.2 l0 l2 l3 s.1
      else 
        mX (mGd (true && true) (some (s.1, r4.2)))))))
def f148 (h : mH) (l0 : Nat) (l1 : Int32) (l2 : Int32) : Option (Int32 × mH) :=
mGd (((Nat.beq (mK h l0).1 0 && (mR h l0 0).isSome) && true) && Nat.beq (mK h ((mR h l0 0).getD 0)).1 1) ((f53 h ((mR h l0 0).getD 0) l1).bind (fun r1 =>
    match r1 with
  | none =>
    f148_23 h
  | some a1 =>
    mGd (true && true) ((f17 h l2 1 20).bind (fun r2 =>
      if (r2 : Int32) = 0 then
      f148_23 h
    else 
      mLoop (f148_28 l0 l2 a1) mFuel (1, h)))))
def f150_81 (h : mH) (l0 : Nat) (l1 : Nat) (l2 : Int32) : Option ((Int32 × mH) ⊕ (Unit × mH)) :=
some (.inl ((l2 + 1), h))
def f150_71 (h : mH) (l0 : Nat) (l1 : Nat) (l2 : Int32) (l3 : Int32) : Option ((Int32 × mH) ⊕ (Unit × mH)) :=
mGd (Nat.beq (mK h l0).1 9 && true) (
    mGd (Nat.beq (mK h l0).1 9 && true) (
    f150_81 (mSI (mSI h l0 2 l2) l0 3 l3) l0 l1 l2))
def f150_12 (l0 : Nat) (l1 : Nat) (s : (Int32 × mH)) : Option ((Int32 × mH) ⊕ (Unit × mH)) :=
mGd (Nat.beq (mK s.2 l1).1 2 && true) (
    if ((mI s.2 l1 6) : Int32) ≤ s.1 then
    mX (mGd (true && true) (some ((), s.2)))
  else 
    mGd (true && Nat.beq (mK s.2 l1).1 2) ((f94 s.2 l1).bind (fun r1 =>
      mGd (true && Nat.beq (mK s.2 l1).1 2) ((f130 s.2 l1 s.1).bind (fun r2 =>
      mGd ((Nat.beq (mK s.2 l1).1 2 && true) && Nat.beq (mK s.2 l0).1 9) ((f131 s.2 l0 l1 (r1 &&& (r2 ^^^ (-1))) (mI s.2 l1 8)).bind (fun r3 =>
      mGd (Nat.beq (mK r3.2 l0).1 9 && true) (
      if ((mI r3.2 l0 2) : Int32) = (-1) then
      f150_71 r3.2 l0 l1 s.1 r3.1
    else 
      if (r3.1 : Int32) = (-1) then
        f150_81 r3.2 l0 l1 s.1
      else 
        mGd (Nat.beq (mK r3.2 l0).1 9 && true) (
          if ((mI r3.2 l0 3) : Int32) = (-1) then
          f150_71 r3.2 l0 l1 s.1 r3.1
        else 
          mGd (Nat.beq (mK r3.2 l0).1 9 && true) (
            if ((mI r3.2 l0 3) : Int32) ≤ r3.1 then
            f150_81 r3.2 l0 l1 s.1
          else 
            f150_71 r3.2 l0 l1 s.1 r3.1))))))))))
def f150 (h : mH) (l0 : Nat) (l1 : Nat) : Option (Unit × mH) :=
mGd (Nat.beq (mK h l0).1 9 && true) (
    mGd (Nat.beq (mK h l0).1 9 && true) (
    mLoop (f150_12 l0 l1) mFuel (0, (mSI (mSI h l0 2 (-1)) l0 3 (-1)))))
def f149_45 (h : mH) (q0 : Int32) : Option (Int32 × mH) :=
mGd (true && true) (some (q0, h))
def f149 (h : mH) (l0 : Nat) (l1 : Int32) (l2 : Int32) : Option (Int32 × mH) :=
mGd (((Nat.beq (mK h l0).1 0 && (mR h l0 0).isSome) && true) && Nat.beq (mK h ((mR h l0 0).getD 0)).1 1) ((f53 h ((mR h l0 0).getD 0) l1).bind (fun r1 =>
    match r1 with
  | none =>
    mGd (true && true) (some ((-2), h))
  | some a1 =>
    mGd (((Nat.beq (mK h l0).1 0 && (mR h l0 6).isSome) && true) && Nat.beq (mK h ((mR h l0 6).getD 0)).1 9) ((f150 h ((mR h l0 6).getD 0) a1).bind (fun r2 =>
      if (l2 : Int32) = 0 then
      mGd ((Nat.beq (mK r2.2 l0).1 0 && (mR r2.2 l0 6).isSome) && (Nat.beq (mK r2.2 ((mR r2.2 l0 6).getD 0)).1 9 && true)) (
        f149_45 r2.2 (mI r2.2 ((mR r2.2 l0 6).getD 0) 2))
    else 
      mGd ((Nat.beq (mK r2.2 l0).1 0 && (mR r2.2 l0 6).isSome) && (Nat.beq (mK r2.2 ((mR r2.2 l0 6).getD 0)).1 9 && true)) (
        f149_45 r2.2 (mI r2.2 ((mR r2.2 l0 6).getD 0) 3))))))
def f152_28 (h : mH) (l0 : Nat) (l1 : Int32) (l2 : Int32) (l3 : Int32) : Option ((Int32 × Int32) ⊕ (Int32)) :=
some (.inl (l2, (l3 + 1)))
def f152_4 (h : mH) (l0 : Nat) (l1 : Int32) (s : (Int32 × Int32)) : Option ((Int32 × Int32) ⊕ (Int32)) :=
mGd (Nat.beq (mK h l0).1 2 && true) (
    if ((mI h l0 6) : Int32) ≤ s.2 then
    mX (mGd (true && true) (some (s.1 : Int32)))
  else 
    mGd ((Nat.beq (mK h l0).1 2 && (mR h l0 1).isSome) && ((Nat.beq (mK h ((mR h l0 1).getD 0)).1 100 && mIn s.2 (mK h ((mR h l0 1).getD 0)).2) && true)) (
      if ((mI h ((mR h l0 1).getD 0) (Int32.toNatClampNeg s.2)) : Int32) = l1 then
      f152_28 h l0 l1 (s.1 ||| ((1 : Int32) <<< (s.2 &&& (31 : Int32)))) s.2
    else 
      f152_28 h l0 l1 s.1 s.2))
def f152 (h : mH) (l0 : Nat) (l1 : Int32) : Option (Int32) :=
mLoop (f152_4 h l0 l1) mFuel (0, 0)
def f151_32 (h : mH) : Option (Int64) :=
mGd (true && true) (some ((-1) : Int64))
def f151 (h : mH) (l0 : Nat) (l1 : Int32) (l2 : Int32) (l3 : Int32) : Option (Int64) :=
mGd (((Nat.beq (mK h l0).1 0 && (mR h l0 0).isSome) && true) && Nat.beq (mK h ((mR h l0 0).getD 0)).1 1) ((f53 h ((mR h l0 0).getD 0) l1).bind (fun r1 =>
    match r1 with
  | none =>
    f151_32 h
  | some a1 =>
    mGd (Nat.beq (mK h a1).1 2 && true) (
      if ((mI h a1 6) : Int32) = 0 then
      f151_32 h
    else 
      mGd (true && true) ((f17 h l2 0 5).bind (fun r2 =>
        if (r2 : Int32) = 0 then
        f151_32 h
      else 
        mGd (true && Nat.beq (mK h a1).1 2) ((f152 h a1 l2).bind (fun r3 =>
          mGd (true && Nat.beq (mK h a1).1 2) ((f95 h a1 r3).bind (fun r4 =>
          mGd (true && Nat.beq (mK h a1).1 2) ((f94 h a1).bind (fun r5 =>
          mGd (true && Nat.beq (mK h a1).1 2) ((f95 h a1 r5).bind (fun r6 =>
          mGd (true && true) ((f109 h (Int32.toInt64 r4) (Int32.toInt64 r6) l3).bind (fun r7 =>
          mGd (true && true) (some (r7 : Int64)))))))))))))))))
def f155_26 (h : mH) : Option (Unit × mH) :=
mGd (true && true) (some ((), h))
def f155 (h : mH) (l0 : Nat) (l1 : Nat) (l2 : Int32) : Option (Unit × mH) :=
mGd (true && Nat.beq (mK h l0).1 7) ((f63 h l0 l1).bind (fun r1 =>
    mGd (((Nat.beq (mK r1.2 l0).1 7 && (mR r1.2 l0 3).isSome) && true) && Nat.beq (mK r1.2 ((mR r1.2 l0 3).getD 0)).1 2) ((f57 r1.2 ((mR r1.2 l0 3).getD 0) l2).bind (fun r2 =>
    if (r2 : Int32) = 0 then
    f155_26 r1.2
  else 
    mGd ((Nat.beq (mK r1.2 l0).1 7 && (mR r1.2 l0 2).isSome) && ((Nat.beq (mK r1.2 ((mR r1.2 l0 2).getD 0)).1 100 && mIn (l2 * 8) (mK r1.2 ((mR r1.2 l0 2).getD 0)).2) && true)) (
      f155_26 (mSI r1.2 ((mR r1.2 l0 2).getD 0) (Int32.toNatClampNeg (l2 * 8)) 0))))))
def f154_8 (l0 : Nat) (s : (Int32 × mH)) : Option ((Int32 × mH) ⊕ (Int32 × mH)) :=
if (99 : Int32) < s.1 then
    mX (mGd (true && true) (some ((-1), s.2)))
  else 
    mGd (true && Nat.beq (mK s.2 l0).1 7) ((f77 s.2 l0 0).bind (fun r2 =>
      mGd (true && Nat.beq (mK r2.2 l0).1 7) ((f78 r2.2 l0 0).bind (fun r3 =>
      if (r3 : Int32) = 0 then
      mX (mGd (true && true) (some (s.1, r2.2)))
    else 
      some (.inl ((s.1 + 1), r2.2))))))
def f154 (h : mH) (l0 : Nat) (l1 : Nat) (l2 : Int32) : Option (Int32 × mH) :=
mGd (true && Nat.beq (mK h l0).1 7) ((f155 h l0 l1 l2).bind (fun r1 =>
    mLoop (f154_8 l0) mFuel (1, r1.2)))
def f156_9 (l0 : Nat) (l3 : Int32) (s : (Int32 × mH)) : Option ((Int32 × mH) ⊕ (Int32 × mH)) :=
if (l3 : Int32) ≤ s.1 then
    mX (
mGd (true && Nat.beq (mK s.2 l0).1 7) ((f78 s.2 l0 0).bind (fun r2 =>
      mGd (true && true) (some (r2, s.2)))))
  else 
    mGd (true && Nat.beq (mK s.2 l0).1 7) ((f77 s.2 l0 0).bind (fun r3 =>
      some (.inl ((s.1 + 1), r3.2))))
def f156 (h : mH) (l0 : Nat) (l1 : Nat) (l2 : Int32) (l3 : Int32) : Option (Int32 × mH) :=
mGd (true && Nat.beq (mK h l0).1 7) ((f155 h l0 l1 l2).bind (fun r1 =>
    mLoop (f156_9 l0 l3) mFuel (0, r1.2)))
def f153_24 (h : mH) : Option (Int32 × mH) :=
mGd (true && true) (some ((-2), h))
def f153_69 (h : mH) (q0 : Int32) : Option (Int32 × mH) :=
mGd (true && true) (some (q0, h))
def f153 (h : mH) (l0 : Nat) (l1 : Int32) (l2 : Int32) (l3 : Int32) : Option (Int32 × mH) :=
mGd (((Nat.beq (mK h l0).1 0 && (mR h l0 0).isSome) && true) && Nat.beq (mK h ((mR h l0 0).getD 0)).1 1) ((f53 h ((mR h l0 0).getD 0) l1).bind (fun r1 =>
    match r1 with
  | none =>
    f153_24 h
  | some a1 =>
    mGd (true && Nat.beq (mK h a1).1 2) ((f57 h a1 l2).bind (fun r2 =>
      if (r2 : Int32) = 0 then
      f153_24 h
    else 
      if (l3 : Int32) = (-1) then
        mGd (((Nat.beq (mK h l0).1 0 && (mR h l0 4).isSome) && true) && Nat.beq (mK h ((mR h l0 4).getD 0)).1 7) ((f154 h ((mR h l0 4).getD 0) a1 l2).bind (fun r3 =>
          mGd (true && true) (some (r3.1, r3.2))))
      else 
        mGd (true && true) ((f17 h l3 0 20).bind (fun r4 =>
          if (r4 : Int32) = 0 then
          f153_69 h (-2)
        else 
          mGd (((Nat.beq (mK h l0).1 0 && (mR h l0 4).isSome) && true) && Nat.beq (mK h ((mR h l0 4).getD 0)).1 7) ((f156 h ((mR h l0 4).getD 0) a1 l2 l3).bind (fun r5 =>
            f153_69 r5.2 r5.1))))))))
def f158_5 (h : mH) (l0 : Nat) (l2 : Int32) (s : (Int32 × Int32)) : Option ((Int32 × Int32) ⊕ (Int32)) :=
if (6 : Int32) < s.2 then
    mX (mGd (true && true) (some ((-1) : Int32)))
  else 
    if ((l2 &&& (s.1 ^^^ (-1))) : Int32) = 0 then
      mX (mGd (true && true) (some (s.2 : Int32)))
    else 
      mGd (true && Nat.beq (mK h l0).1 2) ((f98 h l0).bind (fun r1 =>
        mGd (true && Nat.beq (mK h l0).1 2) ((f99 h l0 s.1 1 r1).bind (fun r2 =>
        some (.inl (r2, (s.2 + 1)))))))
def f158 (h : mH) (l0 : Nat) (l1 : Int32) (l2 : Int32) : Option (Int32) :=
mLoop (f158_5 h l0 l2) mFuel (l1, 0)
def f157_33 (h : mH) : Option (Int32) :=
mGd (true && true) (some ((-1) : Int32))
def f157 (h : mH) (l0 : Nat) (l1 : Int32) (l2 : Int32) (l3 : Int32) : Option (Int32) :=
mGd (((Nat.beq (mK h l0).1 0 && (mR h l0 0).isSome) && true) && Nat.beq (mK h ((mR h l0 0).getD 0)).1 1) ((f53 h ((mR h l0 0).getD 0) l1).bind (fun r1 =>
    match r1 with
  | none =>
    f157_33 h
  | some a1 =>
    mGd (true && Nat.beq (mK h a1).1 2) ((f57 h a1 l2).bind (fun r2 =>
      if (r2 : Int32) = 0 then
      f157_33 h
    else 
      mGd (true && Nat.beq (mK h a1).1 2) ((f57 h a1 l3).bind (fun r3 =>
        if (r3 : Int32) = 0 then
        f157_33 h
      else 
        mGd (true && Nat.beq (mK h a1).1 2) ((f158 h a1 ((1 : Int32) <<< (l2 &&& (31 : Int32))) ((1 : Int32) <<< (l3 &&& (31 : Int32)))).bind (fun r4 =>
          mGd (true && true) (some (r4 : Int32))))))))))
def f160_45 (h : mH) (l0 : Nat) (l1 : Int32) (l2 : Int32) (l3 : Int32) : Option ((Int32 × Int32 × Int32) ⊕ (Int32)) :=
some (.inl (l1, l2, (l3 + 1)))
def f160_7 (h : mH) (l0 : Nat) (s : (Int32 × Int32 × Int32)) : Option ((Int32 × Int32 × Int32) ⊕ (Int32)) :=
mGd (Nat.beq (mK h l0).1 2 && true) (
    if ((mI h l0 7) : Int32) ≤ s.2.2 then
    mX (mGd (true && true) (some (s.1 : Int32)))
  else 
    mGd (true && Nat.beq (mK h l0).1 2) ((f98 h l0).bind (fun r1 =>
      mGd (true && Nat.beq (mK h l0).1 2) ((f158 h l0 ((1 : Int32) <<< (s.2.2 &&& (31 : Int32))) r1).bind (fun r2 =>
      if (r2 : Int32) = (-1) then
      f160_45 h l0 s.1 s.2.1 s.2.2
    else 
      if (s.2.1 : Int32) ≤ r2 then
        f160_45 h l0 s.1 s.2.1 s.2.2
      else 
        f160_45 h l0 s.2.2 r2 s.2.2)))))
def f160 (h : mH) (l0 : Nat) : Option (Int32) :=
mLoop (f160_7 h l0) mFuel ((-1), 7, 0)
def f159_31 (h : mH) (l4 : Int32) : Option (Int32) :=
mGd (true && true) (some (l4 : Int32))
def f159 (h : mH) (l0 : Nat) (l1 : Int32) (l2 : Int32) : Option (Int32) :=
mGd (((Nat.beq (mK h l0).1 0 && (mR h l0 0).isSome) && true) && Nat.beq (mK h ((mR h l0 0).getD 0)).1 1) ((f53 h ((mR h l0 0).getD 0) l1).bind (fun r1 =>
    match r1 with
  | none =>
    mGd (true && true) (some ((-1) : Int32))
  | some a1 =>
    mGd (true && Nat.beq (mK h a1).1 2) ((f160 h a1).bind (fun r2 =>
      if (l2 : Int32) = 0 then
      f159_31 h r2
    else 
      if (r2 : Int32) = (-1) then
        f159_31 h r2
      else 
        mGd (true && Nat.beq (mK h a1).1 2) ((f98 h a1).bind (fun r3 =>
          mGd (true && Nat.beq (mK h a1).1 2) ((f158 h a1 ((1 : Int32) <<< (r2 &&& (31 : Int32))) r3).bind (fun r4 =>
          mGd (true && true) (some (r4 : Int32))))))))))
def f163 (h : mH) (l0 : Nat) (l1 : Int32) (l2 : Int32) : Option (Int32) :=
mGd (true && Nat.beq (mK h l0).1 2) ((f98 h l0).bind (fun r1 =>
    mGd (true && Nat.beq (mK h l0).1 2) ((f99 h l0 ((1 : Int32) <<< (l1 &&& (31 : Int32))) 9 (r1 &&& (((1 : Int32) <<< (l2 &&& (31 : Int32))) ^^^ (-1)))).bind (fun r2 =>
    mGd (true && true) ((f66 h r2).bind (fun r3 =>
    mGd (true && true) (some ((r3 - 1) : Int32))))))))
def f162_45 (h : mH) (l0 : Nat) (l1 : Int32) (l2 : Int32) (l3 : Int32) (l4 : Int32) : Option ((Int32 × Int32 × Int32) ⊕ (Int32)) :=
some (.inl (l2, l3, (l4 + 1)))
def f162_8 (h : mH) (l0 : Nat) (l1 : Int32) (s : (Int32 × Int32 × Int32)) : Option ((Int32 × Int32 × Int32) ⊕ (Int32)) :=
mGd (Nat.beq (mK h l0).1 2 && true) (
    if ((mI h l0 7) : Int32) ≤ s.2.2 then
    mX (mGd (true && true) (some (s.1 : Int32)))
  else 
    if (s.2.2 : Int32) = l1 then
      f162_45 h l0 l1 s.1 s.2.1 s.2.2
    else 
      mGd (true && Nat.beq (mK h l0).1 2) ((f163 h l0 l1 s.2.2).bind (fun r1 =>
        if (s.2.1 : Int32) ≤ r1 then
        f162_45 h l0 l1 s.1 s.2.1 s.2.2
      else 
        mGd (true && Nat.beq (mK h l0).1 2) ((f163 h l0 l1 s.2.2).bind (fun r2 =>
          f162_45 h l0 l1 s.2.2 r2 s.2.2)))))
def f162 (h : mH) (l0 : Nat) (l1 : Int32) : Option (Int32) :=
mLoop (f162_8 h l0 l1) mFuel ((-1), 7, 0)
def f161_24 (h : mH) : Option (Int32) :=
mGd (true && true) (some ((-1) : Int32))
def f161_44 (h : mH) (l5 : Int32) : Option (Int32) :=
mGd (true && true) (some (l5 : Int32))
def f161 (h : mH) (l0 : Nat) (l1 : Int32) (l2 : Int32) (l3 : Int32) : Option (Int32) :=
mGd (((Nat.beq (mK h l0).1 0 && (mR h l0 0).isSome) && true) && Nat.beq (mK h ((mR h l0 0).getD 0)).1 1) ((f53 h ((mR h l0 0).getD 0) l1).bind (fun r1 =>
    match r1 with
  | none =>
    f161_24 h
  | some a1 =>
    mGd (true && Nat.beq (mK h a1).1 2) ((f57 h a1 l2).bind (fun r2 =>
      if (r2 : Int32) = 0 then
      f161_24 h
    else 
      mGd (true && Nat.beq (mK h a1).1 2) ((f162 h a1 l2).bind (fun r3 =>
        if (l3 : Int32) = 0 then
        f161_44 h r3
      else 
        if (r3 : Int32) = (-1) then
          f161_44 h r3
        else 
          mGd (true && Nat.beq (mK h a1).1 2) ((f163 h a1 l2 r3).bind (fun r4 =>
            mGd (true && true) (some (r4 : Int32))))))))))
def f164_38 (h : mH) : Option (Int64) :=
mGd (true && true) (some ((-1) : Int64))
def f164 (h : mH) (l0 : Nat) (l1 : Int32) (l2 : Int32) (l3 : Int32) (l4 : Int32) : Option (Int64) :=
mGd (((Nat.beq (mK h l0).1 0 && (mR h l0 0).isSome) && true) && Nat.beq (mK h ((mR h l0 0).getD 0)).1 1) ((f53 h ((mR h l0 0).getD 0) l1).bind (fun r1 =>
    match r1 with
  | none =>
    f164_38 h
  | some a1 =>
    mGd (true && Nat.beq (mK h a1).1 2) ((f94 h a1).bind (fun r2 =>
      mGd (true && true) ((f17 h l2 0 r2).bind (fun r3 =>
      if (r3 : Int32) = 0 then
      f164_38 h
    else 
      mGd (true && true) ((f17 h l3 0 9).bind (fun r4 =>
        if (r4 : Int32) = 0 then
        f164_38 h
      else 
        mGd (true && Nat.beq (mK h a1).1 2) ((f106 h a1 l2).bind (fun r5 =>
          mGd (true && true) ((f109 h (10 * (Int32.toInt64 r5)) (Int32.toInt64 (10 - l3)) l4).bind (fun r6 =>
          mGd (true && true) (some (r6 : Int64))))))))))))))
def f166 (h : mH) (l0 : Nat) (l1 : Int32) : Option (Int32) :=
if (l1 : Int32) = 0 then
    mGd ((Nat.beq (mK h l0).1 7 && true) && true) (some ((mI h l0 8) : Int32))
  else if (l1 : Int32) = 1 then
    mGd ((Nat.beq (mK h l0).1 7 && true) && true) (some ((mI h l0 9) : Int32))
  else if (l1 : Int32) = 2 then
    mGd ((Nat.beq (mK h l0).1 7 && true) && true) (some ((mI h l0 10) : Int32))
  else if (l1 : Int32) = 3 then
    mGd ((Nat.beq (mK h l0).1 7 && true) && true) (some ((mI h l0 12) : Int32))
  else if (l1 : Int32) = 4 then
    mGd ((Nat.beq (mK h l0).1 7 && true) && true) (some ((mI h l0 13) : Int32))
  else 
    mGd (true && true) (some ((-2) : Int32))
def f165_30 (h : mH) : Option (Int32 × mH) :=
mGd (true && true) (some ((-2), h))
def f165 (h : mH) (l0 : Nat) (l1 : Int32) (l2 : Int32) (l3 : Int32) : Option (Int32 × mH) :=
mGd (((Nat.beq (mK h l0).1 0 && (mR h l0 0).isSome) && true) && Nat.beq (mK h ((mR h l0 0).getD 0)).1 1) ((f53 h ((mR h l0 0).getD 0) l1).bind (fun r1 =>
    match r1 with
  | none =>
    mGd (((Nat.beq (mK h l0).1 0 && (mR h l0 0).isSome) && true) && Nat.beq (mK h ((mR h l0 0).getD 0)).1 1) ((f59 h ((mR h l0 0).getD 0) l2).bind (fun r2 =>
      match r2 with
    | none =>
      f165_30 h
    | some a2 =>
      f165_30 h))
  | some a1 =>
    mGd (((Nat.beq (mK h l0).1 0 && (mR h l0 0).isSome) && true) && Nat.beq (mK h ((mR h l0 0).getD 0)).1 1) ((f59 h ((mR h l0 0).getD 0) l2).bind (fun r3 =>
      match r3 with
    | none =>
      f165_30 h
    | some a3 =>
      mGd (((Nat.beq (mK h l0).1 0 && (mR h l0 4).isSome) && (Nat.beq (mK h a3).1 3 && true)) && Nat.beq (mK h ((mR h l0 4).getD 0)).1 7) ((f62 h ((mR h l0 4).getD 0) a1 a3 (mI h a3 3)).bind (fun r4 =>
        mGd (((Nat.beq (mK r4.2 l0).1 0 && (mR r4.2 l0 4).isSome) && true) && Nat.beq (mK r4.2 ((mR r4.2 l0 4).getD 0)).1 7) ((f166 r4.2 ((mR r4.2 l0 4).getD 0) l3).bind (fun r5 =>
        mGd (true && true) (some (r5, r4.2))))))))))
def f167_19 (h : mH) : Option (Int64 × mH) :=
mGd (true && true) (some ((-1), h))
def f167_47 (h : mH) : Option (Int64 × mH) :=
mGd (true && true) (some ((-1), h))
def f167 (h : mH) (l0 : Nat) (l1 : Int32) (l2 : Int32) (l3 : Int32) (l4 : Int32) : Option (Int64 × mH) :=
mGd (true && Nat.beq (mK h l0).1 0) ((f114 h l0 l1 l2).bind (fun r1 =>
    if (r1.1 : Int32) = 0 then
    f167_19 r1.2
  else 
    mGd ((Nat.beq (mK r1.2 l0).1 0 && (mR r1.2 l0 8).isSome) && (Nat.beq (mK r1.2 ((mR r1.2 l0 8).getD 0)).1 11 && true)) (
      if ((mI r1.2 ((mR r1.2 l0 8).getD 0) 1) : Int32) = 0 then
      f167_19 r1.2
    else 
      mGd (((Nat.beq (mK r1.2 l0).1 0 && (mR r1.2 l0 0).isSome) && true) && Nat.beq (mK r1.2 ((mR r1.2 l0 0).getD 0)).1 1) ((f53 r1.2 ((mR r1.2 l0 0).getD 0) l1).bind (fun r2 =>
        match r2 with
      | none =>
        f167_47 r1.2
      | some a2 =>
        mGd (true && Nat.beq (mK r1.2 a2).1 2) ((f57 r1.2 a2 l3).bind (fun r3 =>
          if (r3 : Int32) = 0 then
          f167_47 r1.2
        else 
          mGd (((Nat.beq (mK r1.2 l0).1 0 && (mR r1.2 l0 8).isSome) && true) && Nat.beq (mK r1.2 ((mR r1.2 l0 8).getD 0)).1 11) ((f120 r1.2 ((mR r1.2 l0 8).getD 0) l3).bind (fun r4 =>
            mGd (((Nat.beq (mK r1.2 l0).1 0 && (mR r1.2 l0 8).isSome) && (Nat.beq (mK r1.2 ((mR r1.2 l0 8).getD 0)).1 11 && true)) && true) ((f109 r1.2 (Int32.toInt64 r4) (Int32.toInt64 (mI r1.2 ((mR r1.2 l0 8).getD 0) 1)) l4).bind (fun r5 =>
            mGd (true && true) (some (r5, r1.2)))))))))))))
def f169_4 (h : mH) (l0 : Nat) (s : (Int32 × Int32)) : Option ((Int32 × Int32) ⊕ (Int32)) :=
mGd (Nat.beq (mK h l0).1 11 && true) (
    if ((mI h l0 1) : Int32) ≤ s.2 then
    mX (mGd (true && true) (some (s.1 : Int32)))
  else 
    mGd ((Nat.beq (mK h l0).1 11 && (mR h l0 0).isSome) && ((Nat.beq (mK h ((mR h l0 0).getD 0)).1 100 && mIn s.2 (mK h ((mR h l0 0).getD 0)).2) && (!(10 == (0 : Int32)) && true))) (
      some (.inl ((if (s.1 : Int32) < ((mI h ((mR h l0 0).getD 0) (Int32.toNatClampNeg s.2)) - (mI h ((mR h l0 0).getD 0) (Int32.toNatClampNeg s.2)) / 10 * 10) then ((mI h ((mR h l0 0).getD 0) (Int32.toNatClampNeg s.2)) - (mI h ((mR h l0 0).getD 0) (Int32.toNatClampNeg s.2)) / 10 * 10) else s.1), (s.2 + 1)))))
def f169 (h : mH) (l0 : Nat) : Option (Int32) :=
mLoop (f169_4 h l0) mFuel (0, 0)
def f170_5 (h : mH) (l0 : Nat) (s : (Int32 × Int32)) : Option ((Int32 × Int32) ⊕ (Int32)) :=
mGd (Nat.beq (mK h l0).1 11 && true) (
    if ((mI h l0 1) : Int32) ≤ s.2 then
    mX (mGd (true && true) (some (s.1 : Int32)))
  else 
    mGd ((Nat.beq (mK h l0).1 11 && (mR h l0 0).isSome) && ((Nat.beq (mK h ((mR h l0 0).getD 0)).1 100 && mIn s.2 (mK h ((mR h l0 0).getD 0)).2) && (!(10 == (0 : Int32)) && true))) (
      some (.inl ((if (((mI h ((mR h l0 0).getD 0) (Int32.toNatClampNeg s.2)) - (mI h ((mR h l0 0).getD 0) (Int32.toNatClampNeg s.2)) / 10 * 10) : Int32) < s.1 then ((mI h ((mR h l0 0).getD 0) (Int32.toNatClampNeg s.2)) - (mI h ((mR h l0 0).getD 0) (Int32.toNatClampNeg s.2)) / 10 * 10) else s.1), (s.2 + 1)))))
def f170 (h : mH) (l0 : Nat) : Option (Int32) :=
mLoop (f170_5 h l0) mFuel (9, 0)
def f168_19 (h : mH) : Option (Int32 × mH) :=
mGd (true && true) (some ((-1), h))
def f168_42 (h : mH) (q0 : Int32) : Option (Int32 × mH) :=
mGd (true && true) (some (q0, h))
def f168 (h : mH) (l0 : Nat) (l1 : Int32) (l2 : Int32) (l3 : Int32) : Option (Int32 × mH) :=
mGd (true && Nat.beq (mK h l0).1 0) ((f114 h l0 l1 l2).bind (fun r1 =>
    if (r1.1 : Int32) = 0 then
    f168_19 r1.2
  else 
    mGd ((Nat.beq (mK r1.2 l0).1 0 && (mR r1.2 l0 8).isSome) && (Nat.beq (mK r1.2 ((mR r1.2 l0 8).getD 0)).1 11 && true)) (
      if ((mI r1.2 ((mR r1.2 l0 8).getD 0) 1) : Int32) = 0 then
      f168_19 r1.2
    else 
      if (l3 : Int32) = 0 then
        mGd (((Nat.beq (mK r1.2 l0).1 0 && (mR r1.2 l0 8).isSome) && true) && Nat.beq (mK r1.2 ((mR r1.2 l0 8).getD 0)).1 11) ((f170 r1.2 ((mR r1.2 l0 8).getD 0)).bind (fun r2 =>
          f168_42 r1.2 r2))
      else 
        mGd (((Nat.beq (mK r1.2 l0).1 0 && (mR r1.2 l0 8).isSome) && true) && Nat.beq (mK r1.2 ((mR r1.2 l0 8).getD 0)).1 11) ((f169 r1.2 ((mR r1.2 l0 8).getD 0)).bind (fun r3 =>
          f168_42 r1.2 r3)))))
def f171_23 (h : mH) (q0 : Int32) : Option (Int32) :=
mGd (true && true) (some (q0 : Int32))
def f171 (h : mH) (l0 : Nat) (l1 : Int32) : Option (Int32) :=
mGd (true && true) ((f17 h l1 0 2).bind (fun r1 =>
    if (r1 : Int32) = 0 then
    f171_23 h (-2)
  else 
    mGd ((Nat.beq (mK h l0).1 0 && (mR h l0 0).isSome) && ((Nat.beq (mK h ((mR h l0 0).getD 0)).1 1 && (mR h ((mR h l0 0).getD 0) 1).isSome) && ((Nat.beq (mK h ((mR h ((mR h l0 0).getD 0) 1).getD 0)).1 100 && mIn l1 (mK h ((mR h ((mR h l0 0).getD 0) 1).getD 0)).2) && true))) (
      f171_23 h (mI h ((mR h ((mR h l0 0).getD 0) 1).getD 0) (Int32.toNatClampNeg l1)))))
def f173_112 (h : mH) : Option (Unit × mH) :=
mGd (true && true) (some ((), h))
def f173_32 (l0 : Nat) (l1 : Nat) (s : (Int32 × mH)) : Option ((Int32 × mH) ⊕ (Unit × mH)) :=
if (2 : Int32) ≤ s.1 then
    mX (
mGd (Nat.beq (mK s.2 l1).1 1 && (Nat.beq (mK s.2 l0).1 1 && true)) (
      mGd (Nat.beq (mK s.2 l1).1 1 && (Nat.beq (mK s.2 l0).1 1 && true)) (
      mGd (Nat.beq (mK s.2 l1).1 1 && (Nat.beq (mK s.2 l0).1 1 && true)) (
      f173_112 (mSI (mSI (mSI s.2 l0 5 (mI s.2 l1 5)) l0 6 (mI (mSI s.2 l0 5 (mI s.2 l1 5)) l1 6)) l0 7 (mI (mSI (mSI s.2 l0 5 (mI s.2 l1 5)) l0 6 (mI (mSI s.2 l0 5 (mI s.2 l1 5)) l1 6)) l1 7))))))
  else 
    mGd (((Nat.beq (mK s.2 l0).1 1 && (mR s.2 l0 2).isSome) && ((Nat.beq (mK s.2 ((mR s.2 l0 2).getD 0)).1 202 && mIn s.1 (mK s.2 ((mR s.2 l0 2).getD 0)).2 && (mR s.2 ((mR s.2 l0 2).getD 0) (Int32.toNatClampNeg s.1)).isSome) && ((Nat.beq (mK s.2 l1).1 1 && (mR s.2 l1 2).isSome) && ((Nat.beq (mK s.2 ((mR s.2 l1 2).getD 0)).1 202 && mIn s.1 (mK s.2 ((mR s.2 l1 2).getD 0)).2 && (mR s.2 ((mR s.2 l1 2).getD 0) (Int32.toNatClampNeg s.1)).isSome) && true)))) && Nat.beq (mK s.2 ((mR s.2 ((mR s.2 l0 2).getD 0) (Int32.toNatClampNeg s.1)).getD 0)).1 2) ((f48 s.2 ((mR s.2 ((mR s.2 l0 2).getD 0) (Int32.toNatClampNeg s.1)).getD 0) ((mR s.2 ((mR s.2 l1 2).getD 0) (Int32.toNatClampNeg s.1)).getD 0)).bind (fun r1 =>
      mGd (((Nat.beq (mK r1.2 l0).1 1 && (mR r1.2 l0 3).isSome) && ((Nat.beq (mK r1.2 ((mR r1.2 l0 3).getD 0)).1 203 && mIn s.1 (mK r1.2 ((mR r1.2 l0 3).getD 0)).2 && (mR r1.2 ((mR r1.2 l0 3).getD 0) (Int32.toNatClampNeg s.1)).isSome) && ((Nat.beq (mK r1.2 l1).1 1 && (mR r1.2 l1 3).isSome) && ((Nat.beq (mK r1.2 ((mR r1.2 l1 3).getD 0)).1 203 && mIn s.1 (mK r1.2 ((mR r1.2 l1 3).getD 0)).2 && (mR r1.2 ((mR r1.2 l1 3).getD 0) (Int32.toNatClampNeg s.1)).isSome) && true)))) && Nat.beq (mK r1.2 ((mR r1.2 ((mR r1.2 l0 3).getD 0) (Int32.toNatClampNeg s.1)).getD 0)).1 3) ((f49 r1.2 ((mR r1.2 ((mR r1.2 l0 3).getD 0) (Int32.toNatClampNeg s.1)).getD 0) ((mR r1.2 ((mR r1.2 l1 3).getD 0) (Int32.toNatClampNeg s.1)).getD 0)).bind (fun r2 =>
      mGd (((Nat.beq (mK r2.2 l0).1 1 && (mR r2.2 l0 4).isSome) && ((Nat.beq (mK r2.2 ((mR r2.2 l0 4).getD 0)).1 204 && mIn s.1 (mK r2.2 ((mR r2.2 l0 4).getD 0)).2 && (mR r2.2 ((mR r2.2 l0 4).getD 0) (Int32.toNatClampNeg s.1)).isSome) && ((Nat.beq (mK r2.2 l1).1 1 && (mR r2.2 l1 4).isSome) && ((Nat.beq (mK r2.2 ((mR r2.2 l1 4).getD 0)).1 204 && mIn s.1 (mK r2.2 ((mR r2.2 l1 4).getD 0)).2 && (mR r2.2 ((mR r2.2 l1 4).getD 0) (Int32.toNatClampNeg s.1)).isSome) && true)))) && Nat.beq (mK r2.2 ((mR r2.2 ((mR r2.2 l0 4).getD 0) (Int32.toNatClampNeg s.1)).getD 0)).1 4) ((f50 r2.2 ((mR r2.2 ((mR r2.2 l0 4).getD 0) (Int32.toNatClampNeg s.1)).getD 0) ((mR r2.2 ((mR r2.2 l1 4).getD 0) (Int32.toNatClampNeg s.1)).getD 0)).bind (fun r3 =>
      some (.inl ((s.1 + 1), r3.2))))))))
def f173_30 (h : mH) (l0 : Nat) (l1 : Nat) : Option (Unit × mH) :=
mLoop (f173_32 l0 l1) mFuel (0, h)
def f173 (h : mH) (l0 : Nat) (l1 : Nat) : Option (Unit × mH) :=
mGd ((Nat.beq (mK h l1).1 1 && (mR h l1 0).isSome) && ((Nat.beq (mK h l0).1 1 && (mR h l0 0).isSome) && ((Nat.beq (mK h ((mR h l1 0).getD 0)).1 100 && Nat.beq (mK h ((mR h l0 0).getD 0)).1 100 && decide (¬ (0 : Int32) < 0) && decide (¬ (0 : Int32) < 0) && decide (¬ (600 : Int32) < 0) && Nat.ble ((Int32.toNatClampNeg 0) + (Int32.toNatClampNeg 600)) (mK h ((mR h l1 0).getD 0)).2 && Nat.ble ((Int32.toNatClampNeg 0) + (Int32.toNatClampNeg 600)) (mK h ((mR h l0 0).getD 0)).2 && true) && true))) (
    mGd ((Nat.beq (mK h l1).1 1 && (mR h l1 1).isSome) && ((Nat.beq (mK h l0).1 1 && (mR h l0 1).isSome) && ((Nat.beq (mK h ((mR h l1 1).getD 0)).1 100 && Nat.beq (mK h ((mR h l0 1).getD 0)).1 100 && decide (¬ (0 : Int32) < 0) && decide (¬ (0 : Int32) < 0) && decide (¬ (3 : Int32) < 0) && Nat.ble ((Int32.toNatClampNeg 0) + (Int32.toNatClampNeg 3)) (mK h ((mR h l1 1).getD 0)).2 && Nat.ble ((Int32.toNatClampNeg 0) + (Int32.toNatClampNeg 3)) (mK h ((mR h l0 1).getD 0)).2 && true) && true))) (
    f173_30 (mCp (mCp h ((mR h l1 0).getD 0) (Int32.toNatClampNeg 0) ((mR h l0 0).getD 0) (Int32.toNatClampNeg 0) (Int32.toNatClampNeg 600)) ((mR h l1 1).getD 0) (Int32.toNatClampNeg 0) ((mR h l0 1).getD 0) (Int32.toNatClampNeg 0) (Int32.toNatClampNeg 3)) l0 l1))
def f172 (h : mH) (l0 : Nat) (l1 : Int32) : Option (Int32 × mH) :=
mGd (true && true) ((f17 h l1 0 2).bind (fun r1 =>
    if (r1 : Int32) = 0 then
    mGd (true && mIs01 0) (some (0, h))
  else 
    mGd (((Nat.beq (mK h l0).1 0 && (mR h l0 1).isSome) && ((Nat.beq (mK h ((mR h l0 1).getD 0)).1 201 && mIn l1 (mK h ((mR h l0 1).getD 0)).2 && (mR h ((mR h l0 1).getD 0) (Int32.toNatClampNeg l1)).isSome) && ((Nat.beq (mK h l0).1 0 && (mR h l0 0).isSome) && true))) && Nat.beq (mK h ((mR h ((mR h l0 1).getD 0) (Int32.toNatClampNeg l1)).getD 0)).1 1) ((f173 h ((mR h ((mR h l0 1).getD 0) (Int32.toNatClampNeg l1)).getD 0) ((mR h l0 0).getD 0)).bind (fun r2 =>
      mGd ((Nat.beq (mK r2.2 l0).1 0 && (mR r2.2 l0 2).isSome) && ((Nat.beq (mK r2.2 ((mR r2.2 l0 2).getD 0)).1 102 && mIn l1 (mK r2.2 ((mR r2.2 l0 2).getD 0)).2 && mIs01 1) && true)) (
      mGd (true && mIs01 1) (some (1, (mSI r2.2 ((mR r2.2 l0 2).getD 0) (Int32.toNatClampNeg l1) 1))))))))
def f174_18 (h : mH) : Option (Int32 × mH) :=
mGd (true && mIs01 0) (some (0, h))
def f174 (h : mH) (l0 : Nat) (l1 : Int32) : Option (Int32 × mH) :=
mGd (true && true) ((f17 h l1 0 2).bind (fun r1 =>
    if (r1 : Int32) = 0 then
    f174_18 h
  else 
    mGd ((Nat.beq (mK h l0).1 0 && (mR h l0 2).isSome) && ((Nat.beq (mK h ((mR h l0 2).getD 0)).1 102 && mIn l1 (mK h ((mR h l0 2).getD 0)).2) && true)) (
      if ((mI h ((mR h l0 2).getD 0) (Int32.toNatClampNeg l1)) : Int32) = 0 then
      f174_18 h
    else 
      mGd (((Nat.beq (mK h l0).1 0 && (mR h l0 0).isSome) && ((Nat.beq (mK h l0).1 0 && (mR h l0 1).isSome) && ((Nat.beq (mK h ((mR h l0 1).getD 0)).1 201 && mIn l1 (mK h ((mR h l0 1).getD 0)).2 && (mR h ((mR h l0 1).getD 0) (Int32.toNatClampNeg l1)).isSome) && true))) && Nat.beq (mK h ((mR h l0 0).getD 0)).1 1) ((f173 h ((mR h l0 0).getD 0) ((mR h ((mR h l0 1).getD 0) (Int32.toNatClampNeg l1)).getD 0)).bind (fun r2 =>
        mGd (true && mIs01 1) (some (1, r2.2)))))))
def f177_22 (h : mH) (l0 : Nat) (l1 : Int32) (l2 : Int32) : Option ((Int32 × mH) ⊕ (Unit × mH)) :=
mGd ((Nat.beq (mK h l0).1 12 && (mR h l0 2).isSome) && ((Nat.beq (mK h ((mR h l0 2).getD 0)).1 100 && mIn 0 (mK h ((mR h l0 2).getD 0)).2) && ((Nat.beq (mK h ((mR h l0 2).getD 0)).1 100 && mIn 0 (mK h ((mR h l0 2).getD 0)).2) && true))) (
    some (.inl ((l2 + (-8)), (mSI h ((mR h l0 2).getD 0) (Int32.toNatClampNeg 0) ((mI h ((mR h l0 2).getD 0) (Int32.toNatClampNeg 0)) + 1)))))
def f177_3 (l0 : Nat) (l1 : Int32) (s : (Int32 × mH)) : Option ((Int32 × mH) ⊕ (Unit × mH)) :=
if (s.1 : Int32) < 0 then
    mX (mGd (true && true) (some ((), s.2)))
  else 
    mGd ((Nat.beq (mK s.2 l0).1 12 && (mR s.2 l0 1).isSome) && ((Nat.beq (mK s.2 l0).1 12 && (mR s.2 l0 2).isSome) && ((Nat.beq (mK s.2 ((mR s.2 l0 2).getD 0)).1 100 && mIn 0 (mK s.2 ((mR s.2 l0 2).getD 0)).2) && ((Nat.beq (mK s.2 ((mR s.2 l0 1).getD 0)).1 101 && mIn (mI s.2 ((mR s.2 l0 2).getD 0) (Int32.toNatClampNeg 0)) (mK s.2 ((mR s.2 l0 1).getD 0)).2) && true)))) (
      f177_22 (mSI s.2 ((mR s.2 l0 1).getD 0) (Int32.toNatClampNeg (mI s.2 ((mR s.2 l0 2).getD 0) (Int32.toNatClampNeg 0))) ((Int32.toInt8 ((Int32.toInt8 (l1 >>> (s.1 &&& (31 : Int32)))).toInt32)).toInt32)) l0 l1 s.1)
def f177 (h : mH) (l0 : Nat) (l1 : Int32) : Option (Unit × mH) :=
mLoop (f177_3 l0 l1) mFuel (24, h)
def f176 (h : mH) (l0 : Nat) (l1 : Int32) (l2 : Int32) (l3 : Int32) (l4 : Int32) (l5 : Int32) : Option (Int32 × mH) :=
mGd (Nat.beq (mK h l0).1 12 && true) (
    mGd ((Nat.beq (mK h l0).1 12 && (mR h l0 2).isSome) && ((Nat.beq (mK h ((mR h l0 2).getD 0)).1 100 && mIn 0 (mK h ((mR h l0 2).getD 0)).2) && true)) (
    if (((mI (mSI h l0 0 0) ((mR h l0 2).getD 0) (Int32.toNatClampNeg 0)) + 20) : Int32) ≤ 600 then
    mGd (true && Nat.beq (mK h l0).1 12) ((f177 (mSI h l0 0 0) l0 l1).bind (fun r1 =>
      mGd (true && Nat.beq (mK r1.2 l0).1 12) ((f177 r1.2 l0 l2).bind (fun r2 =>
      mGd (true && Nat.beq (mK r2.2 l0).1 12) ((f177 r2.2 l0 l3).bind (fun r3 =>
      mGd (true && Nat.beq (mK r3.2 l0).1 12) ((f177 r3.2 l0 l4).bind (fun r4 =>
      mGd (true && Nat.beq (mK r4.2 l0).1 12) ((f177 r4.2 l0 l5).bind (fun r5 =>
      mGd (((Nat.beq (mK r5.2 l0).1 12 && (mR r5.2 l0 2).isSome) && ((Nat.beq (mK r5.2 ((mR r5.2 l0 2).getD 0)).1 100 && mIn 0 (mK r5.2 ((mR r5.2 l0 2).getD 0)).2) && true)) && true) (some ((mI r5.2 ((mR r5.2 l0 2).getD 0) (Int32.toNatClampNeg 0)), r5.2))))))))))))
  else 
    mGd (true && true) (some ((-1), (mSI h l0 0 0)))))
def f179_15 (h : mH) (q0 : Int32) : Option (Int32) :=
mGd (true && mIs01 q0) (some (q0 : Int32))
def f179_14 (h : mH) : Option (Int32) :=
f179_15 h 0
def f179 (h : mH) (l0 : Int32) (l1 : Int32) (l2 : Int32) : Option (Int32) :=
if (l0 : Int32) < l1 then
    f179_14 h
  else 
    if (l2 : Int32) < l0 then
      f179_14 h
    else 
      f179_15 h 1
def f178 (h : mH) (l0 : Nat) (l1 : Int32) : Option (Int32 × mH) :=
mGd (Nat.beq (mK h l0).1 12 && true) (
    mGd (((Nat.beq (mK h l0).1 12 && (mR h l0 2).isSome) && ((Nat.beq (mK h ((mR h l0 2).getD 0)).1 100 && mIn 0 (mK h ((mR h l0 2).getD 0)).2) && true)) && true) ((f179 (mSI h l0 0 0) l1 0 (mI (mSI h l0 0 0) ((mR h l0 2).getD 0) (Int32.toNatClampNeg 0))).bind (fun r1 =>
    if (r1 : Int32) = 0 then
    mGd (true && true) (some ((-1), (mSI h l0 0 0)))
  else 
    mGd ((Nat.beq (mK h l0).1 12 && (mR h l0 2).isSome) && ((Nat.beq (mK h ((mR h l0 2).getD 0)).1 100 && mIn 0 (mK h ((mR h l0 2).getD 0)).2) && true)) (
      mGd (true && true) (some (l1, (mSI (mSI h l0 0 0) ((mR h l0 2).getD 0) (Int32.toNatClampNeg 0) l1)))))))
def f181 (h : mH) (l0 : Nat) (l1 : Int32) (l2 : Int32) : Option (Int32) :=
mGd (((Nat.beq (mK h l0).1 12 && (mR h l0 5).isSome) && ((Nat.beq (mK h ((mR h l0 5).getD 0)).1 100 && mIn l1 (mK h ((mR h l0 5).getD 0)).2) && true)) && true) ((f179 h l2 0 ((mI h ((mR h l0 5).getD 0) (Int32.toNatClampNeg l1)) - 1)).bind (fun r1 =>
    mGd (true && mIs01 r1) (some (r1 : Int32))))
def f184_28 (h : mH) (q0 : Int32) : Option (Int32) :=
mGd (true && true) (some (q0 : Int32))
def f184 (h : mH) (l0 : Nat) : Option (Int32) :=
mGd (Nat.beq (mK h l0).1 12 && (Nat.beq (mK h l0).1 12 && true)) (
    if ((mI h l0 10) : Int32) ≤ (mI h l0 9) then
    f184_28 h (-1)
  else 
    mGd ((Nat.beq (mK h l0).1 12 && (mR h l0 1).isSome) && (Nat.beq (mK h l0).1 12 && ((Nat.beq (mK h ((mR h l0 1).getD 0)).1 101 && mIn (mI h l0 9) (mK h ((mR h l0 1).getD 0)).2) && true))) (
      f184_28 h ((mI h ((mR h l0 1).getD 0) (Int32.toNatClampNeg (mI h l0 9))) &&& 255)))
def f183_18 (h : mH) (l0 : Nat) : Option ((mH) ⊕ (Unit × mH)) :=
mGd (Nat.beq (mK h l0).1 12 && (Nat.beq (mK h l0).1 12 && true)) (
    some (.inl ((mSI h l0 9 ((mI h l0 9) + 1)))))
def f183_266 (h : mH) : Option (Unit × mH) :=
mGd (true && true) (some ((), h))
def f183_163 (l0 : Nat) (s : (Int32 × mH)) : Option ((Int32 × mH) ⊕ (Unit × mH)) :=
mGd (true && Nat.beq (mK s.2 l0).1 12) ((f184 s.2 l0).bind (fun r6 =>
    mGd (true && true) ((f179 s.2 r6 48 57).bind (fun r7 =>
    if (r7 : Int32) = 0 then
    mX (
if (s.1 : Int32) ≤ 2 then
      mGd (Nat.beq (mK s.2 l0).1 12 && true) (
        f183_266 (mSI s.2 l0 12 3))
    else 
      mGd (Nat.beq (mK s.2 l0).1 12 && true) (
        f183_266 (mSI s.2 l0 12 1)))
  else 
    if (2 : Int32) ≤ s.1 then
      mGd (Nat.beq (mK s.2 l0).1 12 && true) (
        mGd (Nat.beq (mK s.2 l0).1 12 && true) (
        mGd (Nat.beq (mK s.2 l0).1 12 && (Nat.beq (mK s.2 l0).1 12 && true)) (
        some (.inl ((s.1 + 1), (mSI (mSI s.2 l0 13 (mI s.2 l0 13)) l0 9 ((mI (mSI s.2 l0 13 (mI s.2 l0 13)) l0 9) + 1)))))))
    else 
      mGd ((Nat.beq (mK s.2 l0).1 12 && true) && Nat.beq (mK s.2 l0).1 12) ((f184 s.2 l0).bind (fun r8 =>
        mGd (Nat.beq (mK s.2 l0).1 12 && true) (
        mGd (Nat.beq (mK s.2 l0).1 12 && (Nat.beq (mK s.2 l0).1 12 && true)) (
        some (.inl ((s.1 + 1), (mSI (mSI s.2 l0 13 (((10 * (mI s.2 l0 13)) + r8) - 48)) l0 9 ((mI (mSI s.2 l0 13 (((10 * (mI s.2 l0 13)) + r8) - 48)) l0 9) + 1))))))))))))
def f183_74 (l0 : Nat) (s : (Int32 × mH)) : Option ((Int32 × mH) ⊕ (Unit × mH)) :=
mGd (true && Nat.beq (mK s.2 l0).1 12) ((f184 s.2 l0).bind (fun r9 =>
    mGd (true && true) ((f179 s.2 r9 97 122).bind (fun r10 =>
    if (r10 : Int32) = 0 then
    mX (
if (s.1 : Int32) ≤ 8 then
      mGd (Nat.beq (mK s.2 l0).1 12 && true) (
        mGd (Nat.beq (mK s.2 l0).1 12 && true) (
        mGd (Nat.beq (mK s.2 l0).1 12 && true) (
        f183_266 (mSI (mSL s.2 l0 14 (mL s.2 l0 14)) l0 12 2))))
    else 
      mGd (Nat.beq (mK s.2 l0).1 12 && true) (
        mGd (Nat.beq (mK s.2 l0).1 12 && true) (
        f183_266 (mSI (mSL s.2 l0 14 0) l0 12 2))))
  else 
    mGd ((Nat.beq (mK s.2 l0).1 12 && true) && Nat.beq (mK s.2 l0).1 12) ((f184 s.2 l0).bind (fun r11 =>
      mGd (Nat.beq (mK s.2 l0).1 12 && true) (
      mGd (Nat.beq (mK s.2 l0).1 12 && (Nat.beq (mK s.2 l0).1 12 && true)) (
      some (.inl ((s.1 + 1), (mSI (mSL s.2 l0 14 (((mL s.2 l0 14) <<< (Int32.toInt64 8 &&& (63 : Int64))) ||| (Int32.toInt64 r11))) l0 9 ((mI s.2 l0 9) + 1))))))))))))
def f183_0 (l0 : Nat) (s : (mH)) : Option ((mH) ⊕ (Unit × mH)) :=
mGd (true && Nat.beq (mK s l0).1 12) ((f184 s l0).bind (fun r1 =>
    if (r1 : Int32) = 10 then
    f183_18 s l0
  else 
    mGd (true && Nat.beq (mK s l0).1 12) ((f184 s l0).bind (fun r2 =>
      if (r2 : Int32) = 32 then
      f183_18 s l0
    else 
      mX (
mGd (Nat.beq (mK s l0).1 12 && (Nat.beq (mK s l0).1 12 && true)) (
        mGd (true && Nat.beq (mK s l0).1 12) ((f184 (mSI s l0 11 (mI s l0 9)) l0).bind (fun r3 =>
        mGd (Nat.beq (mK s l0).1 12 && true) (
        if (0 : Int32) ≤ r3 then
        mGd (true && true) ((f179 (mSL (mSI s l0 11 (mI s l0 9)) l0 14 0) r3 97 122).bind (fun r4 =>
          if (r4 : Int32) = 0 then
          mGd (true && true) ((f179 (mSL (mSI s l0 11 (mI s l0 9)) l0 14 0) r3 48 57).bind (fun r5 =>
            if (r5 : Int32) = 0 then
            mGd (Nat.beq (mK s l0).1 12 && (Nat.beq (mK s l0).1 12 && true)) (
              if (r3 : Int32) = 59 then
              mGd (Nat.beq (mK s l0).1 12 && true) (
                f183_266 (mSI (mSI (mSL (mSI s l0 11 (mI s l0 9)) l0 14 0) l0 9 ((mI (mSI s l0 11 (mI s l0 9)) l0 9) + 1)) l0 12 4))
            else 
              mGd (Nat.beq (mK s l0).1 12 && true) (
                f183_266 (mSI (mSI (mSL (mSI s l0 11 (mI s l0 9)) l0 14 0) l0 9 ((mI (mSI s l0 11 (mI s l0 9)) l0 9) + 1)) l0 12 1)))
          else 
            mGd (Nat.beq (mK s l0).1 12 && true) (
              mLoop (f183_163 l0) mFuel (0, (mSI (mSL (mSI s l0 11 (mI s l0 9)) l0 14 0) l0 13 0)))))
        else 
          mLoop (f183_74 l0) mFuel (0, (mSL (mSI s l0 11 (mI s l0 9)) l0 14 0))))
      else 
        mGd (Nat.beq (mK s l0).1 12 && true) (
          f183_266 (mSI (mSL (mSI s l0 11 (mI s l0 9)) l0 14 0) l0 12 0)))))))))))
def f183 (h : mH) (l0 : Nat) : Option (Unit × mH) :=
mLoop (f183_0 l0) mFuel (h)
def f188_41 (h : mH) : Option (Unit × mH) :=
mGd (true && true) (some ((), h))
def f188_31 (h : mH) (l0 : Nat) (l1 : Int32) (l2 : Int32) : Option (Unit × mH) :=
mGd (Nat.beq (mK h l0).1 12 && true) (
    mGd (Nat.beq (mK h l0).1 12 && true) (
    f188_41 (mSI (mSI h l0 16 l1) l0 17 l2)))
def f188 (h : mH) (l0 : Nat) (l1 : Int32) (l2 : Int32) : Option (Unit × mH) :=
mGd (Nat.beq (mK h l0).1 12 && true) (
    if ((mI h l0 16) : Int32) = 0 then
    f188_31 h l0 l1 l2
  else 
    mGd (Nat.beq (mK h l0).1 12 && true) (
      if (l2 : Int32) < (mI h l0 17) then
      f188_31 h l0 l1 l2
    else 
      mGd (Nat.beq (mK h l0).1 12 && true) (
        if (l2 : Int32) = (mI h l0 17) then
        mGd (Nat.beq (mK h l0).1 12 && true) (
          if ((mI h l0 16) : Int32) ≤ l1 then
          f188_41 h
        else 
          f188_31 h l0 l1 l2)
      else 
        f188_41 h)))
def f187_16 (h : mH) : Option (Unit × mH) :=
mGd (true && true) (some ((), h))
def f187 (h : mH) (l0 : Nat) (l1 : Int32) (l2 : Int32) (l3 : Int32) : Option (Unit × mH) :=
mGd ((Nat.beq (mK h l0).1 12 && (mR h l0 18).isSome) && ((Nat.beq (mK h ((mR h l0 18).getD 0)).1 100 && mIn l1 (mK h ((mR h l0 18).getD 0)).2) && true)) (
    if ((mI h ((mR h l0 18).getD 0) (Int32.toNatClampNeg l1)) : Int32) = l2 then
    mGd (true && Nat.beq (mK h l0).1 12) ((f188 h l0 3 l3).bind (fun r1 =>
      f187_16 r1.2))
  else 
    f187_16 h)
def f192 (h : mH) (l0 : Nat) : Option (Int32 × mH) :=
mGd (Nat.beq (mK h l0).1 12 && (Nat.beq (mK h l0).1 12 && true)) (
    mGd (true && mIs01 0) (some (0, (mSI h l0 15 (mI h l0 11)))))
def f191_58 (h : mH) (l0 : Nat) : Option (Int32 × mH) :=
mGd (true && Nat.beq (mK h l0).1 12) ((f183 h l0).bind (fun r3 =>
    mGd (true && mIs01 1) (some (1, r3.2))))
def f191_44 (h : mH) (l0 : Nat) : Option (Int32 × mH) :=
mGd ((Nat.beq (mK h l0).1 12 && true) && Nat.beq (mK h l0).1 12) ((f188 h l0 2 (mI h l0 11)).bind (fun r2 =>
    mGd ((Nat.beq (mK r2.2 l0).1 12 && mIs01 0) && true) (
    f191_58 (mSI r2.2 l0 22 0) l0)))
def f191 (h : mH) (l0 : Nat) (l1 : Int32) (l2 : Int32) (l3 : Int32) (l4 : Int32) : Option (Int32 × mH) :=
mGd (Nat.beq (mK h l0).1 12 && true) (
    if ((mI h l0 12) : Int32) = 3 then
    mGd ((Nat.beq (mK h l0).1 12 && (mR h l0 19).isSome) && (Nat.beq (mK h l0).1 12 && ((Nat.beq (mK h ((mR h l0 19).getD 0)).1 100 && mIn l1 (mK h ((mR h l0 19).getD 0)).2) && true))) (
      mGd ((Nat.beq (mK h l0).1 12 && true) && true) ((f179 (mSI h ((mR h l0 19).getD 0) (Int32.toNatClampNeg l1) (mI h l0 13)) (mI (mSI h ((mR h l0 19).getD 0) (Int32.toNatClampNeg l1) (mI h l0 13)) l0 13) l2 l3).bind (fun r1 =>
      if (r1 : Int32) = 0 then
      f191_44 (mSI h ((mR h l0 19).getD 0) (Int32.toNatClampNeg l1) (mI h l0 13)) l0
    else 
      mGd (Nat.beq (mK h l0).1 12 && true) (
        if ((mI (mSI h ((mR h l0 19).getD 0) (Int32.toNatClampNeg l1) (mI h l0 13)) l0 13) : Int32) = l4 then
        f191_44 (mSI h ((mR h l0 19).getD 0) (Int32.toNatClampNeg l1) (mI h l0 13)) l0
      else 
        f191_58 (mSI h ((mR h l0 19).getD 0) (Int32.toNatClampNeg l1) (mI h l0 13)) l0))))
  else 
    mGd (true && Nat.beq (mK h l0).1 12) ((f192 h l0).bind (fun r4 =>
      mGd (true && mIs01 r4.1) (some (r4.1, r4.2)))))
def f190 (h : mH) (l0 : Nat) (l1 : Int32) (l2 : Int32) (l3 : Int32) : Option (Int32 × mH) :=
mGd (true && Nat.beq (mK h l0).1 12) ((f191 h l0 l1 l2 l3 (-1)).bind (fun r1 =>
    mGd (true && mIs01 r1.1) (some (r1.1, r1.2))))
def f189_21 (h : mH) : Option (Int32 × mH) :=
mGd (true && mIs01 0) (some (0, h))
def f189_75 (h : mH) : Option (Int32 × mH) :=
mGd (true && mIs01 1) (some (1, h))
def f189_50 (h : mH) (l0 : Nat) (l1 : Int32) : Option (Int32 × mH) :=
mGd ((Nat.beq (mK h l0).1 12 && (mR h l0 18).isSome) && ((Nat.beq (mK h l0).1 12 && (mR h l0 19).isSome) && ((Nat.beq (mK h ((mR h l0 19).getD 0)).1 100 && mIn 1 (mK h ((mR h l0 19).getD 0)).2) && ((Nat.beq (mK h ((mR h l0 18).getD 0)).1 100 && mIn (11 + l1) (mK h ((mR h l0 18).getD 0)).2) && true)))) (
    mGd ((Nat.beq (mK h l0).1 12 && (mR h l0 18).isSome) && ((Nat.beq (mK h ((mR h l0 18).getD 0)).1 100 && mIn 0 (mK h ((mR h l0 18).getD 0)).2) && ((Nat.beq (mK h ((mR h l0 18).getD 0)).1 100 && mIn 0 (mK h ((mR h l0 18).getD 0)).2) && true))) (
    f189_75 (mSI (mSI h ((mR h l0 18).getD 0) (Int32.toNatClampNeg (11 + l1)) (mI h ((mR h l0 19).getD 0) (Int32.toNatClampNeg 1))) ((mR h l0 18).getD 0) (Int32.toNatClampNeg 0) ((mI (mSI h ((mR h l0 18).getD 0) (Int32.toNatClampNeg (11 + l1)) (mI h ((mR h l0 19).getD 0) (Int32.toNatClampNeg 1))) ((mR h l0 18).getD 0) (Int32.toNatClampNeg 0)) + 1))))
def f189 (h : mH) (l0 : Nat) : Option (Int32 × mH) :=
mGd (true && Nat.beq (mK h l0).1 12) ((f190 h l0 0 1 9).bind (fun r1 =>
    if (r1.1 : Int32) = 0 then
    f189_21 r1.2
  else 
    mGd (true && Nat.beq (mK r1.2 l0).1 12) ((f190 r1.2 l0 1 0 5).bind (fun r2 =>
      if (r2.1 : Int32) = 0 then
      f189_21 r2.2
    else 
      mGd ((Nat.beq (mK r2.2 l0).1 12 && (mR r2.2 l0 18).isSome) && ((Nat.beq (mK r2.2 ((mR r2.2 l0 18).getD 0)).1 100 && mIn 0 (mK r2.2 ((mR r2.2 l0 18).getD 0)).2) && true)) (
        if (8 : Int32) ≤ (mI r2.2 ((mR r2.2 l0 18).getD 0) (Int32.toNatClampNeg 0)) then
        f189_75 r2.2
      else 
        mGd ((Nat.beq (mK r2.2 l0).1 12 && (mR r2.2 l0 18).isSome) && ((Nat.beq (mK r2.2 l0).1 12 && (mR r2.2 l0 19).isSome) && ((Nat.beq (mK r2.2 ((mR r2.2 l0 19).getD 0)).1 100 && mIn 0 (mK r2.2 ((mR r2.2 l0 19).getD 0)).2) && ((Nat.beq (mK r2.2 ((mR r2.2 l0 18).getD 0)).1 100 && mIn (3 + (mI r2.2 ((mR r2.2 l0 18).getD 0) (Int32.toNatClampNeg 0))) (mK r2.2 ((mR r2.2 l0 18).getD 0)).2) && true)))) (
          f189_50 (mSI r2.2 ((mR r2.2 l0 18).getD 0) (Int32.toNatClampNeg (3 + (mI r2.2 ((mR r2.2 l0 18).getD 0) (Int32.toNatClampNeg 0)))) (mI r2.2 ((mR r2.2 l0 19).getD 0) (Int32.toNatClampNeg 0))) l0 (mI r2.2 ((mR r2.2 l0 18).getD 0) (Int32.toNatClampNeg 0))))))))
def f193_51 (h : mH) : Option (Int32 × mH) :=
mGd (true && mIs01 1) (some (1, h))
def f193_41 (h : mH) (l0 : Nat) : Option (Int32 × mH) :=
mGd ((Nat.beq (mK h l0).1 12 && (mR h l0 18).isSome) && ((Nat.beq (mK h ((mR h l0 18).getD 0)).1 100 && mIn 1 (mK h ((mR h l0 18).getD 0)).2) && ((Nat.beq (mK h ((mR h l0 18).getD 0)).1 100 && mIn 1 (mK h ((mR h l0 18).getD 0)).2) && true))) (
    f193_51 (mSI h ((mR h l0 18).getD 0) (Int32.toNatClampNeg 1) ((mI h ((mR h l0 18).getD 0) (Int32.toNatClampNeg 1)) + 1)))
def f193 (h : mH) (l0 : Nat) : Option (Int32 × mH) :=
mGd (true && Nat.beq (mK h l0).1 12) ((f190 h l0 0 1 9).bind (fun r1 =>
    if (r1.1 : Int32) = 0 then
    mGd (true && mIs01 0) (some (0, r1.2))
  else 
    mGd ((Nat.beq (mK r1.2 l0).1 12 && (mR r1.2 l0 18).isSome) && ((Nat.beq (mK r1.2 ((mR r1.2 l0 18).getD 0)).1 100 && mIn 1 (mK r1.2 ((mR r1.2 l0 18).getD 0)).2) && true)) (
      if (6 : Int32) ≤ (mI r1.2 ((mR r1.2 l0 18).getD 0) (Int32.toNatClampNeg 1)) then
      f193_51 r1.2
    else 
      mGd ((Nat.beq (mK r1.2 l0).1 12 && (mR r1.2 l0 18).isSome) && ((Nat.beq (mK r1.2 l0).1 12 && (mR r1.2 l0 19).isSome) && ((Nat.beq (mK r1.2 ((mR r1.2 l0 19).getD 0)).1 100 && mIn 0 (mK r1.2 ((mR r1.2 l0 19).getD 0)).2) && ((Nat.beq (mK r1.2 ((mR r1.2 l0 18).getD 0)).1 100 && mIn (33 + (mI r1.2 ((mR r1.2 l0 18).getD 0) (Int32.toNatClampNeg 1))) (mK r1.2 ((mR r1.2 l0 18).getD 0)).2) && true)))) (
        f193_41 (mSI r1.2 ((mR r1.2 l0 18).getD 0) (Int32.toNatClampNeg (33 + (mI r1.2 ((mR r1.2 l0 18).getD 0) (Int32.toNatClampNeg 1)))) (mI r1.2 ((mR r1.2 l0 19).getD 0) (Int32.toNatClampNeg 0))) l0))))
def f195_10 (h : mH) (q0 : Int32) : Option (Int32) :=
mGd (true && true) (some (q0 : Int32))
def f195 (h : mH) (l0 : Int32) (l1 : Int32) : Option (Int32) :=
if (l1 : Int32) ≤ l0 then
    f195_10 h l1
  else 
    f195_10 h l0
def f196_10 (h : mH) (q0 : Int32) : Option (Int32) :=
mGd (true && true) (some (q0 : Int32))
def f196 (h : mH) (l0 : Int32) (l1 : Int32) : Option (Int32) :=
if (l0 : Int32) ≤ l1 then
    f196_10 h l1
  else 
    f196_10 h l0
def f194_33 (h : mH) : Option (Int32 × mH) :=
mGd (true && mIs01 0) (some (0, h))
def f194_93 (h : mH) : Option (Int32 × mH) :=
mGd (true && mIs01 1) (some (1, h))
def f194 (h : mH) (l0 : Nat) : Option (Int32 × mH) :=
mGd (true && Nat.beq (mK h l0).1 12) ((f190 h l0 0 0 7).bind (fun r1 =>
    if (r1.1 : Int32) = 0 then
    f194_33 r1.2
  else 
    mGd (((Nat.beq (mK r1.2 l0).1 12 && (mR r1.2 l0 19).isSome) && ((Nat.beq (mK r1.2 ((mR r1.2 l0 19).getD 0)).1 100 && mIn 0 (mK r1.2 ((mR r1.2 l0 19).getD 0)).2) && true)) && true) ((f195 r1.2 8 (mI r1.2 ((mR r1.2 l0 19).getD 0) (Int32.toNatClampNeg 0))).bind (fun r2 =>
      mGd (true && Nat.beq (mK r1.2 l0).1 12) ((f190 r1.2 l0 1 0 (r2 - 1)).bind (fun r3 =>
      if (r3.1 : Int32) = 0 then
      f194_33 r3.2
    else 
      mGd ((Nat.beq (mK r3.2 l0).1 12 && ((Nat.beq (mK r3.2 l0).1 12 && (mR r3.2 l0 19).isSome) && ((Nat.beq (mK r3.2 ((mR r3.2 l0 19).getD 0)).1 100 && mIn 0 (mK r3.2 ((mR r3.2 l0 19).getD 0)).2) && ((Nat.beq (mK r3.2 l0).1 12 && (mR r3.2 l0 19).isSome) && ((Nat.beq (mK r3.2 ((mR r3.2 l0 19).getD 0)).1 100 && mIn 1 (mK r3.2 ((mR r3.2 l0 19).getD 0)).2) && true))))) && true) ((f196 r3.2 (mI r3.2 ((mR r3.2 l0 19).getD 0) (Int32.toNatClampNeg 0)) (mI r3.2 ((mR r3.2 l0 19).getD 0) (Int32.toNatClampNeg 1))).bind (fun r4 =>
        mGd (true && true) ((f196 r3.2 (mI r3.2 l0 20) r4).bind (fun r5 =>
        mGd (Nat.beq (mK r3.2 l0).1 12 && true) (
        mGd (Nat.beq (mK r3.2 l0).1 12 && true) (
        if ((mI (mSI r3.2 l0 20 r5) l0 22) : Int32) = 0 then
        f194_93 (mSI r3.2 l0 20 r5)
      else 
        mGd ((Nat.beq (mK r3.2 l0).1 12 && (mR r3.2 l0 18).isSome) && ((Nat.beq (mK r3.2 l0).1 12 && (mR r3.2 l0 19).isSome) && ((Nat.beq (mK r3.2 ((mR r3.2 l0 19).getD 0)).1 100 && mIn 0 (mK r3.2 ((mR r3.2 l0 19).getD 0)).2) && ((Nat.beq (mK r3.2 ((mR r3.2 l0 18).getD 0)).1 100 && mIn (19 + (mI (mSI r3.2 l0 20 r5) ((mR r3.2 l0 19).getD 0) (Int32.toNatClampNeg 0))) (mK r3.2 ((mR r3.2 l0 18).getD 0)).2) && ((Nat.beq (mK r3.2 l0).1 12 && (mR r3.2 l0 19).isSome) && ((Nat.beq (mK r3.2 ((mR r3.2 l0 19).getD 0)).1 100 && mIn 1 (mK r3.2 ((mR r3.2 l0 19).getD 0)).2) && ((Nat.beq (mK r3.2 ((mR r3.2 l0 18).getD 0)).1 100 && mIn (19 + (mI (mSI r3.2 l0 20 r5) ((mR r3.2 l0 19).getD 0) (Int32.toNatClampNeg 0))) (mK r3.2 ((mR r3.2 l0 18).getD 0)).2) && true))))))) (
          f194_93 (mSI (mSI r3.2 l0 20 r5) ((mR r3.2 l0 18).getD 0) (Int32.toNatClampNeg (19 + (mI (mSI r3.2 l0 20 r5) ((mR r3.2 l0 19).getD 0) (Int32.toNatClampNeg 0)))) ((mI (mSI r3.2 l0 20 r5) ((mR r3.2 l0 18).getD 0) (Int32.toNatClampNeg (19 + (mI (mSI r3.2 l0 20 r5) ((mR r3.2 l0 19).getD 0) (Int32.toNatClampNeg 0))))) ||| ((1 : Int32) <<< ((mI (mSI r3.2 l0 20 r5) ((mR r3.2 l0 19).getD 0) (Int32.toNatClampNeg 1)) &&& (31 : Int32))))))))))))))))))
def f197_26 (h : mH) : Option (Int32 × mH) :=
mGd (true && mIs01 0) (some (0, h))
def f197_86 (h : mH) : Option (Int32 × mH) :=
mGd (true && mIs01 1) (some (1, h))
def f197 (h : mH) (l0 : Nat) : Option (Int32 × mH) :=
mGd (true && Nat.beq (mK h l0).1 12) ((f190 h l0 0 0 5).bind (fun r1 =>
    if (r1.1 : Int32) = 0 then
    f197_26 r1.2
  else 
    mGd (((Nat.beq (mK r1.2 l0).1 12 && (mR r1.2 l0 19).isSome) && ((Nat.beq (mK r1.2 ((mR r1.2 l0 19).getD 0)).1 100 && mIn 0 (mK r1.2 ((mR r1.2 l0 19).getD 0)).2) && true)) && Nat.beq (mK r1.2 l0).1 12) ((f191 r1.2 l0 1 0 5 (mI r1.2 ((mR r1.2 l0 19).getD 0) (Int32.toNatClampNeg 0))).bind (fun r2 =>
      if (r2.1 : Int32) = 0 then
      f197_26 r2.2
    else 
      mGd ((Nat.beq (mK r2.2 l0).1 12 && ((Nat.beq (mK r2.2 l0).1 12 && (mR r2.2 l0 19).isSome) && ((Nat.beq (mK r2.2 ((mR r2.2 l0 19).getD 0)).1 100 && mIn 0 (mK r2.2 ((mR r2.2 l0 19).getD 0)).2) && ((Nat.beq (mK r2.2 l0).1 12 && (mR r2.2 l0 19).isSome) && ((Nat.beq (mK r2.2 ((mR r2.2 l0 19).getD 0)).1 100 && mIn 1 (mK r2.2 ((mR r2.2 l0 19).getD 0)).2) && true))))) && true) ((f196 r2.2 (mI r2.2 ((mR r2.2 l0 19).getD 0) (Int32.toNatClampNeg 0)) (mI r2.2 ((mR r2.2 l0 19).getD 0) (Int32.toNatClampNeg 1))).bind (fun r3 =>
        mGd (true && true) ((f196 r2.2 (mI r2.2 l0 21) r3).bind (fun r4 =>
        mGd (Nat.beq (mK r2.2 l0).1 12 && true) (
        mGd (Nat.beq (mK r2.2 l0).1 12 && true) (
        if ((mI (mSI r2.2 l0 21 r4) l0 22) : Int32) = 0 then
        f197_86 (mSI r2.2 l0 21 r4)
      else 
        mGd ((Nat.beq (mK r2.2 l0).1 12 && (mR r2.2 l0 18).isSome) && ((Nat.beq (mK r2.2 l0).1 12 && (mR r2.2 l0 19).isSome) && ((Nat.beq (mK r2.2 ((mR r2.2 l0 19).getD 0)).1 100 && mIn 0 (mK r2.2 ((mR r2.2 l0 19).getD 0)).2) && ((Nat.beq (mK r2.2 ((mR r2.2 l0 18).getD 0)).1 100 && mIn (39 + (mI (mSI r2.2 l0 21 r4) ((mR r2.2 l0 19).getD 0) (Int32.toNatClampNeg 0))) (mK r2.2 ((mR r2.2 l0 18).getD 0)).2) && ((Nat.beq (mK r2.2 l0).1 12 && (mR r2.2 l0 19).isSome) && ((Nat.beq (mK r2.2 ((mR r2.2 l0 19).getD 0)).1 100 && mIn 1 (mK r2.2 ((mR r2.2 l0 19).getD 0)).2) && ((Nat.beq (mK r2.2 ((mR r2.2 l0 18).getD 0)).1 100 && mIn (39 + (mI (mSI r2.2 l0 21 r4) ((mR r2.2 l0 19).getD 0) (Int32.toNatClampNeg 0))) (mK r2.2 ((mR r2.2 l0 18).getD 0)).2) && true))))))) (
          f197_86 (mSI (mSI r2.2 l0 21 r4) ((mR r2.2 l0 18).getD 0) (Int32.toNatClampNeg (39 + (mI (mSI r2.2 l0 21 r4) ((mR r2.2 l0 19).getD 0) (Int32.toNatClampNeg 0)))) ((mI (mSI r2.2 l0 21 r4) ((mR r2.2 l0 18).getD 0) (Int32.toNatClampNeg (39 + (mI (mSI r2.2 l0 21 r4) ((mR r2.2 l0 19).getD 0) (Int32.toNatClampNeg 0))))) ||| ((1 : Int32) <<< ((mI (mSI r2.2 l0 21 r4) ((mR r2.2 l0 19).getD 0) (Int32.toNatClampNeg 1)) &&& (31 : Int32))))))))))))))))
def f198_14 (h : mH) : Option (Int32 × mH) :=
mGd (true && mIs01 1) (some (1, h))
def f198 (h : mH) (l0 : Nat) (l1 : Int32) (l2 : Int32) : Option (Int32 × mH) :=
mGd (Nat.beq (mK h l0).1 12 && true) (
    if ((mI h l0 22) : Int32) = 0 then
    f198_14 h
  else 
    mGd ((Nat.beq (mK h l0).1 12 && (mR h l0 18).isSome) && ((Nat.beq (mK h ((mR h l0 18).getD 0)).1 100 && mIn l1 (mK h ((mR h l0 18).getD 0)).2) && true)) (
      f198_14 (mSI h ((mR h l0 18).getD 0) (Int32.toNatClampNeg l1) l2)))
def f186_72 (h : mH) (q0 : Int32) : Option (Int32 × mH) :=
mGd (true && mIs01 q0) (some (q0, h))
def f186_16 (h : mH) (l0 : Nat) (l1 : Int64) (l3 : Int32) : Option (Int32 × mH) :=
if ((lg_cmp l1 27980790402147698) : Int32) = 0 then
    if ((lg_cmp l1 27980790402147698) : Int32) = 0 then
      mGd (true && Nat.beq (mK h l0).1 12) ((f187 h l0 0 8 l3).bind (fun r1 =>
        mGd (true && Nat.beq (mK r1.2 l0).1 12) ((f183 r1.2 l0).bind (fun r2 =>
        if ((lg_cmp l1 27980790402147698) : Int32) = 0 then
        mGd (true && Nat.beq (mK r2.2 l0).1 12) ((f189 r2.2 l0).bind (fun r3 =>
          f186_72 r3.2 r3.1))
      else 
        mGd (true && Nat.beq (mK r2.2 l0).1 12) ((f193 r2.2 l0).bind (fun r4 =>
          f186_72 r4.2 r4.1))))))
    else 
      mGd (true && Nat.beq (mK h l0).1 12) ((f187 h l0 0 6 l3).bind (fun r5 =>
        mGd (true && Nat.beq (mK r5.2 l0).1 12) ((f183 r5.2 l0).bind (fun r6 =>
        if ((lg_cmp l1 27980790402147698) : Int32) = 0 then
        mGd (true && Nat.beq (mK r6.2 l0).1 12) ((f189 r6.2 l0).bind (fun r7 =>
          f186_72 r7.2 r7.1))
      else 
        mGd (true && Nat.beq (mK r6.2 l0).1 12) ((f193 r6.2 l0).bind (fun r8 =>
          f186_72 r8.2 r8.1))))))
  else 
    if ((lg_cmp l1 27980790402147698) : Int32) = 0 then
      mGd (true && Nat.beq (mK h l0).1 12) ((f187 h l0 1 8 l3).bind (fun r9 =>
        mGd (true && Nat.beq (mK r9.2 l0).1 12) ((f183 r9.2 l0).bind (fun r10 =>
        if ((lg_cmp l1 27980790402147698) : Int32) = 0 then
        mGd (true && Nat.beq (mK r10.2 l0).1 12) ((f189 r10.2 l0).bind (fun r11 =>
          f186_72 r11.2 r11.1))
      else 
        mGd (true && Nat.beq (mK r10.2 l0).1 12) ((f193 r10.2 l0).bind (fun r12 =>
          f186_72 r12.2 r12.1))))))
    else 
      mGd (true && Nat.beq (mK h l0).1 12) ((f187 h l0 1 6 l3).bind (fun r13 =>
        mGd (true && Nat.beq (mK r13.2 l0).1 12) ((f183 r13.2 l0).bind (fun r14 =>
        if ((lg_cmp l1 27980790402147698) : Int32) = 0 then
        mGd (true && Nat.beq (mK r14.2 l0).1 12) ((f189 r14.2 l0).bind (fun r15 =>
          f186_72 r15.2 r15.1))
      else 
        mGd (true && Nat.beq (mK r14.2 l0).1 12) ((f193 r14.2 l0).bind (fun r16 =>
          f186_72 r16.2 r16.1))))))
def f186_178 (h : mH) (q0 : Int32) : Option (Int32 × mH) :=
mGd (true && mIs01 q0) (some (q0, h))
def f186_177 (h : mH) : Option (Int32 × mH) :=
f186_178 h 0
def f186_235 (h : mH) (q0 : Int32) : Option (Int32 × mH) :=
mGd (true && mIs01 q0) (some (q0, h))
def f186_234 (h : mH) : Option (Int32 × mH) :=
f186_235 h 0
def f186_110 (h : mH) (l0 : Nat) (l1 : Int64) : Option (Int32 × mH) :=
mGd (true && Nat.beq (mK h l0).1 12) ((f183 h l0).bind (fun r17 =>
    if ((lg_cmp l1 465557352051) : Int32) = 0 then
    mGd (true && Nat.beq (mK r17.2 l0).1 12) ((f194 r17.2 l0).bind (fun r18 =>
      mGd (true && mIs01 r18.1) (some (r18.1, r18.2))))
  else 
    if ((lg_cmp l1 448377483891) : Int32) = 0 then
      mGd (true && Nat.beq (mK r17.2 l0).1 12) ((f197 r17.2 l0).bind (fun r19 =>
        mGd (true && mIs01 r19.1) (some (r19.1, r19.2))))
    else 
      if ((lg_cmp l1 1818324336) : Int32) = 0 then
        mGd (true && Nat.beq (mK r17.2 l0).1 12) ((f190 r17.2 l0 0 1 12).bind (fun r20 =>
          if (r20.1 : Int32) = 0 then
          f186_177 r20.2
        else 
          mGd (((Nat.beq (mK r20.2 l0).1 12 && (mR r20.2 l0 19).isSome) && ((Nat.beq (mK r20.2 ((mR r20.2 l0 19).getD 0)).1 100 && mIn 0 (mK r20.2 ((mR r20.2 l0 19).getD 0)).2) && true)) && Nat.beq (mK r20.2 l0).1 12) ((f198 r20.2 l0 2 (mI r20.2 ((mR r20.2 l0 19).getD 0) (Int32.toNatClampNeg 0))).bind (fun r21 =>
            if (r21.1 : Int32) = 0 then
            f186_177 r21.2
          else 
            f186_178 r21.2 1))))
      else 
        mGd (true && Nat.beq (mK r17.2 l0).1 12) ((f190 r17.2 l0 0 0 5).bind (fun r22 =>
          if (r22.1 : Int32) = 0 then
          f186_234 r22.2
        else 
          mGd (true && Nat.beq (mK r22.2 l0).1 12) ((f190 r22.2 l0 1 0 9).bind (fun r23 =>
            if (r23.1 : Int32) = 0 then
            f186_234 r23.2
          else 
            mGd (((Nat.beq (mK r23.2 l0).1 12 && (mR r23.2 l0 19).isSome) && ((Nat.beq (mK r23.2 ((mR r23.2 l0 19).getD 0)).1 100 && mIn 0 (mK r23.2 ((mR r23.2 l0 19).getD 0)).2) && true)) && true) ((f195 r23.2 5 (mI r23.2 ((mR r23.2 l0 19).getD 0) (Int32.toNatClampNeg 0))).bind (fun r24 =>
              mGd (true && true) ((f196 r23.2 0 r24).bind (fun r25 =>
              mGd (((Nat.beq (mK r23.2 l0).1 12 && (mR r23.2 l0 19).isSome) && ((Nat.beq (mK r23.2 ((mR r23.2 l0 19).getD 0)).1 100 && mIn 1 (mK r23.2 ((mR r23.2 l0 19).getD 0)).2) && true)) && Nat.beq (mK r23.2 l0).1 12) ((f198 r23.2 l0 (27 + r25) (mI r23.2 ((mR r23.2 l0 19).getD 0) (Int32.toNatClampNeg 1))).bind (fun r26 =>
              if (r26.1 : Int32) = 0 then
              f186_234 r26.2
            else 
              f186_235 r26.2 1))))))))))))
def f186 (h : mH) (l0 : Nat) (l1 : Int64) (l3 : Int32) : Option (Int32 × mH) :=
if ((lg_cmp l1 27980790402147698) : Int32) = 0 then
    f186_16 h l0 l1 l3
  else 
    if ((lg_cmp l1 123581014175598) : Int32) = 0 then
      f186_16 h l0 l1 l3
    else 
      if ((lg_cmp l1 465557352051) : Int32) = 0 then
        f186_110 h l0 l1
      else 
        if ((lg_cmp l1 465625113971) : Int32) = 0 then
          f186_110 h l0 l1
        else 
          if ((lg_cmp l1 1818324336) : Int32) = 0 then
            f186_110 h l0 l1
          else 
            if ((lg_cmp l1 448377483891) : Int32) = 0 then
              f186_110 h l0 l1
            else 
              mGd (true && Nat.beq (mK h l0).1 12) ((f192 h l0).bind (fun r27 =>
                mGd (true && mIs01 r27.1) (some (r27.1, r27.2))))
def f200_16 (l0 : Nat) (l1 : Int32) (l3 : Int32) (s : (Int32 × mH)) : Option ((Int32 × mH) ⊕ (Unit × mH)) :=
if (l1 : Int32) ≤ s.1 then
    mX (
mGd ((Nat.beq (mK s.2 l0).1 12 && (mR s.2 l0 18).isSome) && ((Nat.beq (mK s.2 ((mR s.2 l0 18).getD 0)).1 100 && mIn 0 (mK s.2 ((mR s.2 l0 18).getD 0)).2) && ((Nat.beq (mK s.2 ((mR s.2 l0 18).getD 0)).1 100 && mIn 0 (mK s.2 ((mR s.2 l0 18).getD 0)).2) && true))) (
      mGd (true && true) (some ((), (mSI s.2 ((mR s.2 l0 18).getD 0) (Int32.toNatClampNeg 0) ((mI s.2 ((mR s.2 l0 18).getD 0) (Int32.toNatClampNeg 0)) + 1))))))
  else 
    mGd ((Nat.beq (mK s.2 l0).1 12 && (mR s.2 l0 18).isSome) && ((Nat.beq (mK s.2 l0).1 12 && (mR s.2 l0 19).isSome) && ((Nat.beq (mK s.2 ((mR s.2 l0 19).getD 0)).1 100 && mIn s.1 (mK s.2 ((mR s.2 l0 19).getD 0)).2) && ((Nat.beq (mK s.2 ((mR s.2 l0 18).getD 0)).1 100 && mIn ((1 + (l1 * l3)) + s.1) (mK s.2 ((mR s.2 l0 18).getD 0)).2) && true)))) (
      some (.inl ((s.1 + 1), (mSI s.2 ((mR s.2 l0 18).getD 0) (Int32.toNatClampNeg ((1 + (l1 * l3)) + s.1)) (mI s.2 ((mR s.2 l0 19).getD 0) (Int32.toNatClampNeg s.1))))))
def f200 (h : mH) (l0 : Nat) (l1 : Int32) (l2 : Int32) : Option (Unit × mH) :=
mGd ((Nat.beq (mK h l0).1 12 && (mR h l0 18).isSome) && ((Nat.beq (mK h ((mR h l0 18).getD 0)).1 100 && mIn 0 (mK h ((mR h l0 18).getD 0)).2) && true)) (
    if ((mI h ((mR h l0 18).getD 0) (Int32.toNatClampNeg 0)) : Int32) = l2 then
    mGd (true && true) (some ((), h))
  else 
    mLoop (f200_16 l0 l1 (mI h ((mR h l0 18).getD 0) (Int32.toNatClampNeg 0))) mFuel (0, h))
def f199_182 (h : mH) (l5 : Int32) : Option (Int32 × mH) :=
mGd (true && mIs01 l5) (some (l5, h))
def f199_160 (h : mH) (l0 : Nat) (l4 : Int32) (q0 : Int32) : Option (Int32 × mH) :=
if (q0 : Int32) = 0 then
    f199_182 h q0
  else 
    mGd ((Nat.beq (mK h l0).1 12 && (mR h l0 19).isSome) && ((Nat.beq (mK h ((mR h l0 19).getD 0)).1 100 && mIn 0 (mK h ((mR h l0 19).getD 0)).2) && true)) (
      mGd (true && Nat.beq (mK h l0).1 12) ((f200 (mSI h ((mR h l0 19).getD 0) (Int32.toNatClampNeg 0) l4) l0 3 40).bind (fun r4 =>
      f199_182 r4.2 q0)))
def f199_155 (h : mH) (l0 : Nat) (l4 : Int32) : Option (Int32 × mH) :=
f199_160 h l0 l4 1
def f199_159 (h : mH) (l0 : Nat) (l4 : Int32) : Option (Int32 × mH) :=
f199_160 h l0 l4 0
def f199_73 (h : mH) (l0 : Nat) (l3 : Int32) (q0 : Int32) : Option (Int32 × mH) :=
if (q0 : Int32) = (-1) then
    mGd (true && Nat.beq (mK h l0).1 12) ((f192 h l0).bind (fun r1 =>
      mGd (true && mIs01 r1.1) (some (r1.1, r1.2))))
  else 
    mGd (true && Nat.beq (mK h l0).1 12) ((f187 h l0 0 40 l3).bind (fun r2 =>
      mGd (true && Nat.beq (mK r2.2 l0).1 12) ((f183 r2.2 l0).bind (fun r3 =>
      mGd ((Nat.beq (mK r3.2 l0).1 12 && (mR r3.2 l0 19).isSome) && ((Nat.beq (mK r3.2 ((mR r3.2 l0 19).getD 0)).1 100 && mIn 1 (mK r3.2 ((mR r3.2 l0 19).getD 0)).2) && true)) (
      mGd ((Nat.beq (mK r3.2 l0).1 12 && (mR r3.2 l0 19).isSome) && ((Nat.beq (mK r3.2 ((mR r3.2 l0 19).getD 0)).1 100 && mIn 2 (mK r3.2 ((mR r3.2 l0 19).getD 0)).2) && true)) (
      if (4 : Int32) ≤ q0 then
      f199_155 (mSI (mSI r3.2 ((mR r3.2 l0 19).getD 0) (Int32.toNatClampNeg 1) (-1)) ((mR r3.2 l0 19).getD 0) (Int32.toNatClampNeg 2) (-1)) l0 q0
    else 
      if (q0 : Int32) = 2 then
        mGd (true && Nat.beq (mK r3.2 l0).1 12) ((f190 (mSI (mSI r3.2 ((mR r3.2 l0 19).getD 0) (Int32.toNatClampNeg 1) (-1)) ((mR r3.2 l0 19).getD 0) (Int32.toNatClampNeg 2) (-1)) l0 1 0 5).bind (fun r5 =>
          if (r5.1 : Int32) = 0 then
          f199_159 r5.2 l0 q0
        else 
          if (q0 : Int32) = 3 then
            mGd (true && Nat.beq (mK r5.2 l0).1 12) ((f190 r5.2 l0 2 0 5).bind (fun r6 =>
              if (r6.1 : Int32) = 0 then
              f199_159 r6.2 l0 q0
            else 
              f199_155 r6.2 l0 q0))
          else 
            f199_155 r5.2 l0 q0))
      else 
        mGd (true && Nat.beq (mK r3.2 l0).1 12) ((f190 (mSI (mSI r3.2 ((mR r3.2 l0 19).getD 0) (Int32.toNatClampNeg 1) (-1)) ((mR r3.2 l0 19).getD 0) (Int32.toNatClampNeg 2) (-1)) l0 1 0 7).bind (fun r7 =>
          if (r7.1 : Int32) = 0 then
          f199_159 r7.2 l0 q0
        else 
          if (q0 : Int32) = 3 then
            mGd (true && Nat.beq (mK r7.2 l0).1 12) ((f190 r7.2 l0 2 0 5).bind (fun r8 =>
              if (r8.1 : Int32) = 0 then
              f199_159 r8.2 l0 q0
            else 
              f199_155 r8.2 l0 q0))
          else 
            f199_155 r7.2 l0 q0))))))))
