/-! The methods as programs; printed by a program of ours. -/
def f282_105 (h : mH) (l0 : Nat) (l2 : Int32) (l3 : Int32) (l4 : Int32) (l5 : Int32) (q0 : Nat) (q1 : Int32) (q2 : Int32) : Option ((Int32 × mH) ⊕ ((Int32 × Int32 × mH) ⊕ (Int32 × mH))) :=
mGd ((Nat.beq (mK h q0).1 100 && mIn q1 (mK h q0).2) && true) (
    some (.inl ((l5 + 1), (mSI h q0 (Int32.toNatClampNeg q1) q2))))
def f282_44 (l0 : Nat) (l2 : Int32) (l3 : Int32) (l4 : Int32) (s : (Int32 × mH)) : Option ((Int32 × mH) ⊕ ((Int32 × Int32 × mH) ⊕ (Int32 × mH))) :=
mGd (Nat.beq (mK s.2 l0).1 12 && true) (
    if ((mI s.2 l0 24) : Int32) ≤ s.1 then
    mX (
mGd (((Nat.beq (mK s.2 l0).1 12 && (mR s.2 l0 49).isSome) && ((Nat.beq (mK s.2 ((mR s.2 l0 49).getD 0)).1 100 && mIn l4 (mK s.2 ((mR s.2 l0 49).getD 0)).2) && true)) && true) ((f196 s.2 l3 (mI s.2 ((mR s.2 l0 49).getD 0) (Int32.toNatClampNeg l4))).bind (fun r5 =>
      some (.inl (r5, (l4 + (-1)), s.2)))))
  else 
    mGd (((Nat.beq (mK s.2 l0).1 12 && (mR s.2 l0 49).isSome) && true) && Nat.beq (mK s.2 l0).1 12) ((f206 s.2 l0 (19 + s.1)).bind (fun r6 =>
      mGd (true && true) ((f221 s.2 r6 l4).bind (fun r7 =>
      if (r7 : Int32) = 0 then
      mGd ((Nat.beq (mK s.2 l0).1 12 && (mR s.2 l0 49).isSome) && ((Nat.beq (mK s.2 ((mR s.2 l0 49).getD 0)).1 100 && mIn l4 (mK s.2 ((mR s.2 l0 49).getD 0)).2) && true)) (
        f282_105 s.2 l0 l2 l3 l4 s.1 ((mR s.2 l0 49).getD 0) l4 (mI s.2 ((mR s.2 l0 49).getD 0) (Int32.toNatClampNeg l4)))
    else 
      mGd (((Nat.beq (mK s.2 l0).1 12 && (mR s.2 l0 49).isSome) && ((Nat.beq (mK s.2 ((mR s.2 l0 49).getD 0)).1 100 && mIn l4 (mK s.2 ((mR s.2 l0 49).getD 0)).2) && ((Nat.beq (mK s.2 l0).1 12 && (mR s.2 l0 49).isSome) && ((Nat.beq (mK s.2 ((mR s.2 l0 49).getD 0)).1 100 && mIn s.1 (mK s.2 ((mR s.2 l0 49).getD 0)).2) && true)))) && true) ((f196 s.2 (mI s.2 ((mR s.2 l0 49).getD 0) (Int32.toNatClampNeg l4)) (1 + (mI s.2 ((mR s.2 l0 49).getD 0) (Int32.toNatClampNeg s.1)))).bind (fun r8 =>
        f282_105 s.2 l0 l2 l3 l4 s.1 ((mR s.2 l0 49).getD 0) l4 r8)))))))
def f282_25 (l0 : Nat) (l2 : Int32) (s : (Int32 × Int32 × mH)) : Option ((Int32 × Int32 × mH) ⊕ (Int32 × mH)) :=
if (s.2.1 : Int32) < 0 then
    mX (
if (l2 : Int32) = (-1) then
      f282_146 s.2.2 l2 s.1
    else 
      mGd (true && true) ((f179 s.2.2 l2 0 (s.1 - 1)).bind (fun r2 =>
        if (r2 : Int32) = 0 then
        f282_146 s.2.2 l2 s.1
      else 
        mLoop (f282_163 s.2.2 l0 l2 s.1) mFuel ((-1), 0))))
  else 
    mGd ((Nat.beq (mK s.2.2 l0).1 12 && (mR s.2.2 l0 49).isSome) && ((Nat.beq (mK s.2.2 ((mR s.2.2 l0 49).getD 0)).1 100 && mIn s.2.1 (mK s.2.2 ((mR s.2.2 l0 49).getD 0)).2) && true)) (
      mLoop (f282_44 l0 l2 s.1 s.2.1) mFuel ((s.2.1 + 1), (mSI s.2.2 ((mR s.2.2 l0 49).getD 0) (Int32.toNatClampNeg s.2.1) 1)))
def f282 (h : mH) (l0 : Nat) (l1 : Int32) (l2 : Int32) : Option (Int32 × mH) :=
mGd (Nat.beq (mK h l0).1 12 && true) (
    mGd (true && Nat.beq (mK h l0).1 12) ((f205 (mSI h l0 0 0) l0 l1).bind (fun r1 =>
    if (r1.1 : Int32) = 0 then
    mGd (true && true) (some ((-1), r1.2))
  else 
    mGd (Nat.beq (mK r1.2 l0).1 12 && true) (
      mLoop (f282_25 l0 l2) mFuel (0, ((mI r1.2 l0 24) - 1), r1.2)))))
def f283_23 (h : mH) : Option (Int32 × mH) :=
mGd (true && true) (some ((-1), h))
def f283_27 (l0 : Nat) (l2 : Int32) (s : (Int32 × mH)) : Option ((Int32 × mH) ⊕ (Int32 × mH)) :=
if (12 : Int32) < s.1 then
    mX (mGd (true && true) (some ((-1), s.2)))
  else 
    mGd ((Nat.beq (mK s.2 l0).1 12 && true) && Nat.beq (mK s.2 l0).1 12) ((f272 s.2 l0 (((1 : Int32) <<< ((mI s.2 l0 24) &&& (31 : Int32))) - 1) s.1).bind (fun r3 =>
      if (l2 : Int32) < r3.1 then
      some (.inl ((s.1 + 1), r3.2))
    else 
      mX (mGd (true && true) (some (s.1, r3.2)))))
def f283 (h : mH) (l0 : Nat) (l1 : Int32) (l2 : Int32) : Option (Int32 × mH) :=
mGd (Nat.beq (mK h l0).1 12 && true) (
    mGd (true && true) ((f179 (mSI h l0 0 0) l2 1 20).bind (fun r1 =>
    if (r1 : Int32) = 0 then
    f283_23 (mSI h l0 0 0)
  else 
    mGd (true && Nat.beq (mK h l0).1 12) ((f205 (mSI h l0 0 0) l0 l1).bind (fun r2 =>
      if (r2.1 : Int32) = 0 then
      f283_23 r2.2
    else 
      mLoop (f283_27 l0 l2) mFuel (1, r2.2))))))
def f284_170 (h : mH) (q0 : Int32) : Option (Int32 × mH) :=
mGd (true && true) (some (q0, h))
def f284_156 (h : mH) : Option (Int32 × mH) :=
f284_170 h (-1)
def f284_160 (h : mH) (l2 : Int32) (l3 : Int32) (l4 : Int32) : Option (Int32 × mH) :=
if (l2 : Int32) = 0 then
    f284_170 h l3
  else 
    f284_170 h l4
def f284_123 (h : mH) (l0 : Nat) (l2 : Int32) (l4 : Int32) (l5 : Int32) (l7 : Int32) (q0 : Int32) : Option ((Int32 × Int32 × Int32 × mH) ⊕ (Int32 × mH)) :=
mGd (true && true) ((f195 h l4 l7).bind (fun r4 =>
    some (.inl (q0, r4, (l5 + 1), h))))
def f284_77 (h : mH) (l0 : Nat) (l2 : Int32) (l3 : Int32) (l4 : Int32) (l5 : Int32) (l7 : Int32) (q0 : Int32) (q1 : Int32) : Option ((Int32 × Int32) ⊕ ((Int32 × Int32 × Int32 × mH) ⊕ (Int32 × mH))) :=
some (.inl ((q0 ||| q1), (l7 + 1)))
def f284_44 (h : mH) (l0 : Nat) (l2 : Int32) (l3 : Int32) (l4 : Int32) (l5 : Int32) (s : (Int32 × Int32)) : Option ((Int32 × Int32) ⊕ ((Int32 × Int32 × Int32 × mH) ⊕ (Int32 × mH))) :=
mGd (Nat.beq (mK h l0).1 12 && true) (
    if ((mI h l0 24) : Int32) ≤ s.2 then
    mX (
mGd ((Nat.beq (mK h l0).1 12 && true) && Nat.beq (mK h l0).1 12) ((f206 h l0 2).bind (fun r2 =>
      mGd (true && Nat.beq (mK h l0).1 12) ((f272 h l0 ((((1 : Int32) <<< ((mI h l0 24) &&& (31 : Int32))) - 1) &&& (s.1 ^^^ (-1))) r2).bind (fun r3 =>
      if (l4 : Int32) ≤ r3.1 then
      f284_123 r3.2 l0 l2 l4 l5 r3.1 l3
    else 
      f284_123 r3.2 l0 l2 l4 l5 r3.1 l5)))))
  else 
    mGd (true && Nat.beq (mK h l0).1 12) ((f271 h l0 s.2).bind (fun r5 =>
      mGd (true && true) ((f221 h r5 l5).bind (fun r6 =>
      if (r6 : Int32) = 0 then
      f284_77 h l0 l2 l3 l4 l5 s.2 s.1 0
    else 
      f284_77 h l0 l2 l3 l4 l5 s.2 s.1 ((1 : Int32) <<< (s.2 &&& (31 : Int32))))))))
def f284_26 (l0 : Nat) (l2 : Int32) (s : (Int32 × Int32 × Int32 × mH)) : Option ((Int32 × Int32 × Int32 × mH) ⊕ (Int32 × mH)) :=
mGd (Nat.beq (mK s.2.2.2 l0).1 12 && true) (
    if ((mI s.2.2.2 l0 24) : Int32) ≤ s.2.2.1 then
    mX (
if (s.1 : Int32) = (-1) then
      f284_156 s.2.2.2
    else 
      if (l2 : Int32) = 0 then
        f284_160 s.2.2.2 l2 s.1 s.2.1
      else 
        if (s.2.1 : Int32) < 1000000 then
          f284_160 s.2.2.2 l2 s.1 s.2.1
        else 
          f284_156 s.2.2.2)
  else 
    mLoop (f284_44 s.2.2.2 l0 l2 s.1 s.2.1 s.2.2.1) mFuel (((1 : Int32) <<< (s.2.2.1 &&& (31 : Int32))), 0))
def f284 (h : mH) (l0 : Nat) (l1 : Int32) (l2 : Int32) : Option (Int32 × mH) :=
mGd (Nat.beq (mK h l0).1 12 && true) (
    mGd (true && Nat.beq (mK h l0).1 12) ((f205 (mSI h l0 0 0) l0 l1).bind (fun r1 =>
    if (r1.1 : Int32) = 0 then
    mGd (true && true) (some ((-2), r1.2))
  else 
    mLoop (f284_26 l0 l2) mFuel ((-1), 1000001, 0, r1.2))))
def f285_29 (h : mH) : Option (Int64 × mH) :=
mGd (true && true) (some ((-1), h))
def f285_75 (h : mH) (l0 : Nat) (l2 : Int32) (l3 : Int32) (l5 : Int32) (q0 : Int32) (q1 : Int32) : Option ((Int32 × Int32) ⊕ (Int64 × mH)) :=
some (.inl ((q0 + q1), (l5 + 1)))
def f285_39 (h : mH) (l0 : Nat) (l2 : Int32) (l3 : Int32) (s : (Int32 × Int32)) : Option ((Int32 × Int32) ⊕ (Int64 × mH)) :=
mGd (Nat.beq (mK h l0).1 12 && true) (
    if ((mI h l0 24) : Int32) ≤ s.2 then
    mX (
mGd ((Nat.beq (mK h l0).1 12 && true) && Nat.beq (mK h l0).1 12) ((f243 h l0 (((1 : Int32) <<< ((mI h l0 24) &&& (31 : Int32))) - 1)).bind (fun r3 =>
      mGd (true && true) ((f255 h (Int32.toInt64 s.1) (Int32.toInt64 r3) l3).bind (fun r4 =>
      mGd (true && true) (some (r4, h)))))))
  else 
    mGd (true && Nat.beq (mK h l0).1 12) ((f206 h l0 (11 + s.2)).bind (fun r5 =>
      if (r5 : Int32) = l2 then
      mGd (true && Nat.beq (mK h l0).1 12) ((f206 h l0 (3 + s.2)).bind (fun r6 =>
        f285_75 h l0 l2 l3 s.2 s.1 r6))
    else 
      f285_75 h l0 l2 l3 s.2 s.1 0)))
def f285 (h : mH) (l0 : Nat) (l1 : Int32) (l2 : Int32) (l3 : Int32) : Option (Int64 × mH) :=
mGd (Nat.beq (mK h l0).1 12 && true) (
    mGd (true && true) ((f179 (mSI h l0 0 0) l2 0 5).bind (fun r1 =>
    if (r1 : Int32) = 0 then
    f285_29 (mSI h l0 0 0)
  else 
    mGd (true && Nat.beq (mK h l0).1 12) ((f205 (mSI h l0 0 0) l0 l1).bind (fun r2 =>
      if (r2.1 : Int32) = 0 then
      f285_29 r2.2
    else 
      mGd (Nat.beq (mK r2.2 l0).1 12 && true) (
        if ((mI r2.2 l0 24) : Int32) = 0 then
        f285_29 r2.2
      else 
        mLoop (f285_39 r2.2 l0 l2 l3) mFuel (0, 0)))))))
def f287_33 (h : mH) (l0 : Nat) (l2 : Int32) (q0 : Int32) (q1 : Int32) : Option ((Int32 × Int32) ⊕ (Int32)) :=
some (.inl ((q0 ||| q1), (l2 + 1)))
def f287_4 (h : mH) (l0 : Nat) (s : (Int32 × Int32)) : Option ((Int32 × Int32) ⊕ (Int32)) :=
mGd (Nat.beq (mK h l0).1 12 && true) (
    if ((mI h l0 25) : Int32) ≤ s.2 then
    mX (mGd (true && true) (some (s.1 : Int32)))
  else 
    mGd ((Nat.beq (mK h l0).1 12 && (mR h l0 33).isSome) && ((Nat.beq (mK h ((mR h l0 33).getD 0)).1 100 && mIn (8 * s.2) (mK h ((mR h l0 33).getD 0)).2) && true)) (
      if ((mI h ((mR h l0 33).getD 0) (Int32.toNatClampNeg (8 * s.2))) : Int32) = (-1) then
      f287_33 h l0 s.2 s.1 0
    else 
      f287_33 h l0 s.2 s.1 ((1 : Int32) <<< (s.2 &&& (31 : Int32)))))
def f287 (h : mH) (l0 : Nat) : Option (Int32) :=
mLoop (f287_4 h l0) mFuel (0, 0)
def f286_31 (h : mH) : Option (Int32 × mH) :=
mGd (true && true) (some ((-2), h))
def f286_116 (h : mH) (q0 : Int32) : Option (Int32 × mH) :=
mGd (true && true) (some (q0, h))
def f286_89 (h : mH) (l0 : Nat) (l3 : Int32) : Option (Int32 × mH) :=
if (l3 : Int32) = (-1) then
    mGd (true && Nat.beq (mK h l0).1 12) ((f287 h l0).bind (fun r4 =>
      if (r4 : Int32) = 0 then
      mGd (Nat.beq (mK h l0).1 12 && true) (
        f286_116 h (mI h l0 30))
    else 
      f286_116 h (-1)))
  else 
    mGd (true && Nat.beq (mK h l0).1 12) ((f287 h l0).bind (fun r5 =>
      f286_116 h r5))
def f286_79 (h : mH) (l0 : Nat) (l3 : Int32) (l4 : Int32) (l5 : Int32) : Option ((Int32 × mH) ⊕ (Int32 × mH)) :=
mGd (true && Nat.beq (mK h l0).1 12) ((f227 h l0).bind (fun r7 =>
    some (.inl ((l5 + 1), r7.2))))
def f286_60 (l0 : Nat) (l3 : Int32) (l4 : Int32) (s : (Int32 × mH)) : Option ((Int32 × mH) ⊕ (Int32 × mH)) :=
if (l4 : Int32) ≤ s.1 then
    mX (f286_89 s.2 l0 l3)
  else 
    if (l3 : Int32) = (-1) then
      mGd (true && Nat.beq (mK s.2 l0).1 12) ((f287 s.2 l0).bind (fun r6 =>
        if (r6 : Int32) = 0 then
        mX (f286_89 s.2 l0 l3)
      else 
        f286_79 s.2 l0 l3 l4 s.1))
    else 
      f286_79 s.2 l0 l3 l4 s.1
def f286_55 (h : mH) (l0 : Nat) (l3 : Int32) (q0 : Int32) : Option (Int32 × mH) :=
mLoop (f286_60 l0 l3 q0) mFuel (0, h)
def f286 (h : mH) (l0 : Nat) (l1 : Int32) (l2 : Int32) (l3 : Int32) : Option (Int32 × mH) :=
mGd (Nat.beq (mK h l0).1 12 && true) (
    mGd (true && true) ((f179 (mSI h l0 0 0) l3 (-1) 20).bind (fun r1 =>
    if (r1 : Int32) = 0 then
    f286_31 (mSI h l0 0 0)
  else 
    mGd (true && Nat.beq (mK h l0).1 12) ((f205 (mSI h l0 0 0) l0 l1).bind (fun r2 =>
      if (r2.1 : Int32) = 0 then
      f286_31 r2.2
    else 
      mGd (true && Nat.beq (mK r2.2 l0).1 12) ((f226 r2.2 l0 l2).bind (fun r3 =>
        if (r3 : Int32) = 0 then
        f286_31 r2.2
      else 
        mGd ((Nat.beq (mK r2.2 l0).1 12 && (mR r2.2 l0 33).isSome) && ((Nat.beq (mK r2.2 ((mR r2.2 l0 33).getD 0)).1 100 && mIn (8 * l2) (mK r2.2 ((mR r2.2 l0 33).getD 0)).2) && true)) (
          if (l3 : Int32) = (-1) then
          f286_55 (mSI r2.2 ((mR r2.2 l0 33).getD 0) (Int32.toNatClampNeg (8 * l2)) 0) l0 l3 99
        else 
          f286_55 (mSI r2.2 ((mR r2.2 l0 33).getD 0) (Int32.toNatClampNeg (8 * l2)) 0) l0 l3 l3))))))))
def f289_50 (h : mH) (q0 : Int32) : Option (Int32) :=
mGd (true && true) (some (q0 : Int32))
def f289_35 (h : mH) (l4 : Int32) : Option (Int32) :=
if (l4 : Int32) ≤ 6 then
    f289_50 h l4
  else 
    f289_50 h 1000000
def f289_7 (h : mH) (l0 : Nat) (l2 : Int32) (s : (Int32 × Int32)) : Option ((Int32 × Int32) ⊕ (Int32)) :=
mGd (true && true) ((f221 h s.1 l2).bind (fun r1 =>
    if (r1 : Int32) = 0 then
    if (6 : Int32) < s.2 then
      mX (f289_35 h s.2)
    else 
      mGd (true && Nat.beq (mK h l0).1 12) ((f247 h l0 s.1 0).bind (fun r2 =>
        some (.inl (r2, (s.2 + 1)))))
  else 
    mX (f289_35 h s.2)))
def f289 (h : mH) (l0 : Nat) (l1 : Int32) (l2 : Int32) : Option (Int32) :=
mLoop (f289_7 h l0 l2) mFuel (((1 : Int32) <<< (l1 &&& (31 : Int32))), 0)
def f288_29 (h : mH) : Option (Int32 × mH) :=
mGd (true && true) (some ((-1), h))
def f288_53 (h : mH) (q0 : Int32) : Option (Int32 × mH) :=
mGd (true && true) (some (q0, h))
def f288 (h : mH) (l0 : Nat) (l1 : Int32) (l2 : Int32) (l3 : Int32) : Option (Int32 × mH) :=
mGd (Nat.beq (mK h l0).1 12 && true) (
    mGd (true && Nat.beq (mK h l0).1 12) ((f205 (mSI h l0 0 0) l0 l1).bind (fun r1 =>
    if (r1.1 : Int32) = 0 then
    f288_29 r1.2
  else 
    mGd (true && Nat.beq (mK r1.2 l0).1 12) ((f226 r1.2 l0 l2).bind (fun r2 =>
      if (r2 : Int32) = 0 then
      f288_29 r1.2
    else 
      mGd (true && Nat.beq (mK r1.2 l0).1 12) ((f226 r1.2 l0 l3).bind (fun r3 =>
        if (r3 : Int32) = 0 then
        f288_29 r1.2
      else 
        mGd (true && Nat.beq (mK r1.2 l0).1 12) ((f289 r1.2 l0 l2 l3).bind (fun r4 =>
          if (r4 : Int32) < 1000000 then
          f288_53 r1.2 r4
        else 
          f288_53 r1.2 (-1))))))))))
def f290_114 (h : mH) (q0 : Int32) : Option (Int32 × mH) :=
mGd (true && true) (some (q0, h))
def f290_108 (h : mH) (l3 : Int32) : Option (Int32 × mH) :=
f290_114 h l3
def f290_83 (h : mH) (l0 : Nat) (l2 : Int32) (l4 : Int32) (l5 : Int32) (l6 : Int32) (q0 : Int32) : Option ((Int32 × Int32 × Int32) ⊕ (Int32 × mH)) :=
mGd (true && true) ((f195 h l4 l6).bind (fun r2 =>
    some (.inl (q0, r2, (l5 + 1)))))
def f290_40 (h : mH) (l0 : Nat) (l2 : Int32) (l3 : Int32) (l4 : Int32) (l5 : Int32) (s : (Int32 × Int32)) : Option ((Int32 × Int32) ⊕ ((Int32 × Int32 × Int32) ⊕ (Int32 × mH))) :=
mGd (Nat.beq (mK h l0).1 12 && true) (
    if ((mI h l0 25) : Int32) ≤ s.2 then
    mX (
if (l4 : Int32) ≤ s.1 then
      f290_83 h l0 l2 l4 l5 s.1 l3
    else 
      f290_83 h l0 l2 l4 l5 s.1 l5)
  else 
    mGd (true && Nat.beq (mK h l0).1 12) ((f289 h l0 l5 s.2).bind (fun r3 =>
      mGd (true && true) ((f196 h s.1 r3).bind (fun r4 =>
      some (.inl (r4, (s.2 + 1))))))))
def f290_25 (h : mH) (l0 : Nat) (l2 : Int32) (s : (Int32 × Int32 × Int32)) : Option ((Int32 × Int32 × Int32) ⊕ (Int32 × mH)) :=
mGd (Nat.beq (mK h l0).1 12 && true) (
    if ((mI h l0 25) : Int32) ≤ s.2.2 then
    mX (
if (s.1 : Int32) = (-1) then
      f290_108 h s.1
    else 
      if (l2 : Int32) = 0 then
        f290_108 h s.1
      else 
        f290_114 h s.2.1)
  else 
    mLoop (f290_40 h l0 l2 s.1 s.2.1 s.2.2) mFuel (0, 0))
def f290 (h : mH) (l0 : Nat) (l1 : Int32) (l2 : Int32) : Option (Int32 × mH) :=
mGd (Nat.beq (mK h l0).1 12 && true) (
    mGd (true && Nat.beq (mK h l0).1 12) ((f205 (mSI h l0 0 0) l0 l1).bind (fun r1 =>
    if (r1.1 : Int32) = 0 then
    mGd (true && true) (some ((-1), r1.2))
  else 
    mLoop (f290_25 r1.2 l0 l2) mFuel ((-1), 1000000, 0))))
def f291_21 (h : mH) : Option (Int32 × mH) :=
mGd (true && true) (some ((-1), h))
def f291_123 (h : mH) (q0 : Int32) : Option (Int32 × mH) :=
mGd (true && true) (some (q0, h))
def f291_116 (h : mH) (l4 : Int32) : Option (Int32 × mH) :=
f291_123 h l4
def f291_89 (h : mH) (l0 : Nat) (l2 : Int32) (l3 : Int32) (l5 : Int32) (l6 : Int32) (l7 : Int32) (q0 : Int32) : Option ((Int32 × Int32 × Int32) ⊕ (Int32 × mH)) :=
mGd (true && true) ((f195 h l5 l7).bind (fun r3 =>
    some (.inl (q0, r3, (l6 + 1)))))
def f291_73 (h : mH) (l0 : Nat) (l2 : Int32) (l3 : Int32) (l4 : Int32) (l5 : Int32) (l6 : Int32) (q0 : Int32) : Option ((Int32 × Int32 × Int32) ⊕ (Int32 × mH)) :=
if (l5 : Int32) ≤ q0 then
    f291_89 h l0 l2 l3 l5 l6 q0 l4
  else 
    f291_89 h l0 l2 l3 l5 l6 q0 l6
def f291_34 (h : mH) (l0 : Nat) (l2 : Int32) (l3 : Int32) (s : (Int32 × Int32 × Int32)) : Option ((Int32 × Int32 × Int32) ⊕ (Int32 × mH)) :=
mGd (Nat.beq (mK h l0).1 12 && true) (
    if ((mI h l0 25) : Int32) ≤ s.2.2 then
    mX (
if (s.1 : Int32) = (-1) then
      f291_116 h s.1
    else 
      if (l3 : Int32) = 0 then
        f291_116 h s.1
      else 
        f291_123 h s.2.1)
  else 
    if (s.2.2 : Int32) = l2 then
      f291_73 h l0 l2 l3 s.1 s.2.1 s.2.2 1000000
    else 
      mGd (true && Nat.beq (mK h l0).1 12) ((f246 h l0 ((1 : Int32) <<< (l2 &&& (31 : Int32))) 9 ((1 : Int32) <<< (s.2.2 &&& (31 : Int32)))).bind (fun r4 =>
        mGd (true && true) ((f244 h r4).bind (fun r5 =>
        f291_73 h l0 l2 l3 s.1 s.2.1 s.2.2 (r5 - 1))))))
def f291 (h : mH) (l0 : Nat) (l1 : Int32) (l2 : Int32) (l3 : Int32) : Option (Int32 × mH) :=
mGd (Nat.beq (mK h l0).1 12 && true) (
    mGd (true && Nat.beq (mK h l0).1 12) ((f205 (mSI h l0 0 0) l0 l1).bind (fun r1 =>
    if (r1.1 : Int32) = 0 then
    f291_21 r1.2
  else 
    mGd (true && Nat.beq (mK r1.2 l0).1 12) ((f226 r1.2 l0 l2).bind (fun r2 =>
      if (r2 : Int32) = 0 then
      f291_21 r1.2
    else 
      mLoop (f291_34 r1.2 l0 l2 l3) mFuel ((-1), 1000000, 0))))))
def f292_31 (h : mH) : Option (Int64 × mH) :=
mGd (true && true) (some ((-1), h))
def f292 (h : mH) (l0 : Nat) (l1 : Int32) (l2 : Int32) (l3 : Int32) (l4 : Int32) : Option (Int64 × mH) :=
mGd (Nat.beq (mK h l0).1 12 && true) (
    mGd (true && true) ((f179 (mSI h l0 0 0) l3 0 9).bind (fun r1 =>
    if (r1 : Int32) = 0 then
    f292_31 (mSI h l0 0 0)
  else 
    mGd (true && Nat.beq (mK h l0).1 12) ((f205 (mSI h l0 0 0) l0 l1).bind (fun r2 =>
      if (r2.1 : Int32) = 0 then
      f292_31 r2.2
    else 
      mGd (true && Nat.beq (mK r2.2 l0).1 12) ((f252 r2.2 l0 l2).bind (fun r3 =>
        if (r3 : Int32) = 0 then
        f292_31 r2.2
      else 
        mGd (true && Nat.beq (mK r2.2 l0).1 12) ((f253 r2.2 l0 l2).bind (fun r4 =>
          mGd (true && true) ((f255 r2.2 (10 * (Int32.toInt64 r4)) (10 - (Int32.toInt64 l3)) l4).bind (fun r5 =>
          mGd (true && true) (some (r5, r2.2)))))))))))))
def f294_27 (h : mH) (l0 : Nat) (l2 : Int32) (q0 : Int32) (q1 : Int32) : Option ((Int32 × Int32) ⊕ (Int32)) :=
some (.inl ((q0 ||| q1), (l2 + 1)))
def f294_4 (h : mH) (l0 : Nat) (s : (Int32 × Int32)) : Option ((Int32 × Int32) ⊕ (Int32)) :=
if (6 : Int32) ≤ s.2 then
    mX (mGd (true && true) (some (s.1 : Int32)))
  else 
    mGd ((Nat.beq (mK h l0).1 12 && (mR h l0 32).isSome) && ((Nat.beq (mK h ((mR h l0 32).getD 0)).1 100 && mIn s.2 (mK h ((mR h l0 32).getD 0)).2) && true)) (
      if ((mI h ((mR h l0 32).getD 0) (Int32.toNatClampNeg s.2)) : Int32) = 0 then
      f294_27 h l0 s.2 s.1 ((1 : Int32) <<< (s.2 &&& (31 : Int32)))
    else 
      f294_27 h l0 s.2 s.1 0)
def f294 (h : mH) (l0 : Nat) : Option (Int32) :=
mLoop (f294_4 h l0) mFuel (0, 0)
def f293_23 (h : mH) : Option (Int32 × mH) :=
mGd (true && true) (some ((-2), h))
def f293_186 (h : mH) (l0 : Nat) (l3 : Int32) (l4 : Int32) (l5 : Int32) (l6 : Int32) (l8 : Int32) (l9 : Int32) (l10 : Int32) (q0 : Int32) : Option ((Int32 × Int32 × Int32 × Int32 × Int32 × Int32 × Int32 × mH) ⊕ (Int32 × mH)) :=
some (.inl (l4, l5, l6, q0, l8, l9, (l10 + 1), h))
def f293_184 (h : mH) (l0 : Nat) (l3 : Int32) (l4 : Int32) (l5 : Int32) (l6 : Int32) (l7 : Int32) (l8 : Int32) (l9 : Int32) (l10 : Int32) : Option ((Int32 × Int32 × Int32 × Int32 × Int32 × Int32 × Int32 × mH) ⊕ (Int32 × mH)) :=
f293_186 h l0 l3 l4 l5 l6 l8 l9 l10 l7
def f293_163 (h : mH) (l0 : Nat) (l3 : Int32) (l5 : Int32) (l6 : Int32) (l7 : Int32) (l8 : Int32) (l9 : Int32) (l10 : Int32) (q0 : Int32) (q1 : Int32) : Option ((Int32 × Int32 × Int32 × Int32 × Int32 × Int32 × Int32 × mH) ⊕ (Int32 × mH)) :=
if (l7 : Int32) = (-1) then
    mGd (Nat.beq (mK h l0).1 12 && true) (
      if ((mI h l0 26) : Int32) = 0 then
      f293_184 h l0 l3 (q0 + q1) l5 l6 l7 l8 l9 l10
    else 
      f293_186 h l0 l3 (q0 + q1) l5 l6 l8 l9 l10 l10)
  else 
    f293_184 h l0 l3 (q0 + q1) l5 l6 l7 l8 l9 l10
def f293_162 (h : mH) (l0 : Nat) (l3 : Int32) (l5 : Int32) (l6 : Int32) (l7 : Int32) (l8 : Int32) (l9 : Int32) (l10 : Int32) (q0 : Int32) : Option ((Int32 × Int32 × Int32 × Int32 × Int32 × Int32 × Int32 × mH) ⊕ (Int32 × mH)) :=
f293_163 h l0 l3 l5 l6 l7 l8 l9 l10 q0 0
def f293_138 (h : mH) (l0 : Nat) (l3 : Int32) (l4 : Int32) (l5 : Int32) (l6 : Int32) (l7 : Int32) (l8 : Int32) (l10 : Int32) (q0 : Int32) : Option ((Int32 × Int32 × Int32 × Int32 × Int32 × Int32 × Int32 × mH) ⊕ (Int32 × mH)) :=
if (q0 : Int32) = 0 then
    f293_162 h l0 l3 l5 l6 l7 l8 q0 l10 l4
  else 
    mGd (true && Nat.beq (mK h l0).1 12) ((f211 h l0 l10 0).bind (fun r5 =>
      if (r5 : Int32) = 2 then
      f293_163 h l0 l3 l5 l6 l7 l8 q0 l10 l4 1
    else 
      f293_162 h l0 l3 l5 l6 l7 l8 q0 l10 l4))
def f293_137 (h : mH) (l0 : Nat) (l3 : Int32) (l4 : Int32) (l5 : Int32) (l6 : Int32) (l7 : Int32) (l8 : Int32) (l10 : Int32) : Option ((Int32 × Int32 × Int32 × Int32 × Int32 × Int32 × Int32 × mH) ⊕ (Int32 × mH)) :=
f293_138 h l0 l3 l4 l5 l6 l7 l8 l10 0
def f293_89 (h : mH) (l0 : Nat) (l3 : Int32) (l4 : Int32) (l6 : Int32) (l7 : Int32) (l8 : Int32) (l10 : Int32) (l11 : Int32) (l12 : Int32) (q0 : Int32) : Option ((Int32 × Int32 × Int32) ⊕ ((Int32 × Int32 × Int32 × Int32 × Int32 × Int32 × Int32 × mH) ⊕ (Int32 × mH))) :=
mGd (true && true) ((f196 h l6 l12).bind (fun r9 =>
    some (.inl (q0, r9, (l11 + 1)))))
def f293_55 (h : mH) (l0 : Nat) (l3 : Int32) (l4 : Int32) (l7 : Int32) (l8 : Int32) (l10 : Int32) (s : (Int32 × Int32 × Int32)) : Option ((Int32 × Int32 × Int32) ⊕ ((Int32 × Int32 × Int32 × Int32 × Int32 × Int32 × Int32 × mH) ⊕ (Int32 × mH))) :=
mGd (Nat.beq (mK h l0).1 12 && true) (
    if ((mI h l0 25) : Int32) ≤ s.2.2 then
    mX (
mGd (true && Nat.beq (mK h l0).1 12) ((f294 h l0).bind (fun r3 =>
      mGd (true && Nat.beq (mK h l0).1 12) ((f210 h l0).bind (fun r4 =>
      if (r4 : Int32) ≤ l10 then
      f293_137 h l0 l3 l4 s.1 s.2.1 l7 (l8 ||| r3) l10
    else 
      mGd (true && Nat.beq (mK h l0).1 12) ((f215 h l0 l10).bind (fun r6 =>
        if (r6.1 : Int32) = 0 then
        f293_137 r6.2 l0 l3 l4 s.1 s.2.1 l7 (l8 ||| r3) l10
      else 
        f293_138 r6.2 l0 l3 l4 s.1 s.2.1 l7 (l8 ||| r3) l10 1)))))))
  else 
    mGd (true && Nat.beq (mK h l0).1 12) ((f231 h l0 s.2.2).bind (fun r7 =>
      mGd (true && true) ((f244 h r7).bind (fun r8 =>
      if (r8 : Int32) ≤ s.2.1 then
      f293_89 h l0 l3 l4 s.2.1 l7 l8 l10 s.2.2 r8 s.1
    else 
      f293_89 h l0 l3 l4 s.2.1 l7 l8 l10 s.2.2 r8 s.2.2)))))
def f293_47 (l0 : Nat) (l3 : Int32) (s : (Int32 × Int32 × Int32 × Int32 × Int32 × Int32 × Int32 × mH)) : Option ((Int32 × Int32 × Int32 × Int32 × Int32 × Int32 × Int32 × mH) ⊕ (Int32 × mH)) :=
if (s.2.2.2.2.2.1 : Int32) = 0 then
    mX (
if (l3 : Int32) = 0 then
      mGd (true && true) (some (s.1, s.2.2.2.2.2.2.2))
    else if (l3 : Int32) = 1 then
      mGd ((Nat.beq (mK s.2.2.2.2.2.2.2 l0).1 12 && true) && true) (some ((mI s.2.2.2.2.2.2.2 l0 31), s.2.2.2.2.2.2.2))
    else if (l3 : Int32) = 2 then
      mGd (true && true) (some (s.2.1, s.2.2.2.2.2.2.2))
    else if (l3 : Int32) = 3 then
      mGd (true && true) (some (s.2.2.2.1, s.2.2.2.2.2.2.2))
    else 
      mGd (true && true) (some (s.2.2.2.2.1, s.2.2.2.2.2.2.2)))
  else 
    mLoop (f293_55 s.2.2.2.2.2.2.2 l0 l3 s.1 s.2.2.2.1 s.2.2.2.2.1 s.2.2.2.2.2.2.1) mFuel (s.2.1, s.2.2.1, 0)
def f293 (h : mH) (l0 : Nat) (l1 : Int32) (l2 : Int32) (l3 : Int32) : Option (Int32 × mH) :=
mGd (Nat.beq (mK h l0).1 12 && true) (
    mGd (true && Nat.beq (mK h l0).1 12) ((f213 (mSI h l0 0 0) l0 l1 l2).bind (fun r1 =>
    if (r1.1 : Int32) = 0 then
    f293_23 r1.2
  else 
    mGd (true && true) ((f179 r1.2 l3 0 4).bind (fun r2 =>
      if (r2 : Int32) = 0 then
      f293_23 r1.2
    else 
      mLoop (f293_47 l0 l3) mFuel (0, (-1), 0, (-1), 0, 1, 0, r1.2))))))
def f295_51 (h : mH) (q0 : Int64) : Option (Int64 × mH) :=
mGd (true && true) (some (q0, h))
def f295_48 (h : mH) : Option (Int64 × mH) :=
f295_51 h (-1)
def f295 (h : mH) (l0 : Nat) (l1 : Int32) (l2 : Int32) (l3 : Int32) (l4 : Int32) : Option (Int64 × mH) :=
mGd (Nat.beq (mK h l0).1 12 && true) (
    mGd (true && Nat.beq (mK h l0).1 12) ((f262 (mSI h l0 0 0) l0 l1 l2).bind (fun r1 =>
    if (r1.1 : Int32) = 0 then
    f295_48 r1.2
  else 
    mGd (true && Nat.beq (mK r1.2 l0).1 12) ((f226 r1.2 l0 l3).bind (fun r2 =>
      if (r2 : Int32) = 0 then
      f295_48 r1.2
    else 
      mGd (Nat.beq (mK r1.2 l0).1 12 && true) (
        if ((mI r1.2 l0 43) : Int32) ≤ 0 then
        f295_48 r1.2
      else 
        mGd (true && Nat.beq (mK r1.2 l0).1 12) ((f266 r1.2 l0 l3).bind (fun r3 =>
          mGd ((Nat.beq (mK r1.2 l0).1 12 && true) && true) ((f255 r1.2 (Int32.toInt64 r3) (Int32.toInt64 (mI r1.2 l0 43)) l4).bind (fun r4 =>
          f295_51 r1.2 r4))))))))))
def f296_21 (h : mH) : Option (Int32 × mH) :=
mGd (true && true) (some ((-1), h))
def f296_83 (h : mH) (l0 : Nat) (l3 : Int32) (l5 : Int32) (q0 : Int32) : Option ((Int32 × Int32) ⊕ (Int32 × mH)) :=
some (.inl (q0, (l5 + 1)))
def f296_37 (h : mH) (l0 : Nat) (l3 : Int32) (s : (Int32 × Int32)) : Option ((Int32 × Int32) ⊕ (Int32 × mH)) :=
mGd (Nat.beq (mK h l0).1 12 && true) (
    if ((mI h l0 43) : Int32) ≤ s.2 then
    mX (mGd (true && true) (some (s.1, h)))
  else 
    if (l3 : Int32) = 0 then
      mGd (((Nat.beq (mK h l0).1 12 && (mR h l0 42).isSome) && ((Nat.beq (mK h ((mR h l0 42).getD 0)).1 100 && mIn s.2 (mK h ((mR h l0 42).getD 0)).2) && (!(10 == (0 : Int32)) && true))) && true) ((f195 h s.1 ((mI h ((mR h l0 42).getD 0) (Int32.toNatClampNeg s.2)) - (mI h ((mR h l0 42).getD 0) (Int32.toNatClampNeg s.2)) / 10 * 10)).bind (fun r2 =>
        f296_83 h l0 l3 s.2 r2))
    else 
      mGd (((Nat.beq (mK h l0).1 12 && (mR h l0 42).isSome) && ((Nat.beq (mK h ((mR h l0 42).getD 0)).1 100 && mIn s.2 (mK h ((mR h l0 42).getD 0)).2) && (!(10 == (0 : Int32)) && true))) && true) ((f196 h s.1 ((mI h ((mR h l0 42).getD 0) (Int32.toNatClampNeg s.2)) - (mI h ((mR h l0 42).getD 0) (Int32.toNatClampNeg s.2)) / 10 * 10)).bind (fun r3 =>
        f296_83 h l0 l3 s.2 r3)))
def f296 (h : mH) (l0 : Nat) (l1 : Int32) (l2 : Int32) (l3 : Int32) : Option (Int32 × mH) :=
mGd (Nat.beq (mK h l0).1 12 && true) (
    mGd (true && Nat.beq (mK h l0).1 12) ((f262 (mSI h l0 0 0) l0 l1 l2).bind (fun r1 =>
    if (r1.1 : Int32) = 0 then
    f296_21 r1.2
  else 
    mGd (Nat.beq (mK r1.2 l0).1 12 && true) (
      if ((mI r1.2 l0 43) : Int32) = 0 then
      f296_21 r1.2
    else 
      mGd ((Nat.beq (mK r1.2 l0).1 12 && (mR r1.2 l0 42).isSome) && ((Nat.beq (mK r1.2 ((mR r1.2 l0 42).getD 0)).1 100 && mIn 0 (mK r1.2 ((mR r1.2 l0 42).getD 0)).2) && (!(10 == (0 : Int32)) && true))) (
        mLoop (f296_37 r1.2 l0 l3) mFuel (((mI r1.2 ((mR r1.2 l0 42).getD 0) (Int32.toNatClampNeg 0)) - (mI r1.2 ((mR r1.2 l0 42).getD 0) (Int32.toNatClampNeg 0)) / 10 * 10), 0))))))
def f297_25 (h : mH) (q0 : Int32) : Option (Int32 × mH) :=
mGd (true && true) (some (q0, h))
def f297 (h : mH) (l0 : Nat) (l1 : Int32) : Option (Int32 × mH) :=
mGd (Nat.beq (mK h l0).1 12 && true) (
    mGd (true && true) ((f179 (mSI h l0 0 0) l1 0 2).bind (fun r1 =>
    if (r1 : Int32) = 0 then
    f297_25 (mSI h l0 0 0) (-2)
  else 
    mGd ((Nat.beq (mK h l0).1 12 && (mR h l0 5).isSome) && ((Nat.beq (mK h ((mR h l0 5).getD 0)).1 100 && mIn l1 (mK h ((mR h l0 5).getD 0)).2) && true)) (
      f297_25 (mSI h l0 0 0) (mI (mSI h l0 0 0) ((mR h l0 5).getD 0) (Int32.toNatClampNeg l1))))))
def f300_3 (l0 : Nat) (l1 : Int32) (l2 : Int32) (l3 : Int32) (s : (Int32 × mH)) : Option ((Int32 × mH) ⊕ (Unit × mH)) :=
if (l1 : Int32) ≤ s.1 then
    mX (mGd (true && true) (some ((), s.2)))
  else 
    mGd ((Nat.beq (mK s.2 l0).1 100 && mIn ((l1 * l2) + s.1) (mK s.2 l0).2) && ((Nat.beq (mK s.2 l0).1 100 && mIn ((l1 * l3) + s.1) (mK s.2 l0).2) && true)) (
      some (.inl ((s.1 + 1), (mSI s.2 l0 (Int32.toNatClampNeg ((l1 * l3) + s.1)) (mI s.2 l0 (Int32.toNatClampNeg ((l1 * l2) + s.1)))))))
def f300 (h : mH) (l0 : Nat) (l1 : Int32) (l2 : Int32) (l3 : Int32) : Option (Unit × mH) :=
mLoop (f300_3 l0 l1 l2 l3) mFuel (0, h)
def f299_33 (h : mH) (l0 : Nat) (l1 : Int32) (l2 : Int32) (l3 : Int32) : Option ((Int32 × mH) ⊕ (Unit × mH)) :=
some (.inl ((l3 + 1), h))
def f299_2 (l0 : Nat) (l1 : Int32) (l2 : Int32) (s : (Int32 × mH)) : Option ((Int32 × mH) ⊕ (Unit × mH)) :=
if (600 : Int32) ≤ s.1 then
    mX (
mGd (((Nat.beq (mK s.2 l0).1 12 && (mR s.2 l0 2).isSome) && true) && true) ((f300 s.2 ((mR s.2 l0 2).getD 0) 1 l1 l2).bind (fun r1 =>
      mGd (((Nat.beq (mK r1.2 l0).1 12 && (mR r1.2 l0 3).isSome) && true) && true) ((f300 r1.2 ((mR r1.2 l0 3).getD 0) 1 l1 l2).bind (fun r2 =>
      mGd (((Nat.beq (mK r2.2 l0).1 12 && (mR r2.2 l0 4).isSome) && true) && true) ((f300 r2.2 ((mR r2.2 l0 4).getD 0) 1 l1 l2).bind (fun r3 =>
      mGd (((Nat.beq (mK r3.2 l0).1 12 && (mR r3.2 l0 5).isSome) && true) && true) ((f300 r3.2 ((mR r3.2 l0 5).getD 0) 3 l1 l2).bind (fun r4 =>
      mGd (((Nat.beq (mK r4.2 l0).1 12 && (mR r4.2 l0 6).isSome) && true) && true) ((f300 r4.2 ((mR r4.2 l0 6).getD 0) 90 l1 l2).bind (fun r5 =>
      mGd (((Nat.beq (mK r5.2 l0).1 12 && (mR r5.2 l0 7).isSome) && true) && true) ((f300 r5.2 ((mR r5.2 l0 7).getD 0) 242 l1 l2).bind (fun r6 =>
      mGd (((Nat.beq (mK r6.2 l0).1 12 && (mR r6.2 l0 8).isSome) && true) && true) ((f300 r6.2 ((mR r6.2 l0 8).getD 0) 34 l1 l2).bind (fun r7 =>
      mGd (true && true) (some ((), r7.2)))))))))))))))))
  else 
    mGd ((Nat.beq (mK s.2 l0).1 12 && (mR s.2 l0 1).isSome) && ((Nat.beq (mK s.2 l0).1 12 && (mR s.2 l0 1).isSome) && ((Nat.beq (mK s.2 ((mR s.2 l0 1).getD 0)).1 101 && mIn ((600 * l1) + s.1) (mK s.2 ((mR s.2 l0 1).getD 0)).2) && ((Nat.beq (mK s.2 ((mR s.2 l0 1).getD 0)).1 101 && mIn ((600 * l2) + s.1) (mK s.2 ((mR s.2 l0 1).getD 0)).2) && true)))) (
      f299_33 (mSI s.2 ((mR s.2 l0 1).getD 0) (Int32.toNatClampNeg ((600 * l2) + s.1)) ((Int32.toInt8 (mI s.2 ((mR s.2 l0 1).getD 0) (Int32.toNatClampNeg ((600 * l1) + s.1)))).toInt32)) l0 l1 l2 s.1)
def f299 (h : mH) (l0 : Nat) (l1 : Int32) (l2 : Int32) : Option (Unit × mH) :=
mLoop (f299_2 l0 l1 l2) mFuel (0, h)
def f298 (h : mH) (l0 : Nat) (l1 : Int32) : Option (Int32 × mH) :=
mGd (Nat.beq (mK h l0).1 12 && true) (
    mGd (true && true) ((f179 (mSI h l0 0 0) l1 0 2).bind (fun r1 =>
    if (r1 : Int32) = 0 then
    mGd (true && mIs01 0) (some (0, (mSI h l0 0 0)))
  else 
    mGd (true && Nat.beq (mK h l0).1 12) ((f299 (mSI h l0 0 0) l0 0 (l1 + 1)).bind (fun r2 =>
      mGd ((Nat.beq (mK r2.2 l0).1 12 && (mR r2.2 l0 50).isSome) && ((Nat.beq (mK r2.2 ((mR r2.2 l0 50).getD 0)).1 102 && mIn l1 (mK r2.2 ((mR r2.2 l0 50).getD 0)).2 && mIs01 1) && true)) (
      mGd (true && mIs01 1) (some (1, (mSI r2.2 ((mR r2.2 l0 50).getD 0) (Int32.toNatClampNeg l1) 1)))))))))
def f301_23 (h : mH) : Option (Int32 × mH) :=
mGd (true && mIs01 0) (some (0, h))
def f301 (h : mH) (l0 : Nat) (l1 : Int32) : Option (Int32 × mH) :=
mGd (Nat.beq (mK h l0).1 12 && true) (
    mGd (true && true) ((f179 (mSI h l0 0 0) l1 0 2).bind (fun r1 =>
    if (r1 : Int32) = 0 then
    f301_23 (mSI h l0 0 0)
  else 
    mGd ((Nat.beq (mK h l0).1 12 && (mR h l0 50).isSome) && ((Nat.beq (mK h ((mR h l0 50).getD 0)).1 102 && mIn l1 (mK h ((mR h l0 50).getD 0)).2) && true)) (
      if ((mI (mSI h l0 0 0) ((mR h l0 50).getD 0) (Int32.toNatClampNeg l1)) : Int32) = 0 then
      f301_23 (mSI h l0 0 0)
    else 
      mGd (true && Nat.beq (mK h l0).1 12) ((f299 (mSI h l0 0 0) l0 (l1 + 1) 0).bind (fun r2 =>
        mGd (true && mIs01 1) (some (1, r2.2))))))))

