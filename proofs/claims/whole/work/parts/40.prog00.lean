/-! The methods as programs; printed by a program of ours. -/
def f4_5 (l0 : Nat) (l1 : Int32) (l3 : Int32) (s : (Int32 × mH)) : Option ((Int32 × mH) ⊕ (Unit × mH)) :=
if (l3 : Int32) ≤ s.1 then
    mX (mGd (true && true) (some ((), s.2)))
  else 
    mGd ((Nat.beq (mK s.2 l0).1 100 && mIn s.1 (mK s.2 l0).2) && true) (
      some (.inl ((s.1 + 1), (mSI s.2 l0 (Int32.toNatClampNeg s.1) l1))))
def f4 (h : mH) (l0 : Nat) (l1 : Int32) : Option (Unit × mH) :=
mGd (Nat.beq (mK h l0).1 100 && true) (
    mLoop (f4_5 l0 l1 (Int32.ofNat (mK h l0).2)) mFuel (0, h))
def f3 (h : mH) (l0 : Nat) : Option (Unit × mH) :=
mGd (((Nat.beq (mK h l0).1 2 && (mR h l0 0).isSome) && true) && true) ((f4 h ((mR h l0 0).getD 0) 0).bind (fun r1 =>
    mGd (((Nat.beq (mK r1.2 l0).1 2 && (mR r1.2 l0 1).isSome) && true) && true) ((f4 r1.2 ((mR r1.2 l0 1).getD 0) 0).bind (fun r2 =>
    mGd (((Nat.beq (mK r2.2 l0).1 2 && (mR r2.2 l0 2).isSome) && true) && true) ((f4 r2.2 ((mR r2.2 l0 2).getD 0) 0).bind (fun r3 =>
    mGd (((Nat.beq (mK r3.2 l0).1 2 && (mR r3.2 l0 3).isSome) && true) && true) ((f4 r3.2 ((mR r3.2 l0 3).getD 0) 5).bind (fun r4 =>
    mGd (((Nat.beq (mK r4.2 l0).1 2 && (mR r4.2 l0 4).isSome) && true) && true) ((f4 r4.2 ((mR r4.2 l0 4).getD 0) 0).bind (fun r5 =>
    mGd (((Nat.beq (mK r5.2 l0).1 2 && (mR r5.2 l0 5).isSome) && true) && true) ((f4 r5.2 ((mR r5.2 l0 5).getD 0) 0).bind (fun r6 =>
    mGd (Nat.beq (mK r6.2 l0).1 2 && true) (
    mGd (Nat.beq (mK r6.2 l0).1 2 && true) (
    mGd (Nat.beq (mK r6.2 l0).1 2 && true) (
    mGd (true && true) (some ((), (mSI (mSI (mSI r6.2 l0 6 0) l0 7 0) l0 8 6))))))))))))))))))
def f15_49 (h : mH) : Option (Unit × mH) :=
mGd (true && true) (some ((), h))
def f15_33 (h : mH) (l0 : Nat) (l1 : Int32) (l2 : Int32) : Option ((Int32 × mH) ⊕ (Unit × mH)) :=
mGd (Nat.beq (mK h l0).1 1 && (Nat.beq (mK h l0).1 1 && true)) (
    some (.inl ((l2 + (-8)), (mSI h l0 5 ((mI h l0 5) + 1)))))
def f15_3 (l0 : Nat) (l1 : Int32) (s : (Int32 × mH)) : Option ((Int32 × mH) ⊕ (Unit × mH)) :=
if (s.1 : Int32) < 0 then
    mX (f15_49 s.2)
  else 
    mGd (Nat.beq (mK s.2 l0).1 1 && true) (
      if (600 : Int32) ≤ (mI s.2 l0 5) then
      mX (f15_49 s.2)
    else 
      mGd ((Nat.beq (mK s.2 l0).1 1 && (mR s.2 l0 0).isSome) && (Nat.beq (mK s.2 l0).1 1 && ((Nat.beq (mK s.2 ((mR s.2 l0 0).getD 0)).1 100 && mIn (mI s.2 l0 5) (mK s.2 ((mR s.2 l0 0).getD 0)).2) && true))) (
        f15_33 (mSI s.2 ((mR s.2 l0 0).getD 0) (Int32.toNatClampNeg (mI s.2 l0 5)) (((Int32.toUInt32 l1 >>> (Int32.toUInt32 s.1 &&& Int32.toUInt32 31)).toInt32) &&& 255)) l0 l1 s.1))
def f15 (h : mH) (l0 : Nat) (l1 : Int32) : Option (Unit × mH) :=
mLoop (f15_3 l0 l1) mFuel (24, h)
def f14 (h : mH) (l0 : Nat) (l1 : Int32) (l2 : Int32) (l3 : Int32) (l4 : Int32) (l5 : Int32) : Option (Int32 × mH) :=
mGd ((Nat.beq (mK h l0).1 0 && (mR h l0 0).isSome) && (Nat.beq (mK h ((mR h l0 0).getD 0)).1 1 && true)) (
    if ((mI h ((mR h l0 0).getD 0) 5) : Int32) ≤ 580 then
    mGd (((Nat.beq (mK h l0).1 0 && (mR h l0 0).isSome) && true) && Nat.beq (mK h ((mR h l0 0).getD 0)).1 1) ((f15 h ((mR h l0 0).getD 0) l1).bind (fun r1 =>
      mGd (((Nat.beq (mK r1.2 l0).1 0 && (mR r1.2 l0 0).isSome) && true) && Nat.beq (mK r1.2 ((mR r1.2 l0 0).getD 0)).1 1) ((f15 r1.2 ((mR r1.2 l0 0).getD 0) l2).bind (fun r2 =>
      mGd (((Nat.beq (mK r2.2 l0).1 0 && (mR r2.2 l0 0).isSome) && true) && Nat.beq (mK r2.2 ((mR r2.2 l0 0).getD 0)).1 1) ((f15 r2.2 ((mR r2.2 l0 0).getD 0) l3).bind (fun r3 =>
      mGd (((Nat.beq (mK r3.2 l0).1 0 && (mR r3.2 l0 0).isSome) && true) && Nat.beq (mK r3.2 ((mR r3.2 l0 0).getD 0)).1 1) ((f15 r3.2 ((mR r3.2 l0 0).getD 0) l4).bind (fun r4 =>
      mGd (((Nat.beq (mK r4.2 l0).1 0 && (mR r4.2 l0 0).isSome) && true) && Nat.beq (mK r4.2 ((mR r4.2 l0 0).getD 0)).1 1) ((f15 r4.2 ((mR r4.2 l0 0).getD 0) l5).bind (fun r5 =>
      mGd (((Nat.beq (mK r5.2 l0).1 0 && (mR r5.2 l0 0).isSome) && (Nat.beq (mK r5.2 ((mR r5.2 l0 0).getD 0)).1 1 && true)) && true) (some ((mI r5.2 ((mR r5.2 l0 0).getD 0) 5), r5.2))))))))))))
  else 
    mGd (true && true) (some ((-1), h)))
def f17_15 (h : mH) (q0 : Int32) : Option (Int32) :=
mGd (true && mIs01 q0) (some (q0 : Int32))
def f17_14 (h : mH) : Option (Int32) :=
f17_15 h 0
def f17 (h : mH) (l0 : Int32) (l1 : Int32) (l2 : Int32) : Option (Int32) :=
if (l0 : Int32) < l1 then
    f17_14 h
  else 
    if (l2 : Int32) < l0 then
      f17_14 h
    else 
      f17_15 h 1
def f16 (h : mH) (l0 : Nat) (l1 : Int32) : Option (Int32 × mH) :=
mGd (((Nat.beq (mK h l0).1 0 && (mR h l0 0).isSome) && (Nat.beq (mK h ((mR h l0 0).getD 0)).1 1 && true)) && true) ((f17 h l1 0 (mI h ((mR h l0 0).getD 0) 5)).bind (fun r1 =>
    if (r1 : Int32) = 0 then
    mGd (true && true) (some ((-1), h))
  else 
    mGd ((Nat.beq (mK h l0).1 0 && (mR h l0 0).isSome) && (Nat.beq (mK h ((mR h l0 0).getD 0)).1 1 && true)) (
      mGd (true && true) (some (l1, (mSI h ((mR h l0 0).getD 0) 5 l1))))))
def f22_17 (h : mH) (q0 : Int32) : Option (Int32) :=
mGd (true && mIs01 q0) (some (q0 : Int32))
def f22_16 (h : mH) : Option (Int32) :=
f22_17 h 0
def f22 (h : mH) (l0 : Int32) : Option (Int32) :=
if (l0 : Int32) < 97 then
    f22_16 h
  else 
    if (122 : Int32) < l0 then
      f22_16 h
    else 
      f22_17 h 1
def f23_39 (h : mH) (l0 : Nat) : Option (Unit × mH) :=
mGd (Nat.beq (mK h l0).1 6 && true) (
    mGd (true && true) (some ((), (mSI h l0 3 1))))
def f23_0 (l0 : Nat) (s : (mH)) : Option ((mH) ⊕ (Unit × mH)) :=
mGd (Nat.beq (mK s l0).1 6 && (Nat.beq (mK s l0).1 6 && true)) (
    if ((mI s l0 1) : Int32) ≤ (mI s l0 2) then
    mX (f23_39 s l0)
  else 
    mGd (((Nat.beq (mK s l0).1 6 && (mR s l0 0).isSome) && (Nat.beq (mK s l0).1 6 && ((Nat.beq (mK s ((mR s l0 0).getD 0)).1 100 && mIn (mI s l0 2) (mK s ((mR s l0 0).getD 0)).2) && true))) && true) ((f22 s (mI s ((mR s l0 0).getD 0) (Int32.toNatClampNeg (mI s l0 2)))).bind (fun r1 =>
      if (r1 : Int32) = 0 then
      mX (f23_39 s l0)
    else 
      mGd (Nat.beq (mK s l0).1 6 && (Nat.beq (mK s l0).1 6 && true)) (
        some (.inl ((mSI s l0 2 ((mI s l0 2) + 1))))))))
def f23 (h : mH) (l0 : Nat) : Option (Unit × mH) :=
mLoop (f23_0 l0) mFuel (h)
def f24_17 (h : mH) (q0 : Int32) : Option (Int32) :=
mGd (true && mIs01 q0) (some (q0 : Int32))
def f24_16 (h : mH) : Option (Int32) :=
f24_17 h 0
def f24 (h : mH) (l0 : Int32) : Option (Int32) :=
if (l0 : Int32) < 48 then
    f24_16 h
  else 
    if (57 : Int32) < l0 then
      f24_16 h
    else 
      f24_17 h 1
def f25_88 (h : mH) (l0 : Nat) : Option (Unit × mH) :=
mGd (Nat.beq (mK h l0).1 6 && (Nat.beq (mK h l0).1 6 && true)) (
    if (2 : Int32) < ((mI h l0 2) - (mI h l0 4)) then
    mGd (Nat.beq (mK h l0).1 6 && true) (
      mGd (true && true) (some ((), (mSI h l0 3 4))))
  else 
    mGd (Nat.beq (mK h l0).1 6 && true) (
      mGd (true && true) (some ((), (mSI h l0 3 2)))))
def f25_85 (h : mH) (l0 : Nat) : Option ((mH) ⊕ (Unit × mH)) :=
some (.inl (h))
def f25_5 (l0 : Nat) (s : (mH)) : Option ((mH) ⊕ (Unit × mH)) :=
mGd (Nat.beq (mK s l0).1 6 && (Nat.beq (mK s l0).1 6 && true)) (
    if ((mI s l0 1) : Int32) ≤ (mI s l0 2) then
    mX (f25_88 s l0)
  else 
    mGd (((Nat.beq (mK s l0).1 6 && (mR s l0 0).isSome) && (Nat.beq (mK s l0).1 6 && ((Nat.beq (mK s ((mR s l0 0).getD 0)).1 100 && mIn (mI s l0 2) (mK s ((mR s l0 0).getD 0)).2) && true))) && true) ((f24 s (mI s ((mR s l0 0).getD 0) (Int32.toNatClampNeg (mI s l0 2)))).bind (fun r1 =>
      if (r1 : Int32) = 0 then
      mX (f25_88 s l0)
    else 
      mGd (Nat.beq (mK s l0).1 6 && (Nat.beq (mK s l0).1 6 && true)) (
        if (2 : Int32) ≤ ((mI s l0 2) - (mI s l0 4)) then
        mGd (Nat.beq (mK s l0).1 6 && true) (
          mGd (Nat.beq (mK s l0).1 6 && true) (
          mGd (Nat.beq (mK s l0).1 6 && (Nat.beq (mK s l0).1 6 && true)) (
          some (.inl ((mSI (mSI s l0 5 (mI s l0 5)) l0 2 ((mI (mSI s l0 5 (mI s l0 5)) l0 2) + 1)))))))
      else 
        mGd (Nat.beq (mK s l0).1 6 && ((Nat.beq (mK s l0).1 6 && (mR s l0 0).isSome) && (Nat.beq (mK s l0).1 6 && ((Nat.beq (mK s ((mR s l0 0).getD 0)).1 100 && mIn (mI s l0 2) (mK s ((mR s l0 0).getD 0)).2) && true)))) (
          mGd (Nat.beq (mK s l0).1 6 && true) (
          mGd (Nat.beq (mK s l0).1 6 && (Nat.beq (mK s l0).1 6 && true)) (
          f25_85 (mSI (mSI s l0 5 (((10 * (mI s l0 5)) + (mI s ((mR s l0 0).getD 0) (Int32.toNatClampNeg (mI s l0 2)))) - 48)) l0 2 ((mI (mSI s l0 5 (((10 * (mI s l0 5)) + (mI s ((mR s l0 0).getD 0) (Int32.toNatClampNeg (mI s l0 2)))) - 48)) l0 2) + 1)) l0)))))))
def f25 (h : mH) (l0 : Nat) : Option (Unit × mH) :=
mGd (Nat.beq (mK h l0).1 6 && true) (
    mLoop (f25_5 l0) mFuel ((mSI h l0 5 0)))
def f21_156 (h : mH) : Option (Unit × mH) :=
mGd (true && true) (some ((), h))
def f21_52 (h : mH) (l0 : Nat) : Option (Unit × mH) :=
mGd (Nat.beq (mK h l0).1 6 && (Nat.beq (mK h l0).1 6 && true)) (
    mGd (Nat.beq (mK h l0).1 6 && (Nat.beq (mK h l0).1 6 && true)) (
    if ((mI (mSI h l0 4 (mI h l0 2)) l0 2) : Int32) < (mI (mSI h l0 4 (mI h l0 2)) l0 1) then
    mGd (((Nat.beq (mK h l0).1 6 && (mR h l0 0).isSome) && (Nat.beq (mK h l0).1 6 && ((Nat.beq (mK h ((mR h l0 0).getD 0)).1 100 && mIn (mI (mSI h l0 4 (mI h l0 2)) l0 2) (mK h ((mR h l0 0).getD 0)).2) && true))) && true) ((f22 (mSI h l0 4 (mI h l0 2)) (mI (mSI h l0 4 (mI h l0 2)) ((mR h l0 0).getD 0) (Int32.toNatClampNeg (mI (mSI h l0 4 (mI h l0 2)) l0 2)))).bind (fun r1 =>
      if (r1 : Int32) = 0 then
      mGd (((Nat.beq (mK h l0).1 6 && (mR h l0 0).isSome) && (Nat.beq (mK h l0).1 6 && ((Nat.beq (mK h ((mR h l0 0).getD 0)).1 100 && mIn (mI (mSI h l0 4 (mI h l0 2)) l0 2) (mK h ((mR h l0 0).getD 0)).2) && true))) && true) ((f24 (mSI h l0 4 (mI h l0 2)) (mI (mSI h l0 4 (mI h l0 2)) ((mR h l0 0).getD 0) (Int32.toNatClampNeg (mI (mSI h l0 4 (mI h l0 2)) l0 2)))).bind (fun r2 =>
        if (r2 : Int32) = 0 then
        mGd ((Nat.beq (mK h l0).1 6 && (mR h l0 0).isSome) && (Nat.beq (mK h l0).1 6 && ((Nat.beq (mK h ((mR h l0 0).getD 0)).1 100 && mIn (mI (mSI h l0 4 (mI h l0 2)) l0 2) (mK h ((mR h l0 0).getD 0)).2) && true))) (
          if ((mI (mSI h l0 4 (mI h l0 2)) ((mR h l0 0).getD 0) (Int32.toNatClampNeg (mI (mSI h l0 4 (mI h l0 2)) l0 2))) : Int32) = 59 then
          mGd (Nat.beq (mK h l0).1 6 && true) (
            mGd (Nat.beq (mK h l0).1 6 && (Nat.beq (mK h l0).1 6 && true)) (
            f21_156 (mSI (mSI (mSI h l0 4 (mI h l0 2)) l0 3 3) l0 2 ((mI (mSI (mSI h l0 4 (mI h l0 2)) l0 3 3) l0 2) + 1))))
        else 
          mGd (Nat.beq (mK h l0).1 6 && true) (
            mGd (Nat.beq (mK h l0).1 6 && (Nat.beq (mK h l0).1 6 && true)) (
            f21_156 (mSI (mSI (mSI h l0 4 (mI h l0 2)) l0 3 4) l0 2 ((mI (mSI (mSI h l0 4 (mI h l0 2)) l0 3 4) l0 2) + 1)))))
      else 
        mGd (true && Nat.beq (mK h l0).1 6) ((f25 (mSI h l0 4 (mI h l0 2)) l0).bind (fun r3 =>
          f21_156 r3.2))))
    else 
      mGd (true && Nat.beq (mK h l0).1 6) ((f23 (mSI h l0 4 (mI h l0 2)) l0).bind (fun r4 =>
        f21_156 r4.2))))
  else 
    mGd (Nat.beq (mK h l0).1 6 && true) (
      f21_156 (mSI (mSI h l0 4 (mI h l0 2)) l0 3 0))))
def f21_39 (h : mH) (l0 : Nat) : Option ((mH) ⊕ (Unit × mH)) :=
mGd (Nat.beq (mK h l0).1 6 && (Nat.beq (mK h l0).1 6 && true)) (
    some (.inl ((mSI h l0 2 ((mI h l0 2) + 1)))))
def f21_0 (l0 : Nat) (s : (mH)) : Option ((mH) ⊕ (Unit × mH)) :=
mGd (Nat.beq (mK s l0).1 6 && (Nat.beq (mK s l0).1 6 && true)) (
    if ((mI s l0 1) : Int32) ≤ (mI s l0 2) then
    mX (f21_52 s l0)
  else 
    mGd ((Nat.beq (mK s l0).1 6 && (mR s l0 0).isSome) && (Nat.beq (mK s l0).1 6 && ((Nat.beq (mK s ((mR s l0 0).getD 0)).1 100 && mIn (mI s l0 2) (mK s ((mR s l0 0).getD 0)).2) && true))) (
      if ((mI s ((mR s l0 0).getD 0) (Int32.toNatClampNeg (mI s l0 2))) : Int32) = 10 then
      f21_39 s l0
    else 
      mGd ((Nat.beq (mK s l0).1 6 && (mR s l0 0).isSome) && (Nat.beq (mK s l0).1 6 && ((Nat.beq (mK s ((mR s l0 0).getD 0)).1 100 && mIn (mI s l0 2) (mK s ((mR s l0 0).getD 0)).2) && true))) (
        if ((mI s ((mR s l0 0).getD 0) (Int32.toNatClampNeg (mI s l0 2))) : Int32) = 32 then
        f21_39 s l0
      else 
        mX (f21_52 s l0))))
def f21 (h : mH) (l0 : Nat) : Option (Unit × mH) :=
mLoop (f21_0 l0) mFuel (h)
def f20 (h : mH) (l0 : Nat) (l1 : Nat) (l2 : Int32) : Option (Unit × mH) :=
mGd (Nat.beq (mK h l0).1 6 && true) (
    mGd (Nat.beq (mK h l1).1 100 && (Nat.beq (mK h l0).1 6 && true)) (
    mGd (Nat.beq (mK h l0).1 6 && true) (
    mGd (true && Nat.beq (mK h l0).1 6) ((f21 (mSI (mSI (mSR h l0 0 (some l1)) l0 1 (if ((Int32.ofNat (mK h l1).2) : Int32) < l2 then (Int32.ofNat (mK h l1).2) else l2)) l0 2 0) l0).bind (fun r1 =>
    mGd (true && true) (some ((), r1.2)))))))
def f29_28 (h : mH) (l0 : Nat) (l1 : Nat) (s : (Int32)) : Option ((Int32) ⊕ (Int32)) :=
mGd ((Nat.ble 1000000 l1 && Nat.blt l1 1000014 && true) && true) (
    if ((Int32.ofNat (mStr.getD (l1 - 1000000) []).length) : Int32) ≤ s then
    mX (mGd (true && mIs01 1) (some (1 : Int32)))
  else 
    mGd ((Nat.beq (mK h l0).1 6 && (mR h l0 0).isSome) && (Nat.beq (mK h l0).1 6 && ((Nat.beq (mK h ((mR h l0 0).getD 0)).1 100 && mIn ((mI h l0 4) + s) (mK h ((mR h l0 0).getD 0)).2) && ((Nat.ble 1000000 l1 && Nat.blt l1 1000014 && mIn s (mStr.getD (l1 - 1000000) []).length && true) && true)))) (
      if ((mI h ((mR h l0 0).getD 0) (Int32.toNatClampNeg ((mI h l0 4) + s))) : Int32) = ((mStr.getD (l1 - 1000000) []).getD (Int32.toNatClampNeg s) 0) then
      some (.inl ((s + 1)))
    else 
      mX (mGd (true && mIs01 0) (some (0 : Int32)))))
def f29_24 (h : mH) : Option (Int32) :=
mGd (true && mIs01 0) (some (0 : Int32))
def f29 (h : mH) (l0 : Nat) (l1 : Nat) : Option (Int32) :=
mGd (Nat.beq (mK h l0).1 6 && true) (
    if ((mI h l0 3) : Int32) = 1 then
    mGd (Nat.beq (mK h l0).1 6 && (Nat.beq (mK h l0).1 6 && ((Nat.ble 1000000 l1 && Nat.blt l1 1000014 && true) && true))) (
      if (((mI h l0 2) - (mI h l0 4)) : Int32) = (Int32.ofNat (mStr.getD (l1 - 1000000) []).length) then
      mLoop (f29_28 h l0 l1) mFuel (0)
    else 
      f29_24 h)
  else 
    f29_24 h)
def f28_93 (h : mH) (q0 : Int32) : Option (Int32) :=
mGd (true && true) (some (q0 : Int32))
def f28 (h : mH) (l0 : Nat) : Option (Int32) :=
mGd (((Nat.beq (mK h l0).1 5 && (mR h l0 5).isSome) && true) && Nat.beq (mK h ((mR h l0 5).getD 0)).1 6) ((f29 h ((mR h l0 5).getD 0) 1000000).bind (fun r1 =>
    if (r1 : Int32) = 0 then
    mGd (((Nat.beq (mK h l0).1 5 && (mR h l0 5).isSome) && true) && Nat.beq (mK h ((mR h l0 5).getD 0)).1 6) ((f29 h ((mR h l0 5).getD 0) 1000001).bind (fun r2 =>
      if (r2 : Int32) = 0 then
      mGd (((Nat.beq (mK h l0).1 5 && (mR h l0 5).isSome) && true) && Nat.beq (mK h ((mR h l0 5).getD 0)).1 6) ((f29 h ((mR h l0 5).getD 0) 1000002).bind (fun r3 =>
        if (r3 : Int32) = 0 then
        mGd (((Nat.beq (mK h l0).1 5 && (mR h l0 5).isSome) && true) && Nat.beq (mK h ((mR h l0 5).getD 0)).1 6) ((f29 h ((mR h l0 5).getD 0) 1000003).bind (fun r4 =>
          if (r4 : Int32) = 0 then
          mGd (((Nat.beq (mK h l0).1 5 && (mR h l0 5).isSome) && true) && Nat.beq (mK h ((mR h l0 5).getD 0)).1 6) ((f29 h ((mR h l0 5).getD 0) 1000004).bind (fun r5 =>
            if (r5 : Int32) = 0 then
            mGd (((Nat.beq (mK h l0).1 5 && (mR h l0 5).isSome) && true) && Nat.beq (mK h ((mR h l0 5).getD 0)).1 6) ((f29 h ((mR h l0 5).getD 0) 1000005).bind (fun r6 =>
              if (r6 : Int32) = 0 then
              f28_93 h (-1)
            else 
              f28_93 h 11))
          else 
            mGd (true && true) (some (10 : Int32))))
        else 
          mGd (true && true) (some (9 : Int32))))
      else 
        mGd (true && true) (some (8 : Int32))))
    else 
      mGd (true && true) (some (7 : Int32))))
  else 
    mGd (true && true) (some (6 : Int32))))
def f30_87 (h : mH) (q0 : Int32) : Option (Int32) :=
mGd (true && true) (some (q0 : Int32))
def f30 (h : mH) (l0 : Nat) : Option (Int32) :=
mGd (((Nat.beq (mK h l0).1 5 && (mR h l0 5).isSome) && true) && Nat.beq (mK h ((mR h l0 5).getD 0)).1 6) ((f29 h ((mR h l0 5).getD 0) 1000006).bind (fun r1 =>
    if (r1 : Int32) = 0 then
    mGd (((Nat.beq (mK h l0).1 5 && (mR h l0 5).isSome) && true) && Nat.beq (mK h ((mR h l0 5).getD 0)).1 6) ((f29 h ((mR h l0 5).getD 0) 1000007).bind (fun r2 =>
      if (r2 : Int32) = 0 then
      mGd (((Nat.beq (mK h l0).1 5 && (mR h l0 5).isSome) && true) && Nat.beq (mK h ((mR h l0 5).getD 0)).1 6) ((f29 h ((mR h l0 5).getD 0) 1000008).bind (fun r3 =>
        if (r3 : Int32) = 0 then
        mGd (((Nat.beq (mK h l0).1 5 && (mR h l0 5).isSome) && true) && Nat.beq (mK h ((mR h l0 5).getD 0)).1 6) ((f29 h ((mR h l0 5).getD 0) 1000009).bind (fun r4 =>
          if (r4 : Int32) = 0 then
          mGd (((Nat.beq (mK h l0).1 5 && (mR h l0 5).isSome) && true) && Nat.beq (mK h ((mR h l0 5).getD 0)).1 6) ((f29 h ((mR h l0 5).getD 0) 1000010).bind (fun r5 =>
            if (r5 : Int32) = 0 then
            mGd (((Nat.beq (mK h l0).1 5 && (mR h l0 5).isSome) && true) && Nat.beq (mK h ((mR h l0 5).getD 0)).1 6) ((f29 h ((mR h l0 5).getD 0) 1000011).bind (fun r6 =>
              if (r6 : Int32) = 0 then
              f30_87 h (-1)
            else 
              f30_87 h 5))
          else 
            mGd (true && true) (some (4 : Int32))))
        else 
          mGd (true && true) (some (3 : Int32))))
      else 
        mGd (true && true) (some (2 : Int32))))
    else 
      mGd (true && true) (some (1 : Int32))))
  else 
    mGd (true && true) (some (0 : Int32))))
def f27_73 (h : mH) (q0 : Int32) : Option (Int32) :=
mGd (true && true) (some (q0 : Int32))
def f27 (h : mH) (l0 : Nat) (l1 : Int32) : Option (Int32) :=
if (l1 : Int32) = 0 then
    mGd (true && Nat.beq (mK h l0).1 5) ((f28 h l0).bind (fun r1 =>
      mGd (true && true) (some (r1 : Int32))))
  else if (l1 : Int32) = 1 then
    mGd (true && Nat.beq (mK h l0).1 5) ((f30 h l0).bind (fun r2 =>
      mGd (true && true) (some (r2 : Int32))))
  else if (l1 : Int32) = 2 then
    mGd (((Nat.beq (mK h l0).1 5 && (mR h l0 5).isSome) && true) && Nat.beq (mK h ((mR h l0 5).getD 0)).1 6) ((f29 h ((mR h l0 5).getD 0) 1000012).bind (fun r3 =>
      if (r3 : Int32) = 0 then
      mGd (((Nat.beq (mK h l0).1 5 && (mR h l0 5).isSome) && true) && Nat.beq (mK h ((mR h l0 5).getD 0)).1 6) ((f29 h ((mR h l0 5).getD 0) 1000013).bind (fun r4 =>
        if (r4 : Int32) = 0 then
        f27_73 h (-1)
      else 
        f27_73 h 13))
    else 
      f27_73 h 12))
  else 
    mGd (true && true) (some ((-1) : Int32))
def f31 (h : mH) (l0 : Nat) : Option (Unit × mH) :=
mGd (Nat.beq (mK h l0).1 5 && true) (
    mGd ((Nat.beq (mK h l0).1 5 && (mR h l0 5).isSome) && (Nat.beq (mK h ((mR h l0 5).getD 0)).1 6 && (Nat.beq (mK h l0).1 5 && true))) (
    mGd (true && true) (some ((), (mSI (mSI h l0 3 1) l0 4 (mI (mSI h l0 3 1) ((mR h l0 5).getD 0) 4))))))
def f32_52 (h : mH) : Option (Int32) :=
mGd (true && true) (some (2 : Int32))
def f32_54 (h : mH) : Option (Int32) :=
mGd (true && true) (some (0 : Int32))
def f32_56 (h : mH) : Option (Int32) :=
mGd (true && true) (some (1 : Int32))
def f32 (h : mH) (l0 : Int32) : Option (Int32) :=
if (l0 : Int32) = 3 then
    f32_52 h
  else if (l0 : Int32) = 4 then
    f32_54 h
  else if (l0 : Int32) = 5 then
    f32_54 h
  else if (l0 : Int32) = 6 then
    f32_52 h
  else if (l0 : Int32) = 7 then
    f32_52 h
  else if (l0 : Int32) = 8 then
    f32_52 h
  else if (l0 : Int32) = 9 then
    f32_56 h
  else if (l0 : Int32) = 10 then
    f32_56 h
  else if (l0 : Int32) = 11 then
    f32_52 h
  else 
    f32_56 h
def f36_17 (h : mH) : Option (Unit × mH) :=
mGd (true && true) (some ((), h))
def f36 (h : mH) (l0 : Nat) (l1 : Int32) (l2 : Int32) : Option (Unit × mH) :=
mGd (Nat.beq (mK h l0).1 5 && true) (
    if ((mI h l0 3) : Int32) = 0 then
    mGd (Nat.beq (mK h l0).1 5 && true) (
      mGd (Nat.beq (mK h l0).1 5 && true) (
      f36_17 (mSI (mSI h l0 3 l1) l0 4 l2)))
  else 
    f36_17 h)
def f35_14 (h : mH) : Option (Unit × mH) :=
mGd (true && true) (some ((), h))
def f35 (h : mH) (l0 : Nat) (l1 : Int32) (l2 : Int32) : Option (Unit × mH) :=
if (l1 : Int32) < l2 then
    f35_14 h
  else 
    mGd ((Nat.beq (mK h l0).1 5 && true) && Nat.beq (mK h l0).1 5) ((f36 h l0 3 (mI h l0 8)).bind (fun r1 =>
      f35_14 r1.2))
def f37_25 (h : mH) : Option (Unit × mH) :=
mGd (true && true) (some ((), h))
def f37 (h : mH) (l0 : Nat) (l1 : Int32) (l2 : Int32) (l3 : Int32) : Option (Unit × mH) :=
mGd (((Nat.beq (mK h l0).1 5 && (mR h l0 6).isSome) && ((Nat.beq (mK h ((mR h l0 6).getD 0)).1 100 && mIn l1 (mK h ((mR h l0 6).getD 0)).2) && true)) && true) ((f17 h (mI h ((mR h l0 6).getD 0) (Int32.toNatClampNeg l1)) l2 l3).bind (fun r1 =>
    if (r1 : Int32) = 0 then
    mGd (((Nat.beq (mK h l0).1 5 && (mR h l0 7).isSome) && ((Nat.beq (mK h ((mR h l0 7).getD 0)).1 100 && mIn l1 (mK h ((mR h l0 7).getD 0)).2) && true)) && Nat.beq (mK h l0).1 5) ((f36 h l0 2 (mI h ((mR h l0 7).getD 0) (Int32.toNatClampNeg l1))).bind (fun r2 =>
      f37_25 r2.2))
  else 
    f37_25 h))
def f34_90 (h : mH) : Option (Unit × mH) :=
mGd (true && true) (some ((), h))
def f34_56 (h : mH) (l0 : Nat) : Option (Unit × mH) :=
mGd ((Nat.beq (mK h l0).1 5 && (mR h l0 0).isSome) && ((Nat.beq (mK h ((mR h l0 0).getD 0)).1 2 && (mR h ((mR h l0 0).getD 0) 1).isSome) && ((Nat.beq (mK h l0).1 5 && (mR h l0 0).isSome) && (Nat.beq (mK h ((mR h l0 0).getD 0)).1 2 && ((Nat.beq (mK h l0).1 5 && (mR h l0 6).isSome) && ((Nat.beq (mK h ((mR h l0 6).getD 0)).1 100 && mIn 1 (mK h ((mR h l0 6).getD 0)).2) && ((Nat.beq (mK h ((mR h ((mR h l0 0).getD 0) 1).getD 0)).1 100 && mIn (mI h ((mR h l0 0).getD 0) 6) (mK h ((mR h ((mR h l0 0).getD 0) 1).getD 0)).2) && true))))))) (
    mGd ((Nat.beq (mK h l0).1 5 && (mR h l0 0).isSome) && (Nat.beq (mK h ((mR h l0 0).getD 0)).1 2 && (Nat.beq (mK h ((mR h l0 0).getD 0)).1 2 && true))) (
    f34_90 (mSI (mSI h ((mR h ((mR h l0 0).getD 0) 1).getD 0) (Int32.toNatClampNeg (mI h ((mR h l0 0).getD 0) 6)) (mI h ((mR h l0 6).getD 0) (Int32.toNatClampNeg 1))) ((mR h l0 0).getD 0) 6 ((mI (mSI h ((mR h ((mR h l0 0).getD 0) 1).getD 0) (Int32.toNatClampNeg (mI h ((mR h l0 0).getD 0) 6)) (mI h ((mR h l0 6).getD 0) (Int32.toNatClampNeg 1))) ((mR h l0 0).getD 0) 6) + 1))))
def f34 (h : mH) (l0 : Nat) : Option (Unit × mH) :=
mGd (((Nat.beq (mK h l0).1 5 && (mR h l0 0).isSome) && (Nat.beq (mK h ((mR h l0 0).getD 0)).1 2 && true)) && Nat.beq (mK h l0).1 5) ((f35 h l0 (mI h ((mR h l0 0).getD 0) 6) 8).bind (fun r1 =>
    mGd (true && Nat.beq (mK r1.2 l0).1 5) ((f37 r1.2 l0 0 1 9).bind (fun r2 =>
    mGd (true && Nat.beq (mK r2.2 l0).1 5) ((f37 r2.2 l0 1 0 5).bind (fun r3 =>
    mGd (Nat.beq (mK r3.2 l0).1 5 && true) (
    if ((mI r3.2 l0 3) : Int32) = 0 then
    mGd ((Nat.beq (mK r3.2 l0).1 5 && (mR r3.2 l0 0).isSome) && ((Nat.beq (mK r3.2 ((mR r3.2 l0 0).getD 0)).1 2 && (mR r3.2 ((mR r3.2 l0 0).getD 0) 0).isSome) && ((Nat.beq (mK r3.2 l0).1 5 && (mR r3.2 l0 0).isSome) && (Nat.beq (mK r3.2 ((mR r3.2 l0 0).getD 0)).1 2 && ((Nat.beq (mK r3.2 l0).1 5 && (mR r3.2 l0 6).isSome) && ((Nat.beq (mK r3.2 ((mR r3.2 l0 6).getD 0)).1 100 && mIn 0 (mK r3.2 ((mR r3.2 l0 6).getD 0)).2) && ((Nat.beq (mK r3.2 ((mR r3.2 ((mR r3.2 l0 0).getD 0) 0).getD 0)).1 100 && mIn (mI r3.2 ((mR r3.2 l0 0).getD 0) 6) (mK r3.2 ((mR r3.2 ((mR r3.2 l0 0).getD 0) 0).getD 0)).2) && true))))))) (
      f34_56 (mSI r3.2 ((mR r3.2 ((mR r3.2 l0 0).getD 0) 0).getD 0) (Int32.toNatClampNeg (mI r3.2 ((mR r3.2 l0 0).getD 0) 6)) (mI r3.2 ((mR r3.2 l0 6).getD 0) (Int32.toNatClampNeg 0))) l0)
  else 
    f34_90 r3.2)))))))
def f38_73 (h : mH) : Option (Unit × mH) :=
mGd (true && true) (some ((), h))
def f38_54 (h : mH) (l0 : Nat) : Option (Unit × mH) :=
mGd (Nat.beq (mK h l0).1 5 && ((Nat.beq (mK h l0).1 5 && (mR h l0 6).isSome) && ((Nat.beq (mK h ((mR h l0 6).getD 0)).1 100 && mIn 0 (mK h ((mR h l0 6).getD 0)).2) && (Nat.beq (mK h l0).1 5 && true)))) (
    f38_73 (mSI h l0 9 (if ((mI h l0 9) : Int32) < ((mI h ((mR h l0 6).getD 0) (Int32.toNatClampNeg 0)) + 1) then ((mI h ((mR h l0 6).getD 0) (Int32.toNatClampNeg 0)) + 1) else (mI h l0 9))))
def f38 (h : mH) (l0 : Nat) : Option (Unit × mH) :=
mGd (true && Nat.beq (mK h l0).1 5) ((f37 h l0 0 0 7).bind (fun r1 =>
    mGd (((Nat.beq (mK r1.2 l0).1 5 && (mR r1.2 l0 6).isSome) && ((Nat.beq (mK r1.2 ((mR r1.2 l0 6).getD 0)).1 100 && mIn 0 (mK r1.2 ((mR r1.2 l0 6).getD 0)).2) && true)) && Nat.beq (mK r1.2 l0).1 5) ((f37 r1.2 l0 1 0 ((mI r1.2 ((mR r1.2 l0 6).getD 0) (Int32.toNatClampNeg 0)) - 1)).bind (fun r2 =>
    mGd (Nat.beq (mK r2.2 l0).1 5 && true) (
    if ((mI r2.2 l0 3) : Int32) = 0 then
    mGd ((Nat.beq (mK r2.2 l0).1 5 && (mR r2.2 l0 0).isSome) && ((Nat.beq (mK r2.2 ((mR r2.2 l0 0).getD 0)).1 2 && (mR r2.2 ((mR r2.2 l0 0).getD 0) 2).isSome) && ((Nat.beq (mK r2.2 l0).1 5 && (mR r2.2 l0 6).isSome) && ((Nat.beq (mK r2.2 ((mR r2.2 l0 6).getD 0)).1 100 && mIn 0 (mK r2.2 ((mR r2.2 l0 6).getD 0)).2) && ((Nat.beq (mK r2.2 ((mR r2.2 ((mR r2.2 l0 0).getD 0) 2).getD 0)).1 100 && mIn (mI r2.2 ((mR r2.2 l0 6).getD 0) (Int32.toNatClampNeg 0)) (mK r2.2 ((mR r2.2 ((mR r2.2 l0 0).getD 0) 2).getD 0)).2) && ((Nat.beq (mK r2.2 l0).1 5 && (mR r2.2 l0 6).isSome) && ((Nat.beq (mK r2.2 ((mR r2.2 l0 6).getD 0)).1 100 && mIn 1 (mK r2.2 ((mR r2.2 l0 6).getD 0)).2) && ((Nat.beq (mK r2.2 ((mR r2.2 ((mR r2.2 l0 0).getD 0) 2).getD 0)).1 100 && mIn (mI r2.2 ((mR r2.2 l0 6).getD 0) (Int32.toNatClampNeg 0)) (mK r2.2 ((mR r2.2 ((mR r2.2 l0 0).getD 0) 2).getD 0)).2) && true)))))))) (
      f38_54 (mSI r2.2 ((mR r2.2 ((mR r2.2 l0 0).getD 0) 2).getD 0) (Int32.toNatClampNeg (mI r2.2 ((mR r2.2 l0 6).getD 0) (Int32.toNatClampNeg 0))) ((mI r2.2 ((mR r2.2 ((mR r2.2 l0 0).getD 0) 2).getD 0) (Int32.toNatClampNeg (mI r2.2 ((mR r2.2 l0 6).getD 0) (Int32.toNatClampNeg 0)))) ||| ((1 : Int32) <<< ((mI r2.2 ((mR r2.2 l0 6).getD 0) (Int32.toNatClampNeg 1)) &&& (31 : Int32))))) l0)
  else 
    f38_73 r2.2)))))
def f39_42 (h : mH) : Option (Unit × mH) :=
mGd (true && true) (some ((), h))
def f39 (h : mH) (l0 : Nat) : Option (Unit × mH) :=
mGd (true && Nat.beq (mK h l0).1 5) ((f37 h l0 0 0 5).bind (fun r1 =>
    mGd (true && Nat.beq (mK r1.2 l0).1 5) ((f37 r1.2 l0 1 0 9).bind (fun r2 =>
    mGd (Nat.beq (mK r2.2 l0).1 5 && true) (
    if ((mI r2.2 l0 3) : Int32) = 0 then
    mGd ((Nat.beq (mK r2.2 l0).1 5 && (mR r2.2 l0 0).isSome) && ((Nat.beq (mK r2.2 ((mR r2.2 l0 0).getD 0)).1 2 && (mR r2.2 ((mR r2.2 l0 0).getD 0) 3).isSome) && ((Nat.beq (mK r2.2 l0).1 5 && (mR r2.2 l0 6).isSome) && ((Nat.beq (mK r2.2 ((mR r2.2 l0 6).getD 0)).1 100 && mIn 0 (mK r2.2 ((mR r2.2 l0 6).getD 0)).2) && ((Nat.beq (mK r2.2 l0).1 5 && (mR r2.2 l0 6).isSome) && ((Nat.beq (mK r2.2 ((mR r2.2 l0 6).getD 0)).1 100 && mIn 1 (mK r2.2 ((mR r2.2 l0 6).getD 0)).2) && ((Nat.beq (mK r2.2 ((mR r2.2 ((mR r2.2 l0 0).getD 0) 3).getD 0)).1 100 && mIn (mI r2.2 ((mR r2.2 l0 6).getD 0) (Int32.toNatClampNeg 0)) (mK r2.2 ((mR r2.2 ((mR r2.2 l0 0).getD 0) 3).getD 0)).2) && true))))))) (
      f39_42 (mSI r2.2 ((mR r2.2 ((mR r2.2 l0 0).getD 0) 3).getD 0) (Int32.toNatClampNeg (mI r2.2 ((mR r2.2 l0 6).getD 0) (Int32.toNatClampNeg 0))) (mI r2.2 ((mR r2.2 l0 6).getD 0) (Int32.toNatClampNeg 1))))
  else 
    f39_42 r2.2)))))
def f40_28 (h : mH) : Option (Unit × mH) :=
mGd (true && true) (some ((), h))
def f40 (h : mH) (l0 : Nat) : Option (Unit × mH) :=
mGd (true && Nat.beq (mK h l0).1 5) ((f37 h l0 0 1 12).bind (fun r1 =>
    mGd (Nat.beq (mK r1.2 l0).1 5 && true) (
    if ((mI r1.2 l0 3) : Int32) = 0 then
    mGd ((Nat.beq (mK r1.2 l0).1 5 && (mR r1.2 l0 0).isSome) && ((Nat.beq (mK r1.2 l0).1 5 && (mR r1.2 l0 6).isSome) && ((Nat.beq (mK r1.2 ((mR r1.2 l0 6).getD 0)).1 100 && mIn 0 (mK r1.2 ((mR r1.2 l0 6).getD 0)).2) && (Nat.beq (mK r1.2 ((mR r1.2 l0 0).getD 0)).1 2 && true)))) (
      f40_28 (mSI r1.2 ((mR r1.2 l0 0).getD 0) 8 (mI r1.2 ((mR r1.2 l0 6).getD 0) (Int32.toNatClampNeg 0))))
  else 
    f40_28 r1.2)))
def f41_62 (h : mH) : Option (Unit × mH) :=
mGd (true && true) (some ((), h))
def f41_49 (h : mH) (l0 : Nat) : Option (Unit × mH) :=
mGd ((Nat.beq (mK h l0).1 5 && (mR h l0 0).isSome) && (Nat.beq (mK h ((mR h l0 0).getD 0)).1 2 && (Nat.beq (mK h ((mR h l0 0).getD 0)).1 2 && true))) (
    f41_62 (mSI h ((mR h l0 0).getD 0) 7 ((mI h ((mR h l0 0).getD 0) 7) + 1)))
def f41 (h : mH) (l0 : Nat) : Option (Unit × mH) :=
mGd (((Nat.beq (mK h l0).1 5 && (mR h l0 0).isSome) && (Nat.beq (mK h ((mR h l0 0).getD 0)).1 2 && true)) && Nat.beq (mK h l0).1 5) ((f35 h l0 (mI h ((mR h l0 0).getD 0) 7) 6).bind (fun r1 =>
    mGd (true && Nat.beq (mK r1.2 l0).1 5) ((f37 r1.2 l0 0 1 9).bind (fun r2 =>
    mGd (Nat.beq (mK r2.2 l0).1 5 && true) (
    if ((mI r2.2 l0 3) : Int32) = 0 then
    mGd ((Nat.beq (mK r2.2 l0).1 5 && (mR r2.2 l0 0).isSome) && ((Nat.beq (mK r2.2 ((mR r2.2 l0 0).getD 0)).1 2 && (mR r2.2 ((mR r2.2 l0 0).getD 0) 4).isSome) && ((Nat.beq (mK r2.2 l0).1 5 && (mR r2.2 l0 0).isSome) && (Nat.beq (mK r2.2 ((mR r2.2 l0 0).getD 0)).1 2 && ((Nat.beq (mK r2.2 l0).1 5 && (mR r2.2 l0 6).isSome) && ((Nat.beq (mK r2.2 ((mR r2.2 l0 6).getD 0)).1 100 && mIn 0 (mK r2.2 ((mR r2.2 l0 6).getD 0)).2) && ((Nat.beq (mK r2.2 ((mR r2.2 ((mR r2.2 l0 0).getD 0) 4).getD 0)).1 100 && mIn (mI r2.2 ((mR r2.2 l0 0).getD 0) 7) (mK r2.2 ((mR r2.2 ((mR r2.2 l0 0).getD 0) 4).getD 0)).2) && true))))))) (
      f41_49 (mSI r2.2 ((mR r2.2 ((mR r2.2 l0 0).getD 0) 4).getD 0) (Int32.toNatClampNeg (mI r2.2 ((mR r2.2 l0 0).getD 0) 7)) (mI r2.2 ((mR r2.2 l0 6).getD 0) (Int32.toNatClampNeg 0))) l0)
  else 
    f41_62 r2.2)))))
def f42_100 (h : mH) : Option (Unit × mH) :=
mGd (true && true) (some ((), h))
def f42_72 (h : mH) (l0 : Nat) : Option (Unit × mH) :=
mGd (Nat.beq (mK h l0).1 5 && ((Nat.beq (mK h l0).1 5 && (mR h l0 6).isSome) && ((Nat.beq (mK h ((mR h l0 6).getD 0)).1 100 && mIn 0 (mK h ((mR h l0 6).getD 0)).2) && ((Nat.beq (mK h l0).1 5 && (mR h l0 6).isSome) && ((Nat.beq (mK h ((mR h l0 6).getD 0)).1 100 && mIn 1 (mK h ((mR h l0 6).getD 0)).2) && (Nat.beq (mK h l0).1 5 && true)))))) (
    f42_100 (mSI h l0 10 (if ((mI h l0 10) : Int32) < ((if ((mI h ((mR h l0 6).getD 0) (Int32.toNatClampNeg 0)) : Int32) < (mI h ((mR h l0 6).getD 0) (Int32.toNatClampNeg 1)) then (mI h ((mR h l0 6).getD 0) (Int32.toNatClampNeg 1)) else (mI h ((mR h l0 6).getD 0) (Int32.toNatClampNeg 0))) + 1) then ((if ((mI h ((mR h l0 6).getD 0) (Int32.toNatClampNeg 0)) : Int32) < (mI h ((mR h l0 6).getD 0) (Int32.toNatClampNeg 1)) then (mI h ((mR h l0 6).getD 0) (Int32.toNatClampNeg 1)) else (mI h ((mR h l0 6).getD 0) (Int32.toNatClampNeg 0))) + 1) else (mI h l0 10))))
def f42_40 (h : mH) (l0 : Nat) : Option (Unit × mH) :=
mGd (Nat.beq (mK h l0).1 5 && true) (
    if ((mI h l0 3) : Int32) = 0 then
    mGd ((Nat.beq (mK h l0).1 5 && (mR h l0 0).isSome) && ((Nat.beq (mK h ((mR h l0 0).getD 0)).1 2 && (mR h ((mR h l0 0).getD 0) 5).isSome) && ((Nat.beq (mK h l0).1 5 && (mR h l0 6).isSome) && ((Nat.beq (mK h ((mR h l0 6).getD 0)).1 100 && mIn 0 (mK h ((mR h l0 6).getD 0)).2) && ((Nat.beq (mK h ((mR h ((mR h l0 0).getD 0) 5).getD 0)).1 100 && mIn (mI h ((mR h l0 6).getD 0) (Int32.toNatClampNeg 0)) (mK h ((mR h ((mR h l0 0).getD 0) 5).getD 0)).2) && ((Nat.beq (mK h l0).1 5 && (mR h l0 6).isSome) && ((Nat.beq (mK h ((mR h l0 6).getD 0)).1 100 && mIn 1 (mK h ((mR h l0 6).getD 0)).2) && ((Nat.beq (mK h ((mR h ((mR h l0 0).getD 0) 5).getD 0)).1 100 && mIn (mI h ((mR h l0 6).getD 0) (Int32.toNatClampNeg 0)) (mK h ((mR h ((mR h l0 0).getD 0) 5).getD 0)).2) && true)))))))) (
      f42_72 (mSI h ((mR h ((mR h l0 0).getD 0) 5).getD 0) (Int32.toNatClampNeg (mI h ((mR h l0 6).getD 0) (Int32.toNatClampNeg 0))) ((mI h ((mR h ((mR h l0 0).getD 0) 5).getD 0) (Int32.toNatClampNeg (mI h ((mR h l0 6).getD 0) (Int32.toNatClampNeg 0)))) ||| ((1 : Int32) <<< ((mI h ((mR h l0 6).getD 0) (Int32.toNatClampNeg 1)) &&& (31 : Int32))))) l0)
  else 
    f42_100 h)
def f42 (h : mH) (l0 : Nat) : Option (Unit × mH) :=
mGd (true && Nat.beq (mK h l0).1 5) ((f37 h l0 0 0 5).bind (fun r1 =>
    mGd (true && Nat.beq (mK r1.2 l0).1 5) ((f37 r1.2 l0 1 0 5).bind (fun r2 =>
    mGd ((Nat.beq (mK r2.2 l0).1 5 && (mR r2.2 l0 6).isSome) && ((Nat.beq (mK r2.2 ((mR r2.2 l0 6).getD 0)).1 100 && mIn 0 (mK r2.2 ((mR r2.2 l0 6).getD 0)).2) && ((Nat.beq (mK r2.2 l0).1 5 && (mR r2.2 l0 6).isSome) && ((Nat.beq (mK r2.2 ((mR r2.2 l0 6).getD 0)).1 100 && mIn 1 (mK r2.2 ((mR r2.2 l0 6).getD 0)).2) && true)))) (
    if ((mI r2.2 ((mR r2.2 l0 6).getD 0) (Int32.toNatClampNeg 0)) : Int32) = (mI r2.2 ((mR r2.2 l0 6).getD 0) (Int32.toNatClampNeg 1)) then
    mGd (((Nat.beq (mK r2.2 l0).1 5 && (mR r2.2 l0 7).isSome) && ((Nat.beq (mK r2.2 ((mR r2.2 l0 7).getD 0)).1 100 && mIn 1 (mK r2.2 ((mR r2.2 l0 7).getD 0)).2) && true)) && Nat.beq (mK r2.2 l0).1 5) ((f36 r2.2 l0 2 (mI r2.2 ((mR r2.2 l0 7).getD 0) (Int32.toNatClampNeg 1))).bind (fun r3 =>
      f42_40 r3.2 l0))
  else 
    f42_40 r2.2 l0)))))
def f44_30 (h : mH) (l0 : Nat) : Option (Unit × mH) :=
mGd (Nat.beq (mK h l0).1 4 && (Nat.beq (mK h l0).1 4 && true)) (
    mGd (true && true) (some ((), (mSI h l0 2 ((mI h l0 2) + 1)))))
def f44 (h : mH) (l0 : Nat) (l1 : Int32) (l2 : Int32) : Option (Unit × mH) :=
mGd (Nat.beq (mK h l0).1 4 && true) (
    if ((mI h l0 2) : Int32) < 8 then
    mGd ((Nat.beq (mK h l0).1 4 && (mR h l0 0).isSome) && (Nat.beq (mK h l0).1 4 && ((Nat.beq (mK h ((mR h l0 0).getD 0)).1 100 && mIn (mI h l0 2) (mK h ((mR h l0 0).getD 0)).2) && true))) (
      mGd ((Nat.beq (mK h l0).1 4 && (mR h l0 1).isSome) && (Nat.beq (mK h l0).1 4 && ((Nat.beq (mK h ((mR h l0 1).getD 0)).1 100 && mIn (mI (mSI h ((mR h l0 0).getD 0) (Int32.toNatClampNeg (mI h l0 2)) l1) l0 2) (mK h ((mR h l0 1).getD 0)).2) && true))) (
      f44_30 (mSI (mSI h ((mR h l0 0).getD 0) (Int32.toNatClampNeg (mI h l0 2)) l1) ((mR h l0 1).getD 0) (Int32.toNatClampNeg (mI (mSI h ((mR h l0 0).getD 0) (Int32.toNatClampNeg (mI h l0 2)) l1) l0 2)) l2) l0))
  else 
    mGd (true && true) (some ((), h)))
def f43_41 (h : mH) : Option (Unit × mH) :=
mGd (true && true) (some ((), h))
def f43 (h : mH) (l0 : Nat) (l1 : Int32) : Option (Unit × mH) :=
mGd (((Nat.beq (mK h l0).1 5 && (mR h l0 2).isSome) && (Nat.beq (mK h ((mR h l0 2).getD 0)).1 4 && true)) && Nat.beq (mK h l0).1 5) ((f35 h l0 (mI h ((mR h l0 2).getD 0) 2) 8).bind (fun r1 =>
    mGd (true && Nat.beq (mK r1.2 l0).1 5) ((f37 r1.2 l0 0 0 5).bind (fun r2 =>
    mGd (Nat.beq (mK r2.2 l0).1 5 && true) (
    if ((mI r2.2 l0 3) : Int32) = 0 then
    mGd (((Nat.beq (mK r2.2 l0).1 5 && (mR r2.2 l0 2).isSome) && ((Nat.beq (mK r2.2 l0).1 5 && (mR r2.2 l0 6).isSome) && ((Nat.beq (mK r2.2 ((mR r2.2 l0 6).getD 0)).1 100 && mIn 0 (mK r2.2 ((mR r2.2 l0 6).getD 0)).2) && true))) && Nat.beq (mK r2.2 ((mR r2.2 l0 2).getD 0)).1 4) ((f44 r2.2 ((mR r2.2 l0 2).getD 0) l1 (mI r2.2 ((mR r2.2 l0 6).getD 0) (Int32.toNatClampNeg 0))).bind (fun r3 =>
      f43_41 r3.2))
  else 
    f43_41 r2.2)))))
def f46_50 (h : mH) : Option (Unit × mH) :=
mGd (true && true) (some ((), h))
def f46_30 (h : mH) (l0 : Nat) (l3 : Int32) : Option (Unit × mH) :=
mGd ((Nat.beq (mK h l0).1 3 && (mR h l0 2).isSome) && (Nat.beq (mK h l0).1 3 && ((Nat.beq (mK h ((mR h l0 2).getD 0)).1 100 && mIn (mI h l0 3) (mK h ((mR h l0 2).getD 0)).2) && true))) (
    mGd (Nat.beq (mK h l0).1 3 && (Nat.beq (mK h l0).1 3 && true)) (
    f46_50 (mSI (mSI h ((mR h l0 2).getD 0) (Int32.toNatClampNeg (mI h l0 3)) l3) l0 3 ((mI (mSI h ((mR h l0 2).getD 0) (Int32.toNatClampNeg (mI h l0 3)) l3) l0 3) + 1))))
def f46 (h : mH) (l0 : Nat) (l1 : Int32) (l2 : Int32) (l3 : Int32) : Option (Unit × mH) :=
mGd (Nat.beq (mK h l0).1 3 && true) (
    if ((mI h l0 3) : Int32) < 40 then
    mGd ((Nat.beq (mK h l0).1 3 && (mR h l0 0).isSome) && (Nat.beq (mK h l0).1 3 && ((Nat.beq (mK h ((mR h l0 0).getD 0)).1 100 && mIn (mI h l0 3) (mK h ((mR h l0 0).getD 0)).2) && true))) (
      mGd ((Nat.beq (mK h l0).1 3 && (mR h l0 1).isSome) && (Nat.beq (mK h l0).1 3 && ((Nat.beq (mK h ((mR h l0 1).getD 0)).1 100 && mIn (mI (mSI h ((mR h l0 0).getD 0) (Int32.toNatClampNeg (mI h l0 3)) l1) l0 3) (mK h ((mR h l0 1).getD 0)).2) && true))) (
      f46_30 (mSI (mSI h ((mR h l0 0).getD 0) (Int32.toNatClampNeg (mI h l0 3)) l1) ((mR h l0 1).getD 0) (Int32.toNatClampNeg (mI (mSI h ((mR h l0 0).getD 0) (Int32.toNatClampNeg (mI h l0 3)) l1) l0 3)) l2) l0 l3))
  else 
    mGd (true && true) (some ((), h)))
def f45_89 (h : mH) : Option (Unit × mH) :=
mGd (true && true) (some ((), h))
def f45_62 (h : mH) (l0 : Nat) (l1 : Int32) : Option (Unit × mH) :=
mGd (Nat.beq (mK h l0).1 5 && true) (
    if ((mI h l0 3) : Int32) = 0 then
    mGd (((Nat.beq (mK h l0).1 5 && (mR h l0 1).isSome) && ((Nat.beq (mK h l0).1 5 && (mR h l0 6).isSome) && ((Nat.beq (mK h ((mR h l0 6).getD 0)).1 100 && mIn 0 (mK h ((mR h l0 6).getD 0)).2) && ((Nat.beq (mK h l0).1 5 && (mR h l0 6).isSome) && ((Nat.beq (mK h ((mR h l0 6).getD 0)).1 100 && mIn 1 (mK h ((mR h l0 6).getD 0)).2) && true))))) && Nat.beq (mK h ((mR h l0 1).getD 0)).1 3) ((f46 h ((mR h l0 1).getD 0) l1 (mI h ((mR h l0 6).getD 0) (Int32.toNatClampNeg 0)) (mI h ((mR h l0 6).getD 0) (Int32.toNatClampNeg 1))).bind (fun r4 =>
      f45_89 r4.2))
  else 
    f45_89 h)
def f45_50 (h : mH) (l0 : Nat) (l1 : Int32) : Option (Unit × mH) :=
if (l1 : Int32) = 3 then
    mGd (true && Nat.beq (mK h l0).1 5) ((f37 h l0 1 0 5).bind (fun r3 =>
      f45_62 r3.2 l0 l1))
  else 
    f45_62 h l0 l1
def f45_42 (h : mH) (l0 : Nat) (l1 : Int32) : Option (Unit × mH) :=
mGd (true && Nat.beq (mK h l0).1 5) ((f37 h l0 0 0 7).bind (fun r5 =>
    f45_50 r5.2 l0 l1))
def f45 (h : mH) (l0 : Nat) (l1 : Int32) : Option (Unit × mH) :=
mGd (((Nat.beq (mK h l0).1 5 && (mR h l0 1).isSome) && (Nat.beq (mK h ((mR h l0 1).getD 0)).1 3 && true)) && Nat.beq (mK h l0).1 5) ((f35 h l0 (mI h ((mR h l0 1).getD 0) 3) 40).bind (fun r1 =>
    if (l1 : Int32) = 2 then
    mGd (true && Nat.beq (mK r1.2 l0).1 5) ((f37 r1.2 l0 0 0 5).bind (fun r2 =>
      f45_50 r2.2 l0 l1))
  else 
    if (l1 : Int32) = 0 then
      f45_42 r1.2 l0 l1
    else 
      if (l1 : Int32) = 1 then
        f45_42 r1.2 l0 l1
      else 
        if (l1 : Int32) = 3 then
          f45_42 r1.2 l0 l1
        else 
          f45_50 r1.2 l0 l1))
def f33_103 (h : mH) : Option (Unit × mH) :=
mGd (true && true) (some ((), h))
def f33_90 (h : mH) (l0 : Nat) (l1 : Int32) : Option (Unit × mH) :=
mGd (true && Nat.beq (mK h l0).1 5) ((f43 h l0 l1).bind (fun r7 =>
    f33_103 r7.2))
def f33 (h : mH) (l0 : Nat) (l1 : Int32) : Option (Unit × mH) :=
if (l1 : Int32) = 6 then
    mGd (true && Nat.beq (mK h l0).1 5) ((f34 h l0).bind (fun r1 =>
      f33_103 r1.2))
  else if (l1 : Int32) = 7 then
    mGd (true && Nat.beq (mK h l0).1 5) ((f38 h l0).bind (fun r2 =>
      f33_103 r2.2))
  else if (l1 : Int32) = 8 then
    mGd (true && Nat.beq (mK h l0).1 5) ((f39 h l0).bind (fun r3 =>
      f33_103 r3.2))
  else if (l1 : Int32) = 9 then
    mGd (true && Nat.beq (mK h l0).1 5) ((f40 h l0).bind (fun r4 =>
      f33_103 r4.2))
  else if (l1 : Int32) = 10 then
    mGd (true && Nat.beq (mK h l0).1 5) ((f41 h l0).bind (fun r5 =>
      f33_103 r5.2))
  else if (l1 : Int32) = 11 then
    mGd (true && Nat.beq (mK h l0).1 5) ((f42 h l0).bind (fun r6 =>
      f33_103 r6.2))
  else if (l1 : Int32) = 12 then
    f33_90 h l0 l1
  else if (l1 : Int32) = 13 then
    f33_90 h l0 l1
  else 
    mGd (true && Nat.beq (mK h l0).1 5) ((f45 h l0 l1).bind (fun r8 =>
      f33_103 r8.2))
def f26_106 (h : mH) (l0 : Nat) (l2 : Int32) (l3 : Int32) (l4 : Int32) : Option ((Int32 × mH) ⊕ (Unit × mH)) :=
some (.inl ((l4 + 1), h))
def f26_35 (l0 : Nat) (l2 : Int32) (l3 : Int32) (s : (Int32 × mH)) : Option ((Int32 × mH) ⊕ (Unit × mH)) :=
if (2 : Int32) ≤ s.1 then
    mX (
mGd (((Nat.beq (mK s.2 l0).1 5 && (mR s.2 l0 5).isSome) && true) && Nat.beq (mK s.2 ((mR s.2 l0 5).getD 0)).1 6) ((f21 s.2 ((mR s.2 l0 5).getD 0)).bind (fun r4 =>
      mGd ((Nat.beq (mK r4.2 l0).1 5 && (mR r4.2 l0 5).isSome) && (Nat.beq (mK r4.2 ((mR r4.2 l0 5).getD 0)).1 6 && true)) (
      if ((mI r4.2 ((mR r4.2 l0 5).getD 0) 3) : Int32) = 3 then
      mGd (true && Nat.beq (mK r4.2 l0).1 5) ((f33 r4.2 l0 l2).bind (fun r5 =>
        mGd (((Nat.beq (mK r5.2 l0).1 5 && (mR r5.2 l0 5).isSome) && true) && Nat.beq (mK r5.2 ((mR r5.2 l0 5).getD 0)).1 6) ((f21 r5.2 ((mR r5.2 l0 5).getD 0)).bind (fun r6 =>
        mGd (true && true) (some ((), r6.2))))))
    else 
      mGd (true && Nat.beq (mK r4.2 l0).1 5) ((f31 r4.2 l0).bind (fun r7 =>
        mGd (true && true) (some ((), r7.2))))))))
  else 
    mGd ((Nat.beq (mK s.2 l0).1 5 && (mR s.2 l0 6).isSome) && ((Nat.beq (mK s.2 ((mR s.2 l0 6).getD 0)).1 100 && mIn s.1 (mK s.2 ((mR s.2 l0 6).getD 0)).2) && true)) (
      if (l3 : Int32) ≤ s.1 then
      f26_106 (mSI s.2 ((mR s.2 l0 6).getD 0) (Int32.toNatClampNeg s.1) (-1)) l0 l2 l3 s.1
    else 
      mGd (((Nat.beq (mK s.2 l0).1 5 && (mR s.2 l0 5).isSome) && true) && Nat.beq (mK s.2 ((mR s.2 l0 5).getD 0)).1 6) ((f21 (mSI s.2 ((mR s.2 l0 6).getD 0) (Int32.toNatClampNeg s.1) (-1)) ((mR s.2 l0 5).getD 0)).bind (fun r8 =>
        mGd ((Nat.beq (mK r8.2 l0).1 5 && (mR r8.2 l0 5).isSome) && (Nat.beq (mK r8.2 ((mR r8.2 l0 5).getD 0)).1 6 && true)) (
        if ((mI r8.2 ((mR r8.2 l0 5).getD 0) 3) : Int32) = 2 then
        mGd ((Nat.beq (mK r8.2 l0).1 5 && (mR r8.2 l0 6).isSome) && ((Nat.beq (mK r8.2 l0).1 5 && (mR r8.2 l0 5).isSome) && (Nat.beq (mK r8.2 ((mR r8.2 l0 5).getD 0)).1 6 && ((Nat.beq (mK r8.2 ((mR r8.2 l0 6).getD 0)).1 100 && mIn s.1 (mK r8.2 ((mR r8.2 l0 6).getD 0)).2) && true)))) (
          mGd ((Nat.beq (mK r8.2 l0).1 5 && (mR r8.2 l0 7).isSome) && ((Nat.beq (mK r8.2 l0).1 5 && (mR r8.2 l0 5).isSome) && (Nat.beq (mK r8.2 ((mR r8.2 l0 5).getD 0)).1 6 && ((Nat.beq (mK r8.2 ((mR r8.2 l0 7).getD 0)).1 100 && mIn s.1 (mK r8.2 ((mR r8.2 l0 7).getD 0)).2) && true)))) (
          f26_106 (mSI (mSI r8.2 ((mR r8.2 l0 6).getD 0) (Int32.toNatClampNeg s.1) (mI r8.2 ((mR r8.2 l0 5).getD 0) 5)) ((mR r8.2 l0 7).getD 0) (Int32.toNatClampNeg s.1) (mI (mSI r8.2 ((mR r8.2 l0 6).getD 0) (Int32.toNatClampNeg s.1) (mI r8.2 ((mR r8.2 l0 5).getD 0) 5)) ((mR r8.2 l0 5).getD 0) 4)) l0 l2 l3 s.1))
      else 
        mX (
mGd (true && Nat.beq (mK r8.2 l0).1 5) ((f31 r8.2 l0).bind (fun r9 =>
          mGd (true && true) (some ((), r9.2)))))))))
def f26 (h : mH) (l0 : Nat) (l1 : Int32) : Option (Unit × mH) :=
mGd (true && Nat.beq (mK h l0).1 5) ((f27 h l0 l1).bind (fun r1 =>
    mGd ((Nat.beq (mK h l0).1 5 && (mR h l0 5).isSome) && (Nat.beq (mK h ((mR h l0 5).getD 0)).1 6 && (Nat.beq (mK h l0).1 5 && true))) (
    if (r1 : Int32) = (-1) then
    mGd (true && Nat.beq (mK h l0).1 5) ((f31 (mSI h l0 8 (mI h ((mR h l0 5).getD 0) 4)) l0).bind (fun r2 =>
      mGd (true && true) (some ((), r2.2))))
  else 
    mGd (true && true) ((f32 (mSI h l0 8 (mI h ((mR h l0 5).getD 0) 4)) r1).bind (fun r3 =>
      mLoop (f26_35 l0 r1 r3) mFuel (0, (mSI h l0 8 (mI h ((mR h l0 5).getD 0) 4))))))))
def f19_127 (h : mH) : Option (Unit × mH) :=
mGd (true && true) (some ((), h))
def f19_121 (h : mH) (l0 : Nat) (l3 : Int32) : Option (Unit × mH) :=
mGd (true && Nat.beq (mK h l0).1 5) ((f36 h l0 4 l3).bind (fun r3 =>
    f19_127 r3.2))
def f19_93 (h : mH) (l0 : Nat) (l3 : Int32) : Option (Unit × mH) :=
mGd (Nat.beq (mK h l0).1 5 && ((Nat.beq (mK h l0).1 5 && (mR h l0 0).isSome) && (Nat.beq (mK h ((mR h l0 0).getD 0)).1 2 && true))) (
    if ((mI h ((mR h l0 0).getD 0) 6) : Int32) < (mI h l0 9) then
    f19_121 h l0 l3
  else 
    mGd (Nat.beq (mK h l0).1 5 && ((Nat.beq (mK h l0).1 5 && (mR h l0 0).isSome) && (Nat.beq (mK h ((mR h l0 0).getD 0)).1 2 && true))) (
      if ((mI h l0 10) : Int32) ≤ (mI h ((mR h l0 0).getD 0) 7) then
      f19_127 h
    else 
      f19_121 h l0 l3))
def f19_55 (l0 : Nat) (l1 : Int32) (l3 : Int32) (s : (Int32 × mH)) : Option ((Int32 × mH) ⊕ (Unit × mH)) :=
if (600 : Int32) ≤ s.1 then
    mX (f19_93 s.2 l0 l3)
  else 
    mGd ((Nat.beq (mK s.2 l0).1 5 && (mR s.2 l0 5).isSome) && (Nat.beq (mK s.2 ((mR s.2 l0 5).getD 0)).1 6 && true)) (
      if ((mI s.2 ((mR s.2 l0 5).getD 0) 3) : Int32) = 0 then
      mX (f19_93 s.2 l0 l3)
    else 
      mGd (true && Nat.beq (mK s.2 l0).1 5) ((f26 s.2 l0 l1).bind (fun r4 =>
        mGd (Nat.beq (mK r4.2 l0).1 5 && true) (
        if ((mI r4.2 l0 3) : Int32) = 1 then
        mX (mGd (true && true) (some ((), r4.2)))
      else 
        some (.inl ((s.1 + 1), r4.2))))))
def f19 (h : mH) (l0 : Nat) (l1 : Int32) (l2 : Nat) (l3 : Int32) : Option (Unit × mH) :=
mGd (((Nat.beq (mK h l0).1 5 && (mR h l0 0).isSome) && true) && Nat.beq (mK h ((mR h l0 0).getD 0)).1 2) ((f3 h ((mR h l0 0).getD 0)).bind (fun r1 =>
    mGd ((Nat.beq (mK r1.2 l0).1 5 && (mR r1.2 l0 1).isSome) && (Nat.beq (mK r1.2 ((mR r1.2 l0 1).getD 0)).1 3 && true)) (
    mGd ((Nat.beq (mK r1.2 l0).1 5 && (mR r1.2 l0 2).isSome) && (Nat.beq (mK r1.2 ((mR r1.2 l0 2).getD 0)).1 4 && true)) (
    mGd (Nat.beq (mK r1.2 l0).1 5 && true) (
    mGd (Nat.beq (mK r1.2 l0).1 5 && true) (
    mGd (Nat.beq (mK r1.2 l0).1 5 && true) (
    mGd (Nat.beq (mK r1.2 l0).1 5 && true) (
    mGd (((Nat.beq (mK r1.2 l0).1 5 && (mR r1.2 l0 5).isSome) && true) && Nat.beq (mK r1.2 ((mR r1.2 l0 5).getD 0)).1 6) ((f20 (mSI (mSI (mSI (mSI (mSI (mSI r1.2 ((mR r1.2 l0 1).getD 0) 3 0) ((mR r1.2 l0 2).getD 0) 2 0) l0 9 0) l0 10 0) l0 3 0) l0 4 (-1)) ((mR r1.2 l0 5).getD 0) l2 l3).bind (fun r2 =>
    mLoop (f19_55 l0 l1 l3) mFuel (0, r2.2)))))))))))
def f48_114 (h : mH) : Option (Unit × mH) :=
mGd (true && true) (some ((), h))
def f48_90 (h : mH) (l0 : Nat) (l1 : Nat) : Option (Unit × mH) :=
mGd (Nat.beq (mK h l1).1 2 && (Nat.beq (mK h l0).1 2 && true)) (
    mGd (Nat.beq (mK h l1).1 2 && (Nat.beq (mK h l0).1 2 && true)) (
    mGd (Nat.beq (mK h l1).1 2 && (Nat.beq (mK h l0).1 2 && true)) (
    f48_114 (mSI (mSI (mSI h l0 6 (mI h l1 6)) l0 7 (mI (mSI h l0 6 (mI h l1 6)) l1 7)) l0 8 (mI (mSI (mSI h l0 6 (mI h l1 6)) l0 7 (mI (mSI h l0 6 (mI h l1 6)) l1 7)) l1 8)))))
def f48_60 (h : mH) (l0 : Nat) (l1 : Nat) : Option (Unit × mH) :=
mGd ((Nat.beq (mK h l1).1 2 && (mR h l1 4).isSome) && ((Nat.beq (mK h l0).1 2 && (mR h l0 4).isSome) && ((Nat.beq (mK h ((mR h l1 4).getD 0)).1 100 && Nat.beq (mK h ((mR h l0 4).getD 0)).1 100 && decide (¬ (0 : Int32) < 0) && decide (¬ (0 : Int32) < 0) && decide (¬ (6 : Int32) < 0) && Nat.ble ((Int32.toNatClampNeg 0) + (Int32.toNatClampNeg 6)) (mK h ((mR h l1 4).getD 0)).2 && Nat.ble ((Int32.toNatClampNeg 0) + (Int32.toNatClampNeg 6)) (mK h ((mR h l0 4).getD 0)).2 && true) && true))) (
    mGd ((Nat.beq (mK h l1).1 2 && (mR h l1 5).isSome) && ((Nat.beq (mK h l0).1 2 && (mR h l0 5).isSome) && ((Nat.beq (mK h ((mR h l1 5).getD 0)).1 100 && Nat.beq (mK h ((mR h l0 5).getD 0)).1 100 && decide (¬ (0 : Int32) < 0) && decide (¬ (0 : Int32) < 0) && decide (¬ (6 : Int32) < 0) && Nat.ble ((Int32.toNatClampNeg 0) + (Int32.toNatClampNeg 6)) (mK h ((mR h l1 5).getD 0)).2 && Nat.ble ((Int32.toNatClampNeg 0) + (Int32.toNatClampNeg 6)) (mK h ((mR h l0 5).getD 0)).2 && true) && true))) (
    f48_90 (mCp (mCp h ((mR h l1 4).getD 0) (Int32.toNatClampNeg 0) ((mR h l0 4).getD 0) (Int32.toNatClampNeg 0) (Int32.toNatClampNeg 6)) ((mR h l1 5).getD 0) (Int32.toNatClampNeg 0) ((mR h l0 5).getD 0) (Int32.toNatClampNeg 0) (Int32.toNatClampNeg 6)) l0 l1))
def f48_30 (h : mH) (l0 : Nat) (l1 : Nat) : Option (Unit × mH) :=
mGd ((Nat.beq (mK h l1).1 2 && (mR h l1 2).isSome) && ((Nat.beq (mK h l0).1 2 && (mR h l0 2).isSome) && ((Nat.beq (mK h ((mR h l1 2).getD 0)).1 100 && Nat.beq (mK h ((mR h l0 2).getD 0)).1 100 && decide (¬ (0 : Int32) < 0) && decide (¬ (0 : Int32) < 0) && decide (¬ (8 : Int32) < 0) && Nat.ble ((Int32.toNatClampNeg 0) + (Int32.toNatClampNeg 8)) (mK h ((mR h l1 2).getD 0)).2 && Nat.ble ((Int32.toNatClampNeg 0) + (Int32.toNatClampNeg 8)) (mK h ((mR h l0 2).getD 0)).2 && true) && true))) (
    mGd ((Nat.beq (mK h l1).1 2 && (mR h l1 3).isSome) && ((Nat.beq (mK h l0).1 2 && (mR h l0 3).isSome) && ((Nat.beq (mK h ((mR h l1 3).getD 0)).1 100 && Nat.beq (mK h ((mR h l0 3).getD 0)).1 100 && decide (¬ (0 : Int32) < 0) && decide (¬ (0 : Int32) < 0) && decide (¬ (6 : Int32) < 0) && Nat.ble ((Int32.toNatClampNeg 0) + (Int32.toNatClampNeg 6)) (mK h ((mR h l1 3).getD 0)).2 && Nat.ble ((Int32.toNatClampNeg 0) + (Int32.toNatClampNeg 6)) (mK h ((mR h l0 3).getD 0)).2 && true) && true))) (
    f48_60 (mCp (mCp h ((mR h l1 2).getD 0) (Int32.toNatClampNeg 0) ((mR h l0 2).getD 0) (Int32.toNatClampNeg 0) (Int32.toNatClampNeg 8)) ((mR h l1 3).getD 0) (Int32.toNatClampNeg 0) ((mR h l0 3).getD 0) (Int32.toNatClampNeg 0) (Int32.toNatClampNeg 6)) l0 l1))
def f48 (h : mH) (l0 : Nat) (l1 : Nat) : Option (Unit × mH) :=
mGd ((Nat.beq (mK h l1).1 2 && (mR h l1 0).isSome) && ((Nat.beq (mK h l0).1 2 && (mR h l0 0).isSome) && ((Nat.beq (mK h ((mR h l1 0).getD 0)).1 100 && Nat.beq (mK h ((mR h l0 0).getD 0)).1 100 && decide (¬ (0 : Int32) < 0) && decide (¬ (0 : Int32) < 0) && decide (¬ (8 : Int32) < 0) && Nat.ble ((Int32.toNatClampNeg 0) + (Int32.toNatClampNeg 8)) (mK h ((mR h l1 0).getD 0)).2 && Nat.ble ((Int32.toNatClampNeg 0) + (Int32.toNatClampNeg 8)) (mK h ((mR h l0 0).getD 0)).2 && true) && true))) (
    mGd ((Nat.beq (mK h l1).1 2 && (mR h l1 1).isSome) && ((Nat.beq (mK h l0).1 2 && (mR h l0 1).isSome) && ((Nat.beq (mK h ((mR h l1 1).getD 0)).1 100 && Nat.beq (mK h ((mR h l0 1).getD 0)).1 100 && decide (¬ (0 : Int32) < 0) && decide (¬ (0 : Int32) < 0) && decide (¬ (8 : Int32) < 0) && Nat.ble ((Int32.toNatClampNeg 0) + (Int32.toNatClampNeg 8)) (mK h ((mR h l1 1).getD 0)).2 && Nat.ble ((Int32.toNatClampNeg 0) + (Int32.toNatClampNeg 8)) (mK h ((mR h l0 1).getD 0)).2 && true) && true))) (
    f48_30 (mCp (mCp h ((mR h l1 0).getD 0) (Int32.toNatClampNeg 0) ((mR h l0 0).getD 0) (Int32.toNatClampNeg 0) (Int32.toNatClampNeg 8)) ((mR h l1 1).getD 0) (Int32.toNatClampNeg 0) ((mR h l0 1).getD 0) (Int32.toNatClampNeg 0) (Int32.toNatClampNeg 8)) l0 l1))
def f49_53 (h : mH) : Option (Unit × mH) :=
mGd (true && true) (some ((), h))
def f49_30 (h : mH) (l0 : Nat) (l1 : Nat) : Option (Unit × mH) :=
mGd ((Nat.beq (mK h l1).1 3 && (mR h l1 2).isSome) && ((Nat.beq (mK h l0).1 3 && (mR h l0 2).isSome) && ((Nat.beq (mK h ((mR h l1 2).getD 0)).1 100 && Nat.beq (mK h ((mR h l0 2).getD 0)).1 100 && decide (¬ (0 : Int32) < 0) && decide (¬ (0 : Int32) < 0) && decide (¬ (40 : Int32) < 0) && Nat.ble ((Int32.toNatClampNeg 0) + (Int32.toNatClampNeg 40)) (mK h ((mR h l1 2).getD 0)).2 && Nat.ble ((Int32.toNatClampNeg 0) + (Int32.toNatClampNeg 40)) (mK h ((mR h l0 2).getD 0)).2 && true) && true))) (
    mGd (Nat.beq (mK h l1).1 3 && (Nat.beq (mK h l0).1 3 && true)) (
    f49_53 (mSI (mCp h ((mR h l1 2).getD 0) (Int32.toNatClampNeg 0) ((mR h l0 2).getD 0) (Int32.toNatClampNeg 0) (Int32.toNatClampNeg 40)) l0 3 (mI (mCp h ((mR h l1 2).getD 0) (Int32.toNatClampNeg 0) ((mR h l0 2).getD 0) (Int32.toNatClampNeg 0) (Int32.toNatClampNeg 40)) l1 3))))
def f49 (h : mH) (l0 : Nat) (l1 : Nat) : Option (Unit × mH) :=
mGd ((Nat.beq (mK h l1).1 3 && (mR h l1 0).isSome) && ((Nat.beq (mK h l0).1 3 && (mR h l0 0).isSome) && ((Nat.beq (mK h ((mR h l1 0).getD 0)).1 100 && Nat.beq (mK h ((mR h l0 0).getD 0)).1 100 && decide (¬ (0 : Int32) < 0) && decide (¬ (0 : Int32) < 0) && decide (¬ (40 : Int32) < 0) && Nat.ble ((Int32.toNatClampNeg 0) + (Int32.toNatClampNeg 40)) (mK h ((mR h l1 0).getD 0)).2 && Nat.ble ((Int32.toNatClampNeg 0) + (Int32.toNatClampNeg 40)) (mK h ((mR h l0 0).getD 0)).2 && true) && true))) (
    mGd ((Nat.beq (mK h l1).1 3 && (mR h l1 1).isSome) && ((Nat.beq (mK h l0).1 3 && (mR h l0 1).isSome) && ((Nat.beq (mK h ((mR h l1 1).getD 0)).1 100 && Nat.beq (mK h ((mR h l0 1).getD 0)).1 100 && decide (¬ (0 : Int32) < 0) && decide (¬ (0 : Int32) < 0) && decide (¬ (40 : Int32) < 0) && Nat.ble ((Int32.toNatClampNeg 0) + (Int32.toNatClampNeg 40)) (mK h ((mR h l1 1).getD 0)).2 && Nat.ble ((Int32.toNatClampNeg 0) + (Int32.toNatClampNeg 40)) (mK h ((mR h l0 1).getD 0)).2 && true) && true))) (
    f49_30 (mCp (mCp h ((mR h l1 0).getD 0) (Int32.toNatClampNeg 0) ((mR h l0 0).getD 0) (Int32.toNatClampNeg 0) (Int32.toNatClampNeg 40)) ((mR h l1 1).getD 0) (Int32.toNatClampNeg 0) ((mR h l0 1).getD 0) (Int32.toNatClampNeg 0) (Int32.toNatClampNeg 40)) l0 l1))
def f50_30 (h : mH) (l0 : Nat) (l1 : Nat) : Option (Unit × mH) :=
mGd (Nat.beq (mK h l1).1 4 && (Nat.beq (mK h l0).1 4 && true)) (
    mGd (true && true) (some ((), (mSI h l0 2 (mI h l1 2)))))
def f50 (h : mH) (l0 : Nat) (l1 : Nat) : Option (Unit × mH) :=
mGd ((Nat.beq (mK h l1).1 4 && (mR h l1 0).isSome) && ((Nat.beq (mK h l0).1 4 && (mR h l0 0).isSome) && ((Nat.beq (mK h ((mR h l1 0).getD 0)).1 100 && Nat.beq (mK h ((mR h l0 0).getD 0)).1 100 && decide (¬ (0 : Int32) < 0) && decide (¬ (0 : Int32) < 0) && decide (¬ (8 : Int32) < 0) && Nat.ble ((Int32.toNatClampNeg 0) + (Int32.toNatClampNeg 8)) (mK h ((mR h l1 0).getD 0)).2 && Nat.ble ((Int32.toNatClampNeg 0) + (Int32.toNatClampNeg 8)) (mK h ((mR h l0 0).getD 0)).2 && true) && true))) (
    mGd ((Nat.beq (mK h l1).1 4 && (mR h l1 1).isSome) && ((Nat.beq (mK h l0).1 4 && (mR h l0 1).isSome) && ((Nat.beq (mK h ((mR h l1 1).getD 0)).1 100 && Nat.beq (mK h ((mR h l0 1).getD 0)).1 100 && decide (¬ (0 : Int32) < 0) && decide (¬ (0 : Int32) < 0) && decide (¬ (8 : Int32) < 0) && Nat.ble ((Int32.toNatClampNeg 0) + (Int32.toNatClampNeg 8)) (mK h ((mR h l1 1).getD 0)).2 && Nat.ble ((Int32.toNatClampNeg 0) + (Int32.toNatClampNeg 8)) (mK h ((mR h l0 1).getD 0)).2 && true) && true))) (
    f50_30 (mCp (mCp h ((mR h l1 0).getD 0) (Int32.toNatClampNeg 0) ((mR h l0 0).getD 0) (Int32.toNatClampNeg 0) (Int32.toNatClampNeg 8)) ((mR h l1 1).getD 0) (Int32.toNatClampNeg 0) ((mR h l0 1).getD 0) (Int32.toNatClampNeg 0) (Int32.toNatClampNeg 8)) l0 l1))
def f47_18 (h : mH) : Option (Unit × mH) :=
mGd (true && true) (some ((), h))
def f47_91 (h : mH) : Option (Unit × mH) :=
mGd (true && true) (some ((), h))
def f47_73 (h : mH) (l0 : Nat) (l1 : Int32) (l2 : Int32) : Option (Unit × mH) :=
mGd ((Nat.beq (mK h l0).1 1 && (mR h l0 1).isSome) && ((Nat.beq (mK h l0).1 1 && (mR h l0 1).isSome) && ((Nat.beq (mK h ((mR h l0 1).getD 0)).1 100 && mIn l1 (mK h ((mR h l0 1).getD 0)).2) && ((Nat.beq (mK h ((mR h l0 1).getD 0)).1 100 && mIn l1 (mK h ((mR h l0 1).getD 0)).2) && true)))) (
    f47_91 (mSI h ((mR h l0 1).getD 0) (Int32.toNatClampNeg l1) (if ((mI h ((mR h l0 1).getD 0) (Int32.toNatClampNeg l1)) : Int32) < (l2 + 1) then (l2 + 1) else (mI h ((mR h l0 1).getD 0) (Int32.toNatClampNeg l1)))))
def f47 (h : mH) (l0 : Nat) (l1 : Int32) (l2 : Int32) (l3 : Nat) : Option (Unit × mH) :=
mGd (true && true) ((f17 h l2 0 1).bind (fun r1 =>
    if (r1 : Int32) = 0 then
    f47_18 h
  else 
    mGd (true && true) ((f17 h l1 0 2).bind (fun r2 =>
      if (r2 : Int32) = 0 then
      f47_18 h
    else 
      if (l1 : Int32) = 0 then
        mGd (((Nat.beq (mK h l0).1 1 && (mR h l0 2).isSome) && ((Nat.beq (mK h ((mR h l0 2).getD 0)).1 202 && mIn l2 (mK h ((mR h l0 2).getD 0)).2 && (mR h ((mR h l0 2).getD 0) (Int32.toNatClampNeg l2)).isSome) && ((Nat.beq (mK h l3).1 5 && (mR h l3 0).isSome) && true))) && Nat.beq (mK h ((mR h ((mR h l0 2).getD 0) (Int32.toNatClampNeg l2)).getD 0)).1 2) ((f48 h ((mR h ((mR h l0 2).getD 0) (Int32.toNatClampNeg l2)).getD 0) ((mR h l3 0).getD 0)).bind (fun r3 =>
          f47_73 r3.2 l0 l1 l2))
      else 
        if (l1 : Int32) = 1 then
          mGd (((Nat.beq (mK h l0).1 1 && (mR h l0 3).isSome) && ((Nat.beq (mK h ((mR h l0 3).getD 0)).1 203 && mIn l2 (mK h ((mR h l0 3).getD 0)).2 && (mR h ((mR h l0 3).getD 0) (Int32.toNatClampNeg l2)).isSome) && ((Nat.beq (mK h l3).1 5 && (mR h l3 1).isSome) && true))) && Nat.beq (mK h ((mR h ((mR h l0 3).getD 0) (Int32.toNatClampNeg l2)).getD 0)).1 3) ((f49 h ((mR h ((mR h l0 3).getD 0) (Int32.toNatClampNeg l2)).getD 0) ((mR h l3 1).getD 0)).bind (fun r4 =>
            f47_73 r4.2 l0 l1 l2))
        else 
          mGd (((Nat.beq (mK h l0).1 1 && (mR h l0 4).isSome) && ((Nat.beq (mK h ((mR h l0 4).getD 0)).1 204 && mIn l2 (mK h ((mR h l0 4).getD 0)).2 && (mR h ((mR h l0 4).getD 0) (Int32.toNatClampNeg l2)).isSome) && ((Nat.beq (mK h l3).1 5 && (mR h l3 2).isSome) && true))) && Nat.beq (mK h ((mR h ((mR h l0 4).getD 0) (Int32.toNatClampNeg l2)).getD 0)).1 4) ((f50 h ((mR h ((mR h l0 4).getD 0) (Int32.toNatClampNeg l2)).getD 0) ((mR h l3 2).getD 0)).bind (fun r5 =>
            f47_73 r5.2 l0 l1 l2))))))
def f18_144 (h : mH) (l0 : Nat) (l1 : Int32) (l4 : Int32) : Option (Int32 × mH) :=
mGd ((Nat.beq (mK h l0).1 0 && (mR h l0 0).isSome) && (Nat.beq (mK h ((mR h l0 0).getD 0)).1 1 && true)) (
    if ((mI h ((mR h l0 0).getD 0) 6) : Int32) = 0 then
    mGd (((Nat.beq (mK h l0).1 0 && (mR h l0 0).isSome) && ((Nat.beq (mK h l0).1 0 && (mR h l0 3).isSome) && true)) && Nat.beq (mK h ((mR h l0 0).getD 0)).1 1) ((f47 h ((mR h l0 0).getD 0) l1 l4 ((mR h l0 3).getD 0)).bind (fun r4 =>
      mGd (true && true) (some (l4, r4.2))))
  else 
    mGd (true && true) (some ((-1), h)))
def f18_84 (h : mH) (l0 : Nat) (l1 : Int32) (l3 : Int32) (l4 : Int32) (q0 : Int32) : Option (Int32 × mH) :=
mGd (true && true) ((f17 h l4 0 q0).bind (fun r2 =>
    if (r2 : Int32) = 0 then
    mGd (true && true) (some ((-2), h))
  else 
    mGd (((Nat.beq (mK h l0).1 0 && (mR h l0 3).isSome) && ((Nat.beq (mK h l0).1 0 && (mR h l0 0).isSome) && ((Nat.beq (mK h ((mR h l0 0).getD 0)).1 1 && (mR h ((mR h l0 0).getD 0) 0).isSome) && true))) && Nat.beq (mK h ((mR h l0 3).getD 0)).1 5) ((f19 h ((mR h l0 3).getD 0) l1 ((mR h ((mR h l0 0).getD 0) 0).getD 0) l3).bind (fun r3 =>
      mGd ((Nat.beq (mK r3.2 l0).1 0 && (mR r3.2 l0 0).isSome) && ((Nat.beq (mK r3.2 l0).1 0 && (mR r3.2 l0 3).isSome) && (Nat.beq (mK r3.2 ((mR r3.2 l0 3).getD 0)).1 5 && (Nat.beq (mK r3.2 ((mR r3.2 l0 0).getD 0)).1 1 && true)))) (
      mGd ((Nat.beq (mK r3.2 l0).1 0 && (mR r3.2 l0 0).isSome) && ((Nat.beq (mK r3.2 l0).1 0 && (mR r3.2 l0 3).isSome) && (Nat.beq (mK r3.2 ((mR r3.2 l0 3).getD 0)).1 5 && (Nat.beq (mK r3.2 ((mR r3.2 l0 0).getD 0)).1 1 && true)))) (
      f18_144 (mSI (mSI r3.2 ((mR r3.2 l0 0).getD 0) 6 (mI r3.2 ((mR r3.2 l0 3).getD 0) 3)) ((mR r3.2 l0 0).getD 0) 7 (mI (mSI r3.2 ((mR r3.2 l0 0).getD 0) 6 (mI r3.2 ((mR r3.2 l0 3).getD 0) 3)) ((mR r3.2 l0 3).getD 0) 4)) l0 l1 l4))))))
def f18_62 (h : mH) (l0 : Nat) (l1 : Int32) (l2 : Int32) (l3 : Int32) (q0 : Int32) : Option (Int32 × mH) :=
if (l2 : Int32) = (-1) then
    f18_84 h l0 l1 l3 q0 1
  else 
    mGd ((Nat.beq (mK h l0).1 0 && (mR h l0 0).isSome) && ((Nat.beq (mK h ((mR h l0 0).getD 0)).1 1 && (mR h ((mR h l0 0).getD 0) 1).isSome) && ((Nat.beq (mK h ((mR h ((mR h l0 0).getD 0) 1).getD 0)).1 100 && mIn l1 (mK h ((mR h ((mR h l0 0).getD 0) 1).getD 0)).2) && true))) (
      f18_84 h l0 l1 l3 q0 ((mI h ((mR h ((mR h l0 0).getD 0) 1).getD 0) (Int32.toNatClampNeg l1)) - 1))
def f18 (h : mH) (l0 : Nat) (l1 : Int32) (l2 : Int32) : Option (Int32 × mH) :=
mGd ((Nat.beq (mK h l0).1 0 && (mR h l0 0).isSome) && (Nat.beq (mK h ((mR h l0 0).getD 0)).1 1 && ((Nat.beq (mK h l0).1 0 && (mR h l0 0).isSome) && (Nat.beq (mK h ((mR h l0 0).getD 0)).1 1 && true)))) (
    mGd ((Nat.beq (mK h l0).1 0 && (mR h l0 0).isSome) && (Nat.beq (mK h ((mR h l0 0).getD 0)).1 1 && true)) (
    mGd ((Nat.beq (mK h l0).1 0 && (mR h l0 0).isSome) && (Nat.beq (mK h ((mR h l0 0).getD 0)).1 1 && true)) (
    mGd (true && true) ((f17 (mSI (mSI (mSI h ((mR h l0 0).getD 0) 5 0) ((mR h l0 0).getD 0) 6 0) ((mR h l0 0).getD 0) 7 (-1)) l1 0 2).bind (fun r1 =>
    if (r1 : Int32) = 0 then
    mGd (true && true) (some ((-2), (mSI (mSI (mSI h ((mR h l0 0).getD 0) 5 0) ((mR h l0 0).getD 0) 6 0) ((mR h l0 0).getD 0) 7 (-1))))
  else 
    if (l2 : Int32) = (-1) then
      mGd ((Nat.beq (mK h l0).1 0 && (mR h l0 0).isSome) && ((Nat.beq (mK h ((mR h l0 0).getD 0)).1 1 && (mR h ((mR h l0 0).getD 0) 1).isSome) && ((Nat.beq (mK h ((mR h ((mR h l0 0).getD 0) 1).getD 0)).1 100 && mIn l1 (mK h ((mR h ((mR h l0 0).getD 0) 1).getD 0)).2) && true))) (
        f18_62 (mSI (mSI (mSI h ((mR h l0 0).getD 0) 5 0) ((mR h l0 0).getD 0) 6 0) ((mR h l0 0).getD 0) 7 (-1)) l0 l1 l2 (mI h ((mR h l0 0).getD 0) 5) (mI (mSI (mSI (mSI h ((mR h l0 0).getD 0) 5 0) ((mR h l0 0).getD 0) 6 0) ((mR h l0 0).getD 0) 7 (-1)) ((mR h ((mR h l0 0).getD 0) 1).getD 0) (Int32.toNatClampNeg l1)))
    else 
      f18_62 (mSI (mSI (mSI h ((mR h l0 0).getD 0) 5 0) ((mR h l0 0).getD 0) 6 0) ((mR h l0 0).getD 0) 7 (-1)) l0 l1 l2 (mI h ((mR h l0 0).getD 0) 5) l2)))))
def f51 (h : mH) (l0 : Nat) (l1 : Int32) : Option (Int32) :=
if (l1 : Int32) = 0 then
    mGd (((Nat.beq (mK h l0).1 0 && (mR h l0 0).isSome) && (Nat.beq (mK h ((mR h l0 0).getD 0)).1 1 && true)) && true) (some ((mI h ((mR h l0 0).getD 0) 6) : Int32))
  else if (l1 : Int32) = 1 then
    mGd (((Nat.beq (mK h l0).1 0 && (mR h l0 0).isSome) && (Nat.beq (mK h ((mR h l0 0).getD 0)).1 1 && true)) && true) (some ((mI h ((mR h l0 0).getD 0) 7) : Int32))
  else 
    mGd (true && true) (some ((-1) : Int32))
def f53 (h : mH) (l0 : Nat) (l1 : Int32) : Option (Option Nat) :=
mGd (((Nat.beq (mK h l0).1 1 && (mR h l0 1).isSome) && ((Nat.beq (mK h ((mR h l0 1).getD 0)).1 100 && mIn 0 (mK h ((mR h l0 1).getD 0)).2) && true)) && true) ((f17 h l1 0 ((mI h ((mR h l0 1).getD 0) (Int32.toNatClampNeg 0)) - 1)).bind (fun r1 =>
    if (r1 : Int32) = 0 then
    mGd (true && true) (some (none : Option Nat))
  else 
    mGd ((Nat.beq (mK h l0).1 1 && (mR h l0 2).isSome) && ((Nat.beq (mK h ((mR h l0 2).getD 0)).1 202 && mIn l1 (mK h ((mR h l0 2).getD 0)).2 && (mR h ((mR h l0 2).getD 0) (Int32.toNatClampNeg l1)).isSome) && true)) (
      mGd (true && true) (some ((some ((mR h ((mR h l0 2).getD 0) (Int32.toNatClampNeg l1)).getD 0)) : Option Nat)))))
def f55 (h : mH) (l0 : Nat) (l1 : Int32) : Option (Int32) :=
if (l1 : Int32) = 0 then
    mGd ((Nat.beq (mK h l0).1 2 && true) && true) (some ((mI h l0 6) : Int32))
  else if (l1 : Int32) = 1 then
    mGd ((Nat.beq (mK h l0).1 2 && true) && true) (some ((mI h l0 7) : Int32))
  else if (l1 : Int32) = 2 then
    mGd ((Nat.beq (mK h l0).1 2 && true) && true) (some ((mI h l0 8) : Int32))
  else 
    mGd (true && true) (some ((-1) : Int32))
def f56_17 (h : mH) (q0 : Int32) : Option (Int32) :=
mGd (true && mIs01 q0) (some (q0 : Int32))
def f56_16 (h : mH) : Option (Int32) :=
f56_17 h 0
def f56 (h : mH) (l0 : Nat) (l1 : Int32) : Option (Int32) :=
if (l1 : Int32) < 0 then
    f56_16 h
  else 
    mGd (Nat.beq (mK h l0).1 2 && true) (
      if ((mI h l0 6) : Int32) ≤ l1 then
      f56_16 h
    else 
      f56_17 h 1)
def f57_17 (h : mH) (q0 : Int32) : Option (Int32) :=
mGd (true && mIs01 q0) (some (q0 : Int32))
def f57_16 (h : mH) : Option (Int32) :=
f57_17 h 0
def f57 (h : mH) (l0 : Nat) (l1 : Int32) : Option (Int32) :=
if (l1 : Int32) < 0 then
    f57_16 h
  else 
    mGd (Nat.beq (mK h l0).1 2 && true) (
      if ((mI h l0 7) : Int32) ≤ l1 then
      f57_16 h
    else 
      f57_17 h 1)
def f54_92 (h : mH) (q0 : Int32) : Option (Int32) :=
mGd (true && true) (some (q0 : Int32))
def f54_111 (h : mH) (q0 : Int32) : Option (Int32) :=
mGd (true && true) (some (q0 : Int32))
def f54_130 (h : mH) (q0 : Int32) : Option (Int32) :=
mGd (true && true) (some (q0 : Int32))
def f54_150 (h : mH) (q0 : Int32) : Option (Int32) :=
mGd (true && true) (some (q0 : Int32))
def f54_169 (h : mH) (q0 : Int32) : Option (Int32) :=
mGd (true && true) (some (q0 : Int32))
def f54_188 (h : mH) (q0 : Int32) : Option (Int32) :=
mGd (true && true) (some (q0 : Int32))
def f54_25 (h : mH) (l0 : Nat) (l2 : Int32) (q0 : Int32) : Option (Int32) :=
if (q0 : Int32) = 0 then
    mGd (true && Nat.beq (mK h l0).1 2) ((f55 h l0 l2).bind (fun r1 =>
      mGd (true && true) (some (r1 : Int32))))
  else if (q0 : Int32) = 1 then
    mGd (true && Nat.beq (mK h l0).1 2) ((f56 h l0 l2).bind (fun r2 =>
      if (r2 : Int32) = 0 then
      f54_92 h (-1)
    else 
      mGd ((Nat.beq (mK h l0).1 2 && (mR h l0 0).isSome) && ((Nat.beq (mK h ((mR h l0 0).getD 0)).1 100 && mIn l2 (mK h ((mR h l0 0).getD 0)).2) && true)) (
        f54_92 h (mI h ((mR h l0 0).getD 0) (Int32.toNatClampNeg l2)))))
  else if (q0 : Int32) = 2 then
    mGd (true && Nat.beq (mK h l0).1 2) ((f56 h l0 l2).bind (fun r3 =>
      if (r3 : Int32) = 0 then
      f54_111 h (-1)
    else 
      mGd ((Nat.beq (mK h l0).1 2 && (mR h l0 1).isSome) && ((Nat.beq (mK h ((mR h l0 1).getD 0)).1 100 && mIn l2 (mK h ((mR h l0 1).getD 0)).2) && true)) (
        f54_111 h (mI h ((mR h l0 1).getD 0) (Int32.toNatClampNeg l2)))))
  else if (q0 : Int32) = 3 then
    mGd (true && Nat.beq (mK h l0).1 2) ((f56 h l0 l2).bind (fun r4 =>
      if (r4 : Int32) = 0 then
      f54_130 h (-1)
    else 
      mGd ((Nat.beq (mK h l0).1 2 && (mR h l0 2).isSome) && ((Nat.beq (mK h ((mR h l0 2).getD 0)).1 100 && mIn l2 (mK h ((mR h l0 2).getD 0)).2) && true)) (
        f54_130 h (mI h ((mR h l0 2).getD 0) (Int32.toNatClampNeg l2)))))
  else if (q0 : Int32) = 4 then
    mGd (true && true) ((f17 h l2 0 5).bind (fun r5 =>
      if (r5 : Int32) = 0 then
      f54_150 h (-1)
    else 
      mGd ((Nat.beq (mK h l0).1 2 && (mR h l0 3).isSome) && ((Nat.beq (mK h ((mR h l0 3).getD 0)).1 100 && mIn l2 (mK h ((mR h l0 3).getD 0)).2) && true)) (
        f54_150 h (mI h ((mR h l0 3).getD 0) (Int32.toNatClampNeg l2)))))
  else if (q0 : Int32) = 5 then
    mGd (true && Nat.beq (mK h l0).1 2) ((f57 h l0 l2).bind (fun r6 =>
      if (r6 : Int32) = 0 then
      f54_169 h (-1)
    else 
      mGd ((Nat.beq (mK h l0).1 2 && (mR h l0 4).isSome) && ((Nat.beq (mK h ((mR h l0 4).getD 0)).1 100 && mIn l2 (mK h ((mR h l0 4).getD 0)).2) && true)) (
        f54_169 h (mI h ((mR h l0 4).getD 0) (Int32.toNatClampNeg l2)))))
  else if (q0 : Int32) = 6 then
    mGd (true && Nat.beq (mK h l0).1 2) ((f57 h l0 l2).bind (fun r7 =>
      if (r7 : Int32) = 0 then
      f54_188 h (-1)
    else 
      mGd ((Nat.beq (mK h l0).1 2 && (mR h l0 5).isSome) && ((Nat.beq (mK h ((mR h l0 5).getD 0)).1 100 && mIn l2 (mK h ((mR h l0 5).getD 0)).2) && true)) (
        f54_188 h (mI h ((mR h l0 5).getD 0) (Int32.toNatClampNeg l2)))))
  else 
    mGd (true && true) (some ((-1) : Int32))
def f54_12 (h : mH) (l0 : Nat) (l1 : Int32) (q0 : Int32) : Option (Int32) :=
if (0 : Int32) ≤ l1 then
    mGd (!(10 == (0 : Int32)) && true) (
      f54_25 h l0 q0 (l1 / 10))
  else 
    f54_25 h l0 q0 (-1)
def f54 (h : mH) (l0 : Nat) (l1 : Int32) : Option (Int32) :=
if (0 : Int32) ≤ l1 then
    mGd (!(10 == (0 : Int32)) && true) (
      f54_12 h l0 l1 (l1 - l1 / 10 * 10))
  else 
    f54_12 h l0 l1 (-1)
def f52_22 (h : mH) (q0 : Int32) : Option (Int32) :=
mGd (true && true) (some (q0 : Int32))
def f52 (h : mH) (l0 : Nat) (l1 : Int32) (l2 : Int32) : Option (Int32) :=
mGd (((Nat.beq (mK h l0).1 0 && (mR h l0 0).isSome) && true) && Nat.beq (mK h ((mR h l0 0).getD 0)).1 1) ((f53 h ((mR h l0 0).getD 0) l1).bind (fun r1 =>
    match r1 with
  | none =>
    f52_22 h (-1)
  | some a1 =>
    mGd (true && Nat.beq (mK h a1).1 2) ((f54 h a1 l2).bind (fun r2 =>
      f52_22 h r2))))
def f59 (h : mH) (l0 : Nat) (l1 : Int32) : Option (Option Nat) :=
mGd (((Nat.beq (mK h l0).1 1 && (mR h l0 1).isSome) && ((Nat.beq (mK h ((mR h l0 1).getD 0)).1 100 && mIn 1 (mK h ((mR h l0 1).getD 0)).2) && true)) && true) ((f17 h l1 0 ((mI h ((mR h l0 1).getD 0) (Int32.toNatClampNeg 1)) - 1)).bind (fun r1 =>
    if (r1 : Int32) = 0 then
    mGd (true && true) (some (none : Option Nat))
  else 
    mGd ((Nat.beq (mK h l0).1 1 && (mR h l0 3).isSome) && ((Nat.beq (mK h ((mR h l0 3).getD 0)).1 203 && mIn l1 (mK h ((mR h l0 3).getD 0)).2 && (mR h ((mR h l0 3).getD 0) (Int32.toNatClampNeg l1)).isSome) && true)) (
      mGd (true && true) (some ((some ((mR h ((mR h l0 3).getD 0) (Int32.toNatClampNeg l1)).getD 0)) : Option Nat)))))
def f60_14 (h : mH) (l0 : Nat) (l1 : Int32) (l2 : Int32) : Option (Int32) :=
mGd ((Nat.beq (mK h l0).1 3 && true) && true) ((f17 h l1 0 ((mI h l0 3) - 1)).bind (fun r1 =>
    if (r1 : Int32) = 0 then
    mGd (true && true) (some ((-2) : Int32))
  else 
    if (l2 : Int32) = 0 then
      mGd (((Nat.beq (mK h l0).1 3 && (mR h l0 0).isSome) && ((Nat.beq (mK h ((mR h l0 0).getD 0)).1 100 && mIn l1 (mK h ((mR h l0 0).getD 0)).2) && true)) && true) (some ((mI h ((mR h l0 0).getD 0) (Int32.toNatClampNeg l1)) : Int32))
    else if (l2 : Int32) = 1 then
      mGd (((Nat.beq (mK h l0).1 3 && (mR h l0 1).isSome) && ((Nat.beq (mK h ((mR h l0 1).getD 0)).1 100 && mIn l1 (mK h ((mR h l0 1).getD 0)).2) && true)) && true) (some ((mI h ((mR h l0 1).getD 0) (Int32.toNatClampNeg l1)) : Int32))
    else if (l2 : Int32) = 2 then
      mGd (((Nat.beq (mK h l0).1 3 && (mR h l0 2).isSome) && ((Nat.beq (mK h ((mR h l0 2).getD 0)).1 100 && mIn l1 (mK h ((mR h l0 2).getD 0)).2) && true)) && true) (some ((mI h ((mR h l0 2).getD 0) (Int32.toNatClampNeg l1)) : Int32))
    else 
      mGd (true && true) (some ((-2) : Int32))))
def f60 (h : mH) (l0 : Nat) (l1 : Int32) (l2 : Int32) : Option (Int32) :=
if (l1 : Int32) = (-1) then
    if (l2 : Int32) = 0 then
      mGd ((Nat.beq (mK h l0).1 3 && true) && true) (some ((mI h l0 3) : Int32))
    else 
      f60_14 h l0 l1 l2
  else 
    f60_14 h l0 l1 l2
def f58_27 (h : mH) (q0 : Int32) : Option (Int32) :=
mGd (true && true) (some (q0 : Int32))
def f58 (h : mH) (l0 : Nat) (l1 : Int32) (l2 : Int32) (l3 : Int32) : Option (Int32) :=
mGd (((Nat.beq (mK h l0).1 0 && (mR h l0 0).isSome) && true) && Nat.beq (mK h ((mR h l0 0).getD 0)).1 1) ((f59 h ((mR h l0 0).getD 0) l1).bind (fun r1 =>
    match r1 with
  | none =>
    f58_27 h (-2)
  | some a1 =>
    mGd (true && Nat.beq (mK h a1).1 3) ((f60 h a1 l2 l3).bind (fun r2 =>
      f58_27 h r2))))
def f63_71 (h : mH) (l0 : Nat) : Option (Unit × mH) :=
mGd (Nat.beq (mK h l0).1 7 && true) (
    mGd (Nat.beq (mK h l0).1 7 && true) (
    mGd (Nat.beq (mK h l0).1 7 && true) (
    mGd (true && true) (some ((), (mSI (mSI (mSI h l0 11 0) l0 12 (-1)) l0 13 0))))))
def f63_20 (h : mH) (l0 : Nat) (l1 : Nat) : Option (Unit × mH) :=
mGd (((Nat.beq (mK h l0).1 7 && (mR h l0 2).isSome) && true) && true) ((f4 h ((mR h l0 2).getD 0) (-1)).bind (fun r1 =>
    mGd (Nat.beq (mK r1.2 l0).1 7 && true) (
    mGd (Nat.beq (mK r1.2 l0).1 7 && true) (
    mGd (Nat.beq (mK r1.2 l0).1 7 && true) (
    mGd (Nat.beq (mK r1.2 l1).1 2 && (Nat.beq (mK r1.2 l0).1 7 && true)) (
    mGd ((Nat.beq (mK r1.2 l0).1 7 && mIs01 0) && true) (
    mGd (Nat.beq (mK r1.2 l0).1 7 && true) (
    mGd (Nat.beq (mK r1.2 l0).1 7 && true) (
    mGd (Nat.beq (mK r1.2 l0).1 7 && true) (
    f63_71 (mSI (mSI (mSI (mSI (mSI (mSI (mSI (mSI r1.2 l0 4 0) l0 1 0) l0 5 0) l0 6 (mI (mSI (mSI (mSI r1.2 l0 4 0) l0 1 0) l0 5 0) l1 8)) l0 7 0) l0 8 0) l0 9 0) l0 10 (-1)) l0))))))))))
def f63 (h : mH) (l0 : Nat) (l1 : Nat) : Option (Unit × mH) :=
mGd (Nat.beq (mK h l0).1 7 && true) (
    mGd ((Nat.beq (mK h l1).1 2 && (mR (mSR h l0 3 (some l1)) l1 3).isSome) && ((Nat.beq (mK h l0).1 7 && (mR (mSR h l0 3 (some l1)) l0 0).isSome) && ((Nat.beq (mK h ((mR (mSR h l0 3 (some l1)) l1 3).getD 0)).1 100 && Nat.beq (mK h ((mR (mSR h l0 3 (some l1)) l0 0).getD 0)).1 100 && decide (¬ (0 : Int32) < 0) && decide (¬ (0 : Int32) < 0) && decide (¬ (6 : Int32) < 0) && Nat.ble ((Int32.toNatClampNeg 0) + (Int32.toNatClampNeg 6)) (mK h ((mR (mSR h l0 3 (some l1)) l1 3).getD 0)).2 && Nat.ble ((Int32.toNatClampNeg 0) + (Int32.toNatClampNeg 6)) (mK h ((mR (mSR h l0 3 (some l1)) l0 0).getD 0)).2 && true) && true))) (
    f63_20 (mCp (mSR h l0 3 (some l1)) ((mR (mSR h l0 3 (some l1)) l1 3).getD 0) (Int32.toNatClampNeg 0) ((mR (mSR h l0 3 (some l1)) l0 0).getD 0) (Int32.toNatClampNeg 0) (Int32.toNatClampNeg 6)) l0 l1))
def f65_36 (h : mH) (l0 : Nat) (l1 : Int32) (l2 : Int32) (l3 : Int32) : Option ((Int32 × Int32) ⊕ (Int32)) :=
some (.inl (l2, (l3 + 1)))
def f65_4 (h : mH) (l0 : Nat) (l1 : Int32) (s : (Int32 × Int32)) : Option ((Int32 × Int32) ⊕ (Int32)) :=
mGd ((Nat.beq (mK h l0).1 7 && (mR h l0 3).isSome) && (Nat.beq (mK h ((mR h l0 3).getD 0)).1 2 && true)) (
    if ((mI h ((mR h l0 3).getD 0) 6) : Int32) ≤ s.2 then
    mX (mGd (true && true) (some (s.1 : Int32)))
  else 
    mGd ((Nat.beq (mK h l0).1 7 && (mR h l0 2).isSome) && ((Nat.beq (mK h ((mR h l0 2).getD 0)).1 100 && mIn ((l1 * 8) + s.2) (mK h ((mR h l0 2).getD 0)).2) && true)) (
      if ((mI h ((mR h l0 2).getD 0) (Int32.toNatClampNeg ((l1 * 8) + s.2))) : Int32) = (-1) then
      f65_36 h l0 l1 s.1 s.2
    else 
      f65_36 h l0 l1 (s.1 ||| ((1 : Int32) <<< (s.2 &&& (31 : Int32)))) s.2))
def f65 (h : mH) (l0 : Nat) (l1 : Int32) : Option (Int32) :=
mLoop (f65_4 h l0 l1) mFuel (0, 0)
def f66_48 (h : mH) (l0 : Int32) : Option (Int32) :=
mGd (true && true) (some ((l0 &&& 63) : Int32))
def f66_41 (h : mH) (l0 : Int32) : Option (Int32) :=
f66_48 h (l0 + ((Int32.toUInt32 l0 >>> (Int32.toUInt32 16 &&& Int32.toUInt32 31)).toInt32))
def f66_34 (h : mH) (l0 : Int32) : Option (Int32) :=
f66_41 h (l0 + ((Int32.toUInt32 l0 >>> (Int32.toUInt32 8 &&& Int32.toUInt32 31)).toInt32))
def f66_24 (h : mH) (l0 : Int32) : Option (Int32) :=
f66_34 h ((l0 + ((Int32.toUInt32 l0 >>> (Int32.toUInt32 4 &&& Int32.toUInt32 31)).toInt32)) &&& 252645135)
def f66_10 (h : mH) (l0 : Int32) : Option (Int32) :=
f66_24 h ((l0 &&& 858993459) + (((Int32.toUInt32 l0 >>> (Int32.toUInt32 2 &&& Int32.toUInt32 31)).toInt32) &&& 858993459))
def f66 (h : mH) (l0 : Int32) : Option (Int32) :=
f66_10 h (l0 - (((Int32.toUInt32 l0 >>> (Int32.toUInt32 1 &&& Int32.toUInt32 31)).toInt32) &&& 1431655765))
def f64_75 (h : mH) (l0 : Nat) (l1 : Int32) : Option ((Int32 × mH) ⊕ (Unit × mH)) :=
some (.inl ((l1 + 1), h))
def f64_37 (l0 : Nat) (s : (Int32 × mH)) : Option ((Int32 × mH) ⊕ (Unit × mH)) :=
mGd ((Nat.beq (mK s.2 l0).1 7 && (mR s.2 l0 3).isSome) && (Nat.beq (mK s.2 ((mR s.2 l0 3).getD 0)).1 2 && true)) (
    if ((mI s.2 ((mR s.2 l0 3).getD 0) 7) : Int32) ≤ s.1 then
    mX (mGd (true && true) (some ((), s.2)))
  else 
    mGd (true && Nat.beq (mK s.2 l0).1 7) ((f65 s.2 l0 s.1).bind (fun r1 =>
      mGd (true && true) ((f66 s.2 r1).bind (fun r2 =>
      mGd (Nat.beq (mK s.2 l0).1 7 && true) (
      if (r2 : Int32) ≤ (mI s.2 l0 11) then
      f64_75 s.2 l0 s.1
    else 
      mGd (Nat.beq (mK s.2 l0).1 7 && true) (
        mGd (Nat.beq (mK s.2 l0).1 7 && true) (
        f64_75 (mSI (mSI s.2 l0 11 r2) l0 10 s.1) l0 s.1))))))))
def f64_29 (h : mH) (l0 : Nat) (l1 : Int32) : Option ((Int32 × mH) ⊕ (Unit × mH)) :=
some (.inl ((l1 + 1), h))
def f64_2 (l0 : Nat) (s : (Int32 × mH)) : Option ((Int32 × mH) ⊕ (Unit × mH)) :=
if (6 : Int32) ≤ s.1 then
    mX (mLoop (f64_37 l0) mFuel (0, s.2))
  else 
    mGd ((Nat.beq (mK s.2 l0).1 7 && (mR s.2 l0 0).isSome) && ((Nat.beq (mK s.2 ((mR s.2 l0 0).getD 0)).1 100 && mIn s.1 (mK s.2 ((mR s.2 l0 0).getD 0)).2) && true)) (
      if ((mI s.2 ((mR s.2 l0 0).getD 0) (Int32.toNatClampNeg s.1)) : Int32) = 0 then
      mGd (Nat.beq (mK s.2 l0).1 7 && (Nat.beq (mK s.2 l0).1 7 && true)) (
        f64_29 (mSI s.2 l0 13 ((mI s.2 l0 13) ||| ((1 : Int32) <<< (s.1 &&& (31 : Int32))))) l0 s.1)
    else 
      f64_29 s.2 l0 s.1)
def f64 (h : mH) (l0 : Nat) : Option (Unit × mH) :=
mLoop (f64_2 l0) mFuel (0, h)
def f70_39 (h : mH) (l0 : Nat) (l1 : Int32) (l2 : Int32) (l3 : Int32) : Option ((Int32 × Int32) ⊕ (Int32)) :=
some (.inl (l2, (l3 + 1)))
def f70_4 (h : mH) (l0 : Nat) (l1 : Int32) (s : (Int32 × Int32)) : Option ((Int32 × Int32) ⊕ (Int32)) :=
mGd (Nat.beq (mK h l0).1 2 && true) (
    if ((mI h l0 6) : Int32) ≤ s.2 then
    mX (mGd (true && true) (some (s.1 : Int32)))
  else 
    if (((l1 >>> (s.2 &&& (31 : Int32))) &&& 1) : Int32) = 0 then
      mGd ((Nat.beq (mK h l0).1 2 && (mR h l0 2).isSome) && ((Nat.beq (mK h ((mR h l0 2).getD 0)).1 100 && mIn s.2 (mK h ((mR h l0 2).getD 0)).2) && true)) (
        if (((mI h ((mR h l0 2).getD 0) (Int32.toNatClampNeg s.2)) &&& (l1 ^^^ (-1))) : Int32) = 0 then
        f70_39 h l0 l1 (s.1 ||| ((1 : Int32) <<< (s.2 &&& (31 : Int32)))) s.2
      else 
        f70_39 h l0 l1 s.1 s.2)
    else 
      f70_39 h l0 l1 s.1 s.2)
def f70 (h : mH) (l0 : Nat) (l1 : Int32) : Option (Int32) :=
mLoop (f70_4 h l0 l1) mFuel (0, 0)
def f71_13 (h : mH) (q0 : Int32) : Option (Int32) :=
mGd (true && mIs01 q0) (some (q0 : Int32))
def f71 (h : mH) (l0 : Int32) (l1 : Int32) : Option (Int32) :=
if (((l0 >>> (l1 &&& (31 : Int32))) &&& 1) : Int32) = 0 then
    f71_13 h 0
  else 
    f71_13 h 1
def f69_90 (h : mH) (l0 : Nat) (l1 : Int32) (l2 : Int32) (l3 : Int32) : Option ((Int32 × Int32) ⊕ (Int32)) :=
some (.inl (l2, (l3 + 1)))
def f69_32 (h : mH) (l0 : Nat) (l1 : Int32) (s : (Int32 × Int32)) : Option ((Int32 × Int32) ⊕ (Int32)) :=
mGd ((Nat.beq (mK h l0).1 7 && (mR h l0 3).isSome) && (Nat.beq (mK h ((mR h l0 3).getD 0)).1 2 && true)) (
    if ((mI h ((mR h l0 3).getD 0) 6) : Int32) ≤ s.2 then
    mX (mGd (true && true) (some (s.1 : Int32)))
  else 
    mGd (true && true) ((f71 h l1 s.2).bind (fun r2 =>
      if (r2 : Int32) = 0 then
      f69_90 h l0 l1 s.1 s.2
    else 
      mGd ((Nat.beq (mK h l0).1 7 && (mR h l0 3).isSome) && ((Nat.beq (mK h ((mR h l0 3).getD 0)).1 2 && (mR h ((mR h l0 3).getD 0) 0).isSome) && ((Nat.beq (mK h ((mR h ((mR h l0 3).getD 0) 0).getD 0)).1 100 && mIn s.2 (mK h ((mR h ((mR h l0 3).getD 0) 0).getD 0)).2) && (Nat.beq (mK h l0).1 7 && true)))) (
        if ((mI h l0 6) : Int32) < (mI h ((mR h ((mR h l0 3).getD 0) 0).getD 0) (Int32.toNatClampNeg s.2)) then
        f69_90 h l0 l1 s.1 s.2
      else 
        mGd ((Nat.beq (mK h l0).1 7 && (mR h l0 0).isSome) && ((Nat.beq (mK h l0).1 7 && (mR h l0 3).isSome) && ((Nat.beq (mK h ((mR h l0 3).getD 0)).1 2 && (mR h ((mR h l0 3).getD 0) 1).isSome) && ((Nat.beq (mK h ((mR h ((mR h l0 3).getD 0) 1).getD 0)).1 100 && mIn s.2 (mK h ((mR h ((mR h l0 3).getD 0) 1).getD 0)).2) && ((Nat.beq (mK h ((mR h l0 0).getD 0)).1 100 && mIn (mI h ((mR h ((mR h l0 3).getD 0) 1).getD 0) (Int32.toNatClampNeg s.2)) (mK h ((mR h l0 0).getD 0)).2) && true))))) (
          if ((mI h ((mR h l0 0).getD 0) (Int32.toNatClampNeg (mI h ((mR h ((mR h l0 3).getD 0) 1).getD 0) (Int32.toNatClampNeg s.2)))) : Int32) ≤ 0 then
          f69_90 h l0 l1 s.1 s.2
        else 
          f69_90 h l0 l1 (s.1 ||| ((1 : Int32) <<< (s.2 &&& (31 : Int32)))) s.2)))))
def f69_27 (h : mH) (l0 : Nat) (q0 : Int32) : Option (Int32) :=
mLoop (f69_32 h l0 q0) mFuel (0, 0)
def f69 (h : mH) (l0 : Nat) : Option (Int32) :=
mGd (Nat.beq (mK h l0).1 7 && true) (
    if ((mI h l0 7) : Int32) = 0 then
    mGd (((Nat.beq (mK h l0).1 7 && (mR h l0 3).isSome) && (Nat.beq (mK h l0).1 7 && (Nat.beq (mK h l0).1 7 && true))) && Nat.beq (mK h ((mR h l0 3).getD 0)).1 2) ((f70 h ((mR h l0 3).getD 0) ((mI h l0 1) ||| (mI h l0 5))).bind (fun r1 =>
      f69_27 h l0 r1))
  else 
    f69_27 h l0 0)
def f68_22 (h : mH) : Option (Int32 × mH) :=
mGd (true && mIs01 0) (some (0, h))
def f68_72 (h : mH) : Option (Int32 × mH) :=
mGd (true && mIs01 1) (some (1, h))
def f68_54 (h : mH) (l0 : Nat) (l1 : Int32) : Option (Int32 × mH) :=
mGd ((Nat.beq (mK h l0).1 7 && (mR h l0 0).isSome) && ((Nat.beq (mK h l0).1 7 && (mR h l0 3).isSome) && ((Nat.beq (mK h ((mR h l0 3).getD 0)).1 2 && (mR h ((mR h l0 3).getD 0) 1).isSome) && ((Nat.beq (mK h ((mR h ((mR h l0 3).getD 0) 1).getD 0)).1 100 && mIn l1 (mK h ((mR h ((mR h l0 3).getD 0) 1).getD 0)).2) && ((Nat.beq (mK h ((mR h l0 0).getD 0)).1 100 && mIn (mI h ((mR h ((mR h l0 3).getD 0) 1).getD 0) (Int32.toNatClampNeg l1)) (mK h ((mR h l0 0).getD 0)).2) && ((Nat.beq (mK h ((mR h l0 0).getD 0)).1 100 && mIn (mI h ((mR h ((mR h l0 3).getD 0) 1).getD 0) (Int32.toNatClampNeg l1)) (mK h ((mR h l0 0).getD 0)).2) && true)))))) (
    f68_72 (mSI h ((mR h l0 0).getD 0) (Int32.toNatClampNeg (mI h ((mR h ((mR h l0 3).getD 0) 1).getD 0) (Int32.toNatClampNeg l1))) ((mI h ((mR h l0 0).getD 0) (Int32.toNatClampNeg (mI h ((mR h ((mR h l0 3).getD 0) 1).getD 0) (Int32.toNatClampNeg l1)))) - 1)))
def f68 (h : mH) (l0 : Nat) (l1 : Int32) : Option (Int32 × mH) :=
mGd (((Nat.beq (mK h l0).1 7 && (mR h l0 3).isSome) && true) && Nat.beq (mK h ((mR h l0 3).getD 0)).1 2) ((f56 h ((mR h l0 3).getD 0) l1).bind (fun r1 =>
    if (r1 : Int32) = 0 then
    f68_22 h
  else 
    mGd (true && Nat.beq (mK h l0).1 7) ((f69 h l0).bind (fun r2 =>
      mGd (true && true) ((f71 h r2 l1).bind (fun r3 =>
      if (r3 : Int32) = 0 then
      f68_22 h
    else 
      mGd (Nat.beq (mK h l0).1 7 && (Nat.beq (mK h l0).1 7 && true)) (
        mGd (Nat.beq (mK h l0).1 7 && ((Nat.beq (mK h l0).1 7 && (mR h l0 3).isSome) && ((Nat.beq (mK h ((mR h l0 3).getD 0)).1 2 && (mR h ((mR h l0 3).getD 0) 0).isSome) && ((Nat.beq (mK h ((mR h ((mR h l0 3).getD 0) 0).getD 0)).1 100 && mIn l1 (mK h ((mR h ((mR h l0 3).getD 0) 0).getD 0)).2) && (Nat.beq (mK h l0).1 7 && true))))) (
        f68_54 (mSI (mSI h l0 1 ((mI h l0 1) ||| ((1 : Int32) <<< (l1 &&& (31 : Int32))))) l0 6 ((mI (mSI h l0 1 ((mI h l0 1) ||| ((1 : Int32) <<< (l1 &&& (31 : Int32))))) l0 6) - (mI (mSI h l0 1 ((mI h l0 1) ||| ((1 : Int32) <<< (l1 &&& (31 : Int32))))) ((mR h ((mR h l0 3).getD 0) 0).getD 0) (Int32.toNatClampNeg l1)))) l0 l1))))))))
def f72_34 (h : mH) : Option (Int32 × mH) :=
mGd (true && mIs01 0) (some (0, h))
def f72 (h : mH) (l0 : Nat) (l1 : Int32) : Option (Int32 × mH) :=
mGd (((Nat.beq (mK h l0).1 7 && (mR h l0 3).isSome) && true) && Nat.beq (mK h ((mR h l0 3).getD 0)).1 2) ((f56 h ((mR h l0 3).getD 0) l1).bind (fun r1 =>
    if (r1 : Int32) = 0 then
    f72_34 h
  else 
    mGd (((Nat.beq (mK h l0).1 7 && (mR h l0 3).isSome) && (Nat.beq (mK h l0).1 7 && (Nat.beq (mK h l0).1 7 && true))) && Nat.beq (mK h ((mR h l0 3).getD 0)).1 2) ((f70 h ((mR h l0 3).getD 0) ((mI h l0 1) ||| (mI h l0 5))).bind (fun r2 =>
      mGd (true && true) ((f71 h r2 l1).bind (fun r3 =>
      if (r3 : Int32) = 0 then
      f72_34 h
    else 
      mGd (Nat.beq (mK h l0).1 7 && (Nat.beq (mK h l0).1 7 && true)) (
        mGd (true && mIs01 1) (some (1, (mSI h l0 5 ((mI h l0 5) ||| ((1 : Int32) <<< (l1 &&& (31 : Int32))))))))))))))
def f73_30 (h : mH) (l0 : Nat) : Option (Int32 × mH) :=
mGd (Nat.beq (mK h l0).1 7 && (Nat.beq (mK h l0).1 7 && true)) (
    mGd (true && mIs01 1) (some (1, (mSI h l0 8 ((mI h l0 8) + 1)))))
def f73 (h : mH) (l0 : Nat) (l1 : Int32) : Option (Int32 × mH) :=
mGd (true && true) ((f17 h l1 0 5).bind (fun r1 =>
    if (r1 : Int32) = 0 then
    mGd (true && mIs01 0) (some (0, h))
  else 
    mGd ((Nat.beq (mK h l0).1 7 && (mR h l0 0).isSome) && ((Nat.beq (mK h l0).1 7 && (mR h l0 0).isSome) && ((Nat.beq (mK h ((mR h l0 0).getD 0)).1 100 && mIn l1 (mK h ((mR h l0 0).getD 0)).2) && ((Nat.beq (mK h ((mR h l0 0).getD 0)).1 100 && mIn l1 (mK h ((mR h l0 0).getD 0)).2) && true)))) (
      f73_30 (mSI h ((mR h l0 0).getD 0) (Int32.toNatClampNeg l1) (if (((mI h ((mR h l0 0).getD 0) (Int32.toNatClampNeg l1)) + 2) : Int32) < 9 then ((mI h ((mR h l0 0).getD 0) (Int32.toNatClampNeg l1)) + 2) else 9)) l0)))
def f74_40 (h : mH) : Option (Int32 × mH) :=
mGd (true && mIs01 0) (some (0, h))
def f74 (h : mH) (l0 : Nat) (l1 : Int32) (l2 : Int32) : Option (Int32 × mH) :=
mGd (Nat.beq (mK h l0).1 7 && true) (
    if ((mI h l0 7) : Int32) = 0 then
    mGd (((Nat.beq (mK h l0).1 7 && (mR h l0 3).isSome) && true) && Nat.beq (mK h ((mR h l0 3).getD 0)).1 2) ((f56 h ((mR h l0 3).getD 0) l1).bind (fun r1 =>
      if (r1 : Int32) = 0 then
      f74_40 h
    else 
      mGd (((Nat.beq (mK h l0).1 7 && (mR h l0 3).isSome) && true) && Nat.beq (mK h ((mR h l0 3).getD 0)).1 2) ((f57 h ((mR h l0 3).getD 0) l2).bind (fun r2 =>
        if (r2 : Int32) = 0 then
        f74_40 h
      else 
        mGd ((Nat.beq (mK h l0).1 7 && true) && true) ((f71 h (mI h l0 1) l1).bind (fun r3 =>
          if (r3 : Int32) = 0 then
          f74_40 h
        else 
          mGd ((Nat.beq (mK h l0).1 7 && (mR h l0 2).isSome) && ((Nat.beq (mK h ((mR h l0 2).getD 0)).1 100 && mIn ((l2 * 8) + l1) (mK h ((mR h l0 2).getD 0)).2) && true)) (
            mGd (true && mIs01 1) (some (1, (mSI h ((mR h l0 2).getD 0) (Int32.toNatClampNeg ((l2 * 8) + l1)) 0))))))))))
  else 
    f74_40 h)
def f75 (h : mH) (l0 : Nat) : Option (Int32 × mH) :=
mGd (Nat.beq (mK h l0).1 7 && true) (
    if ((mI h l0 7) : Int32) = 0 then
    mGd ((Nat.beq (mK h l0).1 7 && mIs01 1) && true) (
      mGd (true && mIs01 1) (some (1, (mSI h l0 7 1))))
  else 
    mGd (true && mIs01 0) (some (0, h)))
def f78_36 (h : mH) (l0 : Nat) (l1 : Int32) (l2 : Int32) (l3 : Int32) : Option ((Int32 × Int32) ⊕ (Int32)) :=
some (.inl (l2, (l3 + 1)))
def f78_4 (h : mH) (l0 : Nat) (l1 : Int32) (s : (Int32 × Int32)) : Option ((Int32 × Int32) ⊕ (Int32)) :=
mGd ((Nat.beq (mK h l0).1 7 && (mR h l0 3).isSome) && (Nat.beq (mK h ((mR h l0 3).getD 0)).1 2 && true)) (
    if ((mI h ((mR h l0 3).getD 0) 7) : Int32) ≤ s.2 then
    mX (mGd (true && true) (some (s.1 : Int32)))
  else 
    mGd ((Nat.beq (mK h l0).1 7 && (mR h l0 2).isSome) && ((Nat.beq (mK h ((mR h l0 2).getD 0)).1 100 && mIn ((s.2 * 8) + l1) (mK h ((mR h l0 2).getD 0)).2) && true)) (
      if ((mI h ((mR h l0 2).getD 0) (Int32.toNatClampNeg ((s.2 * 8) + l1))) : Int32) = (-1) then
      f78_36 h l0 l1 s.1 s.2
    else 
      f78_36 h l0 l1 (s.1 ||| ((1 : Int32) <<< (s.2 &&& (31 : Int32)))) s.2))
def f78 (h : mH) (l0 : Nat) (l1 : Int32) : Option (Int32) :=
mLoop (f78_4 h l0 l1) mFuel (0, 0)
def f77_108 (h : mH) (l0 : Nat) (l1 : Int32) (l2 : Int32) (l3 : Int32) : Option ((Int32 × mH) ⊕ (Unit × mH)) :=
some (.inl ((l3 + 1), h))
def f77_73 (h : mH) (l0 : Nat) (l1 : Int32) (l2 : Int32) (l3 : Int32) : Option ((Int32 × mH) ⊕ (Unit × mH)) :=
mGd (Nat.beq (mK h l0).1 7 && (Nat.beq (mK h l0).1 7 && true)) (
    f77_108 (mSI h l0 9 ((mI h l0 9) + 1)) l0 l1 l2 l3)
def f77_8 (l0 : Nat) (l1 : Int32) (l2 : Int32) (s : (Int32 × mH)) : Option ((Int32 × mH) ⊕ (Unit × mH)) :=
mGd ((Nat.beq (mK s.2 l0).1 7 && (mR s.2 l0 3).isSome) && (Nat.beq (mK s.2 ((mR s.2 l0 3).getD 0)).1 2 && true)) (
    if ((mI s.2 ((mR s.2 l0 3).getD 0) 7) : Int32) ≤ s.1 then
    mX (mGd (true && true) (some ((), s.2)))
  else 
    mGd (true && true) ((f71 s.2 l2 s.1).bind (fun r2 =>
      if (r2 : Int32) = 0 then
      mGd ((Nat.beq (mK s.2 l0).1 7 && (mR s.2 l0 3).isSome) && ((Nat.beq (mK s.2 ((mR s.2 l0 3).getD 0)).1 2 && (mR s.2 ((mR s.2 l0 3).getD 0) 5).isSome) && ((Nat.beq (mK s.2 ((mR s.2 ((mR s.2 l0 3).getD 0) 5).getD 0)).1 100 && mIn s.1 (mK s.2 ((mR s.2 ((mR s.2 l0 3).getD 0) 5).getD 0)).2) && true))) (
        if (((mI s.2 ((mR s.2 ((mR s.2 l0 3).getD 0) 5).getD 0) (Int32.toNatClampNeg s.1)) &&& l2) : Int32) = 0 then
        f77_108 s.2 l0 l1 l2 s.1
      else 
        mGd ((Nat.beq (mK s.2 l0).1 7 && (mR s.2 l0 2).isSome) && ((Nat.beq (mK s.2 ((mR s.2 l0 2).getD 0)).1 100 && mIn ((s.1 * 8) + l1) (mK s.2 ((mR s.2 l0 2).getD 0)).2) && true)) (
          f77_108 (mSI s.2 ((mR s.2 l0 2).getD 0) (Int32.toNatClampNeg ((s.1 * 8) + l1)) 0) l0 l1 l2 s.1))
    else 
      mGd ((Nat.beq (mK s.2 l0).1 7 && (mR s.2 l0 2).isSome) && ((Nat.beq (mK s.2 ((mR s.2 l0 2).getD 0)).1 100 && mIn ((s.1 * 8) + l1) (mK s.2 ((mR s.2 l0 2).getD 0)).2) && ((Nat.beq (mK s.2 ((mR s.2 l0 2).getD 0)).1 100 && mIn ((s.1 * 8) + l1) (mK s.2 ((mR s.2 l0 2).getD 0)).2) && true))) (
        mGd ((Nat.beq (mK s.2 l0).1 7 && (mR s.2 l0 2).isSome) && ((Nat.beq (mK s.2 ((mR s.2 l0 2).getD 0)).1 100 && mIn ((s.1 * 8) + l1) (mK s.2 ((mR s.2 l0 2).getD 0)).2) && ((Nat.beq (mK s.2 l0).1 7 && (mR s.2 l0 3).isSome) && ((Nat.beq (mK s.2 ((mR s.2 l0 3).getD 0)).1 2 && (mR s.2 ((mR s.2 l0 3).getD 0) 4).isSome) && ((Nat.beq (mK s.2 ((mR s.2 ((mR s.2 l0 3).getD 0) 4).getD 0)).1 100 && mIn s.1 (mK s.2 ((mR s.2 ((mR s.2 l0 3).getD 0) 4).getD 0)).2) && true))))) (
        if ((mI (mSI s.2 ((mR s.2 l0 2).getD 0) (Int32.toNatClampNeg ((s.1 * 8) + l1)) ((mI s.2 ((mR s.2 l0 2).getD 0) (Int32.toNatClampNeg ((s.1 * 8) + l1))) + 1)) ((mR s.2 l0 2).getD 0) (Int32.toNatClampNeg ((s.1 * 8) + l1))) : Int32) < (mI (mSI s.2 ((mR s.2 l0 2).getD 0) (Int32.toNatClampNeg ((s.1 * 8) + l1)) ((mI s.2 ((mR s.2 l0 2).getD 0) (Int32.toNatClampNeg ((s.1 * 8) + l1))) + 1)) ((mR s.2 ((mR s.2 l0 3).getD 0) 4).getD 0) (Int32.toNatClampNeg s.1)) then
        f77_108 (mSI s.2 ((mR s.2 l0 2).getD 0) (Int32.toNatClampNeg ((s.1 * 8) + l1)) ((mI s.2 ((mR s.2 l0 2).getD 0) (Int32.toNatClampNeg ((s.1 * 8) + l1))) + 1)) l0 l1 l2 s.1
      else 
        mGd ((Nat.beq (mK s.2 l0).1 7 && (mR s.2 l0 2).isSome) && ((Nat.beq (mK s.2 ((mR s.2 l0 2).getD 0)).1 100 && mIn ((s.1 * 8) + l1) (mK s.2 ((mR s.2 l0 2).getD 0)).2) && true)) (
          f77_73 (mSI (mSI s.2 ((mR s.2 l0 2).getD 0) (Int32.toNatClampNeg ((s.1 * 8) + l1)) ((mI s.2 ((mR s.2 l0 2).getD 0) (Int32.toNatClampNeg ((s.1 * 8) + l1))) + 1)) ((mR s.2 l0 2).getD 0) (Int32.toNatClampNeg ((s.1 * 8) + l1)) (-1)) l0 l1 l2 s.1))))))
def f77 (h : mH) (l0 : Nat) (l1 : Int32) : Option (Unit × mH) :=
mGd (true && Nat.beq (mK h l0).1 7) ((f78 h l0 l1).bind (fun r1 =>
    mLoop (f77_8 l0 l1 r1) mFuel (0, h)))
def f79_26 (h : mH) : Option (Unit × mH) :=
mGd (true && true) (some ((), h))
def f79 (h : mH) (l0 : Nat) : Option (Unit × mH) :=
mGd ((Nat.beq (mK h l0).1 7 && mIs01 0) && true) (
    mGd ((Nat.beq (mK h l0).1 7 && (mR h l0 3).isSome) && (Nat.beq (mK h ((mR h l0 3).getD 0)).1 2 && (Nat.beq (mK h l0).1 7 && true))) (
    mGd (Nat.beq (mK h l0).1 7 && (Nat.beq (mK h l0).1 7 && true)) (
    f79_26 (mSI (mSI (mSI h l0 7 0) l0 6 (mI (mSI h l0 7 0) ((mR h l0 3).getD 0) 8)) l0 4 ((mI (mSI (mSI h l0 7 0) l0 6 (mI (mSI h l0 7 0) ((mR h l0 3).getD 0) 8)) l0 4) + 1)))))
def f76_2 (l0 : Nat) (s : (Int32 × mH)) : Option ((Int32 × mH) ⊕ (Unit × mH)) :=
mGd ((Nat.beq (mK s.2 l0).1 7 && (mR s.2 l0 3).isSome) && (Nat.beq (mK s.2 ((mR s.2 l0 3).getD 0)).1 2 && true)) (
    if ((mI s.2 ((mR s.2 l0 3).getD 0) 6) : Int32) ≤ s.1 then
    mX (
mGd (true && Nat.beq (mK s.2 l0).1 7) ((f79 s.2 l0).bind (fun r1 =>
      mGd (true && true) (some ((), r1.2)))))
  else 
    mGd (true && Nat.beq (mK s.2 l0).1 7) ((f77 s.2 l0 s.1).bind (fun r2 =>
      some (.inl ((s.1 + 1), r2.2)))))
def f76 (h : mH) (l0 : Nat) : Option (Unit × mH) :=
mLoop (f76_2 l0) mFuel (0, h)
def f67 (h : mH) (l0 : Nat) (l1 : Int32) (l2 : Int32) (l3 : Int32) : Option (Int32 × mH) :=
if (l1 : Int32) = 0 then
    mGd (true && Nat.beq (mK h l0).1 7) ((f68 h l0 l2).bind (fun r1 =>
      mGd (true && mIs01 r1.1) (some (r1.1, r1.2))))
  else if (l1 : Int32) = 1 then
    mGd (true && Nat.beq (mK h l0).1 7) ((f72 h l0 l2).bind (fun r2 =>
      mGd (true && mIs01 r2.1) (some (r2.1, r2.2))))
  else if (l1 : Int32) = 2 then
    mGd (true && Nat.beq (mK h l0).1 7) ((f73 h l0 l2).bind (fun r3 =>
      mGd (true && mIs01 r3.1) (some (r3.1, r3.2))))
  else if (l1 : Int32) = 3 then
    mGd (true && Nat.beq (mK h l0).1 7) ((f74 h l0 l2 l3).bind (fun r4 =>
      mGd (true && mIs01 r4.1) (some (r4.1, r4.2))))
  else if (l1 : Int32) = 4 then
    mGd (true && Nat.beq (mK h l0).1 7) ((f75 h l0).bind (fun r5 =>
      mGd (true && mIs01 r5.1) (some (r5.1, r5.2))))
  else if (l1 : Int32) = 5 then
    mGd (true && Nat.beq (mK h l0).1 7) ((f76 h l0).bind (fun r6 =>
      mGd (true && mIs01 1) (some (1, r6.2))))
  else 
    mGd (true && mIs01 0) (some (0, h))
def f62_92 (h : mH) (l2 : Nat) (l3 : Int32) : Option (Int32 × mH) :=
mGd ((Nat.beq (mK h l2).1 3 && true) && true) (some ((if ((mI h l2 3) : Int32) < l3 then (mI h l2 3) else l3), h))
def f62_82 (h : mH) (l0 : Nat) (l2 : Nat) (l3 : Int32) (l4 : Int32) : Option ((Int32 × mH) ⊕ (Int32 × mH)) :=
mGd (true && Nat.beq (mK h l0).1 7) ((f64 h l0).bind (fun r4 =>
    some (.inl ((l4 + 1), r4.2))))
def f62_12 (l0 : Nat) (l2 : Nat) (l3 : Int32) (s : (Int32 × mH)) : Option ((Int32 × mH) ⊕ (Int32 × mH)) :=
if (l3 : Int32) ≤ s.1 then
    mX (f62_92 s.2 l2 l3)
  else 
    mGd (Nat.beq (mK s.2 l2).1 3 && true) (
      if ((mI s.2 l2 3) : Int32) ≤ s.1 then
      mX (f62_92 s.2 l2 l3)
    else 
      mGd (((Nat.beq (mK s.2 l2).1 3 && (mR s.2 l2 0).isSome) && ((Nat.beq (mK s.2 ((mR s.2 l2 0).getD 0)).1 100 && mIn s.1 (mK s.2 ((mR s.2 l2 0).getD 0)).2) && ((Nat.beq (mK s.2 l2).1 3 && (mR s.2 l2 1).isSome) && ((Nat.beq (mK s.2 ((mR s.2 l2 1).getD 0)).1 100 && mIn s.1 (mK s.2 ((mR s.2 l2 1).getD 0)).2) && ((Nat.beq (mK s.2 l2).1 3 && (mR s.2 l2 2).isSome) && ((Nat.beq (mK s.2 ((mR s.2 l2 2).getD 0)).1 100 && mIn s.1 (mK s.2 ((mR s.2 l2 2).getD 0)).2) && true)))))) && Nat.beq (mK s.2 l0).1 7) ((f67 s.2 l0 (mI s.2 ((mR s.2 l2 0).getD 0) (Int32.toNatClampNeg s.1)) (mI s.2 ((mR s.2 l2 1).getD 0) (Int32.toNatClampNeg s.1)) (mI s.2 ((mR s.2 l2 2).getD 0) (Int32.toNatClampNeg s.1))).bind (fun r3 =>
        if (r3.1 : Int32) = 0 then
        mX (mGd (true && true) (some (s.1, r3.2)))
      else 
        mGd ((Nat.beq (mK r3.2 l2).1 3 && (mR r3.2 l2 0).isSome) && ((Nat.beq (mK r3.2 ((mR r3.2 l2 0).getD 0)).1 100 && mIn s.1 (mK r3.2 ((mR r3.2 l2 0).getD 0)).2) && true)) (
          if ((mI r3.2 ((mR r3.2 l2 0).getD 0) (Int32.toNatClampNeg s.1)) : Int32) = 0 then
          mGd (Nat.beq (mK r3.2 l0).1 7 && true) (
            if ((mI r3.2 l0 12) : Int32) = (-1) then
            mGd (Nat.beq (mK r3.2 l0).1 7 && true) (
              f62_82 (mSI r3.2 l0 12 s.1) l0 l2 l3 s.1)
          else 
            f62_82 r3.2 l0 l2 l3 s.1)
        else 
          f62_82 r3.2 l0 l2 l3 s.1))))
def f62 (h : mH) (l0 : Nat) (l1 : Nat) (l2 : Nat) (l3 : Int32) : Option (Int32 × mH) :=
mGd (true && Nat.beq (mK h l0).1 7) ((f63 h l0 l1).bind (fun r1 =>
    mGd (true && Nat.beq (mK r1.2 l0).1 7) ((f64 r1.2 l0).bind (fun r2 =>
    mLoop (f62_12 l0 l2 l3) mFuel (0, r2.2)))))
def f61_28 (h : mH) : Option (Int32 × mH) :=
mGd (true && true) (some ((-1), h))
def f61 (h : mH) (l0 : Nat) (l1 : Int32) (l2 : Int32) : Option (Int32 × mH) :=
mGd (((Nat.beq (mK h l0).1 0 && (mR h l0 0).isSome) && true) && Nat.beq (mK h ((mR h l0 0).getD 0)).1 1) ((f53 h ((mR h l0 0).getD 0) l1).bind (fun r1 =>
    match r1 with
  | none =>
    mGd (((Nat.beq (mK h l0).1 0 && (mR h l0 0).isSome) && true) && Nat.beq (mK h ((mR h l0 0).getD 0)).1 1) ((f59 h ((mR h l0 0).getD 0) l2).bind (fun r2 =>
      match r2 with
    | none =>
      f61_28 h
    | some a2 =>
      f61_28 h))
  | some a1 =>
    mGd (((Nat.beq (mK h l0).1 0 && (mR h l0 0).isSome) && true) && Nat.beq (mK h ((mR h l0 0).getD 0)).1 1) ((f59 h ((mR h l0 0).getD 0) l2).bind (fun r3 =>
      match r3 with
    | none =>
      f61_28 h
    | some a3 =>
      mGd (((Nat.beq (mK h l0).1 0 && (mR h l0 4).isSome) && (Nat.beq (mK h a3).1 3 && true)) && Nat.beq (mK h ((mR h l0 4).getD 0)).1 7) ((f62 h ((mR h l0 4).getD 0) a1 a3 (mI h a3 3)).bind (fun r4 =>
        mGd (true && true) (some (r4.1, r4.2))))))))
def f82_97 (h : mH) : Option (Int32) :=
mGd (true && true) (some ((-2) : Int32))
def f82_50 (h : mH) (l0 : Nat) (l1 : Int32) : Option (Int32) :=
if (100 : Int32) ≤ l1 then
    mGd ((!(8 == (0 : Int32)) && (!(8 == (0 : Int32)) && ((Nat.beq (mK h l0).1 7 && (mR h l0 3).isSome) && true))) && Nat.beq (mK h ((mR h l0 3).getD 0)).1 2) ((f57 h ((mR h l0 3).getD 0) ((l1 - 100) / 8)).bind (fun r2 =>
      if (r2 : Int32) = 0 then
      f82_97 h
    else 
      mGd (((Nat.beq (mK h l0).1 7 && (mR h l0 3).isSome) && true) && Nat.beq (mK h ((mR h l0 3).getD 0)).1 2) ((f56 h ((mR h l0 3).getD 0) ((l1 - 100) - (l1 - 100) / 8 * 8)).bind (fun r3 =>
        if (r3 : Int32) = 0 then
        f82_97 h
      else 
        mGd (((Nat.beq (mK h l0).1 7 && (mR h l0 2).isSome) && ((Nat.beq (mK h ((mR h l0 2).getD 0)).1 100 && mIn ((((l1 - 100) / 8) * 8) + ((l1 - 100) - (l1 - 100) / 8 * 8)) (mK h ((mR h l0 2).getD 0)).2) && true)) && true) (some ((mI h ((mR h l0 2).getD 0) (Int32.toNatClampNeg ((((l1 - 100) / 8) * 8) + ((l1 - 100) - (l1 - 100) / 8 * 8)))) : Int32))))))
  else 
    mGd (true && true) (some ((-2) : Int32))
def f82 (h : mH) (l0 : Nat) (l1 : Int32) : Option (Int32) :=
mGd (true && true) ((f17 h l1 10 15).bind (fun r1 =>
    if (r1 : Int32) = 0 then
    if (l1 : Int32) < 20 then
      f82_50 h l0 l1
    else 
      mGd (((Nat.beq (mK h l0).1 7 && (mR h l0 3).isSome) && true) && Nat.beq (mK h ((mR h l0 3).getD 0)).1 2) ((f57 h ((mR h l0 3).getD 0) (l1 - 20)).bind (fun r4 =>
        if (r4 : Int32) = 0 then
        f82_50 h l0 l1
      else 
        mGd (true && Nat.beq (mK h l0).1 7) ((f65 h l0 (l1 - 20)).bind (fun r5 =>
          mGd (true && true) (some (r5 : Int32))))))
  else 
    mGd (((Nat.beq (mK h l0).1 7 && (mR h l0 0).isSome) && ((Nat.beq (mK h ((mR h l0 0).getD 0)).1 100 && mIn (l1 - 10) (mK h ((mR h l0 0).getD 0)).2) && true)) && true) (some ((mI h ((mR h l0 0).getD 0) (Int32.toNatClampNeg (l1 - 10))) : Int32))))
def f81_72 (h : mH) (q0 : Int32) : Option (Int32) :=
mGd (true && true) (some (q0 : Int32))
def f81 (h : mH) (l0 : Nat) (l1 : Int32) : Option (Int32) :=
if (l1 : Int32) = 0 then
    mGd ((Nat.beq (mK h l0).1 7 && true) && true) (some ((mI h l0 4) : Int32))
  else if (l1 : Int32) = 1 then
    mGd ((Nat.beq (mK h l0).1 7 && true) && true) (some ((mI h l0 1) : Int32))
  else if (l1 : Int32) = 2 then
    mGd ((Nat.beq (mK h l0).1 7 && true) && true) (some ((mI h l0 5) : Int32))
  else if (l1 : Int32) = 3 then
    mGd ((Nat.beq (mK h l0).1 7 && true) && true) (some ((mI h l0 6) : Int32))
  else if (l1 : Int32) = 4 then
    mGd (Nat.beq (mK h l0).1 7 && true) (
      if ((mI h l0 7) : Int32) = 0 then
      f81_72 h 0
    else 
      f81_72 h 1)
  else if (l1 : Int32) = 5 then
    mGd (((Nat.beq (mK h l0).1 7 && (mR h l0 3).isSome) && (Nat.beq (mK h l0).1 7 && (Nat.beq (mK h l0).1 7 && true))) && Nat.beq (mK h ((mR h l0 3).getD 0)).1 2) ((f70 h ((mR h l0 3).getD 0) ((mI h l0 1) ||| (mI h l0 5))).bind (fun r1 =>
      mGd (true && true) (some (r1 : Int32))))
  else 
    mGd (true && Nat.beq (mK h l0).1 7) ((f82 h l0 l1).bind (fun r2 =>
      mGd (true && true) (some (r2 : Int32))))
def f80_43 (h : mH) : Option (Int32 × mH) :=
mGd (true && true) (some ((-2), h))
def f80_76 (h : mH) (q0 : Int32) : Option (Int32 × mH) :=
mGd (true && true) (some (q0, h))
def f80 (h : mH) (l0 : Nat) (l1 : Int32) (l2 : Int32) (l3 : Int32) (l4 : Int32) : Option (Int32 × mH) :=
mGd (((Nat.beq (mK h l0).1 0 && (mR h l0 0).isSome) && true) && Nat.beq (mK h ((mR h l0 0).getD 0)).1 1) ((f53 h ((mR h l0 0).getD 0) l1).bind (fun r1 =>
    match r1 with
  | none =>
    mGd (((Nat.beq (mK h l0).1 0 && (mR h l0 0).isSome) && true) && Nat.beq (mK h ((mR h l0 0).getD 0)).1 1) ((f59 h ((mR h l0 0).getD 0) l2).bind (fun r2 =>
      match r2 with
    | none =>
      f80_43 h
    | some a2 =>
      f80_43 h))
  | some a1 =>
    mGd (((Nat.beq (mK h l0).1 0 && (mR h l0 0).isSome) && true) && Nat.beq (mK h ((mR h l0 0).getD 0)).1 1) ((f59 h ((mR h l0 0).getD 0) l2).bind (fun r3 =>
      match r3 with
    | none =>
      f80_43 h
    | some a3 =>
      mGd ((Nat.beq (mK h a3).1 3 && true) && true) ((f17 h l3 0 (mI h a3 3)).bind (fun r4 =>
        if (r4 : Int32) = 0 then
        f80_43 h
      else 
        mGd (((Nat.beq (mK h l0).1 0 && (mR h l0 4).isSome) && true) && Nat.beq (mK h ((mR h l0 4).getD 0)).1 7) ((f62 h ((mR h l0 4).getD 0) a1 a3 l3).bind (fun r5 =>
          if (l3 : Int32) ≤ r5.1 then
          mGd (((Nat.beq (mK r5.2 l0).1 0 && (mR r5.2 l0 4).isSome) && true) && Nat.beq (mK r5.2 ((mR r5.2 l0 4).getD 0)).1 7) ((f81 r5.2 ((mR r5.2 l0 4).getD 0) l4).bind (fun r6 =>
            f80_76 r5.2 r6))
        else 
          f80_76 r5.2 (-2)))))))))
def f87_66 (h : mH) (q0 : Int32) : Option (Int32) :=
mGd (true && mIs01 q0) (some (q0 : Int32))
def f87_61 (h : mH) : Option (Int32) :=
f87_66 h 1
def f87_65 (h : mH) : Option (Int32) :=
f87_66 h 0
def f87_32 (h : mH) (l1 : Nat) (l2 : Int32) (l3 : Int32) (l4 : Int32) (l5 : Int32) : Option (Int32) :=
if (l5 : Int32) < l4 then
    f87_61 h
  else 
    if (l4 : Int32) = l5 then
      mGd ((Nat.beq (mK h l1).1 2 && (mR h l1 0).isSome) && ((Nat.beq (mK h ((mR h l1 0).getD 0)).1 100 && mIn l2 (mK h ((mR h l1 0).getD 0)).2) && ((Nat.beq (mK h l1).1 2 && (mR h l1 0).isSome) && ((Nat.beq (mK h ((mR h l1 0).getD 0)).1 100 && mIn l3 (mK h ((mR h l1 0).getD 0)).2) && true)))) (
        if ((mI h ((mR h l1 0).getD 0) (Int32.toNatClampNeg l3)) : Int32) ≤ (mI h ((mR h l1 0).getD 0) (Int32.toNatClampNeg l2)) then
        f87_65 h
      else 
        f87_61 h)
    else 
      f87_65 h
def f87_16 (h : mH) (l0 : Nat) (l1 : Nat) (l2 : Int32) (l3 : Int32) (l4 : Int32) : Option (Int32) :=
mGd ((Nat.beq (mK h l0).1 8 && (mR h l0 4).isSome) && ((Nat.beq (mK h ((mR h l0 4).getD 0)).1 7 && (mR h ((mR h l0 4).getD 0) 0).isSome) && ((Nat.beq (mK h l1).1 2 && (mR h l1 1).isSome) && ((Nat.beq (mK h ((mR h l1 1).getD 0)).1 100 && mIn l3 (mK h ((mR h l1 1).getD 0)).2) && ((Nat.beq (mK h ((mR h ((mR h l0 4).getD 0) 0).getD 0)).1 100 && mIn (mI h ((mR h l1 1).getD 0) (Int32.toNatClampNeg l3)) (mK h ((mR h ((mR h l0 4).getD 0) 0).getD 0)).2) && true))))) (
    f87_32 h l1 l2 l3 l4 (mI h ((mR h ((mR h l0 4).getD 0) 0).getD 0) (Int32.toNatClampNeg (mI h ((mR h l1 1).getD 0) (Int32.toNatClampNeg l3)))))
def f87 (h : mH) (l0 : Nat) (l1 : Nat) (l2 : Int32) (l3 : Int32) : Option (Int32) :=
mGd ((Nat.beq (mK h l0).1 8 && (mR h l0 4).isSome) && ((Nat.beq (mK h ((mR h l0 4).getD 0)).1 7 && (mR h ((mR h l0 4).getD 0) 0).isSome) && ((Nat.beq (mK h l1).1 2 && (mR h l1 1).isSome) && ((Nat.beq (mK h ((mR h l1 1).getD 0)).1 100 && mIn l2 (mK h ((mR h l1 1).getD 0)).2) && ((Nat.beq (mK h ((mR h ((mR h l0 4).getD 0) 0).getD 0)).1 100 && mIn (mI h ((mR h l1 1).getD 0) (Int32.toNatClampNeg l2)) (mK h ((mR h ((mR h l0 4).getD 0) 0).getD 0)).2) && true))))) (
    f87_16 h l0 l1 l2 l3 (mI h ((mR h ((mR h l0 4).getD 0) 0).getD 0) (Int32.toNatClampNeg (mI h ((mR h l1 1).getD 0) (Int32.toNatClampNeg l2)))))
def f86_50 (h : mH) (l0 : Nat) (l1 : Nat) (l2 : Int32) (l3 : Int32) (l4 : Int32) : Option ((Int32 × Int32) ⊕ (Int32)) :=
some (.inl (l3, (l4 + 1)))
def f86_47 (h : mH) (l0 : Nat) (l1 : Nat) (l2 : Int32) (l4 : Int32) : Option ((Int32 × Int32) ⊕ (Int32)) :=
f86_50 h l0 l1 l2 l4 l4
def f86_13 (h : mH) (l0 : Nat) (l1 : Nat) (l2 : Int32) (s : (Int32 × Int32)) : Option ((Int32 × Int32) ⊕ (Int32)) :=
mGd (Nat.beq (mK h l1).1 2 && true) (
    if ((mI h l1 6) : Int32) ≤ s.2 then
    mX (mGd (true && true) (some (s.1 : Int32)))
  else 
    mGd (true && true) ((f71 h l2 s.2).bind (fun r2 =>
      if (r2 : Int32) = 0 then
      f86_50 h l0 l1 l2 s.1 s.2
    else 
      if (s.1 : Int32) = (-1) then
        f86_47 h l0 l1 l2 s.2
      else 
        mGd (true && Nat.beq (mK h l0).1 8) ((f87 h l0 l1 s.2 s.1).bind (fun r3 =>
          if (r3 : Int32) = 0 then
          f86_50 h l0 l1 l2 s.1 s.2
        else 
          f86_47 h l0 l1 l2 s.2)))))
def f86 (h : mH) (l0 : Nat) (l1 : Nat) : Option (Int32) :=
mGd (((Nat.beq (mK h l0).1 8 && (mR h l0 4).isSome) && true) && Nat.beq (mK h ((mR h l0 4).getD 0)).1 7) ((f69 h ((mR h l0 4).getD 0)).bind (fun r1 =>
    mLoop (f86_13 h l0 l1 r1) mFuel ((-1), 0)))
def f85_96 (h : mH) (q0 : Int32) : Option (Int32 × mH) :=
mGd (true && mIs01 q0) (some (q0, h))
def f85_76 (h : mH) (l0 : Nat) (l2 : Int32) : Option (Int32 × mH) :=
mGd (((Nat.beq (mK h l0).1 8 && (mR h l0 4).isSome) && true) && Nat.beq (mK h ((mR h l0 4).getD 0)).1 7) ((f79 h ((mR h l0 4).getD 0)).bind (fun r2 =>
    mGd (Nat.beq (mK r2.2 l0).1 8 && true) (
    if ((mI r2.2 l0 3) : Int32) ≤ l2 then
    f85_96 r2.2 0
  else 
    f85_96 r2.2 1)))
def f85_64 (h : mH) (l0 : Nat) (l1 : Nat) (l2 : Int32) (l4 : Int32) : Option ((Int32 × Int32 × mH) ⊕ (Int32 × mH)) :=
mGd (true && Nat.beq (mK h l0).1 8) ((f86 h l0 l1).bind (fun r4 =>
    some (.inl (r4, (l4 + 1), h))))
def f85_14 (l0 : Nat) (l1 : Nat) (l2 : Int32) (s : (Int32 × Int32 × mH)) : Option ((Int32 × Int32 × mH) ⊕ (Int32 × mH)) :=
if (8 : Int32) ≤ s.2.1 then
    mX (f85_76 s.2.2 l0 l2)
  else 
    if (s.1 : Int32) = (-1) then
      mX (f85_76 s.2.2 l0 l2)
    else 
      mGd (Nat.beq (mK s.2.2 l0).1 8 && true) (
        if (8 : Int32) ≤ (mI s.2.2 l0 3) then
        mX (f85_76 s.2.2 l0 l2)
      else 
        mGd (((Nat.beq (mK s.2.2 l0).1 8 && (mR s.2.2 l0 4).isSome) && true) && Nat.beq (mK s.2.2 ((mR s.2.2 l0 4).getD 0)).1 7) ((f68 s.2.2 ((mR s.2.2 l0 4).getD 0) s.1).bind (fun r3 =>
          mGd ((Nat.beq (mK r3.2 l0).1 8 && (mR r3.2 l0 0).isSome) && (Nat.beq (mK r3.2 l0).1 8 && ((Nat.beq (mK r3.2 ((mR r3.2 l0 0).getD 0)).1 100 && mIn (mI r3.2 l0 3) (mK r3.2 ((mR r3.2 l0 0).getD 0)).2) && true))) (
          mGd (Nat.beq (mK r3.2 l0).1 8 && (Nat.beq (mK r3.2 l0).1 8 && true)) (
          f85_64 (mSI (mSI r3.2 ((mR r3.2 l0 0).getD 0) (Int32.toNatClampNeg (mI r3.2 l0 3)) s.1) l0 3 ((mI (mSI r3.2 ((mR r3.2 l0 0).getD 0) (Int32.toNatClampNeg (mI r3.2 l0 3)) s.1) l0 3) + 1)) l0 l1 l2 s.2.1)))))
def f85 (h : mH) (l0 : Nat) (l1 : Nat) : Option (Int32 × mH) :=
mGd ((Nat.beq (mK h l0).1 8 && true) && Nat.beq (mK h l0).1 8) ((f86 h l0 l1).bind (fun r1 =>
    mLoop (f85_14 l0 l1 (mI h l0 3)) mFuel (r1, 0, h)))
def f84_95 (h : mH) : Option (Unit × mH) :=
mGd (true && true) (some ((), h))
def f84_89 (h : mH) (l0 : Nat) (l1 : Nat) (l2 : Int32) (l4 : Int32) (l5 : Int32) : Option ((Int32 × Int32 × mH) ⊕ (Unit × mH)) :=
some (.inl (l4, (l5 + 1), h))
def f84_60 (l0 : Nat) (l1 : Nat) (l2 : Int32) (s : (Int32 × Int32 × mH)) : Option ((Int32 × Int32 × mH) ⊕ (Unit × mH)) :=
if (l2 : Int32) < s.2.1 then
    mX (f84_95 s.2.2)
  else 
    if (s.1 : Int32) = 0 then
      mX (f84_95 s.2.2)
    else 
      mGd (true && Nat.beq (mK s.2.2 l0).1 8) ((f85 s.2.2 l0 l1).bind (fun r2 =>
        if (r2.1 : Int32) = 0 then
        f84_89 r2.2 l0 l1 l2 r2.1 s.2.1
      else 
        mGd (Nat.beq (mK r2.2 l0).1 8 && true) (
          f84_89 (mSI r2.2 l0 5 s.2.1) l0 l1 l2 r2.1 s.2.1)))
def f84_44 (h : mH) (l0 : Nat) (l1 : Nat) (l2 : Int32) : Option (Unit × mH) :=
mGd (Nat.beq (mK h l0).1 8 && true) (
    mGd (Nat.beq (mK h l0).1 8 && true) (
    mLoop (f84_60 l0 l1 l2) mFuel (1, 1, (mSI (mSI h l0 3 0) l0 5 0))))
def f84_11 (l0 : Nat) (l1 : Nat) (l2 : Int32) (l3 : Int32) (s : (Int32 × mH)) : Option ((Int32 × mH) ⊕ (Unit × mH)) :=
if (l3 : Int32) ≤ s.1 then
    mX (f84_44 s.2 l0 l1 l2)
  else 
    if (4 : Int32) ≤ s.1 then
      mX (f84_44 s.2 l0 l1 l2)
    else 
      mGd (((Nat.beq (mK s.2 l0).1 8 && (mR s.2 l0 4).isSome) && ((Nat.beq (mK s.2 l0).1 8 && (mR s.2 l0 1).isSome) && ((Nat.beq (mK s.2 ((mR s.2 l0 1).getD 0)).1 100 && mIn s.1 (mK s.2 ((mR s.2 l0 1).getD 0)).2) && true))) && Nat.beq (mK s.2 ((mR s.2 l0 4).getD 0)).1 7) ((f73 s.2 ((mR s.2 l0 4).getD 0) (mI s.2 ((mR s.2 l0 1).getD 0) (Int32.toNatClampNeg s.1))).bind (fun r3 =>
        some (.inl ((s.1 + 1), r3.2))))
def f84 (h : mH) (l0 : Nat) (l1 : Nat) (l2 : Int32) (l3 : Int32) : Option (Unit × mH) :=
mGd (((Nat.beq (mK h l0).1 8 && (mR h l0 4).isSome) && true) && Nat.beq (mK h ((mR h l0 4).getD 0)).1 7) ((f63 h ((mR h l0 4).getD 0) l1).bind (fun r1 =>
    mLoop (f84_11 l0 l1 l2 l3) mFuel (0, r1.2)))
def f88_29 (h : mH) (q0 : Int32) : Option (Int32) :=
mGd (true && true) (some (q0 : Int32))
def f88_28 (h : mH) : Option (Int32) :=
f88_29 h (-1)
def f88 (h : mH) (l0 : Nat) (l1 : Int32) (l2 : Int32) : Option (Int32) :=
if (l2 : Int32) = (-1) then
    mGd (true && true) (some (l1 : Int32))
  else 
    if (l2 : Int32) < 0 then
      f88_28 h
    else 
      if (l1 : Int32) ≤ l2 then
        f88_28 h
      else 
        mGd (Nat.beq (mK h l0).1 100 && true) (
          if ((Int32.ofNat (mK h l0).2) : Int32) ≤ l2 then
          f88_28 h
        else 
          mGd ((Nat.beq (mK h l0).1 100 && mIn l2 (mK h l0).2) && true) (
            f88_29 h (mI h l0 (Int32.toNatClampNeg l2))))
def f83_25 (h : mH) : Option (Int32 × mH) :=
mGd (true && true) (some ((-1), h))
def f83 (h : mH) (l0 : Nat) (l1 : Int32) (l2 : Int32) (l3 : Int32) : Option (Int32 × mH) :=
mGd (((Nat.beq (mK h l0).1 0 && (mR h l0 0).isSome) && true) && Nat.beq (mK h ((mR h l0 0).getD 0)).1 1) ((f53 h ((mR h l0 0).getD 0) l1).bind (fun r1 =>
    match r1 with
  | none =>
    f83_25 h
  | some a1 =>
    mGd (true && true) ((f17 h l2 0 20).bind (fun r2 =>
      if (r2 : Int32) = 0 then
      f83_25 h
    else 
      mGd (((Nat.beq (mK h l0).1 0 && (mR h l0 5).isSome) && true) && Nat.beq (mK h ((mR h l0 5).getD 0)).1 8) ((f84 h ((mR h l0 5).getD 0) a1 l2 0).bind (fun r3 =>
        mGd (((Nat.beq (mK r3.2 l0).1 0 && (mR r3.2 l0 5).isSome) && ((Nat.beq (mK r3.2 ((mR r3.2 l0 5).getD 0)).1 8 && (mR r3.2 ((mR r3.2 l0 5).getD 0) 0).isSome) && ((Nat.beq (mK r3.2 l0).1 0 && (mR r3.2 l0 5).isSome) && (Nat.beq (mK r3.2 ((mR r3.2 l0 5).getD 0)).1 8 && true)))) && true) ((f88 r3.2 ((mR r3.2 ((mR r3.2 l0 5).getD 0) 0).getD 0) (mI r3.2 ((mR r3.2 l0 5).getD 0) 3) l3).bind (fun r4 =>
        mGd (true && true) (some (r4, r3.2))))))))))
def f91_72 (h : mH) : Option (Int32 × mH) :=
mGd (true && mIs01 1) (some (1, h))
def f91_46 (l0 : Nat) (l1 : Int32) (l3 : Int32) (s : (Int32 × mH)) : Option ((Int32 × mH) ⊕ (Int32 × mH)) :=
if (l1 : Int32) ≤ s.1 then
    mX (f91_72 s.2)
  else 
    if (4 : Int32) ≤ s.1 then
      mX (f91_72 s.2)
    else 
      mGd ((Nat.beq (mK s.2 l0).1 8 && (mR s.2 l0 1).isSome) && ((Nat.beq (mK s.2 ((mR s.2 l0 1).getD 0)).1 100 && mIn s.1 (mK s.2 ((mR s.2 l0 1).getD 0)).2) && true)) (
        some (.inl ((s.1 + 1), (mSI s.2 ((mR s.2 l0 1).getD 0) (Int32.toNatClampNeg s.1) l3))))
def f91_28 (h : mH) (l0 : Nat) (l1 : Int32) (l2 : Int32) : Option (Int32 × mH) :=
if (0 : Int32) ≤ l2 then
    mGd ((Nat.beq (mK h l0).1 8 && (mR h l0 1).isSome) && ((Nat.beq (mK h ((mR h l0 1).getD 0)).1 100 && mIn l2 (mK h ((mR h l0 1).getD 0)).2) && true)) (
      mLoop (f91_46 l0 l1 ((mI h ((mR h l0 1).getD 0) (Int32.toNatClampNeg l2)) + 1)) mFuel (l2, h))
  else 
    mGd (true && mIs01 0) (some (0, h))
def f91_8 (h : mH) (l0 : Nat) (l1 : Int32) (s : (Int32)) : Option ((Int32) ⊕ (Int32 × mH)) :=
if (s : Int32) < 0 then
    mX (f91_28 h l0 l1 s)
  else 
    mGd ((Nat.beq (mK h l0).1 8 && (mR h l0 1).isSome) && ((Nat.beq (mK h ((mR h l0 1).getD 0)).1 100 && mIn s (mK h ((mR h l0 1).getD 0)).2) && true)) (
      if ((mI h ((mR h l0 1).getD 0) (Int32.toNatClampNeg s)) : Int32) = 5 then
      some (.inl ((s + (-1))))
    else 
      mX (f91_28 h l0 l1 s))
def f91 (h : mH) (l0 : Nat) (l1 : Int32) : Option (Int32 × mH) :=
mLoop (f91_8 h l0 l1) mFuel (((if (4 : Int32) < l1 then 4 else l1) - 1))
def f90_75 (h : mH) (l0 : Nat) (l1 : Nat) (l2 : Int32) (l3 : Int32) (l4 : Int32) : Option ((Int32 × mH) ⊕ (Int32 × mH)) :=
some (.inl ((l4 + 1), h))
def f90_23 (l0 : Nat) (l1 : Nat) (l2 : Int32) (l3 : Int32) (l4 : Int32) (s : (Int32 × Int32 × mH)) : Option ((Int32 × Int32 × mH) ⊕ ((Int32 × mH) ⊕ (Int32 × mH))) :=
if (1000 : Int32) ≤ s.2.1 then
    mX (f90_75 s.2.2 l0 l1 l2 l3 l4)
  else 
    if (s.1 : Int32) = 0 then
      mX (f90_75 s.2.2 l0 l1 l2 l3 l4)
    else 
      mGd (true && Nat.beq (mK s.2.2 l0).1 8) ((f84 s.2.2 l0 l1 l3 l4).bind (fun r2 =>
        mGd (((Nat.beq (mK r2.2 l0).1 8 && (mR r2.2 l0 4).isSome) && (Nat.beq (mK r2.2 ((mR r2.2 l0 4).getD 0)).1 7 && true)) && true) ((f71 r2.2 (mI r2.2 ((mR r2.2 l0 4).getD 0) 1) l2).bind (fun r3 =>
        if (r3 : Int32) = 0 then
        mGd (true && Nat.beq (mK r2.2 l0).1 8) ((f91 r2.2 l0 l4).bind (fun r4 =>
          some (.inl (r4.1, (s.2.1 + 1), r4.2))))
      else 
        mX (mX (mGd (true && true) (some (l4, r2.2))))))))
def f90_3 (l0 : Nat) (l1 : Nat) (l2 : Int32) (l3 : Int32) (s : (Int32 × mH)) : Option ((Int32 × mH) ⊕ (Int32 × mH)) :=
if (4 : Int32) < s.1 then
    mX (mGd (true && true) (some ((-1), s.2)))
  else 
    mGd (((Nat.beq (mK s.2 l0).1 8 && (mR s.2 l0 1).isSome) && true) && true) ((f4 s.2 ((mR s.2 l0 1).getD 0) 0).bind (fun r1 =>
      mLoop (f90_23 l0 l1 l2 l3 s.1) mFuel (1, 0, r1.2)))
def f90 (h : mH) (l0 : Nat) (l1 : Nat) (l2 : Int32) (l3 : Int32) : Option (Int32 × mH) :=
mLoop (f90_3 l0 l1 l2 l3) mFuel (0, h)
def f89_34 (h : mH) : Option (Int32 × mH) :=
mGd (true && true) (some ((-1), h))
def f89_73 (h : mH) (q0 : Int32) : Option (Int32 × mH) :=
mGd (true && true) (some (q0, h))
def f89 (h : mH) (l0 : Nat) (l1 : Int32) (l2 : Int32) (l3 : Int32) (l4 : Int32) : Option (Int32 × mH) :=
mGd (((Nat.beq (mK h l0).1 0 && (mR h l0 0).isSome) && true) && Nat.beq (mK h ((mR h l0 0).getD 0)).1 1) ((f53 h ((mR h l0 0).getD 0) l1).bind (fun r1 =>
    match r1 with
  | none =>
    f89_34 h
  | some a1 =>
    mGd (true && Nat.beq (mK h a1).1 2) ((f56 h a1 l2).bind (fun r2 =>
      if (r2 : Int32) = 0 then
      f89_34 h
    else 
      mGd (true && true) ((f17 h l3 0 20).bind (fun r3 =>
        if (r3 : Int32) = 0 then
        f89_34 h
      else 
        mGd (((Nat.beq (mK h l0).1 0 && (mR h l0 5).isSome) && true) && Nat.beq (mK h ((mR h l0 5).getD 0)).1 8) ((f90 h ((mR h l0 5).getD 0) a1 l2 l3).bind (fun r4 =>
          if (r4.1 : Int32) = (-1) then
          f89_73 r4.2 (-1)
        else 
          mGd (((Nat.beq (mK r4.2 l0).1 0 && (mR r4.2 l0 5).isSome) && ((Nat.beq (mK r4.2 ((mR r4.2 l0 5).getD 0)).1 8 && (mR r4.2 ((mR r4.2 l0 5).getD 0) 1).isSome) && true)) && true) ((f88 r4.2 ((mR r4.2 ((mR r4.2 l0 5).getD 0) 1).getD 0) r4.1 l4).bind (fun r5 =>
            f89_73 r4.2 r5))))))))))
def f94 (h : mH) (l0 : Nat) : Option (Int32) :=
mGd ((Nat.beq (mK h l0).1 2 && true) && true) (some ((((1 : Int32) <<< ((mI h l0 6) &&& (31 : Int32))) - 1) : Int32))
def f95_29 (h : mH) (l0 : Nat) (l1 : Int32) (l2 : Int32) (l3 : Int32) : Option ((Int32 × Int32) ⊕ (Int32)) :=
some (.inl (l2, (l3 + 1)))
def f95_4 (h : mH) (l0 : Nat) (l1 : Int32) (s : (Int32 × Int32)) : Option ((Int32 × Int32) ⊕ (Int32)) :=
mGd (Nat.beq (mK h l0).1 2 && true) (
    if ((mI h l0 6) : Int32) ≤ s.2 then
    mX (mGd (true && true) (some (s.1 : Int32)))
  else 
    mGd (true && true) ((f71 h l1 s.2).bind (fun r1 =>
      if (r1 : Int32) = 0 then
      f95_29 h l0 l1 s.1 s.2
    else 
      mGd ((Nat.beq (mK h l0).1 2 && (mR h l0 0).isSome) && ((Nat.beq (mK h ((mR h l0 0).getD 0)).1 100 && mIn s.2 (mK h ((mR h l0 0).getD 0)).2) && true)) (
        f95_29 h l0 l1 (s.1 + (mI h ((mR h l0 0).getD 0) (Int32.toNatClampNeg s.2))) s.2))))
def f95 (h : mH) (l0 : Nat) (l1 : Int32) : Option (Int32) :=
mLoop (f95_4 h l0 l1) mFuel (0, 0)
def f96_33 (h : mH) (l0 : Nat) (l1 : Int32) (l2 : Int32) : Option ((Int32) ⊕ (Int32)) :=
some (.inl ((l2 + 1)))
def f96_2 (h : mH) (l0 : Nat) (l1 : Int32) (s : (Int32)) : Option ((Int32) ⊕ (Int32)) :=
mGd (Nat.beq (mK h l0).1 2 && true) (
    if ((mI h l0 6) : Int32) ≤ s then
    mX (mGd (true && mIs01 1) (some (1 : Int32)))
  else 
    mGd (true && true) ((f71 h l1 s).bind (fun r1 =>
      if (r1 : Int32) = 0 then
      f96_33 h l0 l1 s
    else 
      mGd ((Nat.beq (mK h l0).1 2 && (mR h l0 2).isSome) && ((Nat.beq (mK h ((mR h l0 2).getD 0)).1 100 && mIn s (mK h ((mR h l0 2).getD 0)).2) && true)) (
        if (((mI h ((mR h l0 2).getD 0) (Int32.toNatClampNeg s)) &&& (l1 ^^^ (-1))) : Int32) = 0 then
        f96_33 h l0 l1 s
      else 
        mX (mGd (true && mIs01 0) (some (0 : Int32)))))))
def f96 (h : mH) (l0 : Nat) (l1 : Int32) : Option (Int32) :=
mLoop (f96_2 h l0 l1) mFuel (0)
def f93_48 (h : mH) (l1 : Nat) (l2 : Int32) (l3 : Int32) (l4 : Int32) : Option ((Int32 × Int32) ⊕ (Int32)) :=
some (.inl (l3, (l4 + 1)))
def f93_5 (h : mH) (l1 : Nat) (l2 : Int32) (s : (Int32 × Int32)) : Option ((Int32 × Int32) ⊕ (Int32)) :=
mGd (true && Nat.beq (mK h l1).1 2) ((f94 h l1).bind (fun r1 =>
    if (r1 : Int32) < s.2 then
    mX (mGd (true && true) (some (s.1 : Int32)))
  else 
    mGd (true && true) ((f66 h s.2).bind (fun r2 =>
      mGd (true && true) ((f66 h s.1).bind (fun r3 =>
      if (r2 : Int32) ≤ r3 then
      f93_48 h l1 l2 s.1 s.2
    else 
      mGd (true && Nat.beq (mK h l1).1 2) ((f95 h l1 s.2).bind (fun r4 =>
        if (l2 : Int32) < r4 then
        f93_48 h l1 l2 s.1 s.2
      else 
        mGd (true && true) ((f96 h l1 s.2).bind (fun r5 =>
          if (r5 : Int32) = 0 then
          f93_48 h l1 l2 s.1 s.2
        else 
          f93_48 h l1 l2 s.2 s.2))))))))))
def f93 (h : mH) (l0 : Nat) (l1 : Nat) (l2 : Int32) : Option (Int32) :=
mLoop (f93_5 h l1 l2) mFuel (0, 1)
def f92_25 (h : mH) : Option (Int32) :=
mGd (true && true) (some ((-1) : Int32))
def f92_53 (h : mH) (q0 : Int32) : Option (Int32) :=
mGd (true && true) (some (q0 : Int32))
def f92 (h : mH) (l0 : Nat) (l1 : Int32) (l2 : Int32) (l3 : Int32) : Option (Int32) :=
mGd (((Nat.beq (mK h l0).1 0 && (mR h l0 0).isSome) && true) && Nat.beq (mK h ((mR h l0 0).getD 0)).1 1) ((f53 h ((mR h l0 0).getD 0) l1).bind (fun r1 =>
    match r1 with
  | none =>
    f92_25 h
  | some a1 =>
    mGd (true && true) ((f17 h l2 0 72).bind (fun r2 =>
      if (r2 : Int32) = 0 then
      f92_25 h
    else 
      mGd (((Nat.beq (mK h l0).1 0 && (mR h l0 6).isSome) && true) && Nat.beq (mK h ((mR h l0 6).getD 0)).1 9) ((f93 h ((mR h l0 6).getD 0) a1 l2).bind (fun r3 =>
        if (l3 : Int32) = 0 then
        mGd (true && true) ((f66 h r3).bind (fun r4 =>
          f92_53 h r4))
      else 
        f92_53 h r3))))))
def f98 (h : mH) (l0 : Nat) : Option (Int32) :=
mGd ((Nat.beq (mK h l0).1 2 && true) && true) (some ((((1 : Int32) <<< ((mI h l0 7) &&& (31 : Int32))) - 1) : Int32))
def f99_50 (h : mH) (l0 : Nat) (l2 : Int32) (l3 : Int32) (l4 : Int32) (l5 : Int32) (l6 : Int32) (l7 : Int32) : Option ((Int32 × Int32) ⊕ ((Int32 × Int32) ⊕ (Int32))) :=
some (.inl (l6, (l7 + 1)))
def f99_19 (h : mH) (l0 : Nat) (l2 : Int32) (l3 : Int32) (l4 : Int32) (l5 : Int32) (s : (Int32 × Int32)) : Option ((Int32 × Int32) ⊕ ((Int32 × Int32) ⊕ (Int32))) :=
mGd (Nat.beq (mK h l0).1 2 && true) (
    if ((mI h l0 7) : Int32) ≤ s.2 then
    mX (some (.inl ((s.1 &&& l3), (l5 + 1))))
  else 
    mGd ((Nat.beq (mK h l0).1 2 && (mR h l0 5).isSome) && ((Nat.beq (mK h ((mR h l0 5).getD 0)).1 100 && mIn s.2 (mK h ((mR h l0 5).getD 0)).2) && true)) (
      if (((mI h ((mR h l0 5).getD 0) (Int32.toNatClampNeg s.2)) &&& l4) : Int32) = 0 then
      f99_50 h l0 l2 l3 l4 l5 s.1 s.2
    else 
      f99_50 h l0 l2 l3 l4 l5 (s.1 ||| ((1 : Int32) <<< (s.2 &&& (31 : Int32)))) s.2))
def f99_6 (h : mH) (l0 : Nat) (l2 : Int32) (l3 : Int32) (s : (Int32 × Int32)) : Option ((Int32 × Int32) ⊕ (Int32)) :=
if (l2 : Int32) ≤ s.2 then
    mX (mGd (true && true) (some (s.1 : Int32)))
  else 
    mLoop (f99_19 h l0 l2 l3 s.1 s.2) mFuel (s.1, 0)
def f99 (h : mH) (l0 : Nat) (l1 : Int32) (l2 : Int32) (l3 : Int32) : Option (Int32) :=
mLoop (f99_6 h l0 l2 l3) mFuel (l1, 0)
def f97_34 (h : mH) : Option (Int32) :=
mGd (true && true) (some ((-1) : Int32))
def f97 (h : mH) (l0 : Nat) (l1 : Int32) (l2 : Int32) (l3 : Int32) : Option (Int32) :=
mGd (((Nat.beq (mK h l0).1 0 && (mR h l0 0).isSome) && true) && Nat.beq (mK h ((mR h l0 0).getD 0)).1 1) ((f53 h ((mR h l0 0).getD 0) l1).bind (fun r1 =>
    match r1 with
  | none =>
    f97_34 h
  | some a1 =>
    mGd (true && Nat.beq (mK h a1).1 2) ((f57 h a1 l2).bind (fun r2 =>
      if (r2 : Int32) = 0 then
      f97_34 h
    else 
      mGd (true && true) ((f17 h l3 0 9).bind (fun r3 =>
        if (r3 : Int32) = 0 then
        f97_34 h
      else 
        mGd (true && Nat.beq (mK h a1).1 2) ((f98 h a1).bind (fun r4 =>
          mGd (true && Nat.beq (mK h a1).1 2) ((f99 h a1 ((1 : Int32) <<< (l2 &&& (31 : Int32))) l3 r4).bind (fun r5 =>
          mGd (true && true) (some (r5 : Int32))))))))))))
def f101_43 (h : mH) (l0 : Nat) (l1 : Int32) (l2 : Int32) (l3 : Int32) (l4 : Int32) : Option ((Int32 × Int32) ⊕ (Int32)) :=
some (.inl (l3, (l4 + 1)))
def f101_10 (h : mH) (l0 : Nat) (l1 : Int32) (l2 : Int32) (s : (Int32 × Int32)) : Option ((Int32 × Int32) ⊕ (Int32)) :=
if (l2 : Int32) ≤ s.2 then
    mX (mGd (true && true) (some (s.1 : Int32)))
  else 
    mGd (true && true) ((f66 h s.2).bind (fun r2 =>
      mGd (true && true) ((f66 h s.1).bind (fun r3 =>
      if (r3 : Int32) ≤ r2 then
      f101_43 h l0 l1 l2 s.1 s.2
    else 
      mGd (true && Nat.beq (mK h l0).1 2) ((f99 h l0 s.2 l1 l2).bind (fun r4 =>
        if (r4 : Int32) = l2 then
        f101_43 h l0 l1 l2 s.2 s.2
      else 
        f101_43 h l0 l1 l2 s.1 s.2))))))
def f101 (h : mH) (l0 : Nat) (l1 : Int32) : Option (Int32) :=
mGd (true && Nat.beq (mK h l0).1 2) ((f98 h l0).bind (fun r1 =>
    mLoop (f101_10 h l0 l1 r1) mFuel (r1, 0)))
def f100_25 (h : mH) : Option (Int32) :=
mGd (true && true) (some ((-1) : Int32))
def f100_49 (h : mH) (q0 : Int32) : Option (Int32) :=
mGd (true && true) (some (q0 : Int32))
def f100 (h : mH) (l0 : Nat) (l1 : Int32) (l2 : Int32) (l3 : Int32) : Option (Int32) :=
mGd (((Nat.beq (mK h l0).1 0 && (mR h l0 0).isSome) && true) && Nat.beq (mK h ((mR h l0 0).getD 0)).1 1) ((f53 h ((mR h l0 0).getD 0) l1).bind (fun r1 =>
    match r1 with
  | none =>
    f100_25 h
  | some a1 =>
    mGd (true && true) ((f17 h l2 0 9).bind (fun r2 =>
      if (r2 : Int32) = 0 then
      f100_25 h
    else 
      mGd (true && Nat.beq (mK h a1).1 2) ((f101 h a1 l2).bind (fun r3 =>
        if (l3 : Int32) = 0 then
        mGd (true && true) ((f66 h r3).bind (fun r4 =>
          f100_49 h r4))
      else 
        f100_49 h r3))))))
