/-! The methods as programs; printed by a program of ours. -/
def f199 (h : mH) (l0 : Nat) (l1 : Int64) (l3 : Int32) : Option (Int32 × mH) :=
if ((lg_cmp l1 1919246692) : Int32) = 0 then
    f199_73 h l0 l3 0
  else 
    if ((lg_cmp l1 1936419184) : Int32) = 0 then
      f199_73 h l0 l3 1
    else 
      if ((lg_cmp l1 7367013) : Int32) = 0 then
        f199_73 h l0 l3 2
      else 
        if ((lg_cmp l1 1952803948) : Int32) = 0 then
          f199_73 h l0 l3 3
        else 
          if ((lg_cmp l1 1668246628) : Int32) = 0 then
            f199_73 h l0 l3 4
          else 
            if ((lg_cmp l1 6578553) : Int32) = 0 then
              f199_73 h l0 l3 5
            else 
              f199_73 h l0 l3 (-1)
def f201_21 (h : mH) (l0 : Nat) (l1 : Int64) (l3 : Int32) : Option (Int32 × mH) :=
mGd (true && Nat.beq (mK h l0).1 12) ((f187 h l0 0 8 l3).bind (fun r1 =>
    mGd (true && Nat.beq (mK r1.2 l0).1 12) ((f183 r1.2 l0).bind (fun r2 =>
    mGd (true && Nat.beq (mK r2.2 l0).1 12) ((f190 r2.2 l0 1 0 5).bind (fun r3 =>
    if (r3.1 : Int32) = 0 then
    mGd (true && mIs01 0) (some (0, r3.2))
  else 
    mGd ((Nat.beq (mK r3.2 l0).1 12 && (mR r3.2 l0 19).isSome) && true) (
      if ((lg_cmp l1 461414299507) : Int32) = 0 then
      mGd ((Nat.beq (mK r3.2 ((mR r3.2 l0 19).getD 0)).1 100 && mIn 0 (mK r3.2 ((mR r3.2 l0 19).getD 0)).2) && true) (
        mGd (true && Nat.beq (mK r3.2 l0).1 12) ((f200 (mSI r3.2 ((mR r3.2 l0 19).getD 0) (Int32.toNatClampNeg 0) 0) l0 2 8).bind (fun r4 =>
        mGd (true && mIs01 1) (some (1, r4.2)))))
    else 
      mGd ((Nat.beq (mK r3.2 ((mR r3.2 l0 19).getD 0)).1 100 && mIn 0 (mK r3.2 ((mR r3.2 l0 19).getD 0)).2) && true) (
        mGd (true && Nat.beq (mK r3.2 l0).1 12) ((f200 (mSI r3.2 ((mR r3.2 l0 19).getD 0) (Int32.toNatClampNeg 0) 1) l0 2 8).bind (fun r5 =>
        mGd (true && mIs01 1) (some (1, r5.2))))))))))))
def f201 (h : mH) (l0 : Nat) (l1 : Int64) (l3 : Int32) : Option (Int32 × mH) :=
if ((lg_cmp l1 461414299507) : Int32) = 0 then
    f201_21 h l0 l1 l3
  else 
    if ((lg_cmp l1 7237492) : Int32) = 0 then
      f201_21 h l0 l1 l3
    else 
      mGd (true && Nat.beq (mK h l0).1 12) ((f192 h l0).bind (fun r6 =>
        mGd (true && mIs01 r6.1) (some (r6.1, r6.2))))
def f185_106 (h : mH) (l2 : Int32) : Option (Int32 × mH) :=
mGd (true && mIs01 l2) (some (l2, h))
def f185_103 (h : mH) (l0 : Nat) (l1 : Int32) (l2 : Int32) : Option ((Int32 × mH) ⊕ (Int32 × mH)) :=
some (.inl (l2, h))
def f185_95 (h : mH) (l0 : Nat) (l1 : Int32) (l2 : Int32) : Option ((Int32 × mH) ⊕ (Int32 × mH)) :=
if (l2 : Int32) = 0 then
    f185_103 h l0 l1 l2
  else 
    mGd (true && Nat.beq (mK h l0).1 12) ((f183 h l0).bind (fun r2 =>
      f185_103 r2.2 l0 l1 l2))
def f185_77 (h : mH) (l0 : Nat) (l1 : Int32) (q0 : Int32) : Option ((Int32 × mH) ⊕ (Int32 × mH)) :=
if (q0 : Int32) = 0 then
    f185_95 h l0 l1 q0
  else 
    mGd (Nat.beq (mK h l0).1 12 && true) (
      if ((mI h l0 12) : Int32) = 4 then
      f185_95 h l0 l1 q0
    else 
      mGd (true && Nat.beq (mK h l0).1 12) ((f192 h l0).bind (fun r3 =>
        f185_95 r3.2 l0 l1 r3.1)))
def f185_34 (h : mH) (l0 : Nat) (l1 : Int32) (l3 : Int32) (q0 : Int64) : Option ((Int32 × mH) ⊕ (Int32 × mH)) :=
mGd ((Nat.beq (mK h l0).1 12 && mIs01 1) && true) (
    if (l1 : Int32) = 0 then
    mGd (true && Nat.beq (mK h l0).1 12) ((f186 (mSI h l0 22 1) l0 q0 l3).bind (fun r1 =>
      f185_77 r1.2 l0 l1 r1.1))
  else 
    if (l1 : Int32) = 1 then
      mGd (true && Nat.beq (mK h l0).1 12) ((f199 (mSI h l0 22 1) l0 q0 l3).bind (fun r4 =>
        f185_77 r4.2 l0 l1 r4.1))
    else 
      mGd (true && Nat.beq (mK h l0).1 12) ((f201 (mSI h l0 22 1) l0 q0 l3).bind (fun r5 =>
        f185_77 r5.2 l0 l1 r5.1)))
def f185_2 (l0 : Nat) (l1 : Int32) (s : (Int32 × mH)) : Option ((Int32 × mH) ⊕ (Int32 × mH)) :=
if (s.1 : Int32) = 0 then
    mX (f185_106 s.2 s.1)
  else 
    mGd (Nat.beq (mK s.2 l0).1 12 && true) (
      if ((mI s.2 l0 12) : Int32) = 0 then
      mX (f185_106 s.2 s.1)
    else 
      mGd (Nat.beq (mK s.2 l0).1 12 && (Nat.beq (mK s.2 l0).1 12 && true)) (
        if ((mI s.2 l0 12) : Int32) = 2 then
        mGd (Nat.beq (mK s.2 l0).1 12 && true) (
          f185_34 s.2 l0 l1 (mI s.2 l0 11) (mL s.2 l0 14))
      else 
        f185_34 s.2 l0 l1 (mI s.2 l0 11) 0))
def f185 (h : mH) (l0 : Nat) (l1 : Int32) : Option (Int32 × mH) :=
mLoop (f185_2 l0 l1) mFuel (1, h)
def f182_200 (h : mH) (q0 : Int32) : Option (Int32 × mH) :=
mGd (true && mIs01 q0) (some (q0, h))
def f182_186 (h : mH) (l0 : Nat) : Option (Int32 × mH) :=
mGd ((Nat.beq (mK h l0).1 12 && (mR h l0 3).isSome) && ((Nat.beq (mK h ((mR h l0 3).getD 0)).1 100 && mIn 0 (mK h ((mR h l0 3).getD 0)).2) && true)) (
    if ((mI h ((mR h l0 3).getD 0) (Int32.toNatClampNeg 0)) : Int32) = 0 then
    f182_200 h 1
  else 
    f182_200 h 0)
def f182_136 (h : mH) (l0 : Nat) (l2 : Int32) : Option (Int32 × mH) :=
mGd ((Nat.beq (mK h l0).1 12 && (mR h l0 3).isSome) && true) (
    if (l2 : Int32) = 0 then
    mGd ((Nat.beq (mK h ((mR h l0 3).getD 0)).1 100 && mIn 0 (mK h ((mR h l0 3).getD 0)).2) && true) (
      mGd ((Nat.beq (mK h l0).1 12 && (mR h l0 4).isSome) && true) (
      if (l2 : Int32) = 0 then
      mGd (Nat.beq (mK h l0).1 12 && true) (
        mGd ((Nat.beq (mK h ((mR h l0 4).getD 0)).1 100 && mIn 0 (mK h ((mR h l0 4).getD 0)).2) && true) (
        f182_186 (mSI (mSI h ((mR h l0 3).getD 0) (Int32.toNatClampNeg 0) 1) ((mR h l0 4).getD 0) (Int32.toNatClampNeg 0) (mI (mSI h ((mR h l0 3).getD 0) (Int32.toNatClampNeg 0) 1) l0 15)) l0))
    else 
      mGd (Nat.beq (mK h l0).1 12 && true) (
        if ((mI (mSI h ((mR h l0 3).getD 0) (Int32.toNatClampNeg 0) 1) l0 16) : Int32) ≤ 0 then
        mGd ((Nat.beq (mK h ((mR h l0 4).getD 0)).1 100 && mIn 0 (mK h ((mR h l0 4).getD 0)).2) && true) (
          mGd ((Nat.beq (mK h l0).1 12 && (mR h l0 3).isSome) && ((Nat.beq (mK h ((mR h l0 3).getD 0)).1 100 && mIn 0 (mK h ((mR h l0 3).getD 0)).2) && true)) (
          if ((mI (mSI (mSI h ((mR h l0 3).getD 0) (Int32.toNatClampNeg 0) 1) ((mR h l0 4).getD 0) (Int32.toNatClampNeg 0) (-1)) ((mR h l0 3).getD 0) (Int32.toNatClampNeg 0)) : Int32) = 0 then
          f182_200 (mSI (mSI h ((mR h l0 3).getD 0) (Int32.toNatClampNeg 0) 1) ((mR h l0 4).getD 0) (Int32.toNatClampNeg 0) (-1)) 1
        else 
          f182_200 (mSI (mSI h ((mR h l0 3).getD 0) (Int32.toNatClampNeg 0) 1) ((mR h l0 4).getD 0) (Int32.toNatClampNeg 0) (-1)) 0))
      else 
        mGd (Nat.beq (mK h l0).1 12 && true) (
          mGd ((Nat.beq (mK h ((mR h l0 4).getD 0)).1 100 && mIn 0 (mK h ((mR h l0 4).getD 0)).2) && true) (
          f182_186 (mSI (mSI h ((mR h l0 3).getD 0) (Int32.toNatClampNeg 0) 1) ((mR h l0 4).getD 0) (Int32.toNatClampNeg 0) (mI (mSI h ((mR h l0 3).getD 0) (Int32.toNatClampNeg 0) 1) l0 17)) l0)))))
  else 
    mGd (Nat.beq (mK h l0).1 12 && true) (
      mGd ((Nat.beq (mK h ((mR h l0 3).getD 0)).1 100 && mIn 0 (mK h ((mR h l0 3).getD 0)).2) && true) (
      mGd ((Nat.beq (mK h l0).1 12 && (mR h l0 4).isSome) && true) (
      if (l2 : Int32) = 0 then
      mGd (Nat.beq (mK h l0).1 12 && true) (
        mGd ((Nat.beq (mK h ((mR h l0 4).getD 0)).1 100 && mIn 0 (mK h ((mR h l0 4).getD 0)).2) && true) (
        f182_186 (mSI (mSI h ((mR h l0 3).getD 0) (Int32.toNatClampNeg 0) (mI h l0 16)) ((mR h l0 4).getD 0) (Int32.toNatClampNeg 0) (mI (mSI h ((mR h l0 3).getD 0) (Int32.toNatClampNeg 0) (mI h l0 16)) l0 15)) l0))
    else 
      mGd (Nat.beq (mK h l0).1 12 && true) (
        if ((mI (mSI h ((mR h l0 3).getD 0) (Int32.toNatClampNeg 0) (mI h l0 16)) l0 16) : Int32) ≤ 0 then
        mGd ((Nat.beq (mK h ((mR h l0 4).getD 0)).1 100 && mIn 0 (mK h ((mR h l0 4).getD 0)).2) && true) (
          mGd ((Nat.beq (mK h l0).1 12 && (mR h l0 3).isSome) && ((Nat.beq (mK h ((mR h l0 3).getD 0)).1 100 && mIn 0 (mK h ((mR h l0 3).getD 0)).2) && true)) (
          if ((mI (mSI (mSI h ((mR h l0 3).getD 0) (Int32.toNatClampNeg 0) (mI h l0 16)) ((mR h l0 4).getD 0) (Int32.toNatClampNeg 0) (-1)) ((mR h l0 3).getD 0) (Int32.toNatClampNeg 0)) : Int32) = 0 then
          f182_200 (mSI (mSI h ((mR h l0 3).getD 0) (Int32.toNatClampNeg 0) (mI h l0 16)) ((mR h l0 4).getD 0) (Int32.toNatClampNeg 0) (-1)) 1
        else 
          f182_200 (mSI (mSI h ((mR h l0 3).getD 0) (Int32.toNatClampNeg 0) (mI h l0 16)) ((mR h l0 4).getD 0) (Int32.toNatClampNeg 0) (-1)) 0))
      else 
        mGd (Nat.beq (mK h l0).1 12 && true) (
          mGd ((Nat.beq (mK h ((mR h l0 4).getD 0)).1 100 && mIn 0 (mK h ((mR h l0 4).getD 0)).2) && true) (
          f182_186 (mSI (mSI h ((mR h l0 3).getD 0) (Int32.toNatClampNeg 0) (mI h l0 16)) ((mR h l0 4).getD 0) (Int32.toNatClampNeg 0) (mI (mSI h ((mR h l0 3).getD 0) (Int32.toNatClampNeg 0) (mI h l0 16)) l0 17)) l0)))))))
def f182_127 (h : mH) (l0 : Nat) (l2 : Int32) : Option (Int32 × mH) :=
mGd ((Nat.beq (mK h l0).1 12 && true) && Nat.beq (mK h l0).1 12) ((f188 h l0 4 (mI h l0 11)).bind (fun r3 =>
    f182_136 r3.2 l0 l2))
def f182_2 (l0 : Nat) (l1 : Int32) (s : (Int32 × mH)) : Option ((Int32 × mH) ⊕ (Int32 × mH)) :=
if (121 : Int32) ≤ s.1 then
    mX (
mGd ((Nat.beq (mK s.2 l0).1 12 && (mR s.2 l0 18).isSome) && true) (
      if (l1 : Int32) = 0 then
      mGd ((Nat.beq (mK s.2 ((mR s.2 l0 18).getD 0)).1 100 && mIn 2 (mK s.2 ((mR s.2 l0 18).getD 0)).2) && true) (
        mGd (Nat.beq (mK s.2 l0).1 12 && true) (
        mGd (Nat.beq (mK s.2 l0).1 12 && true) (
        mGd (Nat.beq (mK s.2 l0).1 12 && true) (
        mGd (Nat.beq (mK s.2 l0).1 12 && true) (
        mGd (true && Nat.beq (mK s.2 l0).1 12) ((f183 (mSI (mSI (mSI (mSI (mSI s.2 ((mR s.2 l0 18).getD 0) (Int32.toNatClampNeg 2) 6) l0 20 (-1)) l0 21 (-1)) l0 9 0) l0 16 0) l0).bind (fun r1 =>
        mGd (true && Nat.beq (mK r1.2 l0).1 12) ((f185 r1.2 l0 l1).bind (fun r2 =>
        if (r2.1 : Int32) = 0 then
        f182_136 r2.2 l0 r2.1
      else 
        if (l1 : Int32) = 0 then
          mGd (Nat.beq (mK r2.2 l0).1 12 && true) (
            if ((mI r2.2 l0 16) : Int32) = 0 then
            mGd (Nat.beq (mK r2.2 l0).1 12 && ((Nat.beq (mK r2.2 l0).1 12 && (mR r2.2 l0 18).isSome) && ((Nat.beq (mK r2.2 ((mR r2.2 l0 18).getD 0)).1 100 && mIn 0 (mK r2.2 ((mR r2.2 l0 18).getD 0)).2) && true))) (
              if ((mI r2.2 ((mR r2.2 l0 18).getD 0) (Int32.toNatClampNeg 0)) : Int32) ≤ (mI r2.2 l0 20) then
              f182_127 r2.2 l0 r2.1
            else 
              mGd (Nat.beq (mK r2.2 l0).1 12 && ((Nat.beq (mK r2.2 l0).1 12 && (mR r2.2 l0 18).isSome) && ((Nat.beq (mK r2.2 ((mR r2.2 l0 18).getD 0)).1 100 && mIn 1 (mK r2.2 ((mR r2.2 l0 18).getD 0)).2) && true))) (
                if ((mI r2.2 l0 21) : Int32) < (mI r2.2 ((mR r2.2 l0 18).getD 0) (Int32.toNatClampNeg 1)) then
                f182_136 r2.2 l0 r2.1
              else 
                f182_127 r2.2 l0 r2.1))
          else 
            f182_136 r2.2 l0 r2.1)
        else 
          f182_136 r2.2 l0 r2.1)))))))))
    else 
      mGd ((Nat.beq (mK s.2 ((mR s.2 l0 18).getD 0)).1 100 && mIn 2 (mK s.2 ((mR s.2 l0 18).getD 0)).2) && true) (
        mGd (Nat.beq (mK s.2 l0).1 12 && true) (
        mGd (Nat.beq (mK s.2 l0).1 12 && true) (
        mGd (Nat.beq (mK s.2 l0).1 12 && true) (
        mGd (Nat.beq (mK s.2 l0).1 12 && true) (
        mGd (true && Nat.beq (mK s.2 l0).1 12) ((f183 (mSI (mSI (mSI (mSI (mSI s.2 ((mR s.2 l0 18).getD 0) (Int32.toNatClampNeg 2) 0) l0 20 (-1)) l0 21 (-1)) l0 9 0) l0 16 0) l0).bind (fun r4 =>
        mGd (true && Nat.beq (mK r4.2 l0).1 12) ((f185 r4.2 l0 l1).bind (fun r5 =>
        if (r5.1 : Int32) = 0 then
        f182_136 r5.2 l0 r5.1
      else 
        if (l1 : Int32) = 0 then
          mGd (Nat.beq (mK r5.2 l0).1 12 && true) (
            if ((mI r5.2 l0 16) : Int32) = 0 then
            mGd (Nat.beq (mK r5.2 l0).1 12 && ((Nat.beq (mK r5.2 l0).1 12 && (mR r5.2 l0 18).isSome) && ((Nat.beq (mK r5.2 ((mR r5.2 l0 18).getD 0)).1 100 && mIn 0 (mK r5.2 ((mR r5.2 l0 18).getD 0)).2) && true))) (
              if ((mI r5.2 ((mR r5.2 l0 18).getD 0) (Int32.toNatClampNeg 0)) : Int32) ≤ (mI r5.2 l0 20) then
              f182_127 r5.2 l0 r5.1
            else 
              mGd (Nat.beq (mK r5.2 l0).1 12 && ((Nat.beq (mK r5.2 l0).1 12 && (mR r5.2 l0 18).isSome) && ((Nat.beq (mK r5.2 ((mR r5.2 l0 18).getD 0)).1 100 && mIn 1 (mK r5.2 ((mR r5.2 l0 18).getD 0)).2) && true))) (
                if ((mI r5.2 l0 21) : Int32) < (mI r5.2 ((mR r5.2 l0 18).getD 0) (Int32.toNatClampNeg 1)) then
                f182_136 r5.2 l0 r5.1
              else 
                f182_127 r5.2 l0 r5.1))
          else 
            f182_136 r5.2 l0 r5.1)
        else 
          f182_136 r5.2 l0 r5.1)))))))))))
  else 
    mGd ((Nat.beq (mK s.2 l0).1 12 && (mR s.2 l0 18).isSome) && true) (
      if (l1 : Int32) = 0 then
      mGd (true && true) ((f179 s.2 s.1 27 32).bind (fun r6 =>
        if (r6 : Int32) = 0 then
        mGd ((Nat.beq (mK s.2 ((mR s.2 l0 18).getD 0)).1 100 && mIn s.1 (mK s.2 ((mR s.2 l0 18).getD 0)).2) && true) (
          some (.inl ((s.1 + 1), (mSI s.2 ((mR s.2 l0 18).getD 0) (Int32.toNatClampNeg s.1) 0))))
      else 
        mGd ((Nat.beq (mK s.2 ((mR s.2 l0 18).getD 0)).1 100 && mIn s.1 (mK s.2 ((mR s.2 l0 18).getD 0)).2) && true) (
          some (.inl ((s.1 + 1), (mSI s.2 ((mR s.2 l0 18).getD 0) (Int32.toNatClampNeg s.1) 5))))))
    else 
      mGd ((Nat.beq (mK s.2 ((mR s.2 l0 18).getD 0)).1 100 && mIn s.1 (mK s.2 ((mR s.2 l0 18).getD 0)).2) && true) (
        some (.inl ((s.1 + 1), (mSI s.2 ((mR s.2 l0 18).getD 0) (Int32.toNatClampNeg s.1) 0)))))
def f182 (h : mH) (l0 : Nat) (l1 : Int32) : Option (Int32 × mH) :=
mLoop (f182_2 l0 l1) mFuel (0, h)
def f202_3 (l0 : Nat) (l1 : Nat) (l2 : Int32) (l3 : Int32) (s : (Int32 × mH)) : Option ((Int32 × mH) ⊕ (Unit × mH)) :=
if (l2 : Int32) ≤ s.1 then
    mX (mGd (true && true) (some ((), s.2)))
  else 
    mGd ((Nat.beq (mK s.2 l0).1 12 && (mR s.2 l0 18).isSome) && ((Nat.beq (mK s.2 ((mR s.2 l0 18).getD 0)).1 100 && mIn s.1 (mK s.2 ((mR s.2 l0 18).getD 0)).2) && ((Nat.beq (mK s.2 l1).1 100 && mIn ((l2 * l3) + s.1) (mK s.2 l1).2) && true))) (
      some (.inl ((s.1 + 1), (mSI s.2 l1 (Int32.toNatClampNeg ((l2 * l3) + s.1)) (mI s.2 ((mR s.2 l0 18).getD 0) (Int32.toNatClampNeg s.1))))))
def f202 (h : mH) (l0 : Nat) (l1 : Nat) (l2 : Int32) (l3 : Int32) : Option (Unit × mH) :=
mLoop (f202_3 l0 l1 l2 l3) mFuel (0, h)
def f180_72 (h : mH) : Option (Int32 × mH) :=
mGd (true && true) (some ((-2), h))
def f180_168 (h : mH) (l3 : Int32) : Option (Int32 × mH) :=
mGd (true && true) (some (l3, h))
def f180_100 (h : mH) (l0 : Nat) (l1 : Int32) (l2 : Int32) (q0 : Int32) : Option (Int32 × mH) :=
mGd ((Nat.beq (mK h l0).1 12 && (mR h l0 5).isSome) && ((Nat.beq (mK h ((mR h l0 5).getD 0)).1 100 && mIn l1 (mK h ((mR h l0 5).getD 0)).2) && true)) (
    if (l2 : Int32) = (-1) then
    mGd ((Nat.beq (mK h ((mR h l0 5).getD 0)).1 100 && mIn l1 (mK h ((mR h l0 5).getD 0)).2) && true) (
      if (l1 : Int32) = 0 then
      mGd (((Nat.beq (mK h l0).1 12 && (mR h l0 6).isSome) && true) && Nat.beq (mK h l0).1 12) ((f202 (mSI h ((mR h l0 5).getD 0) (Int32.toNatClampNeg l1) ((mI h ((mR h l0 5).getD 0) (Int32.toNatClampNeg l1)) + 1)) l0 ((mR h l0 6).getD 0) 45 q0).bind (fun r3 =>
        f180_168 r3.2 q0))
    else 
      if (l1 : Int32) = 1 then
        mGd (((Nat.beq (mK h l0).1 12 && (mR h l0 7).isSome) && true) && Nat.beq (mK h l0).1 12) ((f202 (mSI h ((mR h l0 5).getD 0) (Int32.toNatClampNeg l1) ((mI h ((mR h l0 5).getD 0) (Int32.toNatClampNeg l1)) + 1)) l0 ((mR h l0 7).getD 0) 121 q0).bind (fun r4 =>
          f180_168 r4.2 q0))
      else 
        mGd (((Nat.beq (mK h l0).1 12 && (mR h l0 8).isSome) && true) && Nat.beq (mK h l0).1 12) ((f202 (mSI h ((mR h l0 5).getD 0) (Int32.toNatClampNeg l1) ((mI h ((mR h l0 5).getD 0) (Int32.toNatClampNeg l1)) + 1)) l0 ((mR h l0 8).getD 0) 17 q0).bind (fun r5 =>
          f180_168 r5.2 q0)))
  else 
    mGd ((Nat.beq (mK h ((mR h l0 5).getD 0)).1 100 && mIn l1 (mK h ((mR h l0 5).getD 0)).2) && true) (
      if (l1 : Int32) = 0 then
      mGd (((Nat.beq (mK h l0).1 12 && (mR h l0 6).isSome) && true) && Nat.beq (mK h l0).1 12) ((f202 (mSI h ((mR h l0 5).getD 0) (Int32.toNatClampNeg l1) ((mI h ((mR h l0 5).getD 0) (Int32.toNatClampNeg l1)) + 0)) l0 ((mR h l0 6).getD 0) 45 q0).bind (fun r6 =>
        f180_168 r6.2 q0))
    else 
      if (l1 : Int32) = 1 then
        mGd (((Nat.beq (mK h l0).1 12 && (mR h l0 7).isSome) && true) && Nat.beq (mK h l0).1 12) ((f202 (mSI h ((mR h l0 5).getD 0) (Int32.toNatClampNeg l1) ((mI h ((mR h l0 5).getD 0) (Int32.toNatClampNeg l1)) + 0)) l0 ((mR h l0 7).getD 0) 121 q0).bind (fun r7 =>
          f180_168 r7.2 q0))
      else 
        mGd (((Nat.beq (mK h l0).1 12 && (mR h l0 8).isSome) && true) && Nat.beq (mK h l0).1 12) ((f202 (mSI h ((mR h l0 5).getD 0) (Int32.toNatClampNeg l1) ((mI h ((mR h l0 5).getD 0) (Int32.toNatClampNeg l1)) + 0)) l0 ((mR h l0 8).getD 0) 17 q0).bind (fun r8 =>
          f180_168 r8.2 q0))))
def f180_75 (h : mH) (l0 : Nat) (l1 : Int32) (l2 : Int32) : Option (Int32 × mH) :=
mGd (true && Nat.beq (mK h l0).1 12) ((f182 h l0 l1).bind (fun r2 =>
    if (r2.1 : Int32) = 0 then
    mGd (true && true) (some ((-1), r2.2))
  else 
    if (l2 : Int32) = (-1) then
      mGd ((Nat.beq (mK r2.2 l0).1 12 && (mR r2.2 l0 5).isSome) && ((Nat.beq (mK r2.2 ((mR r2.2 l0 5).getD 0)).1 100 && mIn l1 (mK r2.2 ((mR r2.2 l0 5).getD 0)).2) && true)) (
        f180_100 r2.2 l0 l1 l2 (mI r2.2 ((mR r2.2 l0 5).getD 0) (Int32.toNatClampNeg l1)))
    else 
      f180_100 r2.2 l0 l1 l2 l2))
def f180_29 (h : mH) (l0 : Nat) (l1 : Int32) (l2 : Int32) : Option (Int32 × mH) :=
mGd ((Nat.beq (mK h l0).1 12 && (mR h l0 4).isSome) && ((Nat.beq (mK h ((mR h l0 4).getD 0)).1 100 && mIn 0 (mK h ((mR h l0 4).getD 0)).2) && true)) (
    mGd (true && true) ((f179 (mSI h ((mR h l0 4).getD 0) (Int32.toNatClampNeg 0) (-1)) l1 0 2).bind (fun r1 =>
    if (r1 : Int32) = 0 then
    f180_72 (mSI h ((mR h l0 4).getD 0) (Int32.toNatClampNeg 0) (-1))
  else 
    if (l2 : Int32) = (-1) then
      mGd ((Nat.beq (mK h l0).1 12 && (mR h l0 5).isSome) && ((Nat.beq (mK h ((mR h l0 5).getD 0)).1 100 && mIn l1 (mK h ((mR h l0 5).getD 0)).2) && true)) (
        if ((mI (mSI h ((mR h l0 4).getD 0) (Int32.toNatClampNeg 0) (-1)) ((mR h l0 5).getD 0) (Int32.toNatClampNeg l1)) : Int32) = 2 then
        f180_72 (mSI h ((mR h l0 4).getD 0) (Int32.toNatClampNeg 0) (-1))
      else 
        f180_75 (mSI h ((mR h l0 4).getD 0) (Int32.toNatClampNeg 0) (-1)) l0 l1 l2)
    else 
      mGd (true && Nat.beq (mK h l0).1 12) ((f181 (mSI h ((mR h l0 4).getD 0) (Int32.toNatClampNeg 0) (-1)) l0 l1 l2).bind (fun r9 =>
        if (r9 : Int32) = 0 then
        f180_72 (mSI h ((mR h l0 4).getD 0) (Int32.toNatClampNeg 0) (-1))
      else 
        f180_75 (mSI h ((mR h l0 4).getD 0) (Int32.toNatClampNeg 0) (-1)) l0 l1 l2)))))
def f180 (h : mH) (l0 : Nat) (l1 : Int32) (l2 : Int32) : Option (Int32 × mH) :=
mGd (Nat.beq (mK h l0).1 12 && true) (
    mGd ((Nat.beq (mK h l0).1 12 && (mR h l0 2).isSome) && ((Nat.beq (mK h ((mR h l0 2).getD 0)).1 100 && mIn 0 (mK h ((mR h l0 2).getD 0)).2) && (Nat.beq (mK h l0).1 12 && true))) (
    mGd ((Nat.beq (mK h l0).1 12 && (mR h l0 2).isSome) && ((Nat.beq (mK h ((mR h l0 2).getD 0)).1 100 && mIn 0 (mK h ((mR h l0 2).getD 0)).2) && true)) (
    mGd ((Nat.beq (mK h l0).1 12 && (mR h l0 3).isSome) && ((Nat.beq (mK h ((mR h l0 3).getD 0)).1 100 && mIn 0 (mK h ((mR h l0 3).getD 0)).2) && true)) (
    f180_29 (mSI (mSI (mSI (mSI h l0 0 0) l0 10 (mI (mSI h l0 0 0) ((mR h l0 2).getD 0) (Int32.toNatClampNeg 0))) ((mR h l0 2).getD 0) (Int32.toNatClampNeg 0) 0) ((mR h l0 3).getD 0) (Int32.toNatClampNeg 0) 0) l0 l1 l2))))
def f203_33 (h : mH) (q0 : Int32) : Option (Int32 × mH) :=
mGd (true && true) (some (q0, h))
def f203 (h : mH) (l0 : Nat) (l1 : Int32) : Option (Int32 × mH) :=
mGd (Nat.beq (mK h l0).1 12 && true) (
    if (l1 : Int32) = 0 then
    mGd ((Nat.beq (mK h l0).1 12 && (mR h l0 3).isSome) && ((Nat.beq (mK h ((mR h l0 3).getD 0)).1 100 && mIn 0 (mK h ((mR h l0 3).getD 0)).2) && true)) (
      f203_33 (mSI h l0 0 0) (mI (mSI h l0 0 0) ((mR h l0 3).getD 0) (Int32.toNatClampNeg 0)))
  else 
    if (l1 : Int32) = 1 then
      mGd ((Nat.beq (mK h l0).1 12 && (mR h l0 4).isSome) && ((Nat.beq (mK h ((mR h l0 4).getD 0)).1 100 && mIn 0 (mK h ((mR h l0 4).getD 0)).2) && true)) (
        f203_33 (mSI h l0 0 0) (mI (mSI h l0 0 0) ((mR h l0 4).getD 0) (Int32.toNatClampNeg 0)))
    else 
      f203_33 (mSI h l0 0 0) (-1))
def f206 (h : mH) (l0 : Nat) (l1 : Int32) : Option (Int32) :=
mGd (((Nat.beq (mK h l0).1 12 && (mR h l0 6).isSome) && (Nat.beq (mK h l0).1 12 && ((Nat.beq (mK h ((mR h l0 6).getD 0)).1 100 && mIn ((45 * (mI h l0 23)) + l1) (mK h ((mR h l0 6).getD 0)).2) && true))) && true) (some ((mI h ((mR h l0 6).getD 0) (Int32.toNatClampNeg ((45 * (mI h l0 23)) + l1))) : Int32))
def f207_64 (l0 : Nat) (s : (Int32 × mH)) : Option ((Int32 × mH) ⊕ (Unit × mH)) :=
if (48 : Int32) ≤ s.1 then
    mX (mGd (true && true) (some ((), s.2)))
  else 
    mGd ((Nat.beq (mK s.2 l0).1 12 && (mR s.2 l0 33).isSome) && ((Nat.beq (mK s.2 ((mR s.2 l0 33).getD 0)).1 100 && mIn s.1 (mK s.2 ((mR s.2 l0 33).getD 0)).2) && true)) (
      some (.inl ((s.1 + 1), (mSI s.2 ((mR s.2 l0 33).getD 0) (Int32.toNatClampNeg s.1) (-1)))))
def f207_36 (l0 : Nat) (s : (Int32 × mH)) : Option ((Int32 × mH) ⊕ (Unit × mH)) :=
if (6 : Int32) ≤ s.1 then
    mX (mLoop (f207_64 l0) mFuel (0, s.2))
  else 
    mGd (((Nat.beq (mK s.2 l0).1 12 && (mR s.2 l0 32).isSome) && true) && Nat.beq (mK s.2 l0).1 12) ((f206 s.2 l0 (27 + s.1)).bind (fun r2 =>
      mGd ((Nat.beq (mK s.2 ((mR s.2 l0 32).getD 0)).1 100 && mIn s.1 (mK s.2 ((mR s.2 l0 32).getD 0)).2) && true) (
      some (.inl ((s.1 + 1), (mSI s.2 ((mR s.2 l0 32).getD 0) (Int32.toNatClampNeg s.1) r2))))))
def f207 (h : mH) (l0 : Nat) : Option (Unit × mH) :=
mGd (Nat.beq (mK h l0).1 12 && true) (
    mGd (Nat.beq (mK h l0).1 12 && true) (
    mGd (true && Nat.beq (mK h l0).1 12) ((f206 (mSI (mSI h l0 26 0) l0 27 0) l0 2).bind (fun r1 =>
    mGd (Nat.beq (mK h l0).1 12 && true) (
    mGd (Nat.beq (mK h l0).1 12 && true) (
    mGd (Nat.beq (mK h l0).1 12 && true) (
    mGd (Nat.beq (mK h l0).1 12 && true) (
    mLoop (f207_36 l0) mFuel (0, (mSI (mSI (mSI (mSI (mSI (mSI h l0 26 0) l0 27 0) l0 28 r1) l0 29 0) l0 30 0) l0 31 0))))))))))
def f205 (h : mH) (l0 : Nat) (l1 : Int32) : Option (Int32 × mH) :=
mGd (true && Nat.beq (mK h l0).1 12) ((f181 h l0 0 l1).bind (fun r1 =>
    if (r1 : Int32) = 0 then
    mGd (true && mIs01 0) (some (0, h))
  else 
    mGd (Nat.beq (mK h l0).1 12 && true) (
      mGd (true && Nat.beq (mK h l0).1 12) ((f206 (mSI h l0 23 l1) l0 0).bind (fun r2 =>
      mGd (Nat.beq (mK h l0).1 12 && true) (
      mGd (true && Nat.beq (mK h l0).1 12) ((f206 (mSI (mSI h l0 23 l1) l0 24 r2) l0 1).bind (fun r3 =>
      mGd (Nat.beq (mK h l0).1 12 && true) (
      mGd (true && Nat.beq (mK h l0).1 12) ((f207 (mSI (mSI (mSI h l0 23 l1) l0 24 r2) l0 25 r3) l0).bind (fun r4 =>
      mGd (true && mIs01 1) (some (1, r4.2)))))))))))))
def f204_86 (h : mH) (q0 : Int32) : Option (Int32 × mH) :=
mGd (true && true) (some (q0, h))
def f204_116 (h : mH) (q0 : Int32) : Option (Int32 × mH) :=
mGd (true && true) (some (q0, h))
def f204_87 (h : mH) (l0 : Nat) (l2 : Int32) (l3 : Int32) : Option (Int32 × mH) :=
mGd (Nat.beq (mK h l0).1 12 && true) (
    if ((mI h l0 24) : Int32) ≤ l3 then
    f204_116 h (-1)
  else 
    mGd ((!(10 == (0 : Int32)) && true) && Nat.beq (mK h l0).1 12) ((f206 h l0 ((3 + (8 * ((l2 / 10) - 1))) + l3)).bind (fun r4 =>
      f204_116 h r4)))
def f204_135 (h : mH) (q0 : Int32) : Option (Int32 × mH) :=
mGd (true && true) (some (q0, h))
def f204_167 (h : mH) (q0 : Int32) : Option (Int32 × mH) :=
mGd (true && true) (some (q0, h))
def f204_136 (h : mH) (l0 : Nat) (l2 : Int32) (l3 : Int32) : Option (Int32 × mH) :=
mGd (Nat.beq (mK h l0).1 12 && true) (
    if ((mI h l0 25) : Int32) ≤ l3 then
    f204_167 h (-1)
  else 
    if (60 : Int32) ≤ l2 then
      mGd (true && Nat.beq (mK h l0).1 12) ((f206 h l0 (39 + l3)).bind (fun r6 =>
        f204_167 h r6))
    else 
      mGd (true && Nat.beq (mK h l0).1 12) ((f206 h l0 (33 + l3)).bind (fun r7 =>
        f204_167 h r7)))
def f204 (h : mH) (l0 : Nat) (l1 : Int32) (l2 : Int32) : Option (Int32 × mH) :=
mGd (Nat.beq (mK h l0).1 12 && true) (
    mGd (true && Nat.beq (mK h l0).1 12) ((f205 (mSI h l0 0 0) l0 l1).bind (fun r1 =>
    if (r1.1 : Int32) = 0 then
    mGd (true && true) (some ((-1), r1.2))
  else 
    mGd (!(10 == (0 : Int32)) && (!(10 == (0 : Int32)) && true)) (
      if ((l2 / 10) : Int32) = 0 then
      mGd (true && true) ((f179 r1.2 l2 0 2).bind (fun r2 =>
        if (r2 : Int32) = 0 then
        f204_86 r1.2 (-1)
      else 
        mGd (true && Nat.beq (mK r1.2 l0).1 12) ((f206 r1.2 l0 l2).bind (fun r3 =>
          f204_86 r1.2 r3))))
    else if ((l2 / 10) : Int32) = 1 then
      f204_87 r1.2 l0 l2 (l2 - l2 / 10 * 10)
    else if ((l2 / 10) : Int32) = 2 then
      f204_87 r1.2 l0 l2 (l2 - l2 / 10 * 10)
    else if ((l2 / 10) : Int32) = 3 then
      f204_87 r1.2 l0 l2 (l2 - l2 / 10 * 10)
    else if ((l2 / 10) : Int32) = 4 then
      if (6 : Int32) ≤ (l2 - l2 / 10 * 10) then
        f204_135 r1.2 (-1)
      else 
        mGd (true && Nat.beq (mK r1.2 l0).1 12) ((f206 r1.2 l0 (27 + (l2 - l2 / 10 * 10))).bind (fun r5 =>
          f204_135 r1.2 r5))
    else if ((l2 / 10) : Int32) = 5 then
      f204_136 r1.2 l0 l2 (l2 - l2 / 10 * 10)
    else if ((l2 / 10) : Int32) = 6 then
      f204_136 r1.2 l0 l2 (l2 - l2 / 10 * 10)
    else 
      mGd (true && true) (some ((-1), r1.2))))))
def f209 (h : mH) (l0 : Nat) (l1 : Int32) : Option (Int32 × mH) :=
mGd (Nat.beq (mK h l0).1 12 && true) (
    mGd (true && Nat.beq (mK h l0).1 12) ((f181 (mSI h l0 35 l1) l0 1 l1).bind (fun r1 =>
    mGd (true && mIs01 r1) (some (r1, (mSI h l0 35 l1))))))
def f210 (h : mH) (l0 : Nat) : Option (Int32) :=
mGd (((Nat.beq (mK h l0).1 12 && (mR h l0 7).isSome) && (Nat.beq (mK h l0).1 12 && ((Nat.beq (mK h ((mR h l0 7).getD 0)).1 100 && mIn (121 * (mI h l0 35)) (mK h ((mR h l0 7).getD 0)).2) && true))) && true) (some ((mI h ((mR h l0 7).getD 0) (Int32.toNatClampNeg (121 * (mI h l0 35)))) : Int32))
def f211 (h : mH) (l0 : Nat) (l1 : Int32) (l2 : Int32) : Option (Int32) :=
mGd (((Nat.beq (mK h l0).1 12 && (mR h l0 7).isSome) && (Nat.beq (mK h l0).1 12 && ((Nat.beq (mK h ((mR h l0 7).getD 0)).1 100 && mIn ((((121 * (mI h l0 35)) + 1) + (3 * l1)) + l2) (mK h ((mR h l0 7).getD 0)).2) && true))) && true) (some ((mI h ((mR h l0 7).getD 0) (Int32.toNatClampNeg ((((121 * (mI h l0 35)) + 1) + (3 * l1)) + l2))) : Int32))
def f208_34 (h : mH) (q0 : Int32) : Option (Int32 × mH) :=
mGd (true && true) (some (q0, h))
def f208_69 (h : mH) (q0 : Int32) : Option (Int32 × mH) :=
mGd (true && true) (some (q0, h))
def f208_67 (h : mH) : Option (Int32 × mH) :=
f208_69 h (-2)
def f208 (h : mH) (l0 : Nat) (l1 : Int32) (l2 : Int32) (l3 : Int32) : Option (Int32 × mH) :=
mGd (Nat.beq (mK h l0).1 12 && true) (
    mGd (true && Nat.beq (mK h l0).1 12) ((f209 (mSI h l0 0 0) l0 l1).bind (fun r1 =>
    if (r1.1 : Int32) = 0 then
    mGd (true && true) (some ((-2), r1.2))
  else 
    if (l2 : Int32) = (-1) then
      if (l3 : Int32) = 0 then
        mGd (true && Nat.beq (mK r1.2 l0).1 12) ((f210 r1.2 l0).bind (fun r2 =>
          f208_34 r1.2 r2))
      else 
        f208_34 r1.2 (-2)
    else 
      mGd (true && Nat.beq (mK r1.2 l0).1 12) ((f210 r1.2 l0).bind (fun r3 =>
        mGd (true && true) ((f179 r1.2 l2 0 (r3 - 1)).bind (fun r4 =>
        if (r4 : Int32) = 0 then
        f208_67 r1.2
      else 
        mGd (true && true) ((f179 r1.2 l3 0 2).bind (fun r5 =>
          if (r5 : Int32) = 0 then
          f208_67 r1.2
        else 
          mGd (true && Nat.beq (mK r1.2 l0).1 12) ((f211 r1.2 l0 l2 l3).bind (fun r6 =>
            f208_69 r1.2 r6)))))))))))
def f213_21 (h : mH) (q0 : Int32) : Option (Int32 × mH) :=
mGd (true && mIs01 q0) (some (q0, h))
def f213_20 (h : mH) : Option (Int32 × mH) :=
f213_21 h 0
def f213 (h : mH) (l0 : Nat) (l1 : Int32) (l2 : Int32) : Option (Int32 × mH) :=
mGd (true && Nat.beq (mK h l0).1 12) ((f209 h l0 l2).bind (fun r1 =>
    if (r1.1 : Int32) = 0 then
    f213_20 r1.2
  else 
    mGd (true && Nat.beq (mK r1.2 l0).1 12) ((f205 r1.2 l0 l1).bind (fun r2 =>
      if (r2.1 : Int32) = 0 then
      f213_20 r2.2
    else 
      f213_21 r2.2 1))))
def f218 (h : mH) (l0 : Nat) (l1 : Int32) : Option (Int32) :=
mGd ((Nat.beq (mK h l0).1 12 && true) && true) ((f179 h l1 0 ((mI h l0 24) - 1)).bind (fun r1 =>
    mGd (true && mIs01 r1) (some (r1 : Int32))))
def f221_14 (h : mH) (q0 : Int32) : Option (Int32) :=
mGd (true && mIs01 q0) (some (q0 : Int32))
def f221 (h : mH) (l0 : Int32) (l1 : Int32) : Option (Int32) :=
if (((l0 >>> (l1 &&& (31 : Int32))) &&& 1) : Int32) = 1 then
    f221_14 h 1
  else 
    f221_14 h 0
def f220_28 (h : mH) (q0 : Int32) : Option (Int32) :=
mGd (true && mIs01 q0) (some (q0 : Int32))
def f220_27 (h : mH) : Option (Int32) :=
f220_28 h 0
def f220 (h : mH) (l0 : Nat) (l1 : Int32) (l2 : Int32) : Option (Int32) :=
mGd (true && true) ((f221 h l2 l1).bind (fun r1 =>
    if (r1 : Int32) = 0 then
    mGd (true && Nat.beq (mK h l0).1 12) ((f206 h l0 (19 + l1)).bind (fun r2 =>
      if ((r2 &&& (l2 ^^^ (-1))) : Int32) = 0 then
      f220_28 h 1
    else 
      f220_27 h))
  else 
    f220_27 h))
def f219_59 (h : mH) (q0 : Int32) : Option (Int32) :=
mGd (true && mIs01 q0) (some (q0 : Int32))
def f219_58 (h : mH) : Option (Int32) :=
f219_59 h 0
def f219 (h : mH) (l0 : Nat) (l1 : Int32) : Option (Int32) :=
mGd ((Nat.beq (mK h l0).1 12 && (Nat.beq (mK h l0).1 12 && true)) && Nat.beq (mK h l0).1 12) ((f220 h l0 l1 ((mI h l0 26) ||| (mI h l0 27))).bind (fun r1 =>
    if (r1 : Int32) = 0 then
    f219_58 h
  else 
    mGd (true && Nat.beq (mK h l0).1 12) ((f206 h l0 (3 + l1)).bind (fun r2 =>
      mGd (Nat.beq (mK h l0).1 12 && true) (
      if ((mI h l0 28) : Int32) < r2 then
      f219_58 h
    else 
      mGd (((Nat.beq (mK h l0).1 12 && (mR h l0 32).isSome) && true) && Nat.beq (mK h l0).1 12) ((f206 h l0 (11 + l1)).bind (fun r3 =>
        mGd ((Nat.beq (mK h ((mR h l0 32).getD 0)).1 100 && mIn r3 (mK h ((mR h l0 32).getD 0)).2) && true) (
        if ((mI h ((mR h l0 32).getD 0) (Int32.toNatClampNeg r3)) : Int32) ≤ 0 then
        f219_58 h
      else 
        mGd (Nat.beq (mK h l0).1 12 && true) (
          if ((mI h l0 29) : Int32) = 0 then
          f219_59 h 1
        else 
          f219_58 h)))))))))
def f222_28 (h : mH) (l0 : Nat) (l1 : Int32) : Option (Unit × mH) :=
mGd (((Nat.beq (mK h l0).1 12 && (mR h l0 32).isSome) && true) && Nat.beq (mK h l0).1 12) ((f206 h l0 (11 + l1)).bind (fun r2 =>
    mGd ((Nat.beq (mK h ((mR h l0 32).getD 0)).1 100 && mIn r2 (mK h ((mR h l0 32).getD 0)).2) && ((Nat.beq (mK h ((mR h l0 32).getD 0)).1 100 && mIn r2 (mK h ((mR h l0 32).getD 0)).2) && true)) (
    mGd (true && true) (some ((), (mSI h ((mR h l0 32).getD 0) (Int32.toNatClampNeg r2) ((mI h ((mR h l0 32).getD 0) (Int32.toNatClampNeg r2)) - 1)))))))
def f222 (h : mH) (l0 : Nat) (l1 : Int32) : Option (Unit × mH) :=
mGd (Nat.beq (mK h l0).1 12 && (Nat.beq (mK h l0).1 12 && true)) (
    mGd ((Nat.beq (mK h l0).1 12 && true) && Nat.beq (mK h l0).1 12) ((f206 (mSI h l0 26 ((mI h l0 26) ||| ((1 : Int32) <<< (l1 &&& (31 : Int32))))) l0 (3 + l1)).bind (fun r1 =>
    mGd (Nat.beq (mK h l0).1 12 && true) (
    f222_28 (mSI (mSI h l0 26 ((mI h l0 26) ||| ((1 : Int32) <<< (l1 &&& (31 : Int32))))) l0 28 ((mI (mSI h l0 26 ((mI h l0 26) ||| ((1 : Int32) <<< (l1 &&& (31 : Int32))))) l0 28) - r1)) l0 l1))))
def f217_16 (h : mH) : Option (Int32 × mH) :=
mGd (true && mIs01 0) (some (0, h))
def f217 (h : mH) (l0 : Nat) (l1 : Int32) : Option (Int32 × mH) :=
mGd (true && Nat.beq (mK h l0).1 12) ((f218 h l0 l1).bind (fun r1 =>
    if (r1 : Int32) = 0 then
    f217_16 h
  else 
    mGd (true && Nat.beq (mK h l0).1 12) ((f219 h l0 l1).bind (fun r2 =>
      if (r2 : Int32) = 0 then
      f217_16 h
    else 
      mGd (true && Nat.beq (mK h l0).1 12) ((f222 h l0 l1).bind (fun r3 =>
        mGd (true && mIs01 1) (some (1, r3.2))))))))
def f223_25 (h : mH) : Option (Int32 × mH) :=
mGd (true && mIs01 0) (some (0, h))
def f223 (h : mH) (l0 : Nat) (l1 : Int32) : Option (Int32 × mH) :=
mGd (true && Nat.beq (mK h l0).1 12) ((f218 h l0 l1).bind (fun r1 =>
    if (r1 : Int32) = 0 then
    f223_25 h
  else 
    mGd ((Nat.beq (mK h l0).1 12 && (Nat.beq (mK h l0).1 12 && true)) && Nat.beq (mK h l0).1 12) ((f220 h l0 l1 ((mI h l0 26) ||| (mI h l0 27))).bind (fun r2 =>
      if (r2 : Int32) = 0 then
      f223_25 h
    else 
      mGd (Nat.beq (mK h l0).1 12 && (Nat.beq (mK h l0).1 12 && true)) (
        mGd (true && mIs01 1) (some (1, (mSI h l0 27 ((mI h l0 27) ||| ((1 : Int32) <<< (l1 &&& (31 : Int32))))))))))))
def f224 (h : mH) (l0 : Nat) (l1 : Int32) : Option (Unit × mH) :=
mGd (((Nat.beq (mK h l0).1 12 && (mR h l0 32).isSome) && ((Nat.beq (mK h l0).1 12 && (mR h l0 32).isSome) && ((Nat.beq (mK h ((mR h l0 32).getD 0)).1 100 && mIn l1 (mK h ((mR h l0 32).getD 0)).2) && true))) && true) ((f195 h 9 ((mI h ((mR h l0 32).getD 0) (Int32.toNatClampNeg l1)) + 2)).bind (fun r1 =>
    mGd ((Nat.beq (mK h ((mR h l0 32).getD 0)).1 100 && mIn l1 (mK h ((mR h l0 32).getD 0)).2) && true) (
    mGd (true && true) (some ((), (mSI h ((mR h l0 32).getD 0) (Int32.toNatClampNeg l1) r1))))))
def f226 (h : mH) (l0 : Nat) (l1 : Int32) : Option (Int32) :=
mGd ((Nat.beq (mK h l0).1 12 && true) && true) ((f179 h l1 0 ((mI h l0 25) - 1)).bind (fun r1 =>
    mGd (true && mIs01 r1) (some (r1 : Int32))))
def f225_35 (h : mH) : Option (Int32 × mH) :=
mGd (true && mIs01 0) (some (0, h))
def f225 (h : mH) (l0 : Nat) (l1 : Int32) (l2 : Int32) : Option (Int32 × mH) :=
mGd (true && Nat.beq (mK h l0).1 12) ((f218 h l0 l1).bind (fun r1 =>
    if (r1 : Int32) = 0 then
    f225_35 h
  else 
    mGd (true && Nat.beq (mK h l0).1 12) ((f226 h l0 l2).bind (fun r2 =>
      if (r2 : Int32) = 0 then
      f225_35 h
    else 
      mGd ((Nat.beq (mK h l0).1 12 && true) && true) ((f221 h (mI h l0 26) l1).bind (fun r3 =>
        if (r3 : Int32) = 0 then
        f225_35 h
      else 
        mGd (Nat.beq (mK h l0).1 12 && true) (
          if ((mI h l0 29) : Int32) = 1 then
          f225_35 h
        else 
          mGd ((Nat.beq (mK h l0).1 12 && (mR h l0 33).isSome) && ((Nat.beq (mK h ((mR h l0 33).getD 0)).1 100 && mIn ((8 * l2) + l1) (mK h ((mR h l0 33).getD 0)).2) && true)) (
            mGd (true && mIs01 1) (some (1, (mSI h ((mR h l0 33).getD 0) (Int32.toNatClampNeg ((8 * l2) + l1)) 0)))))))))))
def f228_130 (h : mH) (l0 : Nat) (l1 : Int32) (l2 : Int32) (l3 : Int32) (l4 : Int32) : Option ((Int32 × mH) ⊕ (Unit × mH)) :=
some (.inl ((l4 + 1), h))
def f228_82 (l0 : Nat) (l1 : Int32) (l2 : Int32) (l3 : Int32) (s : (Int32 × mH)) : Option ((Int32 × mH) ⊕ (Unit × mH)) :=
mGd (Nat.beq (mK s.2 l0).1 12 && true) (
    if ((mI s.2 l0 25) : Int32) ≤ s.1 then
    mX (mGd (true && true) (some ((), s.2)))
  else 
    mGd (true && Nat.beq (mK s.2 l0).1 12) ((f206 s.2 l0 (39 + l1)).bind (fun r1 =>
      mGd (true && true) ((f221 s.2 r1 s.1).bind (fun r2 =>
      if (r2 : Int32) = 0 then
      f228_130 s.2 l0 l1 l2 l3 s.1
    else 
      mGd ((Nat.beq (mK s.2 l0).1 12 && (mR s.2 l0 34).isSome) && ((Nat.beq (mK s.2 ((mR s.2 l0 34).getD 0)).1 100 && mIn ((8 * s.1) + l2) (mK s.2 ((mR s.2 l0 34).getD 0)).2) && true)) (
        if ((mI s.2 ((mR s.2 l0 34).getD 0) (Int32.toNatClampNeg ((8 * s.1) + l2))) : Int32) = (-1) then
        f228_130 s.2 l0 l1 l2 l3 s.1
      else 
        mGd ((Nat.beq (mK s.2 l0).1 12 && (mR s.2 l0 33).isSome) && ((Nat.beq (mK s.2 ((mR s.2 l0 33).getD 0)).1 100 && mIn l3 (mK s.2 ((mR s.2 l0 33).getD 0)).2) && true)) (
          f228_130 (mSI s.2 ((mR s.2 l0 33).getD 0) (Int32.toNatClampNeg l3) 0) l0 l1 l2 l3 s.1)))))))
def f228_78 (h : mH) : Option (Unit × mH) :=
mGd (true && true) (some ((), h))
def f228 (h : mH) (l0 : Nat) (l1 : Int32) (l2 : Int32) : Option (Unit × mH) :=
mGd ((Nat.beq (mK h l0).1 12 && (mR h l0 34).isSome) && ((Nat.beq (mK h ((mR h l0 34).getD 0)).1 100 && mIn ((8 * l1) + l2) (mK h ((mR h l0 34).getD 0)).2) && true)) (
    if ((mI h ((mR h l0 34).getD 0) (Int32.toNatClampNeg ((8 * l1) + l2))) : Int32) = (-1) then
    mLoop (f228_82 l0 l1 l2 ((8 * l1) + l2)) mFuel (0, h)
  else 
    mGd (((Nat.beq (mK h l0).1 12 && (mR h l0 33).isSome) && ((Nat.beq (mK h l0).1 12 && (mR h l0 34).isSome) && ((Nat.beq (mK h ((mR h l0 34).getD 0)).1 100 && mIn ((8 * l1) + l2) (mK h ((mR h l0 34).getD 0)).2) && true))) && Nat.beq (mK h l0).1 12) ((f206 h l0 (33 + l1)).bind (fun r3 =>
      if (((mI h ((mR h l0 34).getD 0) (Int32.toNatClampNeg ((8 * l1) + l2))) + 1) : Int32) = r3 then
      mGd ((Nat.beq (mK h ((mR h l0 33).getD 0)).1 100 && mIn ((8 * l1) + l2) (mK h ((mR h l0 33).getD 0)).2) && true) (
        mGd (Nat.beq (mK h l0).1 12 && ((Nat.beq (mK h l0).1 12 && (mR h l0 33).isSome) && ((Nat.beq (mK h ((mR h l0 33).getD 0)).1 100 && mIn ((8 * l1) + l2) (mK h ((mR h l0 33).getD 0)).2) && true))) (
        if ((mI (mSI h ((mR h l0 33).getD 0) (Int32.toNatClampNeg ((8 * l1) + l2)) (-1)) ((mR h l0 33).getD 0) (Int32.toNatClampNeg ((8 * l1) + l2))) : Int32) = (-1) then
        mGd (Nat.beq (mK h l0).1 12 && true) (
          f228_78 (mSI (mSI h ((mR h l0 33).getD 0) (Int32.toNatClampNeg ((8 * l1) + l2)) (-1)) l0 31 ((mI (mSI h ((mR h l0 33).getD 0) (Int32.toNatClampNeg ((8 * l1) + l2)) (-1)) l0 31) + 1)))
      else 
        mGd (Nat.beq (mK h l0).1 12 && true) (
          f228_78 (mSI (mSI h ((mR h l0 33).getD 0) (Int32.toNatClampNeg ((8 * l1) + l2)) (-1)) l0 31 ((mI (mSI h ((mR h l0 33).getD 0) (Int32.toNatClampNeg ((8 * l1) + l2)) (-1)) l0 31) + 0)))))
    else 
      mGd ((Nat.beq (mK h l0).1 12 && (mR h l0 34).isSome) && ((Nat.beq (mK h ((mR h l0 34).getD 0)).1 100 && mIn ((8 * l1) + l2) (mK h ((mR h l0 34).getD 0)).2) && true)) (
        mGd ((Nat.beq (mK h ((mR h l0 33).getD 0)).1 100 && mIn ((8 * l1) + l2) (mK h ((mR h l0 33).getD 0)).2) && true) (
        mGd (Nat.beq (mK h l0).1 12 && ((Nat.beq (mK h l0).1 12 && (mR h l0 33).isSome) && ((Nat.beq (mK h ((mR h l0 33).getD 0)).1 100 && mIn ((8 * l1) + l2) (mK h ((mR h l0 33).getD 0)).2) && true))) (
        if ((mI (mSI h ((mR h l0 33).getD 0) (Int32.toNatClampNeg ((8 * l1) + l2)) ((mI h ((mR h l0 34).getD 0) (Int32.toNatClampNeg ((8 * l1) + l2))) + 1)) ((mR h l0 33).getD 0) (Int32.toNatClampNeg ((8 * l1) + l2))) : Int32) = (-1) then
        mGd (Nat.beq (mK h l0).1 12 && true) (
          f228_78 (mSI (mSI h ((mR h l0 33).getD 0) (Int32.toNatClampNeg ((8 * l1) + l2)) ((mI h ((mR h l0 34).getD 0) (Int32.toNatClampNeg ((8 * l1) + l2))) + 1)) l0 31 ((mI (mSI h ((mR h l0 33).getD 0) (Int32.toNatClampNeg ((8 * l1) + l2)) ((mI h ((mR h l0 34).getD 0) (Int32.toNatClampNeg ((8 * l1) + l2))) + 1)) l0 31) + 1)))
      else 
        mGd (Nat.beq (mK h l0).1 12 && true) (
          f228_78 (mSI (mSI h ((mR h l0 33).getD 0) (Int32.toNatClampNeg ((8 * l1) + l2)) ((mI h ((mR h l0 34).getD 0) (Int32.toNatClampNeg ((8 * l1) + l2))) + 1)) l0 31 ((mI (mSI h ((mR h l0 33).getD 0) (Int32.toNatClampNeg ((8 * l1) + l2)) ((mI h ((mR h l0 34).getD 0) (Int32.toNatClampNeg ((8 * l1) + l2))) + 1)) l0 31) + 0)))))))))
def f227_38 (l0 : Nat) (l1 : Int32) (s : (Int32 × mH)) : Option ((Int32 × mH) ⊕ ((Int32 × mH) ⊕ (Unit × mH))) :=
if (8 : Int32) ≤ s.1 then
    mX (some (.inl ((l1 + 1), s.2)))
  else 
    mGd (true && Nat.beq (mK s.2 l0).1 12) ((f228 s.2 l0 l1 s.1).bind (fun r2 =>
      some (.inl ((s.1 + 1), r2.2))))
def f227_28 (l0 : Nat) (s : (Int32 × mH)) : Option ((Int32 × mH) ⊕ (Unit × mH)) :=
mGd (Nat.beq (mK s.2 l0).1 12 && true) (
    if ((mI s.2 l0 25) : Int32) ≤ s.1 then
    mX (
mGd (Nat.beq (mK s.2 l0).1 12 && true) (
      mGd (true && Nat.beq (mK s.2 l0).1 12) ((f206 (mSI s.2 l0 29 0) l0 2).bind (fun r1 =>
      mGd (Nat.beq (mK s.2 l0).1 12 && true) (
      mGd (Nat.beq (mK s.2 l0).1 12 && (Nat.beq (mK s.2 l0).1 12 && true)) (
      mGd (true && true) (some ((), (mSI (mSI (mSI s.2 l0 29 0) l0 28 r1) l0 30 ((mI (mSI (mSI s.2 l0 29 0) l0 28 r1) l0 30) + 1))))))))))
  else 
    mLoop (f227_38 l0 s.1) mFuel (0, s.2))
def f227_2 (l0 : Nat) (s : (Int32 × mH)) : Option ((Int32 × mH) ⊕ (Unit × mH)) :=
if (48 : Int32) ≤ s.1 then
    mX (mLoop (f227_28 l0) mFuel (0, s.2))
  else 
    mGd ((Nat.beq (mK s.2 l0).1 12 && (mR s.2 l0 34).isSome) && ((Nat.beq (mK s.2 l0).1 12 && (mR s.2 l0 33).isSome) && ((Nat.beq (mK s.2 ((mR s.2 l0 33).getD 0)).1 100 && mIn s.1 (mK s.2 ((mR s.2 l0 33).getD 0)).2) && ((Nat.beq (mK s.2 ((mR s.2 l0 34).getD 0)).1 100 && mIn s.1 (mK s.2 ((mR s.2 l0 34).getD 0)).2) && true)))) (
      some (.inl ((s.1 + 1), (mSI s.2 ((mR s.2 l0 34).getD 0) (Int32.toNatClampNeg s.1) (mI s.2 ((mR s.2 l0 33).getD 0) (Int32.toNatClampNeg s.1))))))
def f227 (h : mH) (l0 : Nat) : Option (Unit × mH) :=
mLoop (f227_2 l0) mFuel (0, h)
def f216 (h : mH) (l0 : Nat) (l1 : Int32) (l2 : Int32) (l3 : Int32) : Option (Int32 × mH) :=
if (l1 : Int32) = 0 then
    mGd (true && Nat.beq (mK h l0).1 12) ((f217 h l0 l2).bind (fun r1 =>
      mGd (true && mIs01 r1.1) (some (r1.1, r1.2))))
  else if (l1 : Int32) = 1 then
    mGd (true && Nat.beq (mK h l0).1 12) ((f223 h l0 l2).bind (fun r2 =>
      mGd (true && mIs01 r2.1) (some (r2.1, r2.2))))
  else if (l1 : Int32) = 2 then
    mGd (true && Nat.beq (mK h l0).1 12) ((f224 h l0 l2).bind (fun r3 =>
      mGd (true && mIs01 1) (some (1, r3.2))))
  else if (l1 : Int32) = 3 then
    mGd (true && Nat.beq (mK h l0).1 12) ((f225 h l0 l2 l3).bind (fun r4 =>
      mGd (true && mIs01 r4.1) (some (r4.1, r4.2))))
  else if (l1 : Int32) = 4 then
    mGd (Nat.beq (mK h l0).1 12 && true) (
      if ((mI h l0 29) : Int32) = 1 then
      mGd (true && mIs01 0) (some (0, h))
    else 
      mGd (Nat.beq (mK h l0).1 12 && true) (
        mGd (true && mIs01 1) (some (1, (mSI h l0 29 1)))))
  else 
    mGd (true && Nat.beq (mK h l0).1 12) ((f227 h l0).bind (fun r5 =>
      mGd (true && mIs01 1) (some (1, r5.2))))
def f215 (h : mH) (l0 : Nat) (l1 : Int32) : Option (Int32 × mH) :=
mGd (true && Nat.beq (mK h l0).1 12) ((f211 h l0 l1 0).bind (fun r1 =>
    mGd (true && Nat.beq (mK h l0).1 12) ((f211 h l0 l1 1).bind (fun r2 =>
    mGd (true && Nat.beq (mK h l0).1 12) ((f211 h l0 l1 2).bind (fun r3 =>
    mGd (true && Nat.beq (mK h l0).1 12) ((f216 h l0 r1 r2 r3).bind (fun r4 =>
    mGd (true && mIs01 r4.1) (some (r4.1, r4.2))))))))))
def f214_21 (h : mH) (l2 : Int32) : Option (Int32 × mH) :=
mGd (true && true) (some (l2, h))
def f214_2 (l0 : Nat) (l1 : Int32) (s : (Int32 × mH)) : Option ((Int32 × mH) ⊕ (Int32 × mH)) :=
if (l1 : Int32) ≤ s.1 then
    mX (f214_21 s.2 s.1)
  else 
    mGd (true && Nat.beq (mK s.2 l0).1 12) ((f215 s.2 l0 s.1).bind (fun r1 =>
      if (r1.1 : Int32) = 0 then
      mX (f214_21 r1.2 s.1)
    else 
      some (.inl ((s.1 + 1), r1.2))))
def f214 (h : mH) (l0 : Nat) (l1 : Int32) : Option (Int32 × mH) :=
mLoop (f214_2 l0 l1) mFuel (0, h)
def f212_26 (h : mH) (q0 : Int32) : Option (Int32 × mH) :=
mGd (true && true) (some (q0, h))
def f212 (h : mH) (l0 : Nat) (l1 : Int32) (l2 : Int32) : Option (Int32 × mH) :=
mGd (Nat.beq (mK h l0).1 12 && true) (
    mGd (true && Nat.beq (mK h l0).1 12) ((f213 (mSI h l0 0 0) l0 l1 l2).bind (fun r1 =>
    if (r1.1 : Int32) = 0 then
    f212_26 r1.2 (-1)
  else 
    mGd (true && Nat.beq (mK r1.2 l0).1 12) ((f210 r1.2 l0).bind (fun r2 =>
      mGd (true && Nat.beq (mK r1.2 l0).1 12) ((f214 r1.2 l0 r2).bind (fun r3 =>
      f212_26 r3.2 r3.1)))))))
def f231_33 (h : mH) (l0 : Nat) (l1 : Int32) (l3 : Int32) (q0 : Int32) (q1 : Int32) : Option ((Int32 × Int32) ⊕ (Int32)) :=
some (.inl ((q0 ||| q1), (l3 + 1)))
def f231_4 (h : mH) (l0 : Nat) (l1 : Int32) (s : (Int32 × Int32)) : Option ((Int32 × Int32) ⊕ (Int32)) :=
if (8 : Int32) ≤ s.2 then
    mX (mGd (true && true) (some (s.1 : Int32)))
  else 
    mGd ((Nat.beq (mK h l0).1 12 && (mR h l0 33).isSome) && ((Nat.beq (mK h ((mR h l0 33).getD 0)).1 100 && mIn ((8 * l1) + s.2) (mK h ((mR h l0 33).getD 0)).2) && true)) (
      if ((mI h ((mR h l0 33).getD 0) (Int32.toNatClampNeg ((8 * l1) + s.2))) : Int32) = (-1) then
      f231_33 h l0 l1 s.2 s.1 0
    else 
      f231_33 h l0 l1 s.2 s.1 ((1 : Int32) <<< (s.2 &&& (31 : Int32))))
def f231 (h : mH) (l0 : Nat) (l1 : Int32) : Option (Int32) :=
mLoop (f231_4 h l0 l1) mFuel (0, 0)
def f232_29 (h : mH) (l0 : Nat) (l1 : Int32) (l3 : Int32) (q0 : Int32) (q1 : Int32) : Option ((Int32 × Int32) ⊕ (Int32)) :=
some (.inl ((q0 ||| q1), (l3 + 1)))
def f232_4 (h : mH) (l0 : Nat) (l1 : Int32) (s : (Int32 × Int32)) : Option ((Int32 × Int32) ⊕ (Int32)) :=
mGd (Nat.beq (mK h l0).1 12 && true) (
    if ((mI h l0 24) : Int32) ≤ s.2 then
    mX (mGd (true && true) (some (s.1 : Int32)))
  else 
    mGd (true && Nat.beq (mK h l0).1 12) ((f220 h l0 s.2 l1).bind (fun r1 =>
      if (r1 : Int32) = 0 then
      f232_29 h l0 l1 s.2 s.1 0
    else 
      f232_29 h l0 l1 s.2 s.1 ((1 : Int32) <<< (s.2 &&& (31 : Int32))))))
def f232 (h : mH) (l0 : Nat) (l1 : Int32) : Option (Int32) :=
mLoop (f232_4 h l0 l1) mFuel (0, 0)
def f230_108 (h : mH) (q0 : Int32) : Option (Int32) :=
mGd (true && true) (some (q0 : Int32))
def f230_127 (h : mH) (q0 : Int32) : Option (Int32) :=
mGd (true && true) (some (q0 : Int32))
def f230_52 (h : mH) (q0 : Int32) : Option (Int32) :=
mGd (true && true) (some (q0 : Int32))
def f230_50 (h : mH) : Option (Int32) :=
f230_52 h (-2)
def f230 (h : mH) (l0 : Nat) (l1 : Int32) : Option (Int32) :=
if (l1 : Int32) < 100 then
    mGd (!(10 == (0 : Int32)) && (!(10 == (0 : Int32)) && true)) (
      if ((l1 / 10) : Int32) = 0 then
      if (l1 : Int32) = 0 then
        mGd ((Nat.beq (mK h l0).1 12 && true) && true) (some ((mI h l0 30) : Int32))
      else if (l1 : Int32) = 1 then
        mGd ((Nat.beq (mK h l0).1 12 && true) && true) (some ((mI h l0 26) : Int32))
      else if (l1 : Int32) = 2 then
        mGd ((Nat.beq (mK h l0).1 12 && true) && true) (some ((mI h l0 27) : Int32))
      else if (l1 : Int32) = 3 then
        mGd ((Nat.beq (mK h l0).1 12 && true) && true) (some ((mI h l0 28) : Int32))
      else if (l1 : Int32) = 4 then
        mGd ((Nat.beq (mK h l0).1 12 && true) && true) (some ((mI h l0 29) : Int32))
      else if (l1 : Int32) = 5 then
        mGd ((Nat.beq (mK h l0).1 12 && (Nat.beq (mK h l0).1 12 && true)) && Nat.beq (mK h l0).1 12) ((f232 h l0 ((mI h l0 26) ||| (mI h l0 27))).bind (fun r1 =>
          mGd (true && true) (some (r1 : Int32))))
      else 
        mGd (true && true) (some ((-2) : Int32))
    else if ((l1 / 10) : Int32) = 1 then
      if (6 : Int32) ≤ (l1 - l1 / 10 * 10) then
        f230_108 h (-2)
      else 
        mGd ((Nat.beq (mK h l0).1 12 && (mR h l0 32).isSome) && ((Nat.beq (mK h ((mR h l0 32).getD 0)).1 100 && mIn (l1 - l1 / 10 * 10) (mK h ((mR h l0 32).getD 0)).2) && true)) (
          f230_108 h (mI h ((mR h l0 32).getD 0) (Int32.toNatClampNeg (l1 - l1 / 10 * 10))))
    else if ((l1 / 10) : Int32) = 2 then
      mGd (true && Nat.beq (mK h l0).1 12) ((f226 h l0 (l1 - l1 / 10 * 10)).bind (fun r2 =>
        if (r2 : Int32) = 0 then
        f230_127 h (-2)
      else 
        mGd (true && Nat.beq (mK h l0).1 12) ((f231 h l0 (l1 - l1 / 10 * 10)).bind (fun r3 =>
          f230_127 h r3))))
    else 
      mGd (true && true) (some ((-2) : Int32)))
  else 
    mGd ((!(8 == (0 : Int32)) && (!(8 == (0 : Int32)) && true)) && Nat.beq (mK h l0).1 12) ((f226 h l0 ((l1 - 100) / 8)).bind (fun r4 =>
      if (r4 : Int32) = 0 then
      f230_50 h
    else 
      mGd (true && Nat.beq (mK h l0).1 12) ((f218 h l0 ((l1 - 100) - (l1 - 100) / 8 * 8)).bind (fun r5 =>
        if (r5 : Int32) = 0 then
        f230_50 h
      else 
        mGd ((Nat.beq (mK h l0).1 12 && (mR h l0 33).isSome) && ((Nat.beq (mK h ((mR h l0 33).getD 0)).1 100 && mIn (l1 - 100) (mK h ((mR h l0 33).getD 0)).2) && true)) (
          f230_52 h (mI h ((mR h l0 33).getD 0) (Int32.toNatClampNeg (l1 - 100))))))))
def f229_46 (h : mH) (q0 : Int32) : Option (Int32 × mH) :=
mGd (true && true) (some (q0, h))
def f229_44 (h : mH) : Option (Int32 × mH) :=
f229_46 h (-2)
def f229 (h : mH) (l0 : Nat) (l1 : Int32) (l2 : Int32) (l3 : Int32) (l4 : Int32) : Option (Int32 × mH) :=
mGd (Nat.beq (mK h l0).1 12 && true) (
    mGd (true && Nat.beq (mK h l0).1 12) ((f213 (mSI h l0 0 0) l0 l1 l2).bind (fun r1 =>
    if (r1.1 : Int32) = 0 then
    f229_44 r1.2
  else 
    mGd (true && Nat.beq (mK r1.2 l0).1 12) ((f210 r1.2 l0).bind (fun r2 =>
      mGd (true && true) ((f179 r1.2 l3 0 r2).bind (fun r3 =>
      if (r3 : Int32) = 0 then
      f229_44 r1.2
    else 
      mGd (true && Nat.beq (mK r1.2 l0).1 12) ((f214 r1.2 l0 l3).bind (fun r4 =>
        if (r4.1 : Int32) = l3 then
        mGd (true && Nat.beq (mK r4.2 l0).1 12) ((f230 r4.2 l0 l4).bind (fun r5 =>
          f229_46 r4.2 r5))
      else 
        f229_44 r4.2)))))))))
def f235_88 (h : mH) (l0 : Nat) (l1 : Int32) (l2 : Int32) : Option ((Int32 × Int32) ⊕ (Int32)) :=
some (.inl (l1, (l2 + 1)))
def f235_87 (h : mH) (l0 : Nat) (l2 : Int32) (q0 : Int32) : Option ((Int32 × Int32) ⊕ (Int32)) :=
f235_88 h l0 q0 l2
def f235_82 (h : mH) (l0 : Nat) (l2 : Int32) : Option ((Int32 × Int32) ⊕ (Int32)) :=
f235_87 h l0 l2 l2
def f235_86 (h : mH) (l0 : Nat) (l1 : Int32) (l2 : Int32) : Option ((Int32 × Int32) ⊕ (Int32)) :=
f235_87 h l0 l2 l1
def f235_56 (h : mH) (l0 : Nat) (l1 : Int32) (l2 : Int32) (q0 : Int32) : Option ((Int32 × Int32) ⊕ (Int32)) :=
if (0 : Int32) < q0 then
    f235_82 h l0 l2
  else 
    if (q0 : Int32) = 0 then
      mGd (true && Nat.beq (mK h l0).1 12) ((f206 h l0 (3 + l2)).bind (fun r2 =>
        mGd (true && Nat.beq (mK h l0).1 12) ((f206 h l0 (3 + l1)).bind (fun r3 =>
        if (r3 : Int32) ≤ r2 then
        f235_86 h l0 l1 l2
      else 
        f235_82 h l0 l2))))
    else 
      f235_86 h l0 l1 l2
def f235_4 (h : mH) (l0 : Nat) (s : (Int32 × Int32)) : Option ((Int32 × Int32) ⊕ (Int32)) :=
mGd (Nat.beq (mK h l0).1 12 && true) (
    if ((mI h l0 24) : Int32) ≤ s.2 then
    mX (mGd (true && true) (some (s.1 : Int32)))
  else 
    mGd (true && Nat.beq (mK h l0).1 12) ((f219 h l0 s.2).bind (fun r1 =>
      if (r1 : Int32) = 0 then
      f235_88 h l0 s.1 s.2
    else 
      if (s.1 : Int32) = (-1) then
        f235_56 h l0 s.1 s.2 1
      else 
        mGd (((Nat.beq (mK h l0).1 12 && (mR h l0 32).isSome) && true) && Nat.beq (mK h l0).1 12) ((f206 h l0 (11 + s.2)).bind (fun r4 =>
          mGd (((Nat.beq (mK h ((mR h l0 32).getD 0)).1 100 && mIn r4 (mK h ((mR h l0 32).getD 0)).2) && ((Nat.beq (mK h l0).1 12 && (mR h l0 32).isSome) && true)) && Nat.beq (mK h l0).1 12) ((f206 h l0 (11 + s.1)).bind (fun r5 =>
          mGd ((Nat.beq (mK h ((mR h l0 32).getD 0)).1 100 && mIn r5 (mK h ((mR h l0 32).getD 0)).2) && true) (
          f235_56 h l0 s.1 s.2 ((mI h ((mR h l0 32).getD 0) (Int32.toNatClampNeg r4)) - (mI h ((mR h l0 32).getD 0) (Int32.toNatClampNeg r5)))))))))))
def f235 (h : mH) (l0 : Nat) : Option (Int32) :=
mLoop (f235_4 h l0) mFuel ((-1), 0)
def f234_56 (h : mH) (l0 : Nat) (l1 : Int32) (l2 : Int32) : Option ((Int32 × mH) ⊕ ((Int32 × mH) ⊕ (Unit × mH))) :=
mGd (true && Nat.beq (mK h l0).1 12) ((f235 h l0).bind (fun r4 =>
    some (.inl (r4, h))))
def f234_26 (l0 : Nat) (l1 : Int32) (l2 : Int32) (s : (Int32 × mH)) : Option ((Int32 × mH) ⊕ ((Int32 × mH) ⊕ (Unit × mH))) :=
if (s.1 : Int32) = (-1) then
    mX (some (.inl ((l2 + 1), s.2)))
  else 
    mGd (true && Nat.beq (mK s.2 l0).1 12) ((f222 s.2 l0 s.1).bind (fun r3 =>
      mGd ((Nat.beq (mK r3.2 l0).1 12 && (mR r3.2 l0 36).isSome) && (Nat.beq (mK r3.2 l0).1 12 && ((Nat.beq (mK r3.2 ((mR r3.2 l0 36).getD 0)).1 100 && mIn (mI r3.2 l0 37) (mK r3.2 ((mR r3.2 l0 36).getD 0)).2) && true))) (
      mGd (Nat.beq (mK r3.2 l0).1 12 && (Nat.beq (mK r3.2 l0).1 12 && true)) (
      f234_56 (mSI (mSI r3.2 ((mR r3.2 l0 36).getD 0) (Int32.toNatClampNeg (mI r3.2 l0 37)) s.1) l0 37 ((mI (mSI r3.2 ((mR r3.2 l0 36).getD 0) (Int32.toNatClampNeg (mI r3.2 l0 37)) s.1) l0 37) + 1)) l0 l1 l2))))
def f234_7 (l0 : Nat) (l1 : Int32) (s : (Int32 × mH)) : Option ((Int32 × mH) ⊕ (Unit × mH)) :=
if (l1 : Int32) ≤ s.1 then
    mX (mGd (true && true) (some ((), s.2)))
  else 
    mGd (true && Nat.beq (mK s.2 l0).1 12) ((f206 s.2 l0 2).bind (fun r1 =>
      mGd (Nat.beq (mK s.2 l0).1 12 && true) (
      mGd (true && Nat.beq (mK s.2 l0).1 12) ((f235 (mSI s.2 l0 28 r1) l0).bind (fun r2 =>
      mLoop (f234_26 l0 l1 s.1) mFuel (r2, (mSI s.2 l0 28 r1)))))))
def f234 (h : mH) (l0 : Nat) (l1 : Int32) : Option (Unit × mH) :=
mGd (Nat.beq (mK h l0).1 12 && true) (
    mLoop (f234_7 l0 l1) mFuel (0, (mSI h l0 37 0)))
def f233_23 (h : mH) : Option (Int32 × mH) :=
mGd (true && true) (some ((-1), h))
def f233_66 (h : mH) (q0 : Int32) : Option (Int32 × mH) :=
mGd (true && true) (some (q0, h))
def f233 (h : mH) (l0 : Nat) (l1 : Int32) (l2 : Int32) (l3 : Int32) : Option (Int32 × mH) :=
mGd (Nat.beq (mK h l0).1 12 && true) (
    mGd (true && true) ((f179 (mSI h l0 0 0) l2 0 20).bind (fun r1 =>
    if (r1 : Int32) = 0 then
    f233_23 (mSI h l0 0 0)
  else 
    mGd (true && Nat.beq (mK h l0).1 12) ((f205 (mSI h l0 0 0) l0 l1).bind (fun r2 =>
      if (r2.1 : Int32) = 0 then
      f233_23 r2.2
    else 
      mGd (true && Nat.beq (mK r2.2 l0).1 12) ((f234 r2.2 l0 l2).bind (fun r3 =>
        if (l3 : Int32) = (-1) then
        mGd (Nat.beq (mK r3.2 l0).1 12 && true) (
          f233_66 r3.2 (mI r3.2 l0 37))
      else 
        mGd ((Nat.beq (mK r3.2 l0).1 12 && true) && true) ((f179 r3.2 l3 0 ((mI r3.2 l0 37) - 1)).bind (fun r4 =>
          if (r4 : Int32) = 0 then
          f233_66 r3.2 (-1)
        else 
          mGd ((Nat.beq (mK r3.2 l0).1 12 && (mR r3.2 l0 36).isSome) && ((Nat.beq (mK r3.2 ((mR r3.2 l0 36).getD 0)).1 100 && mIn l3 (mK r3.2 ((mR r3.2 l0 36).getD 0)).2) && true)) (
            f233_66 r3.2 (mI r3.2 ((mR r3.2 l0 36).getD 0) (Int32.toNatClampNeg l3))))))))))))
def f238_2 (l0 : Nat) (l1 : Int32) (s : (Int32 × mH)) : Option ((Int32 × mH) ⊕ (Unit × mH)) :=
if (l1 : Int32) ≤ s.1 then
    mX (mGd (true && true) (some ((), s.2)))
  else 
    mGd ((Nat.beq (mK s.2 l0).1 12 && (mR s.2 l0 38).isSome) && ((Nat.beq (mK s.2 ((mR s.2 l0 38).getD 0)).1 100 && mIn s.1 (mK s.2 ((mR s.2 l0 38).getD 0)).2) && true)) (
      some (.inl ((s.1 + 1), (mSI s.2 ((mR s.2 l0 38).getD 0) (Int32.toNatClampNeg s.1) 0))))
def f238 (h : mH) (l0 : Nat) (l1 : Int32) : Option (Unit × mH) :=
mLoop (f238_2 l0 l1) mFuel (0, h)
def f239_6 (l0 : Nat) (l1 : Int32) (l2 : Int32) (s : (Int32 × mH)) : Option ((Int32 × mH) ⊕ (Unit × mH)) :=
if (l1 : Int32) ≤ s.1 then
    mX (
mGd (true && Nat.beq (mK s.2 l0).1 12) ((f234 s.2 l0 l2).bind (fun r2 =>
      mGd (true && true) (some ((), r2.2)))))
  else 
    mGd (((Nat.beq (mK s.2 l0).1 12 && (mR s.2 l0 38).isSome) && ((Nat.beq (mK s.2 ((mR s.2 l0 38).getD 0)).1 100 && mIn s.1 (mK s.2 ((mR s.2 l0 38).getD 0)).2) && true)) && Nat.beq (mK s.2 l0).1 12) ((f224 s.2 l0 (mI s.2 ((mR s.2 l0 38).getD 0) (Int32.toNatClampNeg s.1))).bind (fun r3 =>
      some (.inl ((s.1 + 1), r3.2))))
def f239 (h : mH) (l0 : Nat) (l1 : Int32) (l2 : Int32) : Option (Unit × mH) :=
mGd (true && Nat.beq (mK h l0).1 12) ((f207 h l0).bind (fun r1 =>
    mLoop (f239_6 l0 l1 l2) mFuel (0, r1.2)))
def f240_42 (l0 : Nat) (l1 : Int32) (l3 : Int32) (s : (Int32 × mH)) : Option ((Int32 × mH) ⊕ (Int32 × mH)) :=
if (l1 : Int32) ≤ s.1 then
    mX (mGd (true && mIs01 1) (some (1, s.2)))
  else 
    mGd ((Nat.beq (mK s.2 l0).1 12 && (mR s.2 l0 38).isSome) && ((Nat.beq (mK s.2 ((mR s.2 l0 38).getD 0)).1 100 && mIn s.1 (mK s.2 ((mR s.2 l0 38).getD 0)).2) && true)) (
      some (.inl ((s.1 + 1), (mSI s.2 ((mR s.2 l0 38).getD 0) (Int32.toNatClampNeg s.1) l3))))
def f240_24 (h : mH) (l0 : Nat) (l1 : Int32) (l2 : Int32) : Option (Int32 × mH) :=
if (0 : Int32) ≤ l2 then
    mGd ((Nat.beq (mK h l0).1 12 && (mR h l0 38).isSome) && ((Nat.beq (mK h ((mR h l0 38).getD 0)).1 100 && mIn l2 (mK h ((mR h l0 38).getD 0)).2) && true)) (
      mLoop (f240_42 l0 l1 ((mI h ((mR h l0 38).getD 0) (Int32.toNatClampNeg l2)) + 1)) mFuel (l2, h))
  else 
    mGd (true && mIs01 0) (some (0, h))
def f240_4 (h : mH) (l0 : Nat) (l1 : Int32) (s : (Int32)) : Option ((Int32) ⊕ (Int32 × mH)) :=
if (s : Int32) < 0 then
    mX (f240_24 h l0 l1 s)
  else 
    mGd ((Nat.beq (mK h l0).1 12 && (mR h l0 38).isSome) && ((Nat.beq (mK h ((mR h l0 38).getD 0)).1 100 && mIn s (mK h ((mR h l0 38).getD 0)).2) && true)) (
      if ((mI h ((mR h l0 38).getD 0) (Int32.toNatClampNeg s)) : Int32) = 5 then
      some (.inl ((s + (-1))))
    else 
      mX (f240_24 h l0 l1 s))
def f240 (h : mH) (l0 : Nat) (l1 : Int32) : Option (Int32 × mH) :=
mLoop (f240_4 h l0 l1) mFuel ((l1 - 1))
def f237_8 (l0 : Nat) (l1 : Int32) (l2 : Int32) (l3 : Int32) (s : (Int32 × mH)) : Option ((Int32 × mH) ⊕ (Int32 × mH)) :=
if (s.1 : Int32) = 0 then
    mX (mGd (true && mIs01 0) (some (0, s.2)))
  else 
    mGd (true && Nat.beq (mK s.2 l0).1 12) ((f239 s.2 l0 l3 l2).bind (fun r2 =>
      mGd ((Nat.beq (mK r2.2 l0).1 12 && true) && true) ((f221 r2.2 (mI r2.2 l0 26) l1).bind (fun r3 =>
      if (r3 : Int32) = 0 then
      mGd (true && Nat.beq (mK r2.2 l0).1 12) ((f240 r2.2 l0 l3).bind (fun r4 =>
        some (.inl (r4.1, r4.2))))
    else 
      mX (mGd (true && mIs01 1) (some (1, r2.2)))))))
def f237 (h : mH) (l0 : Nat) (l1 : Int32) (l2 : Int32) (l3 : Int32) : Option (Int32 × mH) :=
mGd (true && Nat.beq (mK h l0).1 12) ((f238 h l0 l3).bind (fun r1 =>
    mLoop (f237_8 l0 l1 l2 l3) mFuel (1, r1.2)))
def f236_31 (h : mH) : Option (Int32 × mH) :=
mGd (true && true) (some ((-1), h))
def f236_104 (h : mH) (q0 : Int32) : Option (Int32 × mH) :=
mGd (true && true) (some (q0, h))
def f236_59 (h : mH) (l0 : Nat) (l4 : Int32) (l5 : Int32) : Option (Int32 × mH) :=
if (l5 : Int32) ≤ 4 then
    if (l4 : Int32) = (-1) then
      f236_104 h l5
    else 
      mGd (true && true) ((f179 h l4 0 (l5 - 1)).bind (fun r4 =>
        if (r4 : Int32) = 0 then
        f236_104 h (-1)
      else 
        mGd ((Nat.beq (mK h l0).1 12 && (mR h l0 38).isSome) && ((Nat.beq (mK h ((mR h l0 38).getD 0)).1 100 && mIn l4 (mK h ((mR h l0 38).getD 0)).2) && true)) (
          f236_104 h (mI h ((mR h l0 38).getD 0) (Int32.toNatClampNeg l4)))))
  else 
    f236_104 h (-1)
def f236_36 (l0 : Nat) (l2 : Int32) (l3 : Int32) (l4 : Int32) (s : (Int32 × mH)) : Option ((Int32 × mH) ⊕ (Int32 × mH)) :=
if (4 : Int32) < s.1 then
    mX (f236_59 s.2 l0 l4 s.1)
  else 
    mGd (true && Nat.beq (mK s.2 l0).1 12) ((f237 s.2 l0 l2 l3 s.1).bind (fun r5 =>
      if (r5.1 : Int32) = 0 then
      some (.inl ((s.1 + 1), r5.2))
    else 
      mX (f236_59 r5.2 l0 l4 s.1)))
def f236 (h : mH) (l0 : Nat) (l1 : Int32) (l2 : Int32) (l3 : Int32) (l4 : Int32) : Option (Int32 × mH) :=
mGd (Nat.beq (mK h l0).1 12 && true) (
    mGd (true && true) ((f179 (mSI h l0 0 0) l3 0 20).bind (fun r1 =>
    if (r1 : Int32) = 0 then
    f236_31 (mSI h l0 0 0)
  else 
    mGd (true && Nat.beq (mK h l0).1 12) ((f205 (mSI h l0 0 0) l0 l1).bind (fun r2 =>
      if (r2.1 : Int32) = 0 then
      f236_31 r2.2
    else 
      mGd (true && Nat.beq (mK r2.2 l0).1 12) ((f218 r2.2 l0 l2).bind (fun r3 =>
        if (r3 : Int32) = 0 then
        f236_31 r2.2
      else 
        mLoop (f236_36 l0 l2 l3 l4) mFuel (0, r2.2))))))))
def f242_44 (h : mH) (l0 : Nat) (l1 : Int32) (l3 : Int32) (q0 : Int32) : Option ((Int32 × Int32) ⊕ (Int32)) :=
some (.inl (q0, (l3 + 1)))
def f242_43 (h : mH) (l0 : Nat) (l1 : Int32) (l3 : Int32) : Option ((Int32 × Int32) ⊕ (Int32)) :=
f242_44 h l0 l1 l3 0
def f242_39 (h : mH) (l0 : Nat) (l1 : Int32) (l3 : Int32) : Option ((Int32 × Int32) ⊕ (Int32)) :=
f242_44 h l0 l1 l3 1
def f242_4 (h : mH) (l0 : Nat) (l1 : Int32) (s : (Int32 × Int32)) : Option ((Int32 × Int32) ⊕ (Int32)) :=
mGd (Nat.beq (mK h l0).1 12 && true) (
    if ((mI h l0 24) : Int32) ≤ s.2 then
    mX (mGd (true && mIs01 s.1) (some (s.1 : Int32)))
  else 
    if (s.1 : Int32) = 0 then
      f242_43 h l0 l1 s.2
    else 
      mGd (true && true) ((f221 h l1 s.2).bind (fun r1 =>
        if (r1 : Int32) = 0 then
        f242_39 h l0 l1 s.2
      else 
        mGd (true && Nat.beq (mK h l0).1 12) ((f206 h l0 (19 + s.2)).bind (fun r2 =>
          if ((r2 &&& (l1 ^^^ (-1))) : Int32) = 0 then
          f242_39 h l0 l1 s.2
        else 
          f242_43 h l0 l1 s.2)))))
def f242 (h : mH) (l0 : Nat) (l1 : Int32) : Option (Int32) :=
mLoop (f242_4 h l0 l1) mFuel (1, 0)
def f243_32 (h : mH) (l0 : Nat) (l1 : Int32) (l3 : Int32) (q0 : Int32) (q1 : Int32) : Option ((Int32 × Int32) ⊕ (Int32)) :=
some (.inl ((q0 + q1), (l3 + 1)))
def f243_4 (h : mH) (l0 : Nat) (l1 : Int32) (s : (Int32 × Int32)) : Option ((Int32 × Int32) ⊕ (Int32)) :=
mGd (Nat.beq (mK h l0).1 12 && true) (
    if ((mI h l0 24) : Int32) ≤ s.2 then
    mX (mGd (true && true) (some (s.1 : Int32)))
  else 
    mGd (true && true) ((f221 h l1 s.2).bind (fun r1 =>
      if (r1 : Int32) = 0 then
      f243_32 h l0 l1 s.2 s.1 0
    else 
      mGd (true && Nat.beq (mK h l0).1 12) ((f206 h l0 (3 + s.2)).bind (fun r2 =>
        f243_32 h l0 l1 s.2 s.1 r2)))))
def f243 (h : mH) (l0 : Nat) (l1 : Int32) : Option (Int32) :=
mLoop (f243_4 h l0 l1) mFuel (0, 0)
def f244_24 (h : mH) (l0 : Int32) (l2 : Int32) (q0 : Int32) (q1 : Int32) : Option ((Int32 × Int32) ⊕ (Int32)) :=
some (.inl ((q0 + q1), (l2 + 1)))
def f244_4 (h : mH) (l0 : Int32) (s : (Int32 × Int32)) : Option ((Int32 × Int32) ⊕ (Int32)) :=
if (8 : Int32) ≤ s.2 then
    mX (mGd (true && true) (some (s.1 : Int32)))
  else 
    mGd (true && true) ((f221 h l0 s.2).bind (fun r1 =>
      if (r1 : Int32) = 0 then
      f244_24 h l0 s.2 s.1 0
    else 
      f244_24 h l0 s.2 s.1 1))
def f244 (h : mH) (l0 : Int32) : Option (Int32) :=
mLoop (f244_4 h l0) mFuel (0, 0)
def f241_23 (h : mH) : Option (Int32 × mH) :=
mGd (true && true) (some ((-1), h))
def f241_103 (h : mH) (q0 : Int32) : Option (Int32 × mH) :=
mGd (true && true) (some (q0, h))
def f241_81 (h : mH) (l0 : Nat) (l2 : Int32) (l3 : Int32) (l5 : Int32) (q0 : Int32) : Option ((Int32 × Int32) ⊕ (Int32 × mH)) :=
some (.inl (q0, (l5 + 1)))
def f241_79 (h : mH) (l0 : Nat) (l2 : Int32) (l3 : Int32) (l4 : Int32) (l5 : Int32) : Option ((Int32 × Int32) ⊕ (Int32 × mH)) :=
f241_81 h l0 l2 l3 l5 l4
def f241_31 (h : mH) (l0 : Nat) (l2 : Int32) (l3 : Int32) (s : (Int32 × Int32)) : Option ((Int32 × Int32) ⊕ (Int32 × mH)) :=
mGd (Nat.beq (mK h l0).1 12 && true) (
    if (((1 : Int32) <<< ((mI h l0 24) &&& (31 : Int32))) : Int32) ≤ s.2 then
    mX (
if (l3 : Int32) = 0 then
      mGd (true && true) ((f244 h s.1).bind (fun r3 =>
        f241_103 h r3))
    else 
      f241_103 h s.1)
  else 
    mGd (true && Nat.beq (mK h l0).1 12) ((f242 h l0 s.2).bind (fun r4 =>
      if (r4 : Int32) = 0 then
      f241_79 h l0 l2 l3 s.1 s.2
    else 
      mGd (true && Nat.beq (mK h l0).1 12) ((f243 h l0 s.2).bind (fun r5 =>
        if (l2 : Int32) < r5 then
        f241_79 h l0 l2 l3 s.1 s.2
      else 
        mGd (true && true) ((f244 h s.2).bind (fun r6 =>
          mGd (true && true) ((f244 h s.1).bind (fun r7 =>
          if (r6 : Int32) ≤ r7 then
          f241_79 h l0 l2 l3 s.1 s.2
        else 
          f241_81 h l0 l2 l3 s.2 s.2)))))))))
def f241 (h : mH) (l0 : Nat) (l1 : Int32) (l2 : Int32) (l3 : Int32) : Option (Int32 × mH) :=
mGd (Nat.beq (mK h l0).1 12 && true) (
    mGd (true && true) ((f179 (mSI h l0 0 0) l2 0 72).bind (fun r1 =>
    if (r1 : Int32) = 0 then
    f241_23 (mSI h l0 0 0)
  else 
    mGd (true && Nat.beq (mK h l0).1 12) ((f205 (mSI h l0 0 0) l0 l1).bind (fun r2 =>
      if (r2.1 : Int32) = 0 then
      f241_23 r2.2
    else 
      mLoop (f241_31 r2.2 l0 l2 l3) mFuel (0, 0))))))
def f247_37 (h : mH) (l0 : Nat) (l1 : Int32) (l2 : Int32) (l4 : Int32) (q0 : Int32) (q1 : Int32) : Option ((Int32 × Int32) ⊕ (Int32)) :=
some (.inl ((q0 ||| q1), (l4 + 1)))
def f247_5 (h : mH) (l0 : Nat) (l1 : Int32) (l2 : Int32) (s : (Int32 × Int32)) : Option ((Int32 × Int32) ⊕ (Int32)) :=
mGd (Nat.beq (mK h l0).1 12 && true) (
    if ((mI h l0 25) : Int32) ≤ s.2 then
    mX (mGd (true && true) (some ((s.1 &&& (l2 ^^^ (-1))) : Int32)))
  else 
    mGd (true && Nat.beq (mK h l0).1 12) ((f206 h l0 (39 + s.2)).bind (fun r1 =>
      if ((r1 &&& l1) : Int32) = 0 then
      f247_37 h l0 l1 l2 s.2 s.1 0
    else 
      f247_37 h l0 l1 l2 s.2 s.1 ((1 : Int32) <<< (s.2 &&& (31 : Int32))))))
def f247 (h : mH) (l0 : Nat) (l1 : Int32) (l2 : Int32) : Option (Int32) :=
mLoop (f247_5 h l0 l1 l2) mFuel (l1, 0)
def f246_6 (h : mH) (l0 : Nat) (l2 : Int32) (l3 : Int32) (s : (Int32 × Int32)) : Option ((Int32 × Int32) ⊕ (Int32)) :=
if (l2 : Int32) ≤ s.2 then
    mX (mGd (true && true) (some (s.1 : Int32)))
  else 
    mGd (true && Nat.beq (mK h l0).1 12) ((f247 h l0 s.1 l3).bind (fun r1 =>
      some (.inl (r1, (s.2 + 1)))))
def f246 (h : mH) (l0 : Nat) (l1 : Int32) (l2 : Int32) (l3 : Int32) : Option (Int32) :=
mLoop (f246_6 h l0 l2 l3) mFuel (l1, 0)
def f245_44 (h : mH) (q0 : Int32) : Option (Int32 × mH) :=
mGd (true && true) (some (q0, h))
def f245_43 (h : mH) : Option (Int32 × mH) :=
f245_44 h (-1)
def f245 (h : mH) (l0 : Nat) (l1 : Int32) (l2 : Int32) (l3 : Int32) : Option (Int32 × mH) :=
mGd (Nat.beq (mK h l0).1 12 && true) (
    mGd (true && true) ((f179 (mSI h l0 0 0) l3 0 9).bind (fun r1 =>
    if (r1 : Int32) = 0 then
    f245_43 (mSI h l0 0 0)
  else 
    mGd (true && Nat.beq (mK h l0).1 12) ((f205 (mSI h l0 0 0) l0 l1).bind (fun r2 =>
      if (r2.1 : Int32) = 0 then
      f245_43 r2.2
    else 
      mGd (true && Nat.beq (mK r2.2 l0).1 12) ((f226 r2.2 l0 l2).bind (fun r3 =>
        if (r3 : Int32) = 0 then
        f245_43 r2.2
      else 
        mGd (true && Nat.beq (mK r2.2 l0).1 12) ((f246 r2.2 l0 ((1 : Int32) <<< (l2 &&& (31 : Int32))) l3 0).bind (fun r4 =>
          f245_44 r2.2 r4)))))))))
def f248_23 (h : mH) : Option (Int32 × mH) :=
mGd (true && true) (some ((-1), h))
def f248_136 (h : mH) (q0 : Int32) : Option (Int32 × mH) :=
mGd (true && true) (some (q0, h))
def f248_114 (h : mH) (l0 : Nat) (l2 : Int32) (l3 : Int32) (l4 : Int32) (l6 : Int32) (q0 : Int32) : Option ((Int32 × Int32) ⊕ (Int32 × mH)) :=
some (.inl (q0, (l6 + 1)))
def f248_112 (h : mH) (l0 : Nat) (l2 : Int32) (l3 : Int32) (l4 : Int32) (l5 : Int32) (l6 : Int32) : Option ((Int32 × Int32) ⊕ (Int32 × mH)) :=
f248_114 h l0 l2 l3 l4 l6 l5
def f248_87 (h : mH) (l0 : Nat) (l2 : Int32) (l3 : Int32) (l4 : Int32) (l5 : Int32) (l6 : Int32) (q0 : Int32) : Option ((Int32 × Int32) ⊕ (Int32 × mH)) :=
if (q0 : Int32) = 0 then
    f248_112 h l0 l2 l3 l4 l5 l6
  else 
    mGd (true && Nat.beq (mK h l0).1 12) ((f246 h l0 l6 l2 0).bind (fun r6 =>
      if (r6 : Int32) = l4 then
      f248_114 h l0 l2 l3 l4 l6 l6
    else 
      f248_112 h l0 l2 l3 l4 l5 l6))
def f248_82 (h : mH) (l0 : Nat) (l2 : Int32) (l3 : Int32) (l4 : Int32) (l5 : Int32) (l6 : Int32) : Option ((Int32 × Int32) ⊕ (Int32 × mH)) :=
f248_87 h l0 l2 l3 l4 l5 l6 1
def f248_86 (h : mH) (l0 : Nat) (l2 : Int32) (l3 : Int32) (l4 : Int32) (l5 : Int32) (l6 : Int32) : Option ((Int32 × Int32) ⊕ (Int32 × mH)) :=
f248_87 h l0 l2 l3 l4 l5 l6 0
def f248_42 (h : mH) (l0 : Nat) (l2 : Int32) (l3 : Int32) (l4 : Int32) (s : (Int32 × Int32)) : Option ((Int32 × Int32) ⊕ (Int32 × mH)) :=
if (l4 : Int32) < s.2 then
    mX (
if (l3 : Int32) = 0 then
      mGd (true && true) ((f244 h s.1).bind (fun r3 =>
        f248_136 h r3))
    else 
      f248_136 h s.1)
  else 
    mGd (true && true) ((f244 h s.2).bind (fun r4 =>
      mGd (true && true) ((f244 h s.1).bind (fun r5 =>
      if (r4 : Int32) < r5 then
      f248_82 h l0 l2 l3 l4 s.1 s.2
    else 
      mGd (true && true) ((f244 h s.2).bind (fun r7 =>
        mGd (true && true) ((f244 h s.1).bind (fun r8 =>
        if (r7 : Int32) = r8 then
        if (s.1 : Int32) ≤ s.2 then
          f248_86 h l0 l2 l3 l4 s.1 s.2
        else 
          f248_82 h l0 l2 l3 l4 s.1 s.2
      else 
        f248_86 h l0 l2 l3 l4 s.1 s.2))))))))
def f248 (h : mH) (l0 : Nat) (l1 : Int32) (l2 : Int32) (l3 : Int32) : Option (Int32 × mH) :=
mGd (Nat.beq (mK h l0).1 12 && true) (
    mGd (true && true) ((f179 (mSI h l0 0 0) l2 0 9).bind (fun r1 =>
    if (r1 : Int32) = 0 then
    f248_23 (mSI h l0 0 0)
  else 
    mGd (true && Nat.beq (mK h l0).1 12) ((f205 (mSI h l0 0 0) l0 l1).bind (fun r2 =>
      if (r2.1 : Int32) = 0 then
      f248_23 r2.2
    else 
      mGd (Nat.beq (mK r2.2 l0).1 12 && true) (
        mLoop (f248_42 r2.2 l0 l2 l3 (((1 : Int32) <<< ((mI r2.2 l0 25) &&& (31 : Int32))) - 1)) mFuel ((((1 : Int32) <<< ((mI r2.2 l0 25) &&& (31 : Int32))) - 1), 0)))))))
def f250_44 (h : mH) (q0 : Int32) : Option (Int32) :=
mGd (true && mIs01 q0) (some (q0 : Int32))
def f250_43 (h : mH) : Option (Int32) :=
f250_44 h 0
def f250 (h : mH) (l0 : Nat) (l1 : Int32) (l2 : Int32) (l3 : Int32) : Option (Int32) :=
mGd (true && Nat.beq (mK h l0).1 12) ((f220 h l0 l2 l1).bind (fun r1 =>
    if (r1 : Int32) = 0 then
    f250_43 h
  else 
    mGd (true && Nat.beq (mK h l0).1 12) ((f243 h l0 l1).bind (fun r2 =>
      mGd (true && Nat.beq (mK h l0).1 12) ((f206 h l0 (3 + l2)).bind (fun r3 =>
      if (l3 : Int32) < (r2 + r3) then
      f250_43 h
    else 
      mGd ((Nat.beq (mK h l0).1 12 && (mR h l0 40).isSome) && ((Nat.beq (mK h ((mR h l0 40).getD 0)).1 102 && mIn (l1 ||| ((1 : Int32) <<< (l2 &&& (31 : Int32)))) (mK h ((mR h l0 40).getD 0)).2) && true)) (
        if ((mI h ((mR h l0 40).getD 0) (Int32.toNatClampNeg (l1 ||| ((1 : Int32) <<< (l2 &&& (31 : Int32)))))) : Int32) = 0 then
        f250_44 h 1
      else 
        f250_43 h)))))))
def f249_23 (h : mH) : Option (Int32 × mH) :=
mGd (true && true) (some ((-2), h))
def f249_131 (h : mH) (q0 : Int32) : Option (Int32 × mH) :=
mGd (true && true) (some (q0, h))
def f249_79 (h : mH) (l0 : Nat) (l2 : Int32) (l3 : Int32) (l5 : Int32) (l6 : Int32) (q0 : Int32) : Option ((Int32 × Int32) ⊕ ((Int32 × Int32 × mH) ⊕ (Int32 × mH))) :=
some (.inl (q0, (l6 + (-1))))
def f249_55 (h : mH) (l0 : Nat) (l2 : Int32) (l3 : Int32) (l5 : Int32) (s : (Int32 × Int32)) : Option ((Int32 × Int32) ⊕ ((Int32 × Int32 × mH) ⊕ (Int32 × mH))) :=
if (s.2 : Int32) < 0 then
    mX (
mGd ((Nat.beq (mK h l0).1 12 && (mR h l0 40).isSome) && true) (
      if (s.1 : Int32) = (-1) then
      mGd ((Nat.beq (mK h ((mR h l0 40).getD 0)).1 102 && mIn l5 (mK h ((mR h l0 40).getD 0)).2 && mIs01 0) && true) (
        some (.inl (s.1, (l5 + (-1)), (mSI h ((mR h l0 40).getD 0) (Int32.toNatClampNeg l5) 0))))
    else 
      mGd ((Nat.beq (mK h ((mR h l0 40).getD 0)).1 102 && mIn l5 (mK h ((mR h l0 40).getD 0)).2 && mIs01 1) && true) (
        some (.inl (s.1, (l5 + (-1)), (mSI h ((mR h l0 40).getD 0) (Int32.toNatClampNeg l5) 1))))))
  else 
    mGd (true && Nat.beq (mK h l0).1 12) ((f250 h l0 l5 s.2 l2).bind (fun r3 =>
      if (r3 : Int32) = 0 then
      f249_79 h l0 l2 l3 l5 s.2 s.1
    else 
      f249_79 h l0 l2 l3 l5 s.2 s.2))
def f249_39 (l0 : Nat) (l2 : Int32) (l3 : Int32) (s : (Int32 × Int32 × mH)) : Option ((Int32 × Int32 × mH) ⊕ (Int32 × mH)) :=
if (s.2.1 : Int32) < 0 then
    mX (
if (l3 : Int32) = 0 then
      if (s.1 : Int32) = (-1) then
        f249_131 s.2.2 0
      else 
        f249_131 s.2.2 1
    else 
      f249_131 s.2.2 s.1)
  else 
    mGd (Nat.beq (mK s.2.2 l0).1 12 && true) (
      mLoop (f249_55 s.2.2 l0 l2 l3 s.2.1) mFuel ((-1), ((mI s.2.2 l0 24) - 1)))
def f249 (h : mH) (l0 : Nat) (l1 : Int32) (l2 : Int32) (l3 : Int32) : Option (Int32 × mH) :=
mGd (Nat.beq (mK h l0).1 12 && true) (
    mGd (true && true) ((f179 (mSI h l0 0 0) l2 0 72).bind (fun r1 =>
    if (r1 : Int32) = 0 then
    f249_23 (mSI h l0 0 0)
  else 
    mGd (true && Nat.beq (mK h l0).1 12) ((f205 (mSI h l0 0 0) l0 l1).bind (fun r2 =>
      if (r2.1 : Int32) = 0 then
      f249_23 r2.2
    else 
      mGd (Nat.beq (mK r2.2 l0).1 12 && true) (
        mLoop (f249_39 l0 l2 l3) mFuel ((-1), (((1 : Int32) <<< ((mI r2.2 l0 24) &&& (31 : Int32))) - 1), r2.2)))))))
def f252 (h : mH) (l0 : Nat) (l1 : Int32) : Option (Int32) :=
mGd ((Nat.beq (mK h l0).1 12 && true) && true) ((f179 h l1 0 (((1 : Int32) <<< ((mI h l0 24) &&& (31 : Int32))) - 1)).bind (fun r1 =>
    mGd (true && mIs01 r1) (some (r1 : Int32))))
def f253 (h : mH) (l0 : Nat) (l1 : Int32) : Option (Int32) :=
mGd (true && Nat.beq (mK h l0).1 12) ((f243 h l0 l1).bind (fun r1 =>
    mGd (true && Nat.beq (mK h l0).1 12) ((f206 h l0 2).bind (fun r2 =>
    mGd (true && Nat.beq (mK h l0).1 12) ((f206 h l0 2).bind (fun r3 =>
    mGd ((!(r3 == (0 : Int32)) && true) && true) (some ((((r1 + r2) - 1) / r3) : Int32))))))))
def f254_5 (h : mH) (l0 : Int64) (l2 : Int32) (s : (Int64 × Int32)) : Option ((Int64 × Int32) ⊕ (Int64)) :=
if (l2 : Int32) ≤ s.2 then
    mX (mGd (true && true) (some (s.1 : Int64)))
  else 
    some (.inl ((s.1 * l0), (s.2 + 1)))
def f254 (h : mH) (l0 : Int64) (l2 : Int32) : Option (Int64) :=
mLoop (f254_5 h l0 l2) mFuel (1, 0)
def f256_6 (h : mH) (s : (Int64 × Int64)) : Option ((Int64 × Int64) ⊕ (Int64)) :=
if ((lg_cmp s.2 0) : Int32) = 0 then
    mX (mGd (true && true) (some (s.1 : Int64)))
  else 
    mGd (!(s.2 == (0 : Int64)) && true) (
      some (.inl (s.2, (s.1 - s.1 / s.2 * s.2))))
def f256 (h : mH) (l0 : Int64) (l2 : Int64) : Option (Int64) :=
mLoop (f256_6 h) mFuel (l0, l2)
def f255_10 (h : mH) (l0 : Int64) (l2 : Int64) (q0 : Int64) : Option (Int64) :=
mGd (true && true) ((f256 h l2 l0).bind (fun r1 =>
    mGd ((!(r1 == (0 : Int64)) && true) && true) (some ((q0 / r1) : Int64))))
def f255 (h : mH) (l0 : Int64) (l2 : Int64) (l4 : Int32) : Option (Int64) :=
if (l4 : Int32) = 0 then
    f255_10 h l0 l2 l0
  else 
    f255_10 h l0 l2 l2
def f251_42 (h : mH) : Option (Int64 × mH) :=
mGd (true && true) (some ((-1), h))
def f251_122 (h : mH) (l0 : Nat) (l2 : Int32) (l3 : Int32) (l4 : Int32) (l5 : Int32) (l6 : Int64) (l8 : Int64) (l10 : Int32) : Option ((Int64 × Int64 × Int32) ⊕ (Int64 × mH)) :=
some (.inl (l6, l8, (l10 + 1)))
def f251_106 (h : mH) (l0 : Nat) (l2 : Int32) (l3 : Int32) (l4 : Int32) (l5 : Int32) (l6 : Int64) (l8 : Int64) (l10 : Int32) : Option ((Int64 × Int64 × Int32) ⊕ (Int64 × mH)) :=
mGd (!((Int32.toInt64 (l10 + 1)) == (0 : Int64)) && true) (
    f251_122 h l0 l2 l3 l4 l5 l6 ((l8 * (Int32.toInt64 (l3 - l10))) / (Int32.toInt64 (l10 + 1))) l10)
def f251_103 (h : mH) (l0 : Nat) (l2 : Int32) (l3 : Int32) (l4 : Int32) (l5 : Int32) (l8 : Int64) (l10 : Int32) (q0 : Int64) (q1 : Int64) : Option ((Int64 × Int64 × Int32) ⊕ (Int64 × mH)) :=
f251_106 h l0 l2 l3 l4 l5 (q0 + q1) l8 l10
def f251_55 (h : mH) (l0 : Nat) (l2 : Int32) (l3 : Int32) (l4 : Int32) (l5 : Int32) (s : (Int64 × Int64 × Int32)) : Option ((Int64 × Int64 × Int32) ⊕ (Int64 × mH)) :=
if (l3 : Int32) < s.2.2 then
    mX (
mGd (true && true) ((f254 h 10 l3).bind (fun r5 =>
      mGd (true && true) ((f255 h s.1 r5 l5).bind (fun r6 =>
      mGd (true && true) (some (r6, h)))))))
  else 
    mGd (true && Nat.beq (mK h l0).1 12) ((f253 h l0 l2).bind (fun r7 =>
      if (s.2.2 : Int32) < r7 then
      f251_103 h l0 l2 l3 l4 l5 s.2.1 s.2.2 s.1 0
    else 
      mGd (true && true) ((f254 h (10 - (Int32.toInt64 l4)) s.2.2).bind (fun r8 =>
        mGd (true && true) ((f254 h (Int32.toInt64 l4) (l3 - s.2.2)).bind (fun r9 =>
        f251_103 h l0 l2 l3 l4 l5 s.2.1 s.2.2 s.1 ((s.2.1 * r8) * r9)))))))
def f251_52 (h : mH) (l0 : Nat) (l2 : Int32) (l3 : Int32) (l4 : Int32) (l5 : Int32) (l6 : Int64) (l8 : Int64) : Option (Int64 × mH) :=
mLoop (f251_55 h l0 l2 l3 l4 l5) mFuel (l6, l8, 0)
def f251_49 (h : mH) (l0 : Nat) (l2 : Int32) (l3 : Int32) (l4 : Int32) (l5 : Int32) (l6 : Int64) : Option (Int64 × mH) :=
f251_52 h l0 l2 l3 l4 l5 l6 1
def f251 (h : mH) (l0 : Nat) (l1 : Int32) (l2 : Int32) (l3 : Int32) (l4 : Int32) (l5 : Int32) : Option (Int64 × mH) :=
mGd (Nat.beq (mK h l0).1 12 && true) (
    mGd (true && true) ((f179 (mSI h l0 0 0) l3 1 9).bind (fun r1 =>
    if (r1 : Int32) = 0 then
    f251_42 (mSI h l0 0 0)
  else 
    mGd (true && true) ((f179 (mSI h l0 0 0) l4 0 10).bind (fun r2 =>
      if (r2 : Int32) = 0 then
      f251_42 (mSI h l0 0 0)
    else 
      mGd (true && Nat.beq (mK h l0).1 12) ((f205 (mSI h l0 0 0) l0 l1).bind (fun r3 =>
        if (r3.1 : Int32) = 0 then
        f251_42 r3.2
      else 
        mGd (true && Nat.beq (mK r3.2 l0).1 12) ((f252 r3.2 l0 l2).bind (fun r4 =>
          if (r4 : Int32) = 0 then
          f251_42 r3.2
        else 
          f251_49 r3.2 l0 l2 l3 l4 l5 0)))))))))
def f258 (h : mH) (l0 : Nat) (l1 : Int32) : Option (Int32 × mH) :=
mGd (Nat.beq (mK h l0).1 12 && true) (
    mGd (true && Nat.beq (mK h l0).1 12) ((f181 (mSI h l0 41 l1) l0 2 l1).bind (fun r1 =>
    mGd (true && mIs01 r1) (some (r1, (mSI h l0 41 l1))))))
def f259 (h : mH) (l0 : Nat) : Option (Int32) :=
mGd (((Nat.beq (mK h l0).1 12 && (mR h l0 8).isSome) && (Nat.beq (mK h l0).1 12 && ((Nat.beq (mK h ((mR h l0 8).getD 0)).1 100 && mIn (17 * (mI h l0 41)) (mK h ((mR h l0 8).getD 0)).2) && true))) && true) (some ((mI h ((mR h l0 8).getD 0) (Int32.toNatClampNeg (17 * (mI h l0 41)))) : Int32))
def f260 (h : mH) (l0 : Nat) (l1 : Int32) (l2 : Int32) : Option (Int32) :=
mGd (((Nat.beq (mK h l0).1 12 && (mR h l0 8).isSome) && (Nat.beq (mK h l0).1 12 && ((Nat.beq (mK h ((mR h l0 8).getD 0)).1 100 && mIn ((((17 * (mI h l0 41)) + 1) + (2 * l1)) + l2) (mK h ((mR h l0 8).getD 0)).2) && true))) && true) (some ((mI h ((mR h l0 8).getD 0) (Int32.toNatClampNeg ((((17 * (mI h l0 41)) + 1) + (2 * l1)) + l2))) : Int32))
def f257_34 (h : mH) (q0 : Int32) : Option (Int32 × mH) :=
mGd (true && true) (some (q0, h))
def f257_69 (h : mH) (q0 : Int32) : Option (Int32 × mH) :=
mGd (true && true) (some (q0, h))
def f257_67 (h : mH) : Option (Int32 × mH) :=
f257_69 h (-2)
def f257 (h : mH) (l0 : Nat) (l1 : Int32) (l2 : Int32) (l3 : Int32) : Option (Int32 × mH) :=
mGd (Nat.beq (mK h l0).1 12 && true) (
    mGd (true && Nat.beq (mK h l0).1 12) ((f258 (mSI h l0 0 0) l0 l1).bind (fun r1 =>
    if (r1.1 : Int32) = 0 then
    mGd (true && true) (some ((-2), r1.2))
  else 
    if (l2 : Int32) = (-1) then
      if (l3 : Int32) = 0 then
        mGd (true && Nat.beq (mK r1.2 l0).1 12) ((f259 r1.2 l0).bind (fun r2 =>
          f257_34 r1.2 r2))
      else 
        f257_34 r1.2 (-2)
    else 
      mGd (true && Nat.beq (mK r1.2 l0).1 12) ((f259 r1.2 l0).bind (fun r3 =>
        mGd (true && true) ((f179 r1.2 l2 0 (r3 - 1)).bind (fun r4 =>
        if (r4 : Int32) = 0 then
        f257_67 r1.2
      else 
        mGd (true && true) ((f179 r1.2 l3 0 1).bind (fun r5 =>
          if (r5 : Int32) = 0 then
          f257_67 r1.2
        else 
          mGd (true && Nat.beq (mK r1.2 l0).1 12) ((f260 r1.2 l0 l2 l3).bind (fun r6 =>
            f257_69 r1.2 r6)))))))))))
def f263 (h : mH) (l0 : Nat) (l1 : Int32) : Option (Int32) :=
mGd ((!(10 == (0 : Int32)) && (!(10 == (0 : Int32)) && true)) && Nat.beq (mK h l0).1 12) ((f246 h l0 ((1 : Int32) <<< ((l1 / 10) &&& (31 : Int32))) (l1 - l1 / 10 * 10) 0).bind (fun r1 =>
    mGd (true && true) (some (r1 : Int32))))
def f262_16 (h : mH) : Option (Int32 × mH) :=
mGd (true && mIs01 0) (some (0, h))
def f262_171 (h : mH) (l0 : Nat) (l3 : Int32) : Option ((Int32 × mH) ⊕ (Int32 × mH)) :=
some (.inl ((l3 + 1), h))
def f262_125 (h : mH) (l0 : Nat) (l3 : Int32) (l5 : Int32) (q0 : Int32) : Option ((Int32 × Int32) ⊕ ((Int32 × mH) ⊕ (Int32 × mH))) :=
some (.inl (q0, (l5 + 1)))
def f262_124 (h : mH) (l0 : Nat) (l3 : Int32) (l5 : Int32) : Option ((Int32 × Int32) ⊕ ((Int32 × mH) ⊕ (Int32 × mH))) :=
f262_125 h l0 l3 l5 0
def f262_117 (h : mH) (l0 : Nat) (l3 : Int32) (l5 : Int32) (q0 : Int32) (q1 : Int32) : Option ((Int32 × Int32) ⊕ ((Int32 × mH) ⊕ (Int32 × mH))) :=
if (q0 : Int32) = q1 then
    f262_125 h l0 l3 l5 1
  else 
    f262_124 h l0 l3 l5
def f262_73 (h : mH) (l0 : Nat) (l3 : Int32) (s : (Int32 × Int32)) : Option ((Int32 × Int32) ⊕ ((Int32 × mH) ⊕ (Int32 × mH))) :=
mGd (true && Nat.beq (mK h l0).1 12) ((f259 h l0).bind (fun r4 =>
    if (r4 : Int32) ≤ s.2 then
    mX (
mGd ((Nat.beq (mK h l0).1 12 && (mR h l0 42).isSome) && (Nat.beq (mK h l0).1 12 && true)) (
      if (s.1 : Int32) = 0 then
      mGd ((Nat.beq (mK h ((mR h l0 42).getD 0)).1 100 && mIn (mI h l0 43) (mK h ((mR h l0 42).getD 0)).2) && true) (
        mGd (Nat.beq (mK h l0).1 12 && true) (
        if (s.1 : Int32) = 0 then
        mGd (Nat.beq (mK h l0).1 12 && true) (
          f262_171 (mSI (mSI h ((mR h l0 42).getD 0) (Int32.toNatClampNeg (mI h l0 43)) 0) l0 43 ((mI (mSI h ((mR h l0 42).getD 0) (Int32.toNatClampNeg (mI h l0 43)) 0) l0 43) + 0)) l0 l3)
      else 
        mGd (Nat.beq (mK h l0).1 12 && true) (
          f262_171 (mSI (mSI h ((mR h l0 42).getD 0) (Int32.toNatClampNeg (mI h l0 43)) 0) l0 43 ((mI (mSI h ((mR h l0 42).getD 0) (Int32.toNatClampNeg (mI h l0 43)) 0) l0 43) + 1)) l0 l3)))
    else 
      mGd ((Nat.beq (mK h ((mR h l0 42).getD 0)).1 100 && mIn (mI h l0 43) (mK h ((mR h l0 42).getD 0)).2) && true) (
        mGd (Nat.beq (mK h l0).1 12 && true) (
        if (s.1 : Int32) = 0 then
        mGd (Nat.beq (mK h l0).1 12 && true) (
          f262_171 (mSI (mSI h ((mR h l0 42).getD 0) (Int32.toNatClampNeg (mI h l0 43)) l3) l0 43 ((mI (mSI h ((mR h l0 42).getD 0) (Int32.toNatClampNeg (mI h l0 43)) l3) l0 43) + 0)) l0 l3)
      else 
        mGd (Nat.beq (mK h l0).1 12 && true) (
          f262_171 (mSI (mSI h ((mR h l0 42).getD 0) (Int32.toNatClampNeg (mI h l0 43)) l3) l0 43 ((mI (mSI h ((mR h l0 42).getD 0) (Int32.toNatClampNeg (mI h l0 43)) l3) l0 43) + 1)) l0 l3)))))
  else 
    if (s.1 : Int32) = 0 then
      f262_124 h l0 l3 s.2
    else 
      mGd (true && Nat.beq (mK h l0).1 12) ((f263 h l0 l3).bind (fun r5 =>
        mGd (true && Nat.beq (mK h l0).1 12) ((f260 h l0 s.2 1).bind (fun r6 =>
        mGd (true && true) ((f221 h r5 r6).bind (fun r7 =>
        mGd (true && Nat.beq (mK h l0).1 12) ((f260 h l0 s.2 0).bind (fun r8 =>
        if (r8 : Int32) = 0 then
        f262_117 h l0 l3 s.2 r7 1
      else 
        f262_117 h l0 l3 s.2 r7 0))))))))))
def f262_56 (l0 : Nat) (s : (Int32 × mH)) : Option ((Int32 × mH) ⊕ (Int32 × mH)) :=
mGd (Nat.beq (mK s.2 l0).1 12 && true) (
    if ((10 * (mI s.2 l0 25)) : Int32) ≤ s.1 then
    mX (mGd (true && mIs01 1) (some (1, s.2)))
  else 
    mLoop (f262_73 s.2 l0 s.1) mFuel (1, 0))
def f262_20 (h : mH) (l0 : Nat) (s : (Int32)) : Option ((Int32) ⊕ (Int32 × mH)) :=
mGd (true && Nat.beq (mK h l0).1 12) ((f259 h l0).bind (fun r3 =>
    if (r3 : Int32) ≤ s then
    mX (
mGd (Nat.beq (mK h l0).1 12 && true) (
      mLoop (f262_56 l0) mFuel (0, (mSI h l0 43 0))))
  else 
    mGd (true && Nat.beq (mK h l0).1 12) ((f260 h l0 s 1).bind (fun r9 =>
      mGd (true && Nat.beq (mK h l0).1 12) ((f226 h l0 r9).bind (fun r10 =>
      if (r10 : Int32) = 0 then
      mX (mGd (true && mIs01 0) (some (0, h)))
    else 
      some (.inl ((s + 1)))))))))
def f262 (h : mH) (l0 : Nat) (l1 : Int32) (l2 : Int32) : Option (Int32 × mH) :=
mGd (true && Nat.beq (mK h l0).1 12) ((f258 h l0 l2).bind (fun r1 =>
    if (r1.1 : Int32) = 0 then
    f262_16 r1.2
  else 
    mGd (true && Nat.beq (mK r1.2 l0).1 12) ((f205 r1.2 l0 l1).bind (fun r2 =>
      if (r2.1 : Int32) = 0 then
      f262_16 r2.2
    else 
      mLoop (f262_20 r2.2 l0) mFuel (0)))))
def f264_49 (h : mH) (l0 : Nat) (l2 : Int32) (q0 : Int32) : Option ((Int32 × Int32) ⊕ (Int32)) :=
some (.inl (q0, (l2 + 1)))
def f264_23 (h : mH) (l0 : Nat) (s : (Int32 × Int32)) : Option ((Int32 × Int32) ⊕ (Int32)) :=
mGd (Nat.beq (mK h l0).1 12 && true) (
    if ((mI h l0 43) : Int32) ≤ s.2 then
    mX (mGd (true && true) (some (s.1 : Int32)))
  else 
    mGd ((Nat.beq (mK h l0).1 12 && (mR h l0 42).isSome) && ((Nat.beq (mK h ((mR h l0 42).getD 0)).1 100 && mIn s.2 (mK h ((mR h l0 42).getD 0)).2) && (!(10 == (0 : Int32)) && true))) (
      if (((mI h ((mR h l0 42).getD 0) (Int32.toNatClampNeg s.2)) / 10) : Int32) = s.1 then
      f264_49 h l0 s.2 s.1
    else 
      f264_49 h l0 s.2 (-1)))
def f264_20 (h : mH) (l0 : Nat) (q0 : Int32) : Option (Int32) :=
mLoop (f264_23 h l0) mFuel (q0, 0)
def f264 (h : mH) (l0 : Nat) : Option (Int32) :=
mGd (Nat.beq (mK h l0).1 12 && true) (
    if ((mI h l0 43) : Int32) = 0 then
    f264_20 h l0 (-1)
  else 
    mGd ((Nat.beq (mK h l0).1 12 && (mR h l0 42).isSome) && ((Nat.beq (mK h ((mR h l0 42).getD 0)).1 100 && mIn 0 (mK h ((mR h l0 42).getD 0)).2) && (!(10 == (0 : Int32)) && true))) (
      f264_20 h l0 ((mI h ((mR h l0 42).getD 0) (Int32.toNatClampNeg 0)) / 10)))
def f266_35 (h : mH) (l0 : Nat) (l1 : Int32) (l3 : Int32) (q0 : Int32) (q1 : Int32) : Option ((Int32 × Int32) ⊕ (Int32)) :=
some (.inl ((q0 + q1), (l3 + 1)))
def f266_4 (h : mH) (l0 : Nat) (l1 : Int32) (s : (Int32 × Int32)) : Option ((Int32 × Int32) ⊕ (Int32)) :=
mGd (Nat.beq (mK h l0).1 12 && true) (
    if ((mI h l0 43) : Int32) ≤ s.2 then
    mX (mGd (true && true) (some (s.1 : Int32)))
  else 
    mGd (((Nat.beq (mK h l0).1 12 && (mR h l0 42).isSome) && ((Nat.beq (mK h ((mR h l0 42).getD 0)).1 100 && mIn s.2 (mK h ((mR h l0 42).getD 0)).2) && true)) && Nat.beq (mK h l0).1 12) ((f263 h l0 (mI h ((mR h l0 42).getD 0) (Int32.toNatClampNeg s.2))).bind (fun r1 =>
      mGd (true && true) ((f221 h r1 l1).bind (fun r2 =>
      if (r2 : Int32) = 0 then
      f266_35 h l0 l1 s.2 s.1 0
    else 
      f266_35 h l0 l1 s.2 s.1 1)))))
def f266 (h : mH) (l0 : Nat) (l1 : Int32) : Option (Int32) :=
mLoop (f266_4 h l0 l1) mFuel (0, 0)
def f265_68 (h : mH) (l1 : Int32) : Option (Int32) :=
mGd (true && true) (some (l1 : Int32))
def f265_54 (h : mH) (l0 : Nat) (l2 : Int32) (l3 : Int32) (l4 : Int32) (q0 : Int32) : Option ((Int32 × Int32 × Int32) ⊕ (Int32)) :=
mGd (true && true) ((f195 h l2 l4).bind (fun r4 =>
    some (.inl (q0, r4, (l3 + 1)))))
def f265_8 (h : mH) (l0 : Nat) (s : (Int32 × Int32 × Int32)) : Option ((Int32 × Int32 × Int32) ⊕ (Int32)) :=
mGd (Nat.beq (mK h l0).1 12 && true) (
    if ((mI h l0 25) : Int32) ≤ s.2.2 then
    mX (f265_68 h s.1)
  else 
    mGd (Nat.beq (mK h l0).1 12 && true) (
      if ((mI h l0 43) : Int32) ≤ 0 then
      mX (f265_68 h s.1)
    else 
      mGd (true && Nat.beq (mK h l0).1 12) ((f266 h l0 s.2.2).bind (fun r1 =>
        mGd ((Nat.beq (mK h l0).1 12 && true) && Nat.beq (mK h l0).1 12) ((f266 h l0 s.2.2).bind (fun r2 =>
        mGd (true && true) ((f196 h r1 ((mI h l0 43) - r2)).bind (fun r3 =>
        if (s.2.1 : Int32) ≤ r3 then
        f265_54 h l0 s.2.1 s.2.2 r3 s.1
      else 
        f265_54 h l0 s.2.1 s.2.2 r3 s.2.2))))))))
def f265 (h : mH) (l0 : Nat) : Option (Int32) :=
mLoop (f265_8 h l0) mFuel ((-1), 1000000, 0)
def f261_48 (h : mH) (q0 : Int32) : Option (Int32 × mH) :=
mGd (true && true) (some (q0, h))
def f261 (h : mH) (l0 : Nat) (l1 : Int32) (l2 : Int32) (l3 : Int32) : Option (Int32 × mH) :=
mGd (Nat.beq (mK h l0).1 12 && true) (
    mGd (true && Nat.beq (mK h l0).1 12) ((f262 (mSI h l0 0 0) l0 l1 l2).bind (fun r1 =>
    if (r1.1 : Int32) = 0 then
    mGd (true && true) (some ((-2), r1.2))
  else 
    if (l3 : Int32) < 10 then
      if (l3 : Int32) = 0 then
        mGd ((Nat.beq (mK r1.2 l0).1 12 && true) && true) (some ((mI r1.2 l0 43), r1.2))
      else if (l3 : Int32) = 1 then
        mGd (true && Nat.beq (mK r1.2 l0).1 12) ((f264 r1.2 l0).bind (fun r2 =>
          mGd (true && true) (some (r2, r1.2))))
      else if (l3 : Int32) = 2 then
        mGd (true && Nat.beq (mK r1.2 l0).1 12) ((f265 r1.2 l0).bind (fun r3 =>
          mGd (true && true) (some (r3, r1.2))))
      else 
        mGd (true && true) (some ((-2), r1.2))
    else 
      mGd (Nat.beq (mK r1.2 l0).1 12 && true) (
        if ((mI r1.2 l0 43) : Int32) ≤ (l3 - 10) then
        f261_48 r1.2 (-2)
      else 
        mGd ((Nat.beq (mK r1.2 l0).1 12 && (mR r1.2 l0 42).isSome) && ((Nat.beq (mK r1.2 ((mR r1.2 l0 42).getD 0)).1 100 && mIn (l3 - 10) (mK r1.2 ((mR r1.2 l0 42).getD 0)).2) && true)) (
          f261_48 r1.2 (mI r1.2 ((mR r1.2 l0 42).getD 0) (Int32.toNatClampNeg (l3 - 10))))))))
def f269 (h : mH) (l0 : Nat) (l1 : Int32) : Option (Int32 × mH) :=
mGd (Nat.beq (mK h l0).1 12 && (Nat.beq (mK h l0).1 12 && true)) (
    mGd ((Nat.beq (mK h l0).1 12 && (!(l1 == (0 : Int32)) && true)) && true) (some ((((Int32.toUInt32 (mI (mSI h l0 44 (((mI h l0 44) * 1103515245) + 12345)) l0 44) >>> (Int32.toUInt32 16 &&& Int32.toUInt32 31)).toInt32) - ((Int32.toUInt32 (mI (mSI h l0 44 (((mI h l0 44) * 1103515245) + 12345)) l0 44) >>> (Int32.toUInt32 16 &&& Int32.toUInt32 31)).toInt32) / l1 * l1), (mSI h l0 44 (((mI h l0 44) * 1103515245) + 12345)))))
def f268_135 (h : mH) : Option (Unit × mH) :=
mGd (true && true) (some ((), h))
def f268_97 (h : mH) (l0 : Nat) : Option (Unit × mH) :=
mGd (Nat.beq (mK h l0).1 12 && true) (
    if ((mI h l0 24) : Int32) ≤ 0 then
    f268_135 h
  else 
    mGd (Nat.beq (mK h l0).1 12 && true) (
      if ((mI h l0 25) : Int32) ≤ 0 then
      f268_135 h
    else 
      mGd ((Nat.beq (mK h l0).1 12 && true) && Nat.beq (mK h l0).1 12) ((f269 h l0 (mI h l0 24)).bind (fun r6 =>
        mGd ((Nat.beq (mK r6.2 l0).1 12 && true) && Nat.beq (mK r6.2 l0).1 12) ((f269 r6.2 l0 (mI r6.2 l0 25)).bind (fun r7 =>
        mGd (true && Nat.beq (mK r7.2 l0).1 12) ((f216 r7.2 l0 3 r6.1 r7.1).bind (fun r8 =>
        f268_135 r8.2))))))))
def f268 (h : mH) (l0 : Nat) : Option (Unit × mH) :=
mGd (true && Nat.beq (mK h l0).1 12) ((f269 h l0 8).bind (fun r1 =>
    if (r1.1 : Int32) = 3 then
    mGd (true && Nat.beq (mK r1.2 l0).1 12) ((f269 r1.2 l0 6).bind (fun r2 =>
      mGd (true && Nat.beq (mK r2.2 l0).1 12) ((f216 r2.2 l0 2 r2.1 (-1)).bind (fun r3 =>
      f268_135 r3.2))))
  else 
    if (r1.1 : Int32) = 6 then
      mGd (true && Nat.beq (mK r1.2 l0).1 12) ((f216 r1.2 l0 4 (-1) (-1)).bind (fun r4 =>
        f268_135 r4.2))
    else 
      if (r1.1 : Int32) = 7 then
        mGd (true && Nat.beq (mK r1.2 l0).1 12) ((f227 r1.2 l0).bind (fun r5 =>
          f268_135 r5.2))
      else 
        mGd (Nat.beq (mK r1.2 l0).1 12 && true) (
          if ((mI r1.2 l0 24) : Int32) ≤ 0 then
          f268_97 r1.2 l0
        else 
          if (3 : Int32) ≤ r1.1 then
            f268_97 r1.2 l0
          else 
            if (2 : Int32) ≤ r1.1 then
              mGd ((Nat.beq (mK r1.2 l0).1 12 && true) && Nat.beq (mK r1.2 l0).1 12) ((f269 r1.2 l0 (mI r1.2 l0 24)).bind (fun r9 =>
                mGd (true && Nat.beq (mK r9.2 l0).1 12) ((f216 r9.2 l0 1 r9.1 (-1)).bind (fun r10 =>
                f268_135 r10.2))))
            else 
              mGd ((Nat.beq (mK r1.2 l0).1 12 && true) && Nat.beq (mK r1.2 l0).1 12) ((f269 r1.2 l0 (mI r1.2 l0 24)).bind (fun r11 =>
                mGd (true && Nat.beq (mK r11.2 l0).1 12) ((f216 r11.2 l0 0 r11.1 (-1)).bind (fun r12 =>
                f268_135 r12.2)))))))
def f267_23 (h : mH) : Option (Int32 × mH) :=
mGd (true && true) (some ((-2), h))
def f267_34 (l0 : Nat) (l3 : Int32) (l4 : Int32) (s : (Int32 × mH)) : Option ((Int32 × mH) ⊕ (Int32 × mH)) :=
if (l3 : Int32) ≤ s.1 then
    mX (
mGd (true && Nat.beq (mK s.2 l0).1 12) ((f230 s.2 l0 l4).bind (fun r3 =>
      mGd (true && true) (some (r3, s.2)))))
  else 
    mGd (true && Nat.beq (mK s.2 l0).1 12) ((f268 s.2 l0).bind (fun r4 =>
      some (.inl ((s.1 + 1), r4.2))))
def f267 (h : mH) (l0 : Nat) (l1 : Int32) (l2 : Int32) (l3 : Int32) (l4 : Int32) : Option (Int32 × mH) :=
mGd (Nat.beq (mK h l0).1 12 && true) (
    mGd (true && true) ((f179 (mSI h l0 0 0) l3 0 60).bind (fun r1 =>
    if (r1 : Int32) = 0 then
    f267_23 (mSI h l0 0 0)
  else 
    mGd (true && Nat.beq (mK h l0).1 12) ((f205 (mSI h l0 0 0) l0 l1).bind (fun r2 =>
      if (r2.1 : Int32) = 0 then
      f267_23 r2.2
    else 
      mGd (Nat.beq (mK r2.2 l0).1 12 && true) (
        mLoop (f267_34 l0 l3 l4) mFuel (0, (mSI r2.2 l0 44 l2))))))))
def f271_38 (h : mH) (l0 : Nat) (l3 : Int32) (q0 : Int32) (q1 : Int32) : Option ((Int32 × Int32) ⊕ (Int32)) :=
some (.inl ((q0 ||| q1), (l3 + (-1))))
def f271_13 (h : mH) (l0 : Nat) (s : (Int32 × Int32)) : Option ((Int32 × Int32) ⊕ (Int32)) :=
if (s.2 : Int32) < 0 then
    mX (mGd (true && true) (some (s.1 : Int32)))
  else 
    mGd (true && true) ((f221 h s.1 s.2).bind (fun r2 =>
      if (r2 : Int32) = 0 then
      f271_38 h l0 s.2 s.1 0
    else 
      mGd (true && Nat.beq (mK h l0).1 12) ((f206 h l0 (19 + s.2)).bind (fun r3 =>
        f271_38 h l0 s.2 s.1 r3))))
def f271 (h : mH) (l0 : Nat) (l1 : Int32) : Option (Int32) :=
mGd (true && Nat.beq (mK h l0).1 12) ((f206 h l0 (19 + l1)).bind (fun r1 =>
    mLoop (f271_13 h l0) mFuel (r1, (l1 - 1))))
def f272_255 (h : mH) (q0 : Int32) : Option (Int32 × mH) :=
mGd (true && true) (some (q0, h))
def f272_222 (h : mH) (l0 : Nat) (l2 : Int32) (l3 : Int32) (l5 : Int32) : Option ((Int32 × mH) ⊕ (Int32 × mH)) :=
some (.inl ((l5 + 1), h))
def f272_216 (h : mH) (l0 : Nat) (l2 : Int32) (l3 : Int32) (l5 : Int32) (l6 : Int32) : Option ((Int32 × mH) ⊕ ((Int32 × mH) ⊕ (Int32 × mH))) :=
some (.inl ((l6 + 1), h))
def f272_185 (h : mH) (l0 : Nat) (l2 : Int32) (l3 : Int32) (l5 : Int32) (l6 : Int32) (q0 : Int32) : Option ((Int32 × mH) ⊕ ((Int32 × mH) ⊕ (Int32 × mH))) :=
mGd (((Nat.beq (mK h l0).1 12 && (mR h l0 45).isSome) && ((Nat.beq (mK h l0).1 12 && (mR h l0 45).isSome) && ((Nat.beq (mK h ((mR h l0 45).getD 0)).1 100 && mIn (l5 ||| ((1 : Int32) <<< (l6 &&& (31 : Int32)))) (mK h ((mR h l0 45).getD 0)).2) && true))) && true) ((f195 h (mI h ((mR h l0 45).getD 0) (Int32.toNatClampNeg (l5 ||| ((1 : Int32) <<< (l6 &&& (31 : Int32)))))) q0).bind (fun r3 =>
    mGd ((Nat.beq (mK h ((mR h l0 45).getD 0)).1 100 && mIn (l5 ||| ((1 : Int32) <<< (l6 &&& (31 : Int32)))) (mK h ((mR h l0 45).getD 0)).2) && true) (
    f272_216 (mSI h ((mR h l0 45).getD 0) (Int32.toNatClampNeg (l5 ||| ((1 : Int32) <<< (l6 &&& (31 : Int32))))) r3) l0 l2 l3 l5 l6)))
def f272_146 (h : mH) (l0 : Nat) (l2 : Int32) (l3 : Int32) (l5 : Int32) (l6 : Int32) (l7 : Int32) (q0 : Int32) : Option ((Int32 × mH) ⊕ ((Int32 × mH) ⊕ (Int32 × mH))) :=
if (q0 : Int32) = 0 then
    mGd ((Nat.beq (mK h l0).1 12 && (mR h l0 45).isSome) && ((Nat.beq (mK h ((mR h l0 45).getD 0)).1 100 && mIn l5 (mK h ((mR h l0 45).getD 0)).2) && (!(100 == (0 : Int32)) && true))) (
      f272_185 h l0 l2 l3 l5 l6 (((((mI h ((mR h l0 45).getD 0) (Int32.toNatClampNeg l5)) / 100) * 100) + 100) + l7))
  else 
    mGd ((Nat.beq (mK h l0).1 12 && (mR h l0 45).isSome) && ((Nat.beq (mK h ((mR h l0 45).getD 0)).1 100 && mIn l5 (mK h ((mR h l0 45).getD 0)).2) && true)) (
      f272_185 h l0 l2 l3 l5 l6 ((mI h ((mR h l0 45).getD 0) (Int32.toNatClampNeg l5)) + l7))
def f272_145 (h : mH) (l0 : Nat) (l2 : Int32) (l3 : Int32) (l5 : Int32) (l6 : Int32) (l7 : Int32) : Option ((Int32 × mH) ⊕ ((Int32 × mH) ⊕ (Int32 × mH))) :=
f272_146 h l0 l2 l3 l5 l6 l7 0
def f272_65 (l0 : Nat) (l2 : Int32) (l3 : Int32) (l5 : Int32) (s : (Int32 × mH)) : Option ((Int32 × mH) ⊕ ((Int32 × mH) ⊕ (Int32 × mH))) :=
mGd (Nat.beq (mK s.2 l0).1 12 && true) (
    if ((mI s.2 l0 24) : Int32) ≤ s.1 then
    mX (f272_222 s.2 l0 l2 l3 l5)
  else 
    mGd ((Nat.beq (mK s.2 l0).1 12 && (mR s.2 l0 45).isSome) && ((Nat.beq (mK s.2 ((mR s.2 l0 45).getD 0)).1 100 && mIn l5 (mK s.2 ((mR s.2 l0 45).getD 0)).2) && true)) (
      if (1000000 : Int32) ≤ (mI s.2 ((mR s.2 l0 45).getD 0) (Int32.toNatClampNeg l5)) then
      mX (f272_222 s.2 l0 l2 l3 l5)
    else 
      mGd (true && Nat.beq (mK s.2 l0).1 12) ((f206 s.2 l0 (3 + s.1)).bind (fun r1 =>
        mGd (true && Nat.beq (mK s.2 l0).1 12) ((f220 s.2 l0 s.1 l5).bind (fun r2 =>
        if (r2 : Int32) = 0 then
        f272_216 s.2 l0 l2 l3 l5 s.1
      else 
        if (l2 : Int32) < r1 then
          f272_216 s.2 l0 l2 l3 l5 s.1
        else 
          mGd ((Nat.beq (mK s.2 l0).1 12 && (mR s.2 l0 45).isSome) && ((Nat.beq (mK s.2 ((mR s.2 l0 45).getD 0)).1 100 && mIn l5 (mK s.2 ((mR s.2 l0 45).getD 0)).2) && (!(100 == (0 : Int32)) && true))) (
            if (l2 : Int32) < (((mI s.2 ((mR s.2 l0 45).getD 0) (Int32.toNatClampNeg l5)) - (mI s.2 ((mR s.2 l0 45).getD 0) (Int32.toNatClampNeg l5)) / 100 * 100) + r1) then
            f272_145 s.2 l0 l2 l3 l5 s.1 r1
          else 
            mGd ((Nat.beq (mK s.2 l0).1 12 && (mR s.2 l0 45).isSome) && ((Nat.beq (mK s.2 ((mR s.2 l0 45).getD 0)).1 100 && mIn l5 (mK s.2 ((mR s.2 l0 45).getD 0)).2) && true)) (
              if ((mI s.2 ((mR s.2 l0 45).getD 0) (Int32.toNatClampNeg l5)) : Int32) ≤ 0 then
              f272_145 s.2 l0 l2 l3 l5 s.1 r1
            else 
              f272_146 s.2 l0 l2 l3 l5 s.1 r1 1))))))))
def f272_56 (l0 : Nat) (l2 : Int32) (l3 : Int32) (s : (Int32 × mH)) : Option ((Int32 × mH) ⊕ (Int32 × mH)) :=
if (l3 : Int32) < s.1 then
    mX (
mGd ((Nat.beq (mK s.2 l0).1 12 && (mR s.2 l0 45).isSome) && ((Nat.beq (mK s.2 ((mR s.2 l0 45).getD 0)).1 100 && mIn l3 (mK s.2 ((mR s.2 l0 45).getD 0)).2) && true)) (
      if ((mI s.2 ((mR s.2 l0 45).getD 0) (Int32.toNatClampNeg l3)) : Int32) < 1000000 then
      mGd ((Nat.beq (mK s.2 l0).1 12 && (mR s.2 l0 45).isSome) && ((Nat.beq (mK s.2 ((mR s.2 l0 45).getD 0)).1 100 && mIn l3 (mK s.2 ((mR s.2 l0 45).getD 0)).2) && (!(100 == (0 : Int32)) && true))) (
        f272_255 s.2 ((mI s.2 ((mR s.2 l0 45).getD 0) (Int32.toNatClampNeg l3)) / 100))
    else 
      f272_255 s.2 1000000))
  else 
    mLoop (f272_65 l0 l2 l3 s.1) mFuel (0, s.2)
def f272_19 (l0 : Nat) (l2 : Int32) (l3 : Int32) (l4 : Int32) (s : (Int32 × mH)) : Option ((Int32 × mH) ⊕ (Int32 × mH)) :=
if (l3 : Int32) < s.1 then
    mX (mLoop (f272_56 l0 l2 l3) mFuel (l4, s.2))
  else 
    mGd ((Nat.beq (mK s.2 l0).1 12 && (mR s.2 l0 45).isSome) && true) (
      if (s.1 : Int32) = l4 then
      mGd ((Nat.beq (mK s.2 ((mR s.2 l0 45).getD 0)).1 100 && mIn s.1 (mK s.2 ((mR s.2 l0 45).getD 0)).2) && true) (
        some (.inl ((s.1 + 1), (mSI s.2 ((mR s.2 l0 45).getD 0) (Int32.toNatClampNeg s.1) 0))))
    else 
      mGd ((Nat.beq (mK s.2 ((mR s.2 l0 45).getD 0)).1 100 && mIn s.1 (mK s.2 ((mR s.2 l0 45).getD 0)).2) && true) (
        some (.inl ((s.1 + 1), (mSI s.2 ((mR s.2 l0 45).getD 0) (Int32.toNatClampNeg s.1) 1000000)))))
def f272 (h : mH) (l0 : Nat) (l1 : Int32) (l2 : Int32) : Option (Int32 × mH) :=
mGd (Nat.beq (mK h l0).1 12 && true) (
    mLoop (f272_19 l0 l2 (((1 : Int32) <<< ((mI h l0 24) &&& (31 : Int32))) - 1) ((((1 : Int32) <<< ((mI h l0 24) &&& (31 : Int32))) - 1) &&& (l1 ^^^ (-1)))) mFuel (0, h))
def f273_68 (h : mH) (q0 : Int32) : Option (Int32 × mH) :=
mGd (true && true) (some (q0, h))
def f273_40 (h : mH) (l0 : Nat) (l1 : Int32) (l2 : Int32) (l3 : Int32) : Option (Int32 × mH) :=
if (l1 : Int32) = 0 then
    mGd (Nat.beq (mK h l0).1 12 && true) (
      if ((mI h l0 26) : Int32) = l3 then
      f273_68 h l2
    else 
      f273_68 h (-1))
  else 
    mGd (Nat.beq (mK h l0).1 12 && true) (
      f273_68 h (l3 &&& ((mI h l0 26) ^^^ (-1))))
def f273_15 (l0 : Nat) (l1 : Int32) (l3 : Int32) (s : (Int32 × mH)) : Option ((Int32 × mH) ⊕ (Int32 × mH)) :=
mGd (Nat.beq (mK s.2 l0).1 12 && true) (
    if ((mI s.2 l0 26) : Int32) = l3 then
    mX (f273_40 s.2 l0 l1 s.1 l3)
  else 
    if (99 : Int32) ≤ s.1 then
      mX (f273_40 s.2 l0 l1 s.1 l3)
    else 
      mGd (true && Nat.beq (mK s.2 l0).1 12) ((f234 s.2 l0 1).bind (fun r2 =>
        some (.inl ((s.1 + 1), r2.2)))))
def f273 (h : mH) (l0 : Nat) (l1 : Int32) : Option (Int32 × mH) :=
mGd (true && Nat.beq (mK h l0).1 12) ((f207 h l0).bind (fun r1 =>
    mGd (Nat.beq (mK r1.2 l0).1 12 && true) (
    mLoop (f273_15 l0 l1 (((1 : Int32) <<< ((mI r1.2 l0 24) &&& (31 : Int32))) - 1)) mFuel (0, r1.2))))
def f274_96 (h : mH) (q0 : Int32) : Option (Int32) :=
mGd (true && true) (some (q0 : Int32))
def f274_73 (h : mH) (l0 : Nat) (l1 : Int32) (l3 : Int32) (l4 : Int32) (l5 : Int32) (q0 : Int32) : Option ((Int32 × Int32 × Int32) ⊕ (Int32)) :=
mGd (true && true) ((f196 h l3 l5).bind (fun r1 =>
    some (.inl (q0, r1, (l4 + 1)))))
def f274_52 (h : mH) (l0 : Nat) (l1 : Int32) (l2 : Int32) (l3 : Int32) (l4 : Int32) (l6 : Int32) (q0 : Int32) (q1 : Int32) : Option ((Int32 × Int32) ⊕ ((Int32 × Int32 × Int32) ⊕ (Int32))) :=
some (.inl ((q0 + q1), (l6 + 1)))
def f274_22 (h : mH) (l0 : Nat) (l1 : Int32) (l2 : Int32) (l3 : Int32) (l4 : Int32) (s : (Int32 × Int32)) : Option ((Int32 × Int32) ⊕ ((Int32 × Int32 × Int32) ⊕ (Int32))) :=
mGd (Nat.beq (mK h l0).1 12 && true) (
    if ((mI h l0 24) : Int32) ≤ s.2 then
    mX (
if (s.1 : Int32) ≤ l3 then
      f274_73 h l0 l1 l3 l4 s.1 l2
    else 
      f274_73 h l0 l1 l3 l4 s.1 l4)
  else 
    mGd (true && Nat.beq (mK h l0).1 12) ((f271 h l0 s.2).bind (fun r2 =>
      mGd (true && true) ((f221 h r2 l4).bind (fun r3 =>
      if (r3 : Int32) = 0 then
      f274_52 h l0 l1 l2 l3 l4 s.2 s.1 0
    else 
      f274_52 h l0 l1 l2 l3 l4 s.2 s.1 1)))))
def f274_7 (h : mH) (l0 : Nat) (l1 : Int32) (s : (Int32 × Int32 × Int32)) : Option ((Int32 × Int32 × Int32) ⊕ (Int32)) :=
mGd (Nat.beq (mK h l0).1 12 && true) (
    if ((mI h l0 24) : Int32) ≤ s.2.2 then
    mX (
if (l1 : Int32) = 0 then
      f274_96 h s.1
    else 
      f274_96 h s.2.1)
  else 
    mLoop (f274_22 h l0 l1 s.1 s.2.1 s.2.2) mFuel (0, 0))
def f274 (h : mH) (l0 : Nat) (l1 : Int32) : Option (Int32) :=
mLoop (f274_7 h l0 l1) mFuel ((-1), (-1), 0)
def f275_73 (h : mH) (l0 : Nat) (l1 : Int32) (l2 : Int32) (l3 : Int32) : Option ((Int32 × mH) ⊕ ((Int32 × mH) ⊕ (Int32 × mH))) :=
some (.inl ((l3 + 1), h))
def f275_33 (l0 : Nat) (l1 : Int32) (l2 : Int32) (s : (Int32 × mH)) : Option ((Int32 × mH) ⊕ ((Int32 × mH) ⊕ (Int32 × mH))) :=
mGd (Nat.beq (mK s.2 l0).1 12 && true) (
    if ((mI s.2 l0 24) : Int32) ≤ s.1 then
    mX (some (.inl ((l2 + (-1)), s.2)))
  else 
    mGd (((Nat.beq (mK s.2 l0).1 12 && (mR s.2 l0 46).isSome) && ((Nat.beq (mK s.2 ((mR s.2 l0 46).getD 0)).1 100 && mIn l2 (mK s.2 ((mR s.2 l0 46).getD 0)).2) && true)) && Nat.beq (mK s.2 l0).1 12) ((f220 s.2 l0 s.1 l2).bind (fun r1 =>
      if (r1 : Int32) = 0 then
      mGd ((Nat.beq (mK s.2 ((mR s.2 l0 46).getD 0)).1 100 && mIn l2 (mK s.2 ((mR s.2 l0 46).getD 0)).2) && true) (
        some (.inl ((s.1 + 1), (mSI s.2 ((mR s.2 l0 46).getD 0) (Int32.toNatClampNeg l2) ((mI s.2 ((mR s.2 l0 46).getD 0) (Int32.toNatClampNeg l2)) + 0)))))
    else 
      mGd ((Nat.beq (mK s.2 l0).1 12 && (mR s.2 l0 46).isSome) && ((Nat.beq (mK s.2 ((mR s.2 l0 46).getD 0)).1 100 && mIn (l2 ||| ((1 : Int32) <<< (s.1 &&& (31 : Int32)))) (mK s.2 ((mR s.2 l0 46).getD 0)).2) && true)) (
        mGd ((Nat.beq (mK s.2 ((mR s.2 l0 46).getD 0)).1 100 && mIn l2 (mK s.2 ((mR s.2 l0 46).getD 0)).2) && true) (
        f275_73 (mSI s.2 ((mR s.2 l0 46).getD 0) (Int32.toNatClampNeg l2) ((mI s.2 ((mR s.2 l0 46).getD 0) (Int32.toNatClampNeg l2)) + (mI s.2 ((mR s.2 l0 46).getD 0) (Int32.toNatClampNeg (l2 ||| ((1 : Int32) <<< (s.1 &&& (31 : Int32)))))))) l0 l1 l2 s.1)))))
def f275_11 (l0 : Nat) (l1 : Int32) (s : (Int32 × mH)) : Option ((Int32 × mH) ⊕ (Int32 × mH)) :=
if (s.1 : Int32) < 0 then
    mX (mGd (((Nat.beq (mK s.2 l0).1 12 && (mR s.2 l0 46).isSome) && ((Nat.beq (mK s.2 ((mR s.2 l0 46).getD 0)).1 100 && mIn 0 (mK s.2 ((mR s.2 l0 46).getD 0)).2) && true)) && true) (some ((mI s.2 ((mR s.2 l0 46).getD 0) (Int32.toNatClampNeg 0)), s.2)))
  else 
    mGd ((Nat.beq (mK s.2 l0).1 12 && (mR s.2 l0 46).isSome) && true) (
      if (s.1 : Int32) = l1 then
      mGd ((Nat.beq (mK s.2 ((mR s.2 l0 46).getD 0)).1 100 && mIn s.1 (mK s.2 ((mR s.2 l0 46).getD 0)).2) && true) (
        mLoop (f275_33 l0 l1 s.1) mFuel (0, (mSI s.2 ((mR s.2 l0 46).getD 0) (Int32.toNatClampNeg s.1) 1)))
    else 
      mGd ((Nat.beq (mK s.2 ((mR s.2 l0 46).getD 0)).1 100 && mIn s.1 (mK s.2 ((mR s.2 l0 46).getD 0)).2) && true) (
        mLoop (f275_33 l0 l1 s.1) mFuel (0, (mSI s.2 ((mR s.2 l0 46).getD 0) (Int32.toNatClampNeg s.1) 0))))
def f275 (h : mH) (l0 : Nat) : Option (Int32 × mH) :=
mGd (Nat.beq (mK h l0).1 12 && true) (
    mLoop (f275_11 l0 (((1 : Int32) <<< ((mI h l0 24) &&& (31 : Int32))) - 1)) mFuel ((((1 : Int32) <<< ((mI h l0 24) &&& (31 : Int32))) - 1), h))
def f276_98 (h : mH) (q0 : Int32) : Option (Int32) :=
mGd (true && true) (some (q0 : Int32))
def f276_75 (h : mH) (l0 : Nat) (l1 : Int32) (l3 : Int32) (l4 : Int32) (l5 : Int32) (l6 : Int32) (q0 : Int32) : Option ((Int32 × Int32 × Int32) ⊕ (Int32)) :=
mGd (true && true) ((f195 h l3 l6).bind (fun r3 =>
    some (.inl (q0, r3, (l5 + 1)))))
def f276_61 (h : mH) (l0 : Nat) (l1 : Int32) (l2 : Int32) (l3 : Int32) (l4 : Int32) (l5 : Int32) (q0 : Int32) : Option ((Int32 × Int32 × Int32) ⊕ (Int32)) :=
if (l3 : Int32) ≤ q0 then
    f276_75 h l0 l1 l3 l4 l5 q0 l2
  else 
    f276_75 h l0 l1 l3 l4 l5 q0 l5
def f276_19 (h : mH) (l0 : Nat) (l1 : Int32) (l4 : Int32) (s : (Int32 × Int32 × Int32)) : Option ((Int32 × Int32 × Int32) ⊕ (Int32)) :=
if ((l4 >>> (1 &&& (31 : Int32))) : Int32) < s.2.2 then
    mX (
if (l1 : Int32) = 0 then
      f276_98 h s.2.1
    else 
      f276_98 h s.1)
  else 
    mGd (true && Nat.beq (mK h l0).1 12) ((f243 h l0 s.2.2).bind (fun r1 =>
      mGd (true && Nat.beq (mK h l0).1 12) ((f243 h l0 (l4 &&& (s.2.2 ^^^ (-1)))).bind (fun r2 =>
      if (0 : Int32) ≤ (r1 - r2) then
      f276_61 h l0 l1 s.1 s.2.1 l4 s.2.2 (r1 - r2)
    else 
      f276_61 h l0 l1 s.1 s.2.1 l4 s.2.2 (-(r1 - r2))))))
def f276 (h : mH) (l0 : Nat) (l1 : Int32) : Option (Int32) :=
mGd (Nat.beq (mK h l0).1 12 && true) (
    mLoop (f276_19 h l0 l1 (((1 : Int32) <<< ((mI h l0 24) &&& (31 : Int32))) - 1)) mFuel (0, 1000000, 0))
def f270_120 (h : mH) (l0 : Nat) (l2 : Int32) : Option (Int32 × mH) :=
if (l2 : Int32) = 1 then
    mGd (true && Nat.beq (mK h l0).1 12) ((f273 h l0 1).bind (fun r4 =>
      mGd (true && true) (some (r4.1, r4.2))))
  else 
    mGd (true && Nat.beq (mK h l0).1 12) ((f273 h l0 0).bind (fun r5 =>
      mGd (true && true) (some (r5.1, r5.2))))
def f270_135 (h : mH) (l0 : Nat) (l2 : Int32) : Option (Int32 × mH) :=
if (l2 : Int32) = 3 then
    mGd (true && Nat.beq (mK h l0).1 12) ((f274 h l0 1).bind (fun r6 =>
      mGd (true && true) (some (r6, h))))
  else 
    mGd (true && Nat.beq (mK h l0).1 12) ((f274 h l0 0).bind (fun r7 =>
      mGd (true && true) (some (r7, h))))
def f270_162 (h : mH) (q0 : Int32) : Option (Int32 × mH) :=
mGd (true && true) (some (q0, h))
def f270_168 (h : mH) (l0 : Nat) (l2 : Int32) : Option (Int32 × mH) :=
if (l2 : Int32) = 7 then
    mGd (true && Nat.beq (mK h l0).1 12) ((f276 h l0 1).bind (fun r9 =>
      mGd (true && true) (some (r9, h))))
  else 
    mGd (true && Nat.beq (mK h l0).1 12) ((f276 h l0 0).bind (fun r10 =>
      mGd (true && true) (some (r10, h))))
def f270_73 (h : mH) (l0 : Nat) (l2 : Int32) (q0 : Int32) : Option (Int32 × mH) :=
if (l2 : Int32) = 0 then
    f270_120 h l0 l2
  else if (l2 : Int32) = 1 then
    f270_120 h l0 l2
  else if (l2 : Int32) = 2 then
    f270_135 h l0 l2
  else if (l2 : Int32) = 3 then
    f270_135 h l0 l2
  else if (l2 : Int32) = 4 then
    if (q0 : Int32) < 1000000 then
      f270_162 h q0
    else 
      f270_162 h (-1)
  else if (l2 : Int32) = 5 then
    mGd (true && Nat.beq (mK h l0).1 12) ((f275 h l0).bind (fun r8 =>
      mGd (true && true) (some (r8.1, r8.2))))
  else if (l2 : Int32) = 6 then
    f270_168 h l0 l2
  else if (l2 : Int32) = 7 then
    f270_168 h l0 l2
  else 
    mGd (true && true) (some ((-2), h))
def f270_46 (h : mH) (q0 : Int32) : Option (Int32 × mH) :=
mGd (true && true) (some (q0, h))
def f270 (h : mH) (l0 : Nat) (l1 : Int32) (l2 : Int32) : Option (Int32 × mH) :=
mGd (Nat.beq (mK h l0).1 12 && true) (
    mGd (true && Nat.beq (mK h l0).1 12) ((f205 (mSI h l0 0 0) l0 l1).bind (fun r1 =>
    if (r1.1 : Int32) = 0 then
    mGd (true && true) (some ((-2), r1.2))
  else 
    if (l2 : Int32) < 10 then
      if (l2 : Int32) = 4 then
        mGd ((Nat.beq (mK r1.2 l0).1 12 && true) && Nat.beq (mK r1.2 l0).1 12) ((f206 r1.2 l0 2).bind (fun r2 =>
          mGd (true && Nat.beq (mK r1.2 l0).1 12) ((f272 r1.2 l0 (((1 : Int32) <<< ((mI r1.2 l0 24) &&& (31 : Int32))) - 1) r2).bind (fun r3 =>
          f270_73 r3.2 l0 l2 r3.1))))
      else 
        f270_73 r1.2 l0 l2 0
    else 
      mGd (true && Nat.beq (mK r1.2 l0).1 12) ((f218 r1.2 l0 (l2 - 10)).bind (fun r11 =>
        if (r11 : Int32) = 0 then
        f270_46 r1.2 (-2)
      else 
        mGd (true && Nat.beq (mK r1.2 l0).1 12) ((f271 r1.2 l0 (l2 - 10)).bind (fun r12 =>
          f270_46 r1.2 r12)))))))
def f278_20 (h : mH) (l0 : Nat) (l1 : Int32) (l2 : Int32) (l3 : Int32) (s : (Int32 × Int32)) : Option ((Int32 × Int32) ⊕ ((Int32 × Int32) ⊕ (Int32))) :=
mGd ((Nat.beq (mK h l0).1 12 && (mR h l0 47).isSome) && ((Nat.beq (mK h ((mR h l0 47).getD 0)).1 100 && mIn (l3 + 1) (mK h ((mR h l0 47).getD 0)).2) && true)) (
    if ((mI h ((mR h l0 47).getD 0) (Int32.toNatClampNeg (l3 + 1))) : Int32) ≤ s.2 then
    mX (
mGd (true && true) ((f196 h l2 s.1).bind (fun r1 =>
      some (.inl (r1, (l3 + 1))))))
  else 
    mGd (true && Nat.beq (mK h l0).1 12) ((f206 h l0 (3 + s.2)).bind (fun r2 =>
      some (.inl ((s.1 + r2), (s.2 + 1))))))
def f278_4 (h : mH) (l0 : Nat) (l1 : Int32) (s : (Int32 × Int32)) : Option ((Int32 × Int32) ⊕ (Int32)) :=
if (l1 : Int32) ≤ s.2 then
    mX (mGd (true && true) (some (s.1 : Int32)))
  else 
    mGd ((Nat.beq (mK h l0).1 12 && (mR h l0 47).isSome) && ((Nat.beq (mK h ((mR h l0 47).getD 0)).1 100 && mIn s.2 (mK h ((mR h l0 47).getD 0)).2) && true)) (
      mLoop (f278_20 h l0 l1 s.1 s.2) mFuel (0, (mI h ((mR h l0 47).getD 0) (Int32.toNatClampNeg s.2))))
def f278 (h : mH) (l0 : Nat) (l1 : Int32) : Option (Int32) :=
mLoop (f278_4 h l0 l1) mFuel (0, 0)
def f279_46 (l0 : Nat) (l1 : Int32) (l3 : Int32) (s : (Int32 × mH)) : Option ((Int32 × mH) ⊕ (Int32 × mH)) :=
if (l1 : Int32) ≤ s.1 then
    mX (mGd (true && mIs01 1) (some (1, s.2)))
  else 
    mGd ((Nat.beq (mK s.2 l0).1 12 && (mR s.2 l0 47).isSome) && ((Nat.beq (mK s.2 ((mR s.2 l0 47).getD 0)).1 100 && mIn s.1 (mK s.2 ((mR s.2 l0 47).getD 0)).2) && true)) (
      some (.inl ((s.1 + 1), (mSI s.2 ((mR s.2 l0 47).getD 0) (Int32.toNatClampNeg s.1) l3))))
def f279_27 (h : mH) (l0 : Nat) (l1 : Int32) (l2 : Int32) : Option (Int32 × mH) :=
if (1 : Int32) ≤ l2 then
    mGd ((Nat.beq (mK h l0).1 12 && (mR h l0 47).isSome) && ((Nat.beq (mK h ((mR h l0 47).getD 0)).1 100 && mIn l2 (mK h ((mR h l0 47).getD 0)).2) && true)) (
      mLoop (f279_46 l0 l1 ((mI h ((mR h l0 47).getD 0) (Int32.toNatClampNeg l2)) + 1)) mFuel (l2, h))
  else 
    mGd (true && mIs01 0) (some (0, h))
def f279_4 (h : mH) (l0 : Nat) (l1 : Int32) (s : (Int32)) : Option ((Int32) ⊕ (Int32 × mH)) :=
if (s : Int32) ≤ 0 then
    mX (f279_27 h l0 l1 s)
  else 
    mGd ((Nat.beq (mK h l0).1 12 && (mR h l0 47).isSome) && ((Nat.beq (mK h ((mR h l0 47).getD 0)).1 100 && mIn s (mK h ((mR h l0 47).getD 0)).2) && (Nat.beq (mK h l0).1 12 && true))) (
      if ((mI h ((mR h l0 47).getD 0) (Int32.toNatClampNeg s)) : Int32) = (mI h l0 24) then
      some (.inl ((s + (-1))))
    else 
      mX (f279_27 h l0 l1 s))
def f279 (h : mH) (l0 : Nat) (l1 : Int32) : Option (Int32 × mH) :=
mLoop (f279_4 h l0 l1) mFuel ((l1 - 1))
def f277_33 (h : mH) : Option (Int32 × mH) :=
mGd (true && true) (some ((-1), h))
def f277_159 (h : mH) (q0 : Int32) : Option (Int32 × mH) :=
mGd (true && true) (some (q0, h))
def f277_124 (h : mH) (l0 : Nat) (l2 : Int32) (l3 : Int32) (l4 : Int32) (l6 : Int32) : Option ((Int32 × Int32 × mH) ⊕ (Int32 × mH)) :=
mGd (true && true) ((f195 h l4 l6).bind (fun r5 =>
    mGd (true && Nat.beq (mK h l0).1 12) ((f279 h l0 l2).bind (fun r6 =>
    some (.inl (r5, r6.1, r6.2))))))
def f277_91 (l0 : Nat) (l2 : Int32) (l3 : Int32) (l4 : Int32) (l6 : Int32) (s : (Int32 × mH)) : Option ((Int32 × mH) ⊕ ((Int32 × Int32 × mH) ⊕ (Int32 × mH))) :=
if (l2 : Int32) ≤ s.1 then
    mX (f277_124 s.2 l0 l2 l3 l4 l6)
  else 
    if (l4 : Int32) ≤ l6 then
      mX (f277_124 s.2 l0 l2 l3 l4 l6)
    else 
      mGd ((Nat.beq (mK s.2 l0).1 12 && (mR s.2 l0 48).isSome) && ((Nat.beq (mK s.2 l0).1 12 && (mR s.2 l0 47).isSome) && ((Nat.beq (mK s.2 ((mR s.2 l0 47).getD 0)).1 100 && mIn s.1 (mK s.2 ((mR s.2 l0 47).getD 0)).2) && ((Nat.beq (mK s.2 ((mR s.2 l0 48).getD 0)).1 100 && mIn s.1 (mK s.2 ((mR s.2 l0 48).getD 0)).2) && true)))) (
        some (.inl ((s.1 + 1), (mSI s.2 ((mR s.2 l0 48).getD 0) (Int32.toNatClampNeg s.1) (mI s.2 ((mR s.2 l0 47).getD 0) (Int32.toNatClampNeg s.1))))))
def f277_76 (l0 : Nat) (l2 : Int32) (l3 : Int32) (s : (Int32 × Int32 × mH)) : Option ((Int32 × Int32 × mH) ⊕ (Int32 × mH)) :=
if (s.2.1 : Int32) = 0 then
    mX (
if (l3 : Int32) = (-1) then
      f277_159 s.2.2 s.1
    else 
      mGd ((Nat.beq (mK s.2.2 l0).1 12 && (mR s.2.2 l0 48).isSome) && ((Nat.beq (mK s.2.2 ((mR s.2.2 l0 48).getD 0)).1 100 && mIn l3 (mK s.2.2 ((mR s.2.2 l0 48).getD 0)).2) && true)) (
        f277_159 s.2.2 (mI s.2.2 ((mR s.2.2 l0 48).getD 0) (Int32.toNatClampNeg l3))))
  else 
    mGd (true && Nat.beq (mK s.2.2 l0).1 12) ((f278 s.2.2 l0 l2).bind (fun r4 =>
      mLoop (f277_91 l0 l2 l3 s.1 r4) mFuel (0, s.2.2)))
def f277_38 (l0 : Nat) (l2 : Int32) (l3 : Int32) (s : (Int32 × mH)) : Option ((Int32 × mH) ⊕ (Int32 × mH)) :=
if (l2 : Int32) ≤ s.1 then
    mX (
mGd ((Nat.beq (mK s.2 l0).1 12 && (mR s.2 l0 47).isSome) && (Nat.beq (mK s.2 l0).1 12 && ((Nat.beq (mK s.2 ((mR s.2 l0 47).getD 0)).1 100 && mIn l2 (mK s.2 ((mR s.2 l0 47).getD 0)).2) && true))) (
      mLoop (f277_76 l0 l2 l3) mFuel (1000000, 1, (mSI s.2 ((mR s.2 l0 47).getD 0) (Int32.toNatClampNeg l2) (mI s.2 l0 24)))))
  else 
    mGd ((Nat.beq (mK s.2 l0).1 12 && (mR s.2 l0 47).isSome) && ((Nat.beq (mK s.2 ((mR s.2 l0 47).getD 0)).1 100 && mIn s.1 (mK s.2 ((mR s.2 l0 47).getD 0)).2) && true)) (
      some (.inl ((s.1 + 1), (mSI s.2 ((mR s.2 l0 47).getD 0) (Int32.toNatClampNeg s.1) 0))))
def f277 (h : mH) (l0 : Nat) (l1 : Int32) (l2 : Int32) (l3 : Int32) : Option (Int32 × mH) :=
mGd (Nat.beq (mK h l0).1 12 && true) (
    mGd (true && true) ((f179 (mSI h l0 0 0) l2 1 4).bind (fun r1 =>
    if (r1 : Int32) = 0 then
    f277_33 (mSI h l0 0 0)
  else 
    mGd (true && Nat.beq (mK h l0).1 12) ((f205 (mSI h l0 0 0) l0 l1).bind (fun r2 =>
      if (r2.1 : Int32) = 0 then
      f277_33 r2.2
    else 
      mGd (true && true) ((f179 r2.2 l3 (-1) (l2 - 1)).bind (fun r3 =>
        if (r3 : Int32) = 0 then
        f277_33 r2.2
      else 
        mLoop (f277_38 l0 l2 l3) mFuel (0, r2.2))))))))
def f280_44 (h : mH) : Option (Int32 × mH) :=
mGd (true && true) (some ((-1), h))
def f280_145 (h : mH) (q0 : Int32) : Option (Int32 × mH) :=
mGd (true && true) (some (q0, h))
def f280_106 (h : mH) (l0 : Nat) (l2 : Int32) (l3 : Int32) (l4 : Int32) (l5 : Int32) : Option ((Int32 × Int32 × mH) ⊕ (Int32 × mH)) :=
mGd ((Nat.beq (mK h l0).1 12 && true) && true) ((f196 h l5 (mI h l0 37)).bind (fun r7 =>
    mGd (true && Nat.beq (mK h l0).1 12) ((f240 h l0 l3).bind (fun r8 =>
    some (.inl (r7, r8.1, r8.2))))))
def f280_71 (l0 : Nat) (l2 : Int32) (l3 : Int32) (l4 : Int32) (l5 : Int32) (s : (Int32 × mH)) : Option ((Int32 × mH) ⊕ ((Int32 × Int32 × mH) ⊕ (Int32 × mH))) :=
if (l3 : Int32) ≤ s.1 then
    mX (f280_106 s.2 l0 l2 l3 l4 l5)
  else 
    mGd (Nat.beq (mK s.2 l0).1 12 && true) (
      if ((mI s.2 l0 37) : Int32) ≤ l5 then
      mX (f280_106 s.2 l0 l2 l3 l4 l5)
    else 
      mGd ((Nat.beq (mK s.2 l0).1 12 && (mR s.2 l0 39).isSome) && ((Nat.beq (mK s.2 l0).1 12 && (mR s.2 l0 38).isSome) && ((Nat.beq (mK s.2 ((mR s.2 l0 38).getD 0)).1 100 && mIn s.1 (mK s.2 ((mR s.2 l0 38).getD 0)).2) && ((Nat.beq (mK s.2 ((mR s.2 l0 39).getD 0)).1 100 && mIn s.1 (mK s.2 ((mR s.2 l0 39).getD 0)).2) && true)))) (
        some (.inl ((s.1 + 1), (mSI s.2 ((mR s.2 l0 39).getD 0) (Int32.toNatClampNeg s.1) (mI s.2 ((mR s.2 l0 38).getD 0) (Int32.toNatClampNeg s.1)))))))
def f280_57 (l0 : Nat) (l2 : Int32) (l3 : Int32) (l4 : Int32) (s : (Int32 × Int32 × mH)) : Option ((Int32 × Int32 × mH) ⊕ (Int32 × mH)) :=
if (s.2.1 : Int32) = 0 then
    mX (
if (l4 : Int32) = (-1) then
      f280_145 s.2.2 s.1
    else 
      mGd ((Nat.beq (mK s.2.2 l0).1 12 && (mR s.2.2 l0 39).isSome) && ((Nat.beq (mK s.2.2 ((mR s.2.2 l0 39).getD 0)).1 100 && mIn l4 (mK s.2.2 ((mR s.2.2 l0 39).getD 0)).2) && true)) (
        f280_145 s.2.2 (mI s.2.2 ((mR s.2.2 l0 39).getD 0) (Int32.toNatClampNeg l4))))
  else 
    mGd (true && Nat.beq (mK s.2.2 l0).1 12) ((f239 s.2.2 l0 l3 l2).bind (fun r6 =>
      mLoop (f280_71 l0 l2 l3 l4 s.1) mFuel (0, r6.2)))
def f280 (h : mH) (l0 : Nat) (l1 : Int32) (l2 : Int32) (l3 : Int32) (l4 : Int32) : Option (Int32 × mH) :=
mGd (Nat.beq (mK h l0).1 12 && true) (
    mGd (true && true) ((f179 (mSI h l0 0 0) l2 0 20).bind (fun r1 =>
    if (r1 : Int32) = 0 then
    f280_44 (mSI h l0 0 0)
  else 
    mGd (true && true) ((f179 (mSI h l0 0 0) l3 0 3).bind (fun r2 =>
      if (r2 : Int32) = 0 then
      f280_44 (mSI h l0 0 0)
    else 
      mGd (true && Nat.beq (mK h l0).1 12) ((f205 (mSI h l0 0 0) l0 l1).bind (fun r3 =>
        if (r3.1 : Int32) = 0 then
        f280_44 r3.2
      else 
        mGd (true && true) ((f179 r3.2 l4 (-1) (l3 - 1)).bind (fun r4 =>
          if (r4 : Int32) = 0 then
          f280_44 r3.2
        else 
          mGd (true && Nat.beq (mK r3.2 l0).1 12) ((f238 r3.2 l0 l3).bind (fun r5 =>
            mLoop (f280_57 l0 l2 l3 l4) mFuel ((-1), 1, r5.2))))))))))))
def f281_32 (h : mH) : Option (Int32 × mH) :=
mGd (true && true) (some ((-99), h))
def f281 (h : mH) (l0 : Nat) (l1 : Int32) (l2 : Int32) (l3 : Int32) : Option (Int32 × mH) :=
mGd (Nat.beq (mK h l0).1 12 && true) (
    mGd (true && true) ((f179 (mSI h l0 0 0) l2 0 5).bind (fun r1 =>
    if (r1 : Int32) = 0 then
    f281_32 (mSI h l0 0 0)
  else 
    mGd (true && true) ((f179 (mSI h l0 0 0) l3 0 20).bind (fun r2 =>
      if (r2 : Int32) = 0 then
      f281_32 (mSI h l0 0 0)
    else 
      mGd (true && Nat.beq (mK h l0).1 12) ((f205 (mSI h l0 0 0) l0 l1).bind (fun r3 =>
        if (r3.1 : Int32) = 0 then
        f281_32 r3.2
      else 
        mGd (true && Nat.beq (mK r3.2 l0).1 12) ((f234 r3.2 l0 l3).bind (fun r4 =>
          mGd (Nat.beq (mK r4.2 l0).1 12 && ((Nat.beq (mK r4.2 l0).1 12 && (mR r4.2 l0 38).isSome) && ((Nat.beq (mK r4.2 ((mR r4.2 l0 38).getD 0)).1 100 && mIn 0 (mK r4.2 ((mR r4.2 l0 38).getD 0)).2) && true))) (
          mGd (true && Nat.beq (mK r4.2 l0).1 12) ((f239 (mSI r4.2 ((mR r4.2 l0 38).getD 0) (Int32.toNatClampNeg 0) l2) l0 1 l3).bind (fun r5 =>
          mGd ((Nat.beq (mK r5.2 l0).1 12 && true) && true) (some (((mI r5.2 l0 37) - (mI r4.2 l0 37)), r5.2))))))))))))))
def f282_156 (h : mH) (q0 : Int32) : Option (Int32 × mH) :=
mGd (true && true) (some (q0, h))
def f282_146 (h : mH) (l2 : Int32) (l3 : Int32) : Option (Int32 × mH) :=
if (l2 : Int32) = (-1) then
    f282_156 h l3
  else 
    f282_156 h (-1)
def f282_241 (h : mH) (l0 : Nat) (l2 : Int32) (l3 : Int32) (l4 : Int32) (l5 : Int32) (l7 : Int32) (q0 : Int32) : Option ((Int32 × Int32) ⊕ ((Int32 × Int32) ⊕ (Int32 × mH))) :=
some (.inl (q0, (l7 + (-1))))
def f282_227 (h : mH) (l0 : Nat) (l2 : Int32) (l3 : Int32) (l4 : Int32) (l5 : Int32) (l6 : Int32) (l7 : Int32) (q0 : Int32) : Option ((Int32 × Int32) ⊕ ((Int32 × Int32) ⊕ (Int32 × mH))) :=
if (q0 : Int32) = 0 then
    f282_241 h l0 l2 l3 l4 l5 l7 l6
  else 
    f282_241 h l0 l2 l3 l4 l5 l7 l7
def f282_222 (h : mH) (l0 : Nat) (l2 : Int32) (l3 : Int32) (l4 : Int32) (l5 : Int32) (l6 : Int32) (l7 : Int32) : Option ((Int32 × Int32) ⊕ ((Int32 × Int32) ⊕ (Int32 × mH))) :=
f282_227 h l0 l2 l3 l4 l5 l6 l7 1
def f282_226 (h : mH) (l0 : Nat) (l2 : Int32) (l3 : Int32) (l4 : Int32) (l5 : Int32) (l6 : Int32) (l7 : Int32) : Option ((Int32 × Int32) ⊕ ((Int32 × Int32) ⊕ (Int32 × mH))) :=
f282_227 h l0 l2 l3 l4 l5 l6 l7 0
def f282_180 (h : mH) (l0 : Nat) (l2 : Int32) (l3 : Int32) (l4 : Int32) (l5 : Int32) (s : (Int32 × Int32)) : Option ((Int32 × Int32) ⊕ ((Int32 × Int32) ⊕ (Int32 × mH))) :=
if (s.2 : Int32) < 0 then
    mX (some (.inl (s.1, (l5 + 1))))
  else 
    mGd ((Nat.beq (mK h l0).1 12 && (mR h l0 49).isSome) && ((Nat.beq (mK h ((mR h l0 49).getD 0)).1 100 && mIn s.2 (mK h ((mR h l0 49).getD 0)).2) && true)) (
      if ((mI h ((mR h l0 49).getD 0) (Int32.toNatClampNeg s.2)) : Int32) = (l3 - l5) then
      if (l4 : Int32) = (-1) then
        f282_222 h l0 l2 l3 l4 l5 s.1 s.2
      else 
        mGd (true && Nat.beq (mK h l0).1 12) ((f206 h l0 (19 + s.2)).bind (fun r3 =>
          mGd (true && true) ((f221 h r3 l4).bind (fun r4 =>
          if (r4 : Int32) = 0 then
          f282_226 h l0 l2 l3 l4 l5 s.1 s.2
        else 
          f282_222 h l0 l2 l3 l4 l5 s.1 s.2))))
    else 
      f282_226 h l0 l2 l3 l4 l5 s.1 s.2)
def f282_163 (h : mH) (l0 : Nat) (l2 : Int32) (l3 : Int32) (s : (Int32 × Int32)) : Option ((Int32 × Int32) ⊕ (Int32 × mH)) :=
if (l2 : Int32) < s.2 then
    mX (mGd (true && true) (some (s.1, h)))
  else 
    mGd (Nat.beq (mK h l0).1 12 && true) (
      mLoop (f282_180 h l0 l2 l3 s.1 s.2) mFuel ((-1), ((mI h l0 24) - 1)))
