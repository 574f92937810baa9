def f302_1887 (h : mH) (l0 : Nat) (l1 : Nat) (l2 : Nat) (l3 : Int32) : Option ((Int32 × mH) ⊕ (Int32 × mH)) :=
some (.inl ((l3 + 6), h))
def f302_196 (h : mH) (l0 : Nat) (l1 : Nat) (l2 : Nat) (l3 : Int32) : Option ((Int32 × mH) ⊕ (Int32 × mH)) :=
mGd (((Nat.beq l0 2000000 && mIn (l3 + 1) (Int32.toNatClampNeg (mI h 2000001 0))) && ((Nat.beq l0 2000000 && mIn (l3 + 2) (Int32.toNatClampNeg (mI h 2000001 0))) && ((Nat.beq l0 2000000 && mIn (l3 + 3) (Int32.toNatClampNeg (mI h 2000001 0))) && ((Nat.beq l0 2000000 && mIn (l3 + 4) (Int32.toNatClampNeg (mI h 2000001 0))) && ((Nat.beq l0 2000000 && mIn (l3 + 5) (Int32.toNatClampNeg (mI h 2000001 0))) && true))))) && Nat.beq (mK h l1).1 0) ((f14 h l1 (mI h 2000000 (Int32.toNatClampNeg (l3 + 1))) (mI h 2000000 (Int32.toNatClampNeg (l3 + 2))) (mI h 2000000 (Int32.toNatClampNeg (l3 + 3))) (mI h 2000000 (Int32.toNatClampNeg (l3 + 4))) (mI h 2000000 (Int32.toNatClampNeg (l3 + 5)))).bind (fun r1 =>
    mGd (((Nat.beq l0 2000000 && mIn (l3 + 1) (Int32.toNatClampNeg (mI r1.2 2000001 0))) && ((Nat.beq l0 2000000 && mIn (l3 + 2) (Int32.toNatClampNeg (mI r1.2 2000001 0))) && ((Nat.beq l0 2000000 && mIn (l3 + 3) (Int32.toNatClampNeg (mI r1.2 2000001 0))) && ((Nat.beq l0 2000000 && mIn (l3 + 4) (Int32.toNatClampNeg (mI r1.2 2000001 0))) && ((Nat.beq l0 2000000 && mIn (l3 + 5) (Int32.toNatClampNeg (mI r1.2 2000001 0))) && true))))) && Nat.beq (mK r1.2 l2).1 12) ((f176 r1.2 l2 (mI r1.2 2000000 (Int32.toNatClampNeg (l3 + 1))) (mI r1.2 2000000 (Int32.toNatClampNeg (l3 + 2))) (mI r1.2 2000000 (Int32.toNatClampNeg (l3 + 3))) (mI r1.2 2000000 (Int32.toNatClampNeg (l3 + 4))) (mI r1.2 2000000 (Int32.toNatClampNeg (l3 + 5)))).bind (fun r2 =>
    if (r1.1 : Int32) = r2.1 then
    f302_1887 r2.2 l0 l1 l2 l3
  else 
    mX (mGd (true && mIs01 0) (some (0, r2.2)))))))
def f302_259 (h : mH) (l0 : Nat) (l1 : Nat) (l2 : Nat) (l3 : Int32) : Option ((Int32 × mH) ⊕ (Int32 × mH)) :=
mGd (((Nat.beq l0 2000000 && mIn (l3 + 1) (Int32.toNatClampNeg (mI h 2000001 0))) && true) && Nat.beq (mK h l1).1 0) ((f16 h l1 (mI h 2000000 (Int32.toNatClampNeg (l3 + 1)))).bind (fun r3 =>
    mGd (((Nat.beq l0 2000000 && mIn (l3 + 1) (Int32.toNatClampNeg (mI r3.2 2000001 0))) && true) && Nat.beq (mK r3.2 l2).1 12) ((f178 r3.2 l2 (mI r3.2 2000000 (Int32.toNatClampNeg (l3 + 1)))).bind (fun r4 =>
    if (r3.1 : Int32) = r4.1 then
    f302_1887 r4.2 l0 l1 l2 l3
  else 
    mX (mGd (true && mIs01 0) (some (0, r4.2)))))))
def f302_282 (h : mH) (l0 : Nat) (l1 : Nat) (l2 : Nat) (l3 : Int32) : Option ((Int32 × mH) ⊕ (Int32 × mH)) :=
mGd (((Nat.beq l0 2000000 && mIn (l3 + 1) (Int32.toNatClampNeg (mI h 2000001 0))) && ((Nat.beq l0 2000000 && mIn (l3 + 2) (Int32.toNatClampNeg (mI h 2000001 0))) && true)) && Nat.beq (mK h l1).1 0) ((f18 h l1 (mI h 2000000 (Int32.toNatClampNeg (l3 + 1))) (mI h 2000000 (Int32.toNatClampNeg (l3 + 2)))).bind (fun r5 =>
    mGd (((Nat.beq l0 2000000 && mIn (l3 + 1) (Int32.toNatClampNeg (mI r5.2 2000001 0))) && ((Nat.beq l0 2000000 && mIn (l3 + 2) (Int32.toNatClampNeg (mI r5.2 2000001 0))) && true)) && Nat.beq (mK r5.2 l2).1 12) ((f180 r5.2 l2 (mI r5.2 2000000 (Int32.toNatClampNeg (l3 + 1))) (mI r5.2 2000000 (Int32.toNatClampNeg (l3 + 2)))).bind (fun r6 =>
    if (r5.1 : Int32) = r6.1 then
    f302_1887 r6.2 l0 l1 l2 l3
  else 
    mX (mGd (true && mIs01 0) (some (0, r6.2)))))))
def f302_315 (h : mH) (l0 : Nat) (l1 : Nat) (l2 : Nat) (l3 : Int32) : Option ((Int32 × mH) ⊕ (Int32 × mH)) :=
mGd (((Nat.beq l0 2000000 && mIn (l3 + 1) (Int32.toNatClampNeg (mI h 2000001 0))) && true) && Nat.beq (mK h l1).1 0) ((f51 h l1 (mI h 2000000 (Int32.toNatClampNeg (l3 + 1)))).bind (fun r7 =>
    mGd (((Nat.beq l0 2000000 && mIn (l3 + 1) (Int32.toNatClampNeg (mI h 2000001 0))) && true) && Nat.beq (mK h l2).1 12) ((f203 h l2 (mI h 2000000 (Int32.toNatClampNeg (l3 + 1)))).bind (fun r8 =>
    if (r7 : Int32) = r8.1 then
    f302_1887 r8.2 l0 l1 l2 l3
  else 
    mX (mGd (true && mIs01 0) (some (0, r8.2)))))))
def f302_338 (h : mH) (l0 : Nat) (l1 : Nat) (l2 : Nat) (l3 : Int32) : Option ((Int32 × mH) ⊕ (Int32 × mH)) :=
mGd (((Nat.beq l0 2000000 && mIn (l3 + 1) (Int32.toNatClampNeg (mI h 2000001 0))) && ((Nat.beq l0 2000000 && mIn (l3 + 2) (Int32.toNatClampNeg (mI h 2000001 0))) && true)) && Nat.beq (mK h l1).1 0) ((f52 h l1 (mI h 2000000 (Int32.toNatClampNeg (l3 + 1))) (mI h 2000000 (Int32.toNatClampNeg (l3 + 2)))).bind (fun r9 =>
    mGd (((Nat.beq l0 2000000 && mIn (l3 + 1) (Int32.toNatClampNeg (mI h 2000001 0))) && ((Nat.beq l0 2000000 && mIn (l3 + 2) (Int32.toNatClampNeg (mI h 2000001 0))) && true)) && Nat.beq (mK h l2).1 12) ((f204 h l2 (mI h 2000000 (Int32.toNatClampNeg (l3 + 1))) (mI h 2000000 (Int32.toNatClampNeg (l3 + 2)))).bind (fun r10 =>
    if (r9 : Int32) = r10.1 then
    f302_1887 r10.2 l0 l1 l2 l3
  else 
    mX (mGd (true && mIs01 0) (some (0, r10.2)))))))
def f302_371 (h : mH) (l0 : Nat) (l1 : Nat) (l2 : Nat) (l3 : Int32) : Option ((Int32 × mH) ⊕ (Int32 × mH)) :=
mGd (((Nat.beq l0 2000000 && mIn (l3 + 1) (Int32.toNatClampNeg (mI h 2000001 0))) && ((Nat.beq l0 2000000 && mIn (l3 + 2) (Int32.toNatClampNeg (mI h 2000001 0))) && ((Nat.beq l0 2000000 && mIn (l3 + 3) (Int32.toNatClampNeg (mI h 2000001 0))) && true))) && Nat.beq (mK h l1).1 0) ((f58 h l1 (mI h 2000000 (Int32.toNatClampNeg (l3 + 1))) (mI h 2000000 (Int32.toNatClampNeg (l3 + 2))) (mI h 2000000 (Int32.toNatClampNeg (l3 + 3)))).bind (fun r11 =>
    mGd (((Nat.beq l0 2000000 && mIn (l3 + 1) (Int32.toNatClampNeg (mI h 2000001 0))) && ((Nat.beq l0 2000000 && mIn (l3 + 2) (Int32.toNatClampNeg (mI h 2000001 0))) && ((Nat.beq l0 2000000 && mIn (l3 + 3) (Int32.toNatClampNeg (mI h 2000001 0))) && true))) && Nat.beq (mK h l2).1 12) ((f208 h l2 (mI h 2000000 (Int32.toNatClampNeg (l3 + 1))) (mI h 2000000 (Int32.toNatClampNeg (l3 + 2))) (mI h 2000000 (Int32.toNatClampNeg (l3 + 3)))).bind (fun r12 =>
    if (r11 : Int32) = r12.1 then
    f302_1887 r12.2 l0 l1 l2 l3
  else 
    mX (mGd (true && mIs01 0) (some (0, r12.2)))))))
def f302_414 (h : mH) (l0 : Nat) (l1 : Nat) (l2 : Nat) (l3 : Int32) : Option ((Int32 × mH) ⊕ (Int32 × mH)) :=
mGd (((Nat.beq l0 2000000 && mIn (l3 + 1) (Int32.toNatClampNeg (mI h 2000001 0))) && ((Nat.beq l0 2000000 && mIn (l3 + 2) (Int32.toNatClampNeg (mI h 2000001 0))) && true)) && Nat.beq (mK h l1).1 0) ((f61 h l1 (mI h 2000000 (Int32.toNatClampNeg (l3 + 1))) (mI h 2000000 (Int32.toNatClampNeg (l3 + 2)))).bind (fun r13 =>
    mGd (((Nat.beq l0 2000000 && mIn (l3 + 1) (Int32.toNatClampNeg (mI r13.2 2000001 0))) && ((Nat.beq l0 2000000 && mIn (l3 + 2) (Int32.toNatClampNeg (mI r13.2 2000001 0))) && true)) && Nat.beq (mK r13.2 l2).1 12) ((f212 r13.2 l2 (mI r13.2 2000000 (Int32.toNatClampNeg (l3 + 1))) (mI r13.2 2000000 (Int32.toNatClampNeg (l3 + 2)))).bind (fun r14 =>
    if (r13.1 : Int32) = r14.1 then
    f302_1887 r14.2 l0 l1 l2 l3
  else 
    mX (mGd (true && mIs01 0) (some (0, r14.2)))))))
def f302_447 (h : mH) (l0 : Nat) (l1 : Nat) (l2 : Nat) (l3 : Int32) : Option ((Int32 × mH) ⊕ (Int32 × mH)) :=
mGd (((Nat.beq l0 2000000 && mIn (l3 + 1) (Int32.toNatClampNeg (mI h 2000001 0))) && ((Nat.beq l0 2000000 && mIn (l3 + 2) (Int32.toNatClampNeg (mI h 2000001 0))) && ((Nat.beq l0 2000000 && mIn (l3 + 3) (Int32.toNatClampNeg (mI h 2000001 0))) && ((Nat.beq l0 2000000 && mIn (l3 + 4) (Int32.toNatClampNeg (mI h 2000001 0))) && true)))) && Nat.beq (mK h l1).1 0) ((f80 h l1 (mI h 2000000 (Int32.toNatClampNeg (l3 + 1))) (mI h 2000000 (Int32.toNatClampNeg (l3 + 2))) (mI h 2000000 (Int32.toNatClampNeg (l3 + 3))) (mI h 2000000 (Int32.toNatClampNeg (l3 + 4)))).bind (fun r15 =>
    mGd (((Nat.beq l0 2000000 && mIn (l3 + 1) (Int32.toNatClampNeg (mI r15.2 2000001 0))) && ((Nat.beq l0 2000000 && mIn (l3 + 2) (Int32.toNatClampNeg (mI r15.2 2000001 0))) && ((Nat.beq l0 2000000 && mIn (l3 + 3) (Int32.toNatClampNeg (mI r15.2 2000001 0))) && ((Nat.beq l0 2000000 && mIn (l3 + 4) (Int32.toNatClampNeg (mI r15.2 2000001 0))) && true)))) && Nat.beq (mK r15.2 l2).1 12) ((f229 r15.2 l2 (mI r15.2 2000000 (Int32.toNatClampNeg (l3 + 1))) (mI r15.2 2000000 (Int32.toNatClampNeg (l3 + 2))) (mI r15.2 2000000 (Int32.toNatClampNeg (l3 + 3))) (mI r15.2 2000000 (Int32.toNatClampNeg (l3 + 4)))).bind (fun r16 =>
    if (r15.1 : Int32) = r16.1 then
    f302_1887 r16.2 l0 l1 l2 l3
  else 
    mX (mGd (true && mIs01 0) (some (0, r16.2)))))))
def f302_500 (h : mH) (l0 : Nat) (l1 : Nat) (l2 : Nat) (l3 : Int32) : Option ((Int32 × mH) ⊕ (Int32 × mH)) :=
mGd (((Nat.beq l0 2000000 && mIn (l3 + 1) (Int32.toNatClampNeg (mI h 2000001 0))) && ((Nat.beq l0 2000000 && mIn (l3 + 2) (Int32.toNatClampNeg (mI h 2000001 0))) && ((Nat.beq l0 2000000 && mIn (l3 + 3) (Int32.toNatClampNeg (mI h 2000001 0))) && true))) && Nat.beq (mK h l1).1 0) ((f83 h l1 (mI h 2000000 (Int32.toNatClampNeg (l3 + 1))) (mI h 2000000 (Int32.toNatClampNeg (l3 + 2))) (mI h 2000000 (Int32.toNatClampNeg (l3 + 3)))).bind (fun r17 =>
    mGd (((Nat.beq l0 2000000 && mIn (l3 + 1) (Int32.toNatClampNeg (mI r17.2 2000001 0))) && ((Nat.beq l0 2000000 && mIn (l3 + 2) (Int32.toNatClampNeg (mI r17.2 2000001 0))) && ((Nat.beq l0 2000000 && mIn (l3 + 3) (Int32.toNatClampNeg (mI r17.2 2000001 0))) && true))) && Nat.beq (mK r17.2 l2).1 12) ((f233 r17.2 l2 (mI r17.2 2000000 (Int32.toNatClampNeg (l3 + 1))) (mI r17.2 2000000 (Int32.toNatClampNeg (l3 + 2))) (mI r17.2 2000000 (Int32.toNatClampNeg (l3 + 3)))).bind (fun r18 =>
    if (r17.1 : Int32) = r18.1 then
    f302_1887 r18.2 l0 l1 l2 l3
  else 
    mX (mGd (true && mIs01 0) (some (0, r18.2)))))))
def f302_543 (h : mH) (l0 : Nat) (l1 : Nat) (l2 : Nat) (l3 : Int32) : Option ((Int32 × mH) ⊕ (Int32 × mH)) :=
mGd (((Nat.beq l0 2000000 && mIn (l3 + 1) (Int32.toNatClampNeg (mI h 2000001 0))) && ((Nat.beq l0 2000000 && mIn (l3 + 2) (Int32.toNatClampNeg (mI h 2000001 0))) && ((Nat.beq l0 2000000 && mIn (l3 + 3) (Int32.toNatClampNeg (mI h 2000001 0))) && ((Nat.beq l0 2000000 && mIn (l3 + 4) (Int32.toNatClampNeg (mI h 2000001 0))) && true)))) && Nat.beq (mK h l1).1 0) ((f89 h l1 (mI h 2000000 (Int32.toNatClampNeg (l3 + 1))) (mI h 2000000 (Int32.toNatClampNeg (l3 + 2))) (mI h 2000000 (Int32.toNatClampNeg (l3 + 3))) (mI h 2000000 (Int32.toNatClampNeg (l3 + 4)))).bind (fun r19 =>
    mGd (((Nat.beq l0 2000000 && mIn (l3 + 1) (Int32.toNatClampNeg (mI r19.2 2000001 0))) && ((Nat.beq l0 2000000 && mIn (l3 + 2) (Int32.toNatClampNeg (mI r19.2 2000001 0))) && ((Nat.beq l0 2000000 && mIn (l3 + 3) (Int32.toNatClampNeg (mI r19.2 2000001 0))) && ((Nat.beq l0 2000000 && mIn (l3 + 4) (Int32.toNatClampNeg (mI r19.2 2000001 0))) && true)))) && Nat.beq (mK r19.2 l2).1 12) ((f236 r19.2 l2 (mI r19.2 2000000 (Int32.toNatClampNeg (l3 + 1))) (mI r19.2 2000000 (Int32.toNatClampNeg (l3 + 2))) (mI r19.2 2000000 (Int32.toNatClampNeg (l3 + 3))) (mI r19.2 2000000 (Int32.toNatClampNeg (l3 + 4)))).bind (fun r20 =>
    if (r19.1 : Int32) = r20.1 then
    f302_1887 r20.2 l0 l1 l2 l3
  else 
    mX (mGd (true && mIs01 0) (some (0, r20.2)))))))
def f302_596 (h : mH) (l0 : Nat) (l1 : Nat) (l2 : Nat) (l3 : Int32) : Option ((Int32 × mH) ⊕ (Int32 × mH)) :=
mGd ((Nat.beq l0 2000000 && mIn (l3 + 1) (Int32.toNatClampNeg (mI h 2000001 0))) && ((Nat.beq l0 2000000 && mIn (l3 + 2) (Int32.toNatClampNeg (mI h 2000001 0))) && ((Nat.beq l0 2000000 && mIn (l3 + 3) (Int32.toNatClampNeg (mI h 2000001 0))) && true))) (
    if ((mI h 2000000 (Int32.toNatClampNeg (l3 + 3))) : Int32) = 0 then
    mGd (true && Nat.beq (mK h l1).1 0) ((f92 h l1 (mI h 2000000 (Int32.toNatClampNeg (l3 + 1))) (mI h 2000000 (Int32.toNatClampNeg (l3 + 2))) 0).bind (fun r21 =>
      mGd ((Nat.beq l0 2000000 && mIn (l3 + 1) (Int32.toNatClampNeg (mI h 2000001 0))) && ((Nat.beq l0 2000000 && mIn (l3 + 2) (Int32.toNatClampNeg (mI h 2000001 0))) && ((Nat.beq l0 2000000 && mIn (l3 + 3) (Int32.toNatClampNeg (mI h 2000001 0))) && true))) (
      if ((mI h 2000000 (Int32.toNatClampNeg (l3 + 3))) : Int32) = 0 then
      mGd (true && Nat.beq (mK h l2).1 12) ((f241 h l2 (mI h 2000000 (Int32.toNatClampNeg (l3 + 1))) (mI h 2000000 (Int32.toNatClampNeg (l3 + 2))) 0).bind (fun r22 =>
        if (r21 : Int32) = r22.1 then
        f302_1887 r22.2 l0 l1 l2 l3
      else 
        mX (mGd (true && mIs01 0) (some (0, r22.2)))))
    else 
      mGd (true && Nat.beq (mK h l2).1 12) ((f241 h l2 (mI h 2000000 (Int32.toNatClampNeg (l3 + 1))) (mI h 2000000 (Int32.toNatClampNeg (l3 + 2))) 1).bind (fun r23 =>
        if (r21 : Int32) = r23.1 then
        f302_1887 r23.2 l0 l1 l2 l3
      else 
        mX (mGd (true && mIs01 0) (some (0, r23.2))))))))
  else 
    mGd (true && Nat.beq (mK h l1).1 0) ((f92 h l1 (mI h 2000000 (Int32.toNatClampNeg (l3 + 1))) (mI h 2000000 (Int32.toNatClampNeg (l3 + 2))) 1).bind (fun r24 =>
      mGd ((Nat.beq l0 2000000 && mIn (l3 + 1) (Int32.toNatClampNeg (mI h 2000001 0))) && ((Nat.beq l0 2000000 && mIn (l3 + 2) (Int32.toNatClampNeg (mI h 2000001 0))) && ((Nat.beq l0 2000000 && mIn (l3 + 3) (Int32.toNatClampNeg (mI h 2000001 0))) && true))) (
      if ((mI h 2000000 (Int32.toNatClampNeg (l3 + 3))) : Int32) = 0 then
      mGd (true && Nat.beq (mK h l2).1 12) ((f241 h l2 (mI h 2000000 (Int32.toNatClampNeg (l3 + 1))) (mI h 2000000 (Int32.toNatClampNeg (l3 + 2))) 0).bind (fun r25 =>
        if (r24 : Int32) = r25.1 then
        f302_1887 r25.2 l0 l1 l2 l3
      else 
        mX (mGd (true && mIs01 0) (some (0, r25.2)))))
    else 
      mGd (true && Nat.beq (mK h l2).1 12) ((f241 h l2 (mI h 2000000 (Int32.toNatClampNeg (l3 + 1))) (mI h 2000000 (Int32.toNatClampNeg (l3 + 2))) 1).bind (fun r26 =>
        if (r24 : Int32) = r26.1 then
        f302_1887 r26.2 l0 l1 l2 l3
      else 
        mX (mGd (true && mIs01 0) (some (0, r26.2)))))))))
def f302_655 (h : mH) (l0 : Nat) (l1 : Nat) (l2 : Nat) (l3 : Int32) : Option ((Int32 × mH) ⊕ (Int32 × mH)) :=
mGd (((Nat.beq l0 2000000 && mIn (l3 + 1) (Int32.toNatClampNeg (mI h 2000001 0))) && ((Nat.beq l0 2000000 && mIn (l3 + 2) (Int32.toNatClampNeg (mI h 2000001 0))) && ((Nat.beq l0 2000000 && mIn (l3 + 3) (Int32.toNatClampNeg (mI h 2000001 0))) && true))) && Nat.beq (mK h l1).1 0) ((f97 h l1 (mI h 2000000 (Int32.toNatClampNeg (l3 + 1))) (mI h 2000000 (Int32.toNatClampNeg (l3 + 2))) (mI h 2000000 (Int32.toNatClampNeg (l3 + 3)))).bind (fun r27 =>
    mGd (((Nat.beq l0 2000000 && mIn (l3 + 1) (Int32.toNatClampNeg (mI h 2000001 0))) && ((Nat.beq l0 2000000 && mIn (l3 + 2) (Int32.toNatClampNeg (mI h 2000001 0))) && ((Nat.beq l0 2000000 && mIn (l3 + 3) (Int32.toNatClampNeg (mI h 2000001 0))) && true))) && Nat.beq (mK h l2).1 12) ((f245 h l2 (mI h 2000000 (Int32.toNatClampNeg (l3 + 1))) (mI h 2000000 (Int32.toNatClampNeg (l3 + 2))) (mI h 2000000 (Int32.toNatClampNeg (l3 + 3)))).bind (fun r28 =>
    if (r27 : Int32) = r28.1 then
    f302_1887 r28.2 l0 l1 l2 l3
  else 
    mX (mGd (true && mIs01 0) (some (0, r28.2)))))))
def f302_698 (h : mH) (l0 : Nat) (l1 : Nat) (l2 : Nat) (l3 : Int32) : Option ((Int32 × mH) ⊕ (Int32 × mH)) :=
mGd ((Nat.beq l0 2000000 && mIn (l3 + 1) (Int32.toNatClampNeg (mI h 2000001 0))) && ((Nat.beq l0 2000000 && mIn (l3 + 2) (Int32.toNatClampNeg (mI h 2000001 0))) && ((Nat.beq l0 2000000 && mIn (l3 + 3) (Int32.toNatClampNeg (mI h 2000001 0))) && true))) (
    if ((mI h 2000000 (Int32.toNatClampNeg (l3 + 3))) : Int32) = 0 then
    mGd (true && Nat.beq (mK h l1).1 0) ((f100 h l1 (mI h 2000000 (Int32.toNatClampNeg (l3 + 1))) (mI h 2000000 (Int32.toNatClampNeg (l3 + 2))) 0).bind (fun r29 =>
      mGd ((Nat.beq l0 2000000 && mIn (l3 + 1) (Int32.toNatClampNeg (mI h 2000001 0))) && ((Nat.beq l0 2000000 && mIn (l3 + 2) (Int32.toNatClampNeg (mI h 2000001 0))) && ((Nat.beq l0 2000000 && mIn (l3 + 3) (Int32.toNatClampNeg (mI h 2000001 0))) && true))) (
      if ((mI h 2000000 (Int32.toNatClampNeg (l3 + 3))) : Int32) = 0 then
      mGd (true && Nat.beq (mK h l2).1 12) ((f248 h l2 (mI h 2000000 (Int32.toNatClampNeg (l3 + 1))) (mI h 2000000 (Int32.toNatClampNeg (l3 + 2))) 0).bind (fun r30 =>
        if (r29 : Int32) = r30.1 then
        f302_1887 r30.2 l0 l1 l2 l3
      else 
        mX (mGd (true && mIs01 0) (some (0, r30.2)))))
    else 
      mGd (true && Nat.beq (mK h l2).1 12) ((f248 h l2 (mI h 2000000 (Int32.toNatClampNeg (l3 + 1))) (mI h 2000000 (Int32.toNatClampNeg (l3 + 2))) 1).bind (fun r31 =>
        if (r29 : Int32) = r31.1 then
        f302_1887 r31.2 l0 l1 l2 l3
      else 
        mX (mGd (true && mIs01 0) (some (0, r31.2))))))))
  else 
    mGd (true && Nat.beq (mK h l1).1 0) ((f100 h l1 (mI h 2000000 (Int32.toNatClampNeg (l3 + 1))) (mI h 2000000 (Int32.toNatClampNeg (l3 + 2))) 1).bind (fun r32 =>
      mGd ((Nat.beq l0 2000000 && mIn (l3 + 1) (Int32.toNatClampNeg (mI h 2000001 0))) && ((Nat.beq l0 2000000 && mIn (l3 + 2) (Int32.toNatClampNeg (mI h 2000001 0))) && ((Nat.beq l0 2000000 && mIn (l3 + 3) (Int32.toNatClampNeg (mI h 2000001 0))) && true))) (
      if ((mI h 2000000 (Int32.toNatClampNeg (l3 + 3))) : Int32) = 0 then
      mGd (true && Nat.beq (mK h l2).1 12) ((f248 h l2 (mI h 2000000 (Int32.toNatClampNeg (l3 + 1))) (mI h 2000000 (Int32.toNatClampNeg (l3 + 2))) 0).bind (fun r33 =>
        if (r32 : Int32) = r33.1 then
        f302_1887 r33.2 l0 l1 l2 l3
      else 
        mX (mGd (true && mIs01 0) (some (0, r33.2)))))
    else 
      mGd (true && Nat.beq (mK h l2).1 12) ((f248 h l2 (mI h 2000000 (Int32.toNatClampNeg (l3 + 1))) (mI h 2000000 (Int32.toNatClampNeg (l3 + 2))) 1).bind (fun r34 =>
        if (r32 : Int32) = r34.1 then
        f302_1887 r34.2 l0 l1 l2 l3
      else 
        mX (mGd (true && mIs01 0) (some (0, r34.2)))))))))
def f302_757 (h : mH) (l0 : Nat) (l1 : Nat) (l2 : Nat) (l3 : Int32) : Option ((Int32 × mH) ⊕ (Int32 × mH)) :=
mGd ((Nat.beq l0 2000000 && mIn (l3 + 1) (Int32.toNatClampNeg (mI h 2000001 0))) && ((Nat.beq l0 2000000 && mIn (l3 + 2) (Int32.toNatClampNeg (mI h 2000001 0))) && ((Nat.beq l0 2000000 && mIn (l3 + 3) (Int32.toNatClampNeg (mI h 2000001 0))) && true))) (
    if ((mI h 2000000 (Int32.toNatClampNeg (l3 + 3))) : Int32) = 0 then
    mGd (true && Nat.beq (mK h l1).1 0) ((f102 h l1 (mI h 2000000 (Int32.toNatClampNeg (l3 + 1))) (mI h 2000000 (Int32.toNatClampNeg (l3 + 2))) 0).bind (fun r35 =>
      mGd ((Nat.beq l0 2000000 && mIn (l3 + 1) (Int32.toNatClampNeg (mI r35.2 2000001 0))) && ((Nat.beq l0 2000000 && mIn (l3 + 2) (Int32.toNatClampNeg (mI r35.2 2000001 0))) && ((Nat.beq l0 2000000 && mIn (l3 + 3) (Int32.toNatClampNeg (mI r35.2 2000001 0))) && true))) (
      if ((mI r35.2 2000000 (Int32.toNatClampNeg (l3 + 3))) : Int32) = 0 then
      mGd (true && Nat.beq (mK r35.2 l2).1 12) ((f249 r35.2 l2 (mI r35.2 2000000 (Int32.toNatClampNeg (l3 + 1))) (mI r35.2 2000000 (Int32.toNatClampNeg (l3 + 2))) 0).bind (fun r36 =>
        if (r35.1 : Int32) = r36.1 then
        f302_1887 r36.2 l0 l1 l2 l3
      else 
        mX (mGd (true && mIs01 0) (some (0, r36.2)))))
    else 
      mGd (true && Nat.beq (mK r35.2 l2).1 12) ((f249 r35.2 l2 (mI r35.2 2000000 (Int32.toNatClampNeg (l3 + 1))) (mI r35.2 2000000 (Int32.toNatClampNeg (l3 + 2))) 1).bind (fun r37 =>
        if (r35.1 : Int32) = r37.1 then
        f302_1887 r37.2 l0 l1 l2 l3
      else 
        mX (mGd (true && mIs01 0) (some (0, r37.2))))))))
  else 
    mGd (true && Nat.beq (mK h l1).1 0) ((f102 h l1 (mI h 2000000 (Int32.toNatClampNeg (l3 + 1))) (mI h 2000000 (Int32.toNatClampNeg (l3 + 2))) 1).bind (fun r38 =>
      mGd ((Nat.beq l0 2000000 && mIn (l3 + 1) (Int32.toNatClampNeg (mI r38.2 2000001 0))) && ((Nat.beq l0 2000000 && mIn (l3 + 2) (Int32.toNatClampNeg (mI r38.2 2000001 0))) && ((Nat.beq l0 2000000 && mIn (l3 + 3) (Int32.toNatClampNeg (mI r38.2 2000001 0))) && true))) (
      if ((mI r38.2 2000000 (Int32.toNatClampNeg (l3 + 3))) : Int32) = 0 then
      mGd (true && Nat.beq (mK r38.2 l2).1 12) ((f249 r38.2 l2 (mI r38.2 2000000 (Int32.toNatClampNeg (l3 + 1))) (mI r38.2 2000000 (Int32.toNatClampNeg (l3 + 2))) 0).bind (fun r39 =>
        if (r38.1 : Int32) = r39.1 then
        f302_1887 r39.2 l0 l1 l2 l3
      else 
        mX (mGd (true && mIs01 0) (some (0, r39.2)))))
    else 
      mGd (true && Nat.beq (mK r38.2 l2).1 12) ((f249 r38.2 l2 (mI r38.2 2000000 (Int32.toNatClampNeg (l3 + 1))) (mI r38.2 2000000 (Int32.toNatClampNeg (l3 + 2))) 1).bind (fun r40 =>
        if (r38.1 : Int32) = r40.1 then
        f302_1887 r40.2 l0 l1 l2 l3
      else 
        mX (mGd (true && mIs01 0) (some (0, r40.2)))))))))
def f302_816 (h : mH) (l0 : Nat) (l1 : Nat) (l2 : Nat) (l3 : Int32) : Option ((Int32 × mH) ⊕ (Int32 × mH)) :=
mGd ((Nat.beq l0 2000000 && mIn (l3 + 1) (Int32.toNatClampNeg (mI h 2000001 0))) && ((Nat.beq l0 2000000 && mIn (l3 + 2) (Int32.toNatClampNeg (mI h 2000001 0))) && ((Nat.beq l0 2000000 && mIn (l3 + 3) (Int32.toNatClampNeg (mI h 2000001 0))) && ((Nat.beq l0 2000000 && mIn (l3 + 4) (Int32.toNatClampNeg (mI h 2000001 0))) && ((Nat.beq l0 2000000 && mIn (l3 + 5) (Int32.toNatClampNeg (mI h 2000001 0))) && true))))) (
    if ((mI h 2000000 (Int32.toNatClampNeg (l3 + 5))) : Int32) = 0 then
    mGd (true && Nat.beq (mK h l1).1 0) ((f105 h l1 (mI h 2000000 (Int32.toNatClampNeg (l3 + 1))) (mI h 2000000 (Int32.toNatClampNeg (l3 + 2))) (mI h 2000000 (Int32.toNatClampNeg (l3 + 3))) (mI h 2000000 (Int32.toNatClampNeg (l3 + 4))) 0).bind (fun r41 =>
      mGd ((Nat.beq l0 2000000 && mIn (l3 + 1) (Int32.toNatClampNeg (mI h 2000001 0))) && ((Nat.beq l0 2000000 && mIn (l3 + 2) (Int32.toNatClampNeg (mI h 2000001 0))) && ((Nat.beq l0 2000000 && mIn (l3 + 3) (Int32.toNatClampNeg (mI h 2000001 0))) && ((Nat.beq l0 2000000 && mIn (l3 + 4) (Int32.toNatClampNeg (mI h 2000001 0))) && ((Nat.beq l0 2000000 && mIn (l3 + 5) (Int32.toNatClampNeg (mI h 2000001 0))) && true))))) (
      if ((mI h 2000000 (Int32.toNatClampNeg (l3 + 5))) : Int32) = 0 then
      mGd (true && Nat.beq (mK h l2).1 12) ((f251 h l2 (mI h 2000000 (Int32.toNatClampNeg (l3 + 1))) (mI h 2000000 (Int32.toNatClampNeg (l3 + 2))) (mI h 2000000 (Int32.toNatClampNeg (l3 + 3))) (mI h 2000000 (Int32.toNatClampNeg (l3 + 4))) 0).bind (fun r42 =>
        if ((lg_cmp r41 r42.1) : Int32) = 0 then
        f302_1887 r42.2 l0 l1 l2 l3
      else 
        mX (mGd (true && mIs01 0) (some (0, r42.2)))))
    else 
      mGd (true && Nat.beq (mK h l2).1 12) ((f251 h l2 (mI h 2000000 (Int32.toNatClampNeg (l3 + 1))) (mI h 2000000 (Int32.toNatClampNeg (l3 + 2))) (mI h 2000000 (Int32.toNatClampNeg (l3 + 3))) (mI h 2000000 (Int32.toNatClampNeg (l3 + 4))) 1).bind (fun r43 =>
        if ((lg_cmp r41 r43.1) : Int32) = 0 then
        f302_1887 r43.2 l0 l1 l2 l3
      else 
        mX (mGd (true && mIs01 0) (some (0, r43.2))))))))
  else 
    mGd (true && Nat.beq (mK h l1).1 0) ((f105 h l1 (mI h 2000000 (Int32.toNatClampNeg (l3 + 1))) (mI h 2000000 (Int32.toNatClampNeg (l3 + 2))) (mI h 2000000 (Int32.toNatClampNeg (l3 + 3))) (mI h 2000000 (Int32.toNatClampNeg (l3 + 4))) 1).bind (fun r44 =>
      mGd ((Nat.beq l0 2000000 && mIn (l3 + 1) (Int32.toNatClampNeg (mI h 2000001 0))) && ((Nat.beq l0 2000000 && mIn (l3 + 2) (Int32.toNatClampNeg (mI h 2000001 0))) && ((Nat.beq l0 2000000 && mIn (l3 + 3) (Int32.toNatClampNeg (mI h 2000001 0))) && ((Nat.beq l0 2000000 && mIn (l3 + 4) (Int32.toNatClampNeg (mI h 2000001 0))) && ((Nat.beq l0 2000000 && mIn (l3 + 5) (Int32.toNatClampNeg (mI h 2000001 0))) && true))))) (
      if ((mI h 2000000 (Int32.toNatClampNeg (l3 + 5))) : Int32) = 0 then
      mGd (true && Nat.beq (mK h l2).1 12) ((f251 h l2 (mI h 2000000 (Int32.toNatClampNeg (l3 + 1))) (mI h 2000000 (Int32.toNatClampNeg (l3 + 2))) (mI h 2000000 (Int32.toNatClampNeg (l3 + 3))) (mI h 2000000 (Int32.toNatClampNeg (l3 + 4))) 0).bind (fun r45 =>
        if ((lg_cmp r44 r45.1) : Int32) = 0 then
        f302_1887 r45.2 l0 l1 l2 l3
      else 
        mX (mGd (true && mIs01 0) (some (0, r45.2)))))
    else 
      mGd (true && Nat.beq (mK h l2).1 12) ((f251 h l2 (mI h 2000000 (Int32.toNatClampNeg (l3 + 1))) (mI h 2000000 (Int32.toNatClampNeg (l3 + 2))) (mI h 2000000 (Int32.toNatClampNeg (l3 + 3))) (mI h 2000000 (Int32.toNatClampNeg (l3 + 4))) 1).bind (fun r46 =>
        if ((lg_cmp r44 r46.1) : Int32) = 0 then
        f302_1887 r46.2 l0 l1 l2 l3
      else 
        mX (mGd (true && mIs01 0) (some (0, r46.2)))))))))
def f302_896 (h : mH) (l0 : Nat) (l1 : Nat) (l2 : Nat) (l3 : Int32) : Option ((Int32 × mH) ⊕ (Int32 × mH)) :=
mGd (((Nat.beq l0 2000000 && mIn (l3 + 1) (Int32.toNatClampNeg (mI h 2000001 0))) && ((Nat.beq l0 2000000 && mIn (l3 + 2) (Int32.toNatClampNeg (mI h 2000001 0))) && ((Nat.beq l0 2000000 && mIn (l3 + 3) (Int32.toNatClampNeg (mI h 2000001 0))) && true))) && Nat.beq (mK h l1).1 0) ((f110 h l1 (mI h 2000000 (Int32.toNatClampNeg (l3 + 1))) (mI h 2000000 (Int32.toNatClampNeg (l3 + 2))) (mI h 2000000 (Int32.toNatClampNeg (l3 + 3)))).bind (fun r47 =>
    mGd (((Nat.beq l0 2000000 && mIn (l3 + 1) (Int32.toNatClampNeg (mI h 2000001 0))) && ((Nat.beq l0 2000000 && mIn (l3 + 2) (Int32.toNatClampNeg (mI h 2000001 0))) && ((Nat.beq l0 2000000 && mIn (l3 + 3) (Int32.toNatClampNeg (mI h 2000001 0))) && true))) && Nat.beq (mK h l2).1 12) ((f257 h l2 (mI h 2000000 (Int32.toNatClampNeg (l3 + 1))) (mI h 2000000 (Int32.toNatClampNeg (l3 + 2))) (mI h 2000000 (Int32.toNatClampNeg (l3 + 3)))).bind (fun r48 =>
    if (r47 : Int32) = r48.1 then
    f302_1887 r48.2 l0 l1 l2 l3
  else 
    mX (mGd (true && mIs01 0) (some (0, r48.2)))))))
def f302_939 (h : mH) (l0 : Nat) (l1 : Nat) (l2 : Nat) (l3 : Int32) : Option ((Int32 × mH) ⊕ (Int32 × mH)) :=
mGd (((Nat.beq l0 2000000 && mIn (l3 + 1) (Int32.toNatClampNeg (mI h 2000001 0))) && ((Nat.beq l0 2000000 && mIn (l3 + 2) (Int32.toNatClampNeg (mI h 2000001 0))) && ((Nat.beq l0 2000000 && mIn (l3 + 3) (Int32.toNatClampNeg (mI h 2000001 0))) && true))) && Nat.beq (mK h l1).1 0) ((f113 h l1 (mI h 2000000 (Int32.toNatClampNeg (l3 + 1))) (mI h 2000000 (Int32.toNatClampNeg (l3 + 2))) (mI h 2000000 (Int32.toNatClampNeg (l3 + 3)))).bind (fun r49 =>
    mGd (((Nat.beq l0 2000000 && mIn (l3 + 1) (Int32.toNatClampNeg (mI r49.2 2000001 0))) && ((Nat.beq l0 2000000 && mIn (l3 + 2) (Int32.toNatClampNeg (mI r49.2 2000001 0))) && ((Nat.beq l0 2000000 && mIn (l3 + 3) (Int32.toNatClampNeg (mI r49.2 2000001 0))) && true))) && Nat.beq (mK r49.2 l2).1 12) ((f261 r49.2 l2 (mI r49.2 2000000 (Int32.toNatClampNeg (l3 + 1))) (mI r49.2 2000000 (Int32.toNatClampNeg (l3 + 2))) (mI r49.2 2000000 (Int32.toNatClampNeg (l3 + 3)))).bind (fun r50 =>
    if (r49.1 : Int32) = r50.1 then
    f302_1887 r50.2 l0 l1 l2 l3
  else 
    mX (mGd (true && mIs01 0) (some (0, r50.2)))))))
def f302_982 (h : mH) (l0 : Nat) (l1 : Nat) (l2 : Nat) (l3 : Int32) : Option ((Int32 × mH) ⊕ (Int32 × mH)) :=
mGd (((Nat.beq l0 2000000 && mIn (l3 + 1) (Int32.toNatClampNeg (mI h 2000001 0))) && ((Nat.beq l0 2000000 && mIn (l3 + 2) (Int32.toNatClampNeg (mI h 2000001 0))) && ((Nat.beq l0 2000000 && mIn (l3 + 3) (Int32.toNatClampNeg (mI h 2000001 0))) && ((Nat.beq l0 2000000 && mIn (l3 + 4) (Int32.toNatClampNeg (mI h 2000001 0))) && true)))) && Nat.beq (mK h l1).1 0) ((f121 h l1 (mI h 2000000 (Int32.toNatClampNeg (l3 + 1))) (mI h 2000000 (Int32.toNatClampNeg (l3 + 2))) (mI h 2000000 (Int32.toNatClampNeg (l3 + 3))) (mI h 2000000 (Int32.toNatClampNeg (l3 + 4)))).bind (fun r51 =>
    mGd (((Nat.beq l0 2000000 && mIn (l3 + 1) (Int32.toNatClampNeg (mI r51.2 2000001 0))) && ((Nat.beq l0 2000000 && mIn (l3 + 2) (Int32.toNatClampNeg (mI r51.2 2000001 0))) && ((Nat.beq l0 2000000 && mIn (l3 + 3) (Int32.toNatClampNeg (mI r51.2 2000001 0))) && ((Nat.beq l0 2000000 && mIn (l3 + 4) (Int32.toNatClampNeg (mI r51.2 2000001 0))) && true)))) && Nat.beq (mK r51.2 l2).1 12) ((f267 r51.2 l2 (mI r51.2 2000000 (Int32.toNatClampNeg (l3 + 1))) (mI r51.2 2000000 (Int32.toNatClampNeg (l3 + 2))) (mI r51.2 2000000 (Int32.toNatClampNeg (l3 + 3))) (mI r51.2 2000000 (Int32.toNatClampNeg (l3 + 4)))).bind (fun r52 =>
    if (r51.1 : Int32) = r52.1 then
    f302_1887 r52.2 l0 l1 l2 l3
  else 
    mX (mGd (true && mIs01 0) (some (0, r52.2)))))))
def f302_1035 (h : mH) (l0 : Nat) (l1 : Nat) (l2 : Nat) (l3 : Int32) : Option ((Int32 × mH) ⊕ (Int32 × mH)) :=
mGd (((Nat.beq l0 2000000 && mIn (l3 + 1) (Int32.toNatClampNeg (mI h 2000001 0))) && ((Nat.beq l0 2000000 && mIn (l3 + 2) (Int32.toNatClampNeg (mI h 2000001 0))) && true)) && Nat.beq (mK h l1).1 0) ((f125 h l1 (mI h 2000000 (Int32.toNatClampNeg (l3 + 1))) (mI h 2000000 (Int32.toNatClampNeg (l3 + 2)))).bind (fun r53 =>
    mGd (((Nat.beq l0 2000000 && mIn (l3 + 1) (Int32.toNatClampNeg (mI r53.2 2000001 0))) && ((Nat.beq l0 2000000 && mIn (l3 + 2) (Int32.toNatClampNeg (mI r53.2 2000001 0))) && true)) && Nat.beq (mK r53.2 l2).1 12) ((f270 r53.2 l2 (mI r53.2 2000000 (Int32.toNatClampNeg (l3 + 1))) (mI r53.2 2000000 (Int32.toNatClampNeg (l3 + 2)))).bind (fun r54 =>
    if (r53.1 : Int32) = r54.1 then
    f302_1887 r54.2 l0 l1 l2 l3
  else 
    mX (mGd (true && mIs01 0) (some (0, r54.2)))))))
def f302_1068 (h : mH) (l0 : Nat) (l1 : Nat) (l2 : Nat) (l3 : Int32) : Option ((Int32 × mH) ⊕ (Int32 × mH)) :=
mGd (((Nat.beq l0 2000000 && mIn (l3 + 1) (Int32.toNatClampNeg (mI h 2000001 0))) && ((Nat.beq l0 2000000 && mIn (l3 + 2) (Int32.toNatClampNeg (mI h 2000001 0))) && ((Nat.beq l0 2000000 && mIn (l3 + 3) (Int32.toNatClampNeg (mI h 2000001 0))) && true))) && Nat.beq (mK h l1).1 0) ((f137 h l1 (mI h 2000000 (Int32.toNatClampNeg (l3 + 1))) (mI h 2000000 (Int32.toNatClampNeg (l3 + 2))) (mI h 2000000 (Int32.toNatClampNeg (l3 + 3)))).bind (fun r55 =>
    mGd (((Nat.beq l0 2000000 && mIn (l3 + 1) (Int32.toNatClampNeg (mI r55.2 2000001 0))) && ((Nat.beq l0 2000000 && mIn (l3 + 2) (Int32.toNatClampNeg (mI r55.2 2000001 0))) && ((Nat.beq l0 2000000 && mIn (l3 + 3) (Int32.toNatClampNeg (mI r55.2 2000001 0))) && true))) && Nat.beq (mK r55.2 l2).1 12) ((f277 r55.2 l2 (mI r55.2 2000000 (Int32.toNatClampNeg (l3 + 1))) (mI r55.2 2000000 (Int32.toNatClampNeg (l3 + 2))) (mI r55.2 2000000 (Int32.toNatClampNeg (l3 + 3)))).bind (fun r56 =>
    if (r55.1 : Int32) = r56.1 then
    f302_1887 r56.2 l0 l1 l2 l3
  else 
    mX (mGd (true && mIs01 0) (some (0, r56.2)))))))
def f302_1111 (h : mH) (l0 : Nat) (l1 : Nat) (l2 : Nat) (l3 : Int32) : Option ((Int32 × mH) ⊕ (Int32 × mH)) :=
mGd (((Nat.beq l0 2000000 && mIn (l3 + 1) (Int32.toNatClampNeg (mI h 2000001 0))) && ((Nat.beq l0 2000000 && mIn (l3 + 2) (Int32.toNatClampNeg (mI h 2000001 0))) && ((Nat.beq l0 2000000 && mIn (l3 + 3) (Int32.toNatClampNeg (mI h 2000001 0))) && ((Nat.beq l0 2000000 && mIn (l3 + 4) (Int32.toNatClampNeg (mI h 2000001 0))) && true)))) && Nat.beq (mK h l1).1 0) ((f141 h l1 (mI h 2000000 (Int32.toNatClampNeg (l3 + 1))) (mI h 2000000 (Int32.toNatClampNeg (l3 + 2))) (mI h 2000000 (Int32.toNatClampNeg (l3 + 3))) (mI h 2000000 (Int32.toNatClampNeg (l3 + 4)))).bind (fun r57 =>
    mGd (((Nat.beq l0 2000000 && mIn (l3 + 1) (Int32.toNatClampNeg (mI r57.2 2000001 0))) && ((Nat.beq l0 2000000 && mIn (l3 + 2) (Int32.toNatClampNeg (mI r57.2 2000001 0))) && ((Nat.beq l0 2000000 && mIn (l3 + 3) (Int32.toNatClampNeg (mI r57.2 2000001 0))) && ((Nat.beq l0 2000000 && mIn (l3 + 4) (Int32.toNatClampNeg (mI r57.2 2000001 0))) && true)))) && Nat.beq (mK r57.2 l2).1 12) ((f280 r57.2 l2 (mI r57.2 2000000 (Int32.toNatClampNeg (l3 + 1))) (mI r57.2 2000000 (Int32.toNatClampNeg (l3 + 2))) (mI r57.2 2000000 (Int32.toNatClampNeg (l3 + 3))) (mI r57.2 2000000 (Int32.toNatClampNeg (l3 + 4)))).bind (fun r58 =>
    if (r57.1 : Int32) = r58.1 then
    f302_1887 r58.2 l0 l1 l2 l3
  else 
    mX (mGd (true && mIs01 0) (some (0, r58.2)))))))
def f302_1164 (h : mH) (l0 : Nat) (l1 : Nat) (l2 : Nat) (l3 : Int32) : Option ((Int32 × mH) ⊕ (Int32 × mH)) :=
mGd (((Nat.beq l0 2000000 && mIn (l3 + 1) (Int32.toNatClampNeg (mI h 2000001 0))) && ((Nat.beq l0 2000000 && mIn (l3 + 2) (Int32.toNatClampNeg (mI h 2000001 0))) && ((Nat.beq l0 2000000 && mIn (l3 + 3) (Int32.toNatClampNeg (mI h 2000001 0))) && true))) && Nat.beq (mK h l1).1 0) ((f143 h l1 (mI h 2000000 (Int32.toNatClampNeg (l3 + 1))) (mI h 2000000 (Int32.toNatClampNeg (l3 + 2))) (mI h 2000000 (Int32.toNatClampNeg (l3 + 3)))).bind (fun r59 =>
    mGd (((Nat.beq l0 2000000 && mIn (l3 + 1) (Int32.toNatClampNeg (mI r59.2 2000001 0))) && ((Nat.beq l0 2000000 && mIn (l3 + 2) (Int32.toNatClampNeg (mI r59.2 2000001 0))) && ((Nat.beq l0 2000000 && mIn (l3 + 3) (Int32.toNatClampNeg (mI r59.2 2000001 0))) && true))) && Nat.beq (mK r59.2 l2).1 12) ((f281 r59.2 l2 (mI r59.2 2000000 (Int32.toNatClampNeg (l3 + 1))) (mI r59.2 2000000 (Int32.toNatClampNeg (l3 + 2))) (mI r59.2 2000000 (Int32.toNatClampNeg (l3 + 3)))).bind (fun r60 =>
    if (r59.1 : Int32) = r60.1 then
    f302_1887 r60.2 l0 l1 l2 l3
  else 
    mX (mGd (true && mIs01 0) (some (0, r60.2)))))))
def f302_1207 (h : mH) (l0 : Nat) (l1 : Nat) (l2 : Nat) (l3 : Int32) : Option ((Int32 × mH) ⊕ (Int32 × mH)) :=
mGd (((Nat.beq l0 2000000 && mIn (l3 + 1) (Int32.toNatClampNeg (mI h 2000001 0))) && ((Nat.beq l0 2000000 && mIn (l3 + 2) (Int32.toNatClampNeg (mI h 2000001 0))) && true)) && Nat.beq (mK h l1).1 0) ((f145 h l1 (mI h 2000000 (Int32.toNatClampNeg (l3 + 1))) (mI h 2000000 (Int32.toNatClampNeg (l3 + 2)))).bind (fun r61 =>
    mGd (((Nat.beq l0 2000000 && mIn (l3 + 1) (Int32.toNatClampNeg (mI r61.2 2000001 0))) && ((Nat.beq l0 2000000 && mIn (l3 + 2) (Int32.toNatClampNeg (mI r61.2 2000001 0))) && true)) && Nat.beq (mK r61.2 l2).1 12) ((f282 r61.2 l2 (mI r61.2 2000000 (Int32.toNatClampNeg (l3 + 1))) (mI r61.2 2000000 (Int32.toNatClampNeg (l3 + 2)))).bind (fun r62 =>
    if (r61.1 : Int32) = r62.1 then
    f302_1887 r62.2 l0 l1 l2 l3
  else 
    mX (mGd (true && mIs01 0) (some (0, r62.2)))))))
def f302_1240 (h : mH) (l0 : Nat) (l1 : Nat) (l2 : Nat) (l3 : Int32) : Option ((Int32 × mH) ⊕ (Int32 × mH)) :=
mGd (((Nat.beq l0 2000000 && mIn (l3 + 1) (Int32.toNatClampNeg (mI h 2000001 0))) && ((Nat.beq l0 2000000 && mIn (l3 + 2) (Int32.toNatClampNeg (mI h 2000001 0))) && true)) && Nat.beq (mK h l1).1 0) ((f148 h l1 (mI h 2000000 (Int32.toNatClampNeg (l3 + 1))) (mI h 2000000 (Int32.toNatClampNeg (l3 + 2)))).bind (fun r63 =>
    mGd (((Nat.beq l0 2000000 && mIn (l3 + 1) (Int32.toNatClampNeg (mI r63.2 2000001 0))) && ((Nat.beq l0 2000000 && mIn (l3 + 2) (Int32.toNatClampNeg (mI r63.2 2000001 0))) && true)) && Nat.beq (mK r63.2 l2).1 12) ((f283 r63.2 l2 (mI r63.2 2000000 (Int32.toNatClampNeg (l3 + 1))) (mI r63.2 2000000 (Int32.toNatClampNeg (l3 + 2)))).bind (fun r64 =>
    if (r63.1 : Int32) = r64.1 then
    f302_1887 r64.2 l0 l1 l2 l3
  else 
    mX (mGd (true && mIs01 0) (some (0, r64.2)))))))
def f302_1273 (h : mH) (l0 : Nat) (l1 : Nat) (l2 : Nat) (l3 : Int32) : Option ((Int32 × mH) ⊕ (Int32 × mH)) :=
mGd ((Nat.beq l0 2000000 && mIn (l3 + 1) (Int32.toNatClampNeg (mI h 2000001 0))) && ((Nat.beq l0 2000000 && mIn (l3 + 2) (Int32.toNatClampNeg (mI h 2000001 0))) && true)) (
    if ((mI h 2000000 (Int32.toNatClampNeg (l3 + 2))) : Int32) = 0 then
    mGd (true && Nat.beq (mK h l1).1 0) ((f149 h l1 (mI h 2000000 (Int32.toNatClampNeg (l3 + 1))) 0).bind (fun r65 =>
      mGd ((Nat.beq l0 2000000 && mIn (l3 + 1) (Int32.toNatClampNeg (mI r65.2 2000001 0))) && ((Nat.beq l0 2000000 && mIn (l3 + 2) (Int32.toNatClampNeg (mI r65.2 2000001 0))) && true)) (
      if ((mI r65.2 2000000 (Int32.toNatClampNeg (l3 + 2))) : Int32) = 0 then
      mGd (true && Nat.beq (mK r65.2 l2).1 12) ((f284 r65.2 l2 (mI r65.2 2000000 (Int32.toNatClampNeg (l3 + 1))) 0).bind (fun r66 =>
        if (r65.1 : Int32) = r66.1 then
        f302_1887 r66.2 l0 l1 l2 l3
      else 
        mX (mGd (true && mIs01 0) (some (0, r66.2)))))
    else 
      mGd (true && Nat.beq (mK r65.2 l2).1 12) ((f284 r65.2 l2 (mI r65.2 2000000 (Int32.toNatClampNeg (l3 + 1))) 1).bind (fun r67 =>
        if (r65.1 : Int32) = r67.1 then
        f302_1887 r67.2 l0 l1 l2 l3
      else 
        mX (mGd (true && mIs01 0) (some (0, r67.2))))))))
  else 
    mGd (true && Nat.beq (mK h l1).1 0) ((f149 h l1 (mI h 2000000 (Int32.toNatClampNeg (l3 + 1))) 1).bind (fun r68 =>
      mGd ((Nat.beq l0 2000000 && mIn (l3 + 1) (Int32.toNatClampNeg (mI r68.2 2000001 0))) && ((Nat.beq l0 2000000 && mIn (l3 + 2) (Int32.toNatClampNeg (mI r68.2 2000001 0))) && true)) (
      if ((mI r68.2 2000000 (Int32.toNatClampNeg (l3 + 2))) : Int32) = 0 then
      mGd (true && Nat.beq (mK r68.2 l2).1 12) ((f284 r68.2 l2 (mI r68.2 2000000 (Int32.toNatClampNeg (l3 + 1))) 0).bind (fun r69 =>
        if (r68.1 : Int32) = r69.1 then
        f302_1887 r69.2 l0 l1 l2 l3
      else 
        mX (mGd (true && mIs01 0) (some (0, r69.2)))))
    else 
      mGd (true && Nat.beq (mK r68.2 l2).1 12) ((f284 r68.2 l2 (mI r68.2 2000000 (Int32.toNatClampNeg (l3 + 1))) 1).bind (fun r70 =>
        if (r68.1 : Int32) = r70.1 then
        f302_1887 r70.2 l0 l1 l2 l3
      else 
        mX (mGd (true && mIs01 0) (some (0, r70.2)))))))))
def f302_1322 (h : mH) (l0 : Nat) (l1 : Nat) (l2 : Nat) (l3 : Int32) : Option ((Int32 × mH) ⊕ (Int32 × mH)) :=
mGd ((Nat.beq l0 2000000 && mIn (l3 + 1) (Int32.toNatClampNeg (mI h 2000001 0))) && ((Nat.beq l0 2000000 && mIn (l3 + 2) (Int32.toNatClampNeg (mI h 2000001 0))) && ((Nat.beq l0 2000000 && mIn (l3 + 3) (Int32.toNatClampNeg (mI h 2000001 0))) && true))) (
    if ((mI h 2000000 (Int32.toNatClampNeg (l3 + 3))) : Int32) = 0 then
    mGd (true && Nat.beq (mK h l1).1 0) ((f151 h l1 (mI h 2000000 (Int32.toNatClampNeg (l3 + 1))) (mI h 2000000 (Int32.toNatClampNeg (l3 + 2))) 0).bind (fun r71 =>
      mGd ((Nat.beq l0 2000000 && mIn (l3 + 1) (Int32.toNatClampNeg (mI h 2000001 0))) && ((Nat.beq l0 2000000 && mIn (l3 + 2) (Int32.toNatClampNeg (mI h 2000001 0))) && ((Nat.beq l0 2000000 && mIn (l3 + 3) (Int32.toNatClampNeg (mI h 2000001 0))) && true))) (
      if ((mI h 2000000 (Int32.toNatClampNeg (l3 + 3))) : Int32) = 0 then
      mGd (true && Nat.beq (mK h l2).1 12) ((f285 h l2 (mI h 2000000 (Int32.toNatClampNeg (l3 + 1))) (mI h 2000000 (Int32.toNatClampNeg (l3 + 2))) 0).bind (fun r72 =>
        if ((lg_cmp r71 r72.1) : Int32) = 0 then
        f302_1887 r72.2 l0 l1 l2 l3
      else 
        mX (mGd (true && mIs01 0) (some (0, r72.2)))))
    else 
      mGd (true && Nat.beq (mK h l2).1 12) ((f285 h l2 (mI h 2000000 (Int32.toNatClampNeg (l3 + 1))) (mI h 2000000 (Int32.toNatClampNeg (l3 + 2))) 1).bind (fun r73 =>
        if ((lg_cmp r71 r73.1) : Int32) = 0 then
        f302_1887 r73.2 l0 l1 l2 l3
      else 
        mX (mGd (true && mIs01 0) (some (0, r73.2))))))))
  else 
    mGd (true && Nat.beq (mK h l1).1 0) ((f151 h l1 (mI h 2000000 (Int32.toNatClampNeg (l3 + 1))) (mI h 2000000 (Int32.toNatClampNeg (l3 + 2))) 1).bind (fun r74 =>
      mGd ((Nat.beq l0 2000000 && mIn (l3 + 1) (Int32.toNatClampNeg (mI h 2000001 0))) && ((Nat.beq l0 2000000 && mIn (l3 + 2) (Int32.toNatClampNeg (mI h 2000001 0))) && ((Nat.beq l0 2000000 && mIn (l3 + 3) (Int32.toNatClampNeg (mI h 2000001 0))) && true))) (
      if ((mI h 2000000 (Int32.toNatClampNeg (l3 + 3))) : Int32) = 0 then
      mGd (true && Nat.beq (mK h l2).1 12) ((f285 h l2 (mI h 2000000 (Int32.toNatClampNeg (l3 + 1))) (mI h 2000000 (Int32.toNatClampNeg (l3 + 2))) 0).bind (fun r75 =>
        if ((lg_cmp r74 r75.1) : Int32) = 0 then
        f302_1887 r75.2 l0 l1 l2 l3
      else 
        mX (mGd (true && mIs01 0) (some (0, r75.2)))))
    else 
      mGd (true && Nat.beq (mK h l2).1 12) ((f285 h l2 (mI h 2000000 (Int32.toNatClampNeg (l3 + 1))) (mI h 2000000 (Int32.toNatClampNeg (l3 + 2))) 1).bind (fun r76 =>
        if ((lg_cmp r74 r76.1) : Int32) = 0 then
        f302_1887 r76.2 l0 l1 l2 l3
      else 
        mX (mGd (true && mIs01 0) (some (0, r76.2)))))))))
def f302_1382 (h : mH) (l0 : Nat) (l1 : Nat) (l2 : Nat) (l3 : Int32) : Option ((Int32 × mH) ⊕ (Int32 × mH)) :=
mGd (((Nat.beq l0 2000000 && mIn (l3 + 1) (Int32.toNatClampNeg (mI h 2000001 0))) && ((Nat.beq l0 2000000 && mIn (l3 + 2) (Int32.toNatClampNeg (mI h 2000001 0))) && ((Nat.beq l0 2000000 && mIn (l3 + 3) (Int32.toNatClampNeg (mI h 2000001 0))) && true))) && Nat.beq (mK h l1).1 0) ((f153 h l1 (mI h 2000000 (Int32.toNatClampNeg (l3 + 1))) (mI h 2000000 (Int32.toNatClampNeg (l3 + 2))) (mI h 2000000 (Int32.toNatClampNeg (l3 + 3)))).bind (fun r77 =>
    mGd (((Nat.beq l0 2000000 && mIn (l3 + 1) (Int32.toNatClampNeg (mI r77.2 2000001 0))) && ((Nat.beq l0 2000000 && mIn (l3 + 2) (Int32.toNatClampNeg (mI r77.2 2000001 0))) && ((Nat.beq l0 2000000 && mIn (l3 + 3) (Int32.toNatClampNeg (mI r77.2 2000001 0))) && true))) && Nat.beq (mK r77.2 l2).1 12) ((f286 r77.2 l2 (mI r77.2 2000000 (Int32.toNatClampNeg (l3 + 1))) (mI r77.2 2000000 (Int32.toNatClampNeg (l3 + 2))) (mI r77.2 2000000 (Int32.toNatClampNeg (l3 + 3)))).bind (fun r78 =>
    if (r77.1 : Int32) = r78.1 then
    f302_1887 r78.2 l0 l1 l2 l3
  else 
    mX (mGd (true && mIs01 0) (some (0, r78.2)))))))
def f302_1425 (h : mH) (l0 : Nat) (l1 : Nat) (l2 : Nat) (l3 : Int32) : Option ((Int32 × mH) ⊕ (Int32 × mH)) :=
mGd (((Nat.beq l0 2000000 && mIn (l3 + 1) (Int32.toNatClampNeg (mI h 2000001 0))) && ((Nat.beq l0 2000000 && mIn (l3 + 2) (Int32.toNatClampNeg (mI h 2000001 0))) && ((Nat.beq l0 2000000 && mIn (l3 + 3) (Int32.toNatClampNeg (mI h 2000001 0))) && true))) && Nat.beq (mK h l1).1 0) ((f157 h l1 (mI h 2000000 (Int32.toNatClampNeg (l3 + 1))) (mI h 2000000 (Int32.toNatClampNeg (l3 + 2))) (mI h 2000000 (Int32.toNatClampNeg (l3 + 3)))).bind (fun r79 =>
    mGd (((Nat.beq l0 2000000 && mIn (l3 + 1) (Int32.toNatClampNeg (mI h 2000001 0))) && ((Nat.beq l0 2000000 && mIn (l3 + 2) (Int32.toNatClampNeg (mI h 2000001 0))) && ((Nat.beq l0 2000000 && mIn (l3 + 3) (Int32.toNatClampNeg (mI h 2000001 0))) && true))) && Nat.beq (mK h l2).1 12) ((f288 h l2 (mI h 2000000 (Int32.toNatClampNeg (l3 + 1))) (mI h 2000000 (Int32.toNatClampNeg (l3 + 2))) (mI h 2000000 (Int32.toNatClampNeg (l3 + 3)))).bind (fun r80 =>
    if (r79 : Int32) = r80.1 then
    f302_1887 r80.2 l0 l1 l2 l3
  else 
    mX (mGd (true && mIs01 0) (some (0, r80.2)))))))
def f302_1468 (h : mH) (l0 : Nat) (l1 : Nat) (l2 : Nat) (l3 : Int32) : Option ((Int32 × mH) ⊕ (Int32 × mH)) :=
mGd ((Nat.beq l0 2000000 && mIn (l3 + 1) (Int32.toNatClampNeg (mI h 2000001 0))) && ((Nat.beq l0 2000000 && mIn (l3 + 2) (Int32.toNatClampNeg (mI h 2000001 0))) && true)) (
    if ((mI h 2000000 (Int32.toNatClampNeg (l3 + 2))) : Int32) = 0 then
    mGd (true && Nat.beq (mK h l1).1 0) ((f159 h l1 (mI h 2000000 (Int32.toNatClampNeg (l3 + 1))) 0).bind (fun r81 =>
      mGd ((Nat.beq l0 2000000 && mIn (l3 + 1) (Int32.toNatClampNeg (mI h 2000001 0))) && ((Nat.beq l0 2000000 && mIn (l3 + 2) (Int32.toNatClampNeg (mI h 2000001 0))) && true)) (
      if ((mI h 2000000 (Int32.toNatClampNeg (l3 + 2))) : Int32) = 0 then
      mGd (true && Nat.beq (mK h l2).1 12) ((f290 h l2 (mI h 2000000 (Int32.toNatClampNeg (l3 + 1))) 0).bind (fun r82 =>
        if (r81 : Int32) = r82.1 then
        f302_1887 r82.2 l0 l1 l2 l3
      else 
        mX (mGd (true && mIs01 0) (some (0, r82.2)))))
    else 
      mGd (true && Nat.beq (mK h l2).1 12) ((f290 h l2 (mI h 2000000 (Int32.toNatClampNeg (l3 + 1))) 1).bind (fun r83 =>
        if (r81 : Int32) = r83.1 then
        f302_1887 r83.2 l0 l1 l2 l3
      else 
        mX (mGd (true && mIs01 0) (some (0, r83.2))))))))
  else 
    mGd (true && Nat.beq (mK h l1).1 0) ((f159 h l1 (mI h 2000000 (Int32.toNatClampNeg (l3 + 1))) 1).bind (fun r84 =>
      mGd ((Nat.beq l0 2000000 && mIn (l3 + 1) (Int32.toNatClampNeg (mI h 2000001 0))) && ((Nat.beq l0 2000000 && mIn (l3 + 2) (Int32.toNatClampNeg (mI h 2000001 0))) && true)) (
      if ((mI h 2000000 (Int32.toNatClampNeg (l3 + 2))) : Int32) = 0 then
      mGd (true && Nat.beq (mK h l2).1 12) ((f290 h l2 (mI h 2000000 (Int32.toNatClampNeg (l3 + 1))) 0).bind (fun r85 =>
        if (r84 : Int32) = r85.1 then
        f302_1887 r85.2 l0 l1 l2 l3
      else 
        mX (mGd (true && mIs01 0) (some (0, r85.2)))))
    else 
      mGd (true && Nat.beq (mK h l2).1 12) ((f290 h l2 (mI h 2000000 (Int32.toNatClampNeg (l3 + 1))) 1).bind (fun r86 =>
        if (r84 : Int32) = r86.1 then
        f302_1887 r86.2 l0 l1 l2 l3
      else 
        mX (mGd (true && mIs01 0) (some (0, r86.2)))))))))
def f302_1517 (h : mH) (l0 : Nat) (l1 : Nat) (l2 : Nat) (l3 : Int32) : Option ((Int32 × mH) ⊕ (Int32 × mH)) :=
mGd ((Nat.beq l0 2000000 && mIn (l3 + 1) (Int32.toNatClampNeg (mI h 2000001 0))) && ((Nat.beq l0 2000000 && mIn (l3 + 2) (Int32.toNatClampNeg (mI h 2000001 0))) && ((Nat.beq l0 2000000 && mIn (l3 + 3) (Int32.toNatClampNeg (mI h 2000001 0))) && true))) (
    if ((mI h 2000000 (Int32.toNatClampNeg (l3 + 3))) : Int32) = 0 then
    mGd (true && Nat.beq (mK h l1).1 0) ((f161 h l1 (mI h 2000000 (Int32.toNatClampNeg (l3 + 1))) (mI h 2000000 (Int32.toNatClampNeg (l3 + 2))) 0).bind (fun r87 =>
      mGd ((Nat.beq l0 2000000 && mIn (l3 + 1) (Int32.toNatClampNeg (mI h 2000001 0))) && ((Nat.beq l0 2000000 && mIn (l3 + 2) (Int32.toNatClampNeg (mI h 2000001 0))) && ((Nat.beq l0 2000000 && mIn (l3 + 3) (Int32.toNatClampNeg (mI h 2000001 0))) && true))) (
      if ((mI h 2000000 (Int32.toNatClampNeg (l3 + 3))) : Int32) = 0 then
      mGd (true && Nat.beq (mK h l2).1 12) ((f291 h l2 (mI h 2000000 (Int32.toNatClampNeg (l3 + 1))) (mI h 2000000 (Int32.toNatClampNeg (l3 + 2))) 0).bind (fun r88 =>
        if (r87 : Int32) = r88.1 then
        f302_1887 r88.2 l0 l1 l2 l3
      else 
        mX (mGd (true && mIs01 0) (some (0, r88.2)))))
    else 
      mGd (true && Nat.beq (mK h l2).1 12) ((f291 h l2 (mI h 2000000 (Int32.toNatClampNeg (l3 + 1))) (mI h 2000000 (Int32.toNatClampNeg (l3 + 2))) 1).bind (fun r89 =>
        if (r87 : Int32) = r89.1 then
        f302_1887 r89.2 l0 l1 l2 l3
      else 
        mX (mGd (true && mIs01 0) (some (0, r89.2))))))))
  else 
    mGd (true && Nat.beq (mK h l1).1 0) ((f161 h l1 (mI h 2000000 (Int32.toNatClampNeg (l3 + 1))) (mI h 2000000 (Int32.toNatClampNeg (l3 + 2))) 1).bind (fun r90 =>
      mGd ((Nat.beq l0 2000000 && mIn (l3 + 1) (Int32.toNatClampNeg (mI h 2000001 0))) && ((Nat.beq l0 2000000 && mIn (l3 + 2) (Int32.toNatClampNeg (mI h 2000001 0))) && ((Nat.beq l0 2000000 && mIn (l3 + 3) (Int32.toNatClampNeg (mI h 2000001 0))) && true))) (
      if ((mI h 2000000 (Int32.toNatClampNeg (l3 + 3))) : Int32) = 0 then
      mGd (true && Nat.beq (mK h l2).1 12) ((f291 h l2 (mI h 2000000 (Int32.toNatClampNeg (l3 + 1))) (mI h 2000000 (Int32.toNatClampNeg (l3 + 2))) 0).bind (fun r91 =>
        if (r90 : Int32) = r91.1 then
        f302_1887 r91.2 l0 l1 l2 l3
      else 
        mX (mGd (true && mIs01 0) (some (0, r91.2)))))
    else 
      mGd (true && Nat.beq (mK h l2).1 12) ((f291 h l2 (mI h 2000000 (Int32.toNatClampNeg (l3 + 1))) (mI h 2000000 (Int32.toNatClampNeg (l3 + 2))) 1).bind (fun r92 =>
        if (r90 : Int32) = r92.1 then
        f302_1887 r92.2 l0 l1 l2 l3
      else 
        mX (mGd (true && mIs01 0) (some (0, r92.2)))))))))
def f302_1576 (h : mH) (l0 : Nat) (l1 : Nat) (l2 : Nat) (l3 : Int32) : Option ((Int32 × mH) ⊕ (Int32 × mH)) :=
mGd ((Nat.beq l0 2000000 && mIn (l3 + 1) (Int32.toNatClampNeg (mI h 2000001 0))) && ((Nat.beq l0 2000000 && mIn (l3 + 2) (Int32.toNatClampNeg (mI h 2000001 0))) && ((Nat.beq l0 2000000 && mIn (l3 + 3) (Int32.toNatClampNeg (mI h 2000001 0))) && ((Nat.beq l0 2000000 && mIn (l3 + 4) (Int32.toNatClampNeg (mI h 2000001 0))) && true)))) (
    if ((mI h 2000000 (Int32.toNatClampNeg (l3 + 4))) : Int32) = 0 then
    mGd (true && Nat.beq (mK h l1).1 0) ((f164 h l1 (mI h 2000000 (Int32.toNatClampNeg (l3 + 1))) (mI h 2000000 (Int32.toNatClampNeg (l3 + 2))) (mI h 2000000 (Int32.toNatClampNeg (l3 + 3))) 0).bind (fun r93 =>
      mGd ((Nat.beq l0 2000000 && mIn (l3 + 1) (Int32.toNatClampNeg (mI h 2000001 0))) && ((Nat.beq l0 2000000 && mIn (l3 + 2) (Int32.toNatClampNeg (mI h 2000001 0))) && ((Nat.beq l0 2000000 && mIn (l3 + 3) (Int32.toNatClampNeg (mI h 2000001 0))) && ((Nat.beq l0 2000000 && mIn (l3 + 4) (Int32.toNatClampNeg (mI h 2000001 0))) && true)))) (
      if ((mI h 2000000 (Int32.toNatClampNeg (l3 + 4))) : Int32) = 0 then
      mGd (true && Nat.beq (mK h l2).1 12) ((f292 h l2 (mI h 2000000 (Int32.toNatClampNeg (l3 + 1))) (mI h 2000000 (Int32.toNatClampNeg (l3 + 2))) (mI h 2000000 (Int32.toNatClampNeg (l3 + 3))) 0).bind (fun r94 =>
        if ((lg_cmp r93 r94.1) : Int32) = 0 then
        f302_1887 r94.2 l0 l1 l2 l3
      else 
        mX (mGd (true && mIs01 0) (some (0, r94.2)))))
    else 
      mGd (true && Nat.beq (mK h l2).1 12) ((f292 h l2 (mI h 2000000 (Int32.toNatClampNeg (l3 + 1))) (mI h 2000000 (Int32.toNatClampNeg (l3 + 2))) (mI h 2000000 (Int32.toNatClampNeg (l3 + 3))) 1).bind (fun r95 =>
        if ((lg_cmp r93 r95.1) : Int32) = 0 then
        f302_1887 r95.2 l0 l1 l2 l3
      else 
        mX (mGd (true && mIs01 0) (some (0, r95.2))))))))
  else 
    mGd (true && Nat.beq (mK h l1).1 0) ((f164 h l1 (mI h 2000000 (Int32.toNatClampNeg (l3 + 1))) (mI h 2000000 (Int32.toNatClampNeg (l3 + 2))) (mI h 2000000 (Int32.toNatClampNeg (l3 + 3))) 1).bind (fun r96 =>
      mGd ((Nat.beq l0 2000000 && mIn (l3 + 1) (Int32.toNatClampNeg (mI h 2000001 0))) && ((Nat.beq l0 2000000 && mIn (l3 + 2) (Int32.toNatClampNeg (mI h 2000001 0))) && ((Nat.beq l0 2000000 && mIn (l3 + 3) (Int32.toNatClampNeg (mI h 2000001 0))) && ((Nat.beq l0 2000000 && mIn (l3 + 4) (Int32.toNatClampNeg (mI h 2000001 0))) && true)))) (
      if ((mI h 2000000 (Int32.toNatClampNeg (l3 + 4))) : Int32) = 0 then
      mGd (true && Nat.beq (mK h l2).1 12) ((f292 h l2 (mI h 2000000 (Int32.toNatClampNeg (l3 + 1))) (mI h 2000000 (Int32.toNatClampNeg (l3 + 2))) (mI h 2000000 (Int32.toNatClampNeg (l3 + 3))) 0).bind (fun r97 =>
        if ((lg_cmp r96 r97.1) : Int32) = 0 then
        f302_1887 r97.2 l0 l1 l2 l3
      else 
        mX (mGd (true && mIs01 0) (some (0, r97.2)))))
    else 
      mGd (true && Nat.beq (mK h l2).1 12) ((f292 h l2 (mI h 2000000 (Int32.toNatClampNeg (l3 + 1))) (mI h 2000000 (Int32.toNatClampNeg (l3 + 2))) (mI h 2000000 (Int32.toNatClampNeg (l3 + 3))) 1).bind (fun r98 =>
        if ((lg_cmp r96 r98.1) : Int32) = 0 then
        f302_1887 r98.2 l0 l1 l2 l3
      else 
        mX (mGd (true && mIs01 0) (some (0, r98.2)))))))))
def f302_1646 (h : mH) (l0 : Nat) (l1 : Nat) (l2 : Nat) (l3 : Int32) : Option ((Int32 × mH) ⊕ (Int32 × mH)) :=
mGd (((Nat.beq l0 2000000 && mIn (l3 + 1) (Int32.toNatClampNeg (mI h 2000001 0))) && ((Nat.beq l0 2000000 && mIn (l3 + 2) (Int32.toNatClampNeg (mI h 2000001 0))) && ((Nat.beq l0 2000000 && mIn (l3 + 3) (Int32.toNatClampNeg (mI h 2000001 0))) && true))) && Nat.beq (mK h l1).1 0) ((f165 h l1 (mI h 2000000 (Int32.toNatClampNeg (l3 + 1))) (mI h 2000000 (Int32.toNatClampNeg (l3 + 2))) (mI h 2000000 (Int32.toNatClampNeg (l3 + 3)))).bind (fun r99 =>
    mGd (((Nat.beq l0 2000000 && mIn (l3 + 1) (Int32.toNatClampNeg (mI r99.2 2000001 0))) && ((Nat.beq l0 2000000 && mIn (l3 + 2) (Int32.toNatClampNeg (mI r99.2 2000001 0))) && ((Nat.beq l0 2000000 && mIn (l3 + 3) (Int32.toNatClampNeg (mI r99.2 2000001 0))) && true))) && Nat.beq (mK r99.2 l2).1 12) ((f293 r99.2 l2 (mI r99.2 2000000 (Int32.toNatClampNeg (l3 + 1))) (mI r99.2 2000000 (Int32.toNatClampNeg (l3 + 2))) (mI r99.2 2000000 (Int32.toNatClampNeg (l3 + 3)))).bind (fun r100 =>
    if (r99.1 : Int32) = r100.1 then
    f302_1887 r100.2 l0 l1 l2 l3
  else 
    mX (mGd (true && mIs01 0) (some (0, r100.2)))))))
def f302_1689 (h : mH) (l0 : Nat) (l1 : Nat) (l2 : Nat) (l3 : Int32) : Option ((Int32 × mH) ⊕ (Int32 × mH)) :=
mGd ((Nat.beq l0 2000000 && mIn (l3 + 1) (Int32.toNatClampNeg (mI h 2000001 0))) && ((Nat.beq l0 2000000 && mIn (l3 + 2) (Int32.toNatClampNeg (mI h 2000001 0))) && ((Nat.beq l0 2000000 && mIn (l3 + 3) (Int32.toNatClampNeg (mI h 2000001 0))) && ((Nat.beq l0 2000000 && mIn (l3 + 4) (Int32.toNatClampNeg (mI h 2000001 0))) && true)))) (
    if ((mI h 2000000 (Int32.toNatClampNeg (l3 + 4))) : Int32) = 0 then
    mGd (true && Nat.beq (mK h l1).1 0) ((f167 h l1 (mI h 2000000 (Int32.toNatClampNeg (l3 + 1))) (mI h 2000000 (Int32.toNatClampNeg (l3 + 2))) (mI h 2000000 (Int32.toNatClampNeg (l3 + 3))) 0).bind (fun r101 =>
      mGd ((Nat.beq l0 2000000 && mIn (l3 + 1) (Int32.toNatClampNeg (mI r101.2 2000001 0))) && ((Nat.beq l0 2000000 && mIn (l3 + 2) (Int32.toNatClampNeg (mI r101.2 2000001 0))) && ((Nat.beq l0 2000000 && mIn (l3 + 3) (Int32.toNatClampNeg (mI r101.2 2000001 0))) && ((Nat.beq l0 2000000 && mIn (l3 + 4) (Int32.toNatClampNeg (mI r101.2 2000001 0))) && true)))) (
      if ((mI r101.2 2000000 (Int32.toNatClampNeg (l3 + 4))) : Int32) = 0 then
      mGd (true && Nat.beq (mK r101.2 l2).1 12) ((f295 r101.2 l2 (mI r101.2 2000000 (Int32.toNatClampNeg (l3 + 1))) (mI r101.2 2000000 (Int32.toNatClampNeg (l3 + 2))) (mI r101.2 2000000 (Int32.toNatClampNeg (l3 + 3))) 0).bind (fun r102 =>
        if ((lg_cmp r101.1 r102.1) : Int32) = 0 then
        f302_1887 r102.2 l0 l1 l2 l3
      else 
        mX (mGd (true && mIs01 0) (some (0, r102.2)))))
    else 
      mGd (true && Nat.beq (mK r101.2 l2).1 12) ((f295 r101.2 l2 (mI r101.2 2000000 (Int32.toNatClampNeg (l3 + 1))) (mI r101.2 2000000 (Int32.toNatClampNeg (l3 + 2))) (mI r101.2 2000000 (Int32.toNatClampNeg (l3 + 3))) 1).bind (fun r103 =>
        if ((lg_cmp r101.1 r103.1) : Int32) = 0 then
        f302_1887 r103.2 l0 l1 l2 l3
      else 
        mX (mGd (true && mIs01 0) (some (0, r103.2))))))))
  else 
    mGd (true && Nat.beq (mK h l1).1 0) ((f167 h l1 (mI h 2000000 (Int32.toNatClampNeg (l3 + 1))) (mI h 2000000 (Int32.toNatClampNeg (l3 + 2))) (mI h 2000000 (Int32.toNatClampNeg (l3 + 3))) 1).bind (fun r104 =>
      mGd ((Nat.beq l0 2000000 && mIn (l3 + 1) (Int32.toNatClampNeg (mI r104.2 2000001 0))) && ((Nat.beq l0 2000000 && mIn (l3 + 2) (Int32.toNatClampNeg (mI r104.2 2000001 0))) && ((Nat.beq l0 2000000 && mIn (l3 + 3) (Int32.toNatClampNeg (mI r104.2 2000001 0))) && ((Nat.beq l0 2000000 && mIn (l3 + 4) (Int32.toNatClampNeg (mI r104.2 2000001 0))) && true)))) (
      if ((mI r104.2 2000000 (Int32.toNatClampNeg (l3 + 4))) : Int32) = 0 then
      mGd (true && Nat.beq (mK r104.2 l2).1 12) ((f295 r104.2 l2 (mI r104.2 2000000 (Int32.toNatClampNeg (l3 + 1))) (mI r104.2 2000000 (Int32.toNatClampNeg (l3 + 2))) (mI r104.2 2000000 (Int32.toNatClampNeg (l3 + 3))) 0).bind (fun r105 =>
        if ((lg_cmp r104.1 r105.1) : Int32) = 0 then
        f302_1887 r105.2 l0 l1 l2 l3
      else 
        mX (mGd (true && mIs01 0) (some (0, r105.2)))))
    else 
      mGd (true && Nat.beq (mK r104.2 l2).1 12) ((f295 r104.2 l2 (mI r104.2 2000000 (Int32.toNatClampNeg (l3 + 1))) (mI r104.2 2000000 (Int32.toNatClampNeg (l3 + 2))) (mI r104.2 2000000 (Int32.toNatClampNeg (l3 + 3))) 1).bind (fun r106 =>
        if ((lg_cmp r104.1 r106.1) : Int32) = 0 then
        f302_1887 r106.2 l0 l1 l2 l3
      else 
        mX (mGd (true && mIs01 0) (some (0, r106.2)))))))))
def f302_1759 (h : mH) (l0 : Nat) (l1 : Nat) (l2 : Nat) (l3 : Int32) : Option ((Int32 × mH) ⊕ (Int32 × mH)) :=
mGd ((Nat.beq l0 2000000 && mIn (l3 + 1) (Int32.toNatClampNeg (mI h 2000001 0))) && ((Nat.beq l0 2000000 && mIn (l3 + 2) (Int32.toNatClampNeg (mI h 2000001 0))) && ((Nat.beq l0 2000000 && mIn (l3 + 3) (Int32.toNatClampNeg (mI h 2000001 0))) && true))) (
    if ((mI h 2000000 (Int32.toNatClampNeg (l3 + 3))) : Int32) = 0 then
    mGd (true && Nat.beq (mK h l1).1 0) ((f168 h l1 (mI h 2000000 (Int32.toNatClampNeg (l3 + 1))) (mI h 2000000 (Int32.toNatClampNeg (l3 + 2))) 0).bind (fun r107 =>
      mGd ((Nat.beq l0 2000000 && mIn (l3 + 1) (Int32.toNatClampNeg (mI r107.2 2000001 0))) && ((Nat.beq l0 2000000 && mIn (l3 + 2) (Int32.toNatClampNeg (mI r107.2 2000001 0))) && ((Nat.beq l0 2000000 && mIn (l3 + 3) (Int32.toNatClampNeg (mI r107.2 2000001 0))) && true))) (
      if ((mI r107.2 2000000 (Int32.toNatClampNeg (l3 + 3))) : Int32) = 0 then
      mGd (true && Nat.beq (mK r107.2 l2).1 12) ((f296 r107.2 l2 (mI r107.2 2000000 (Int32.toNatClampNeg (l3 + 1))) (mI r107.2 2000000 (Int32.toNatClampNeg (l3 + 2))) 0).bind (fun r108 =>
        if (r107.1 : Int32) = r108.1 then
        f302_1887 r108.2 l0 l1 l2 l3
      else 
        mX (mGd (true && mIs01 0) (some (0, r108.2)))))
    else 
      mGd (true && Nat.beq (mK r107.2 l2).1 12) ((f296 r107.2 l2 (mI r107.2 2000000 (Int32.toNatClampNeg (l3 + 1))) (mI r107.2 2000000 (Int32.toNatClampNeg (l3 + 2))) 1).bind (fun r109 =>
        if (r107.1 : Int32) = r109.1 then
        f302_1887 r109.2 l0 l1 l2 l3
      else 
        mX (mGd (true && mIs01 0) (some (0, r109.2))))))))
  else 
    mGd (true && Nat.beq (mK h l1).1 0) ((f168 h l1 (mI h 2000000 (Int32.toNatClampNeg (l3 + 1))) (mI h 2000000 (Int32.toNatClampNeg (l3 + 2))) 1).bind (fun r110 =>
      mGd ((Nat.beq l0 2000000 && mIn (l3 + 1) (Int32.toNatClampNeg (mI r110.2 2000001 0))) && ((Nat.beq l0 2000000 && mIn (l3 + 2) (Int32.toNatClampNeg (mI r110.2 2000001 0))) && ((Nat.beq l0 2000000 && mIn (l3 + 3) (Int32.toNatClampNeg (mI r110.2 2000001 0))) && true))) (
      if ((mI r110.2 2000000 (Int32.toNatClampNeg (l3 + 3))) : Int32) = 0 then
      mGd (true && Nat.beq (mK r110.2 l2).1 12) ((f296 r110.2 l2 (mI r110.2 2000000 (Int32.toNatClampNeg (l3 + 1))) (mI r110.2 2000000 (Int32.toNatClampNeg (l3 + 2))) 0).bind (fun r111 =>
        if (r110.1 : Int32) = r111.1 then
        f302_1887 r111.2 l0 l1 l2 l3
      else 
        mX (mGd (true && mIs01 0) (some (0, r111.2)))))
    else 
      mGd (true && Nat.beq (mK r110.2 l2).1 12) ((f296 r110.2 l2 (mI r110.2 2000000 (Int32.toNatClampNeg (l3 + 1))) (mI r110.2 2000000 (Int32.toNatClampNeg (l3 + 2))) 1).bind (fun r112 =>
        if (r110.1 : Int32) = r112.1 then
        f302_1887 r112.2 l0 l1 l2 l3
      else 
        mX (mGd (true && mIs01 0) (some (0, r112.2)))))))))
def f302_1818 (h : mH) (l0 : Nat) (l1 : Nat) (l2 : Nat) (l3 : Int32) : Option ((Int32 × mH) ⊕ (Int32 × mH)) :=
mGd (((Nat.beq l0 2000000 && mIn (l3 + 1) (Int32.toNatClampNeg (mI h 2000001 0))) && true) && Nat.beq (mK h l1).1 0) ((f171 h l1 (mI h 2000000 (Int32.toNatClampNeg (l3 + 1)))).bind (fun r113 =>
    mGd (((Nat.beq l0 2000000 && mIn (l3 + 1) (Int32.toNatClampNeg (mI h 2000001 0))) && true) && Nat.beq (mK h l2).1 12) ((f297 h l2 (mI h 2000000 (Int32.toNatClampNeg (l3 + 1)))).bind (fun r114 =>
    if (r113 : Int32) = r114.1 then
    f302_1887 r114.2 l0 l1 l2 l3
  else 
    mX (mGd (true && mIs01 0) (some (0, r114.2)))))))
def f302_1841 (h : mH) (l0 : Nat) (l1 : Nat) (l2 : Nat) (l3 : Int32) : Option ((Int32 × mH) ⊕ (Int32 × mH)) :=
mGd (((Nat.beq l0 2000000 && mIn (l3 + 1) (Int32.toNatClampNeg (mI h 2000001 0))) && true) && Nat.beq (mK h l1).1 0) ((f172 h l1 (mI h 2000000 (Int32.toNatClampNeg (l3 + 1)))).bind (fun r115 =>
    mGd (((Nat.beq l0 2000000 && mIn (l3 + 1) (Int32.toNatClampNeg (mI r115.2 2000001 0))) && true) && Nat.beq (mK r115.2 l2).1 12) ((f298 r115.2 l2 (mI r115.2 2000000 (Int32.toNatClampNeg (l3 + 1)))).bind (fun r116 =>
    if (r115.1 : Int32) = r116.1 then
    f302_1887 r116.2 l0 l1 l2 l3
  else 
    mX (mGd (true && mIs01 0) (some (0, r116.2)))))))
def f302_1864 (h : mH) (l0 : Nat) (l1 : Nat) (l2 : Nat) (l3 : Int32) : Option ((Int32 × mH) ⊕ (Int32 × mH)) :=
mGd (((Nat.beq l0 2000000 && mIn (l3 + 1) (Int32.toNatClampNeg (mI h 2000001 0))) && true) && Nat.beq (mK h l1).1 0) ((f174 h l1 (mI h 2000000 (Int32.toNatClampNeg (l3 + 1)))).bind (fun r117 =>
    mGd (((Nat.beq l0 2000000 && mIn (l3 + 1) (Int32.toNatClampNeg (mI r117.2 2000001 0))) && true) && Nat.beq (mK r117.2 l2).1 12) ((f301 r117.2 l2 (mI r117.2 2000000 (Int32.toNatClampNeg (l3 + 1)))).bind (fun r118 =>
    if (r117.1 : Int32) = r118.1 then
    f302_1887 r118.2 l0 l1 l2 l3
  else 
    mX (mGd (true && mIs01 0) (some (0, r118.2)))))))
def f302_18 (l0 : Nat) (l1 : Nat) (l2 : Nat) (s : (Int32 × mH)) : Option ((Int32 × mH) ⊕ (Int32 × mH)) :=
mGd (Nat.beq l0 2000000 && true) (
    if (((mI s.2 2000001 0) - 6) : Int32) < s.1 then
    mX (mGd (true && mIs01 1) (some (1, s.2)))
  else 
    mGd ((Nat.beq l0 2000000 && mIn s.1 (Int32.toNatClampNeg (mI s.2 2000001 0))) && true) (
      if (((mI s.2 2000000 (Int32.toNatClampNeg s.1)) &&& 63) : Int32) = 0 then
      f302_196 s.2 l0 l1 l2 s.1
    else if (((mI s.2 2000000 (Int32.toNatClampNeg s.1)) &&& 63) : Int32) = 1 then
      f302_259 s.2 l0 l1 l2 s.1
    else if (((mI s.2 2000000 (Int32.toNatClampNeg s.1)) &&& 63) : Int32) = 2 then
      f302_282 s.2 l0 l1 l2 s.1
    else if (((mI s.2 2000000 (Int32.toNatClampNeg s.1)) &&& 63) : Int32) = 3 then
      f302_315 s.2 l0 l1 l2 s.1
    else if (((mI s.2 2000000 (Int32.toNatClampNeg s.1)) &&& 63) : Int32) = 4 then
      f302_338 s.2 l0 l1 l2 s.1
    else if (((mI s.2 2000000 (Int32.toNatClampNeg s.1)) &&& 63) : Int32) = 5 then
      f302_371 s.2 l0 l1 l2 s.1
    else if (((mI s.2 2000000 (Int32.toNatClampNeg s.1)) &&& 63) : Int32) = 6 then
      f302_414 s.2 l0 l1 l2 s.1
    else if (((mI s.2 2000000 (Int32.toNatClampNeg s.1)) &&& 63) : Int32) = 7 then
      f302_447 s.2 l0 l1 l2 s.1
    else if (((mI s.2 2000000 (Int32.toNatClampNeg s.1)) &&& 63) : Int32) = 8 then
      f302_500 s.2 l0 l1 l2 s.1
    else if (((mI s.2 2000000 (Int32.toNatClampNeg s.1)) &&& 63) : Int32) = 9 then
      f302_543 s.2 l0 l1 l2 s.1
    else if (((mI s.2 2000000 (Int32.toNatClampNeg s.1)) &&& 63) : Int32) = 10 then
      f302_596 s.2 l0 l1 l2 s.1
    else if (((mI s.2 2000000 (Int32.toNatClampNeg s.1)) &&& 63) : Int32) = 11 then
      f302_655 s.2 l0 l1 l2 s.1
    else if (((mI s.2 2000000 (Int32.toNatClampNeg s.1)) &&& 63) : Int32) = 12 then
      f302_698 s.2 l0 l1 l2 s.1
    else if (((mI s.2 2000000 (Int32.toNatClampNeg s.1)) &&& 63) : Int32) = 13 then
      f302_757 s.2 l0 l1 l2 s.1
    else if (((mI s.2 2000000 (Int32.toNatClampNeg s.1)) &&& 63) : Int32) = 14 then
      f302_816 s.2 l0 l1 l2 s.1
    else if (((mI s.2 2000000 (Int32.toNatClampNeg s.1)) &&& 63) : Int32) = 15 then
      f302_896 s.2 l0 l1 l2 s.1
    else if (((mI s.2 2000000 (Int32.toNatClampNeg s.1)) &&& 63) : Int32) = 16 then
      f302_939 s.2 l0 l1 l2 s.1
    else if (((mI s.2 2000000 (Int32.toNatClampNeg s.1)) &&& 63) : Int32) = 17 then
      f302_982 s.2 l0 l1 l2 s.1
    else if (((mI s.2 2000000 (Int32.toNatClampNeg s.1)) &&& 63) : Int32) = 18 then
      f302_1035 s.2 l0 l1 l2 s.1
    else if (((mI s.2 2000000 (Int32.toNatClampNeg s.1)) &&& 63) : Int32) = 19 then
      f302_1068 s.2 l0 l1 l2 s.1
    else if (((mI s.2 2000000 (Int32.toNatClampNeg s.1)) &&& 63) : Int32) = 20 then
      f302_1111 s.2 l0 l1 l2 s.1
    else if (((mI s.2 2000000 (Int32.toNatClampNeg s.1)) &&& 63) : Int32) = 21 then
      f302_1164 s.2 l0 l1 l2 s.1
    else if (((mI s.2 2000000 (Int32.toNatClampNeg s.1)) &&& 63) : Int32) = 22 then
      f302_1207 s.2 l0 l1 l2 s.1
    else if (((mI s.2 2000000 (Int32.toNatClampNeg s.1)) &&& 63) : Int32) = 23 then
      f302_1240 s.2 l0 l1 l2 s.1
    else if (((mI s.2 2000000 (Int32.toNatClampNeg s.1)) &&& 63) : Int32) = 24 then
      f302_1273 s.2 l0 l1 l2 s.1
    else if (((mI s.2 2000000 (Int32.toNatClampNeg s.1)) &&& 63) : Int32) = 25 then
      f302_1322 s.2 l0 l1 l2 s.1
    else if (((mI s.2 2000000 (Int32.toNatClampNeg s.1)) &&& 63) : Int32) = 26 then
      f302_1382 s.2 l0 l1 l2 s.1
    else if (((mI s.2 2000000 (Int32.toNatClampNeg s.1)) &&& 63) : Int32) = 27 then
      f302_1425 s.2 l0 l1 l2 s.1
    else if (((mI s.2 2000000 (Int32.toNatClampNeg s.1)) &&& 63) : Int32) = 28 then
      f302_1468 s.2 l0 l1 l2 s.1
    else if (((mI s.2 2000000 (Int32.toNatClampNeg s.1)) &&& 63) : Int32) = 29 then
      f302_1517 s.2 l0 l1 l2 s.1
    else if (((mI s.2 2000000 (Int32.toNatClampNeg s.1)) &&& 63) : Int32) = 30 then
      f302_1576 s.2 l0 l1 l2 s.1
    else if (((mI s.2 2000000 (Int32.toNatClampNeg s.1)) &&& 63) : Int32) = 31 then
      f302_1646 s.2 l0 l1 l2 s.1
    else if (((mI s.2 2000000 (Int32.toNatClampNeg s.1)) &&& 63) : Int32) = 32 then
      f302_1689 s.2 l0 l1 l2 s.1
    else if (((mI s.2 2000000 (Int32.toNatClampNeg s.1)) &&& 63) : Int32) = 33 then
      f302_1759 s.2 l0 l1 l2 s.1
    else if (((mI s.2 2000000 (Int32.toNatClampNeg s.1)) &&& 63) : Int32) = 34 then
      f302_1818 s.2 l0 l1 l2 s.1
    else if (((mI s.2 2000000 (Int32.toNatClampNeg s.1)) &&& 63) : Int32) = 35 then
      f302_1841 s.2 l0 l1 l2 s.1
    else if (((mI s.2 2000000 (Int32.toNatClampNeg s.1)) &&& 63) : Int32) = 36 then
      f302_1864 s.2 l0 l1 l2 s.1
    else 
      f302_1887 s.2 l0 l1 l2 s.1))
