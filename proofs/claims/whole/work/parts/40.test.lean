def f71_13 (h : mH) (q0 : Int32) : Option (Int32) :=
mGd (true && mIs01 q0) (some (q0 : Int32))
theorem s71_13 (h : mH) (q0 : Int32) : Seg 71 (13, [.retAddr 0, .retAddr 0], [.int q0]) h (f71_13 h q0) (fun (q : Int32) (res : Option Value × mH) => res = (some (.int q), h)) := by
  unfold f71_13
  exact Seg.ret (f1 := (13, [.retAddr 0, .retAddr 0], [.int q0])) (h1 := h) rfl rfl rfl rfl (fun _ q => q)
def f71 (h : mH) (l0 : Int32) (l1 : Int32) : Option (Int32) :=
if (((l0 >>> (l1 &&& (31 : Int32))) &&& 1) : Int32) = 0 then
    f71_13 h 0
  else 
    f71_13 h 1
theorem s71 (h : mH) (l0 : Int32) (l1 : Int32) : Seg 71 (0, [.int l0, .int l1], []) h (f71 h l0 l1) (fun (q : Int32) (res : Option Value × mH) => res = (some (.int q), h)) := by
  unfold f71
  refine Seg.blk0 (f' := (if (((l0 >>> (l1 &&& (31 : Int32))) &&& 1) : Int32) = 0 then 12 else 8, [.int l0, .int l1], [])) (h' := h) rfl rfl ?_
  refine Seg.ite (fun _ => ?_) (fun _ => ?_)
  · refine Seg.blk0 (f' := (13, [.int l0, .int l1], [.int 0])) (h' := h) rfl rfl ?_
    exact Seg.w (mLw.u (mLw.u mLw.nil)) (s71_13 h 0)
  · refine Seg.blk0 (f' := (13, [.int l0, .int l1], [.int 1])) (h' := h) rfl rfl ?_
    exact Seg.w (mLw.u (mLw.u mLw.nil)) (s71_13 h 1)

def f95_29 (h : mH) (l0 : Nat) (l1 : Int32) (l2 : Int32) (l3 : Int32) : Option ((Int32 × Int32) ⊕ (Int32)) :=
some (.inl (l2, (l3 + 1)))
theorem s95_29 (h : mH) (l0 : Nat) (l1 : Int32) (l2 : Int32) (l3 : Int32) : Seg 95 (29, [.ref l0, .int l1, .int l2, .int l3], []) h (f95_29 h l0 l1 l2 l3) (Sum.elim (fun s : (Int32 × Int32) => Ev 95 (4, [.ref l0, .int l1, .int s.1, .int s.2], []) h) (fun (q : Int32) (res : Option Value × mH) => res = (some (.int q), h))) := by
  unfold f95_29
  refine Seg.blk0 (f' := (4, [.ref l0, .int l1, .int l2, .int (l3 + 1)], [])) (h' := h) rfl rfl ?_
  exact Seg.cont (fun _ q => Ev.w (mLw.k (mLw.k (mLw.k (mLw.k mLw.nil)))) q)
def f95_4 (h : mH) (l0 : Nat) (l1 : Int32) (s : (Int32 × Int32)) : Option ((Int32 × Int32) ⊕ (Int32)) :=
mGd (Nat.beq (mK h l0).1 2 && true) (
    if ((mI h l0 6) : Int32) ≤ s.2 then
    mX (mGd (true && true) (some (s.1 : Int32)))
  else 
    mGd (true && true) ((f71 h l1 s.2).bind (fun r1 =>
      if (r1 : Int32) = 0 then
      f95_29 h l0 l1 s.1 s.2
    else 
      mGd ((Nat.beq (mK h l0).1 2 && (mR h l0 0).isSome) && ((Nat.beq (mK h ((mR h l0 0).getD 0)).1 100 && mIn s.2 (mK h ((mR h l0 0).getD 0)).2) && true)) (
        f95_29 h l0 l1 (s.1 + (mI h ((mR h l0 0).getD 0) (Int32.toNatClampNeg s.2))) s.2))))
theorem s95_4 (h : mH) (l0 : Nat) (l1 : Int32) : ∀ (n : Nat) (s : (Int32 × Int32)), Seg 95 (4, [.ref l0, .int l1, .int s.1, .int s.2], []) h (mLoop (f95_4 h l0 l1) n s) (fun (q : Int32) (res : Option Value × mH) => res = (some (.int q), h)) := by
  refine Seg.loop (F := fun s : (Int32 × Int32) => (4, [.ref l0, .int l1, .int s.1, .int s.2], [])) (H := fun s : (Int32 × Int32) => h) (fun s => ?_)
  show Seg 95 (4, [.ref l0, .int l1, .int s.1, .int s.2], []) h _ (Sum.elim (fun s : (Int32 × Int32) => Ev 95 (4, [.ref l0, .int l1, .int s.1, .int s.2], []) h) (fun (q : Int32) (res : Option Value × mH) => res = (some (.int q), h)))
  unfold f95_4
  refine Seg.blk (f' := (if ((mI h l0 6) : Int32) ≤ s.2 then 35 else 12, [.ref l0, .int l1, .int s.1, .int s.2], [])) (h' := h) rfl rfl ?_
  refine Seg.ite (fun _ => ?_) (fun _ => ?_)
  · refine Seg.x ?_
    exact Seg.ret (f1 := (36, [.ref l0, .int l1, .int s.1, .int s.2], [.int s.1])) (h1 := h) rfl rfl rfl rfl (fun _ q => q)
  · refine Seg.callP (f1 := (14, [.ref l0, .int l1, .int s.1, .int s.2], [.int s.2, .int l1])) (h1 := h) (cv := fun r => some (.int r)) rfl rfl rfl rfl (s71 h l1 s.2) (fun r1 => ?_)
    refine Seg.blk0 (f' := (if (r1 : Int32) = 0 then 29 else 20, [.ref l0, .int l1, .int s.1, .int s.2], [])) (h' := h) rfl rfl ?_
    refine Seg.ite (fun _ => ?_) (fun _ => ?_)
    · exact Seg.w (mLw.k (mLw.k (mLw.k (mLw.k mLw.nil)))) (s95_29 h l0 l1 s.1 s.2)
    · refine Seg.blk (f' := (29, [.ref l0, .int l1, .int (s.1 + (mI h ((mR h l0 0).getD 0) (Int32.toNatClampNeg s.2))), .int s.2], [])) (h' := h) rfl rfl ?_
      exact Seg.w (mLw.k (mLw.k (mLw.k (mLw.k mLw.nil)))) (s95_29 h l0 l1 (s.1 + (mI h ((mR h l0 0).getD 0) (Int32.toNatClampNeg s.2))) s.2)
def f95 (h : mH) (l0 : Nat) (l1 : Int32) : Option (Int32) :=
mLoop (f95_4 h l0 l1) mFuel (0, 0)
theorem s95 (h : mH) (l0 : Nat) (l1 : Int32) : Seg 95 (0, [.ref l0, .int l1, .retAddr 0, .retAddr 0], []) h (f95 h l0 l1) (fun (q : Int32) (res : Option Value × mH) => res = (some (.int q), h)) := by
  unfold f95
  refine Seg.blk0 (f' := (4, [.ref l0, .int l1, .int 0, .int 0], [])) (h' := h) rfl rfl ?_
  exact Seg.w (mLw.k (mLw.k (mLw.k (mLw.k mLw.nil)))) (s95_4 h l0 l1 mFuel (0, 0))

def f17_15 (h : mH) (q0 : Int32) : Option (Int32) :=
mGd (true && mIs01 q0) (some (q0 : Int32))
theorem s17_15 (h : mH) (q0 : Int32) : Seg 17 (15, [.retAddr 0, .retAddr 0, .retAddr 0], [.int q0]) h (f17_15 h q0) (fun (q : Int32) (res : Option Value × mH) => res = (some (.int q), h)) := by
  unfold f17_15
  exact Seg.ret (f1 := (15, [.retAddr 0, .retAddr 0, .retAddr 0], [.int q0])) (h1 := h) rfl rfl rfl rfl (fun _ q => q)
def f17_14 (h : mH) : Option (Int32) :=
f17_15 h 0
theorem s17_14 (h : mH) : Seg 17 (14, [.retAddr 0, .retAddr 0, .retAddr 0], []) h (f17_14 h) (fun (q : Int32) (res : Option Value × mH) => res = (some (.int q), h)) := by
  unfold f17_14
  refine Seg.blk0 (f' := (15, [.retAddr 0, .retAddr 0, .retAddr 0], [.int 0])) (h' := h) rfl rfl ?_
  exact Seg.w (mLw.k (mLw.k (mLw.k mLw.nil))) (s17_15 h 0)
def f17 (h : mH) (l0 : Int32) (l1 : Int32) (l2 : Int32) : Option (Int32) :=
if (l0 : Int32) < l1 then
    f17_14 h
  else 
    if (l2 : Int32) < l0 then
      f17_14 h
    else 
      f17_15 h 1
theorem s17 (h : mH) (l0 : Int32) (l1 : Int32) (l2 : Int32) : Seg 17 (0, [.int l0, .int l1, .int l2], []) h (f17 h l0 l1 l2) (fun (q : Int32) (res : Option Value × mH) => res = (some (.int q), h)) := by
  unfold f17
  refine Seg.blk0 (f' := (if (l0 : Int32) < l1 then 14 else 5, [.int l0, .int l1, .int l2], [])) (h' := h) rfl rfl ?_
  refine Seg.ite (fun _ => ?_) (fun _ => ?_)
  · exact Seg.w (mLw.u (mLw.u (mLw.u mLw.nil))) (s17_14 h)
  · refine Seg.blk0 (f' := (if (l2 : Int32) < l0 then 14 else 10, [.int l0, .int l1, .int l2], [])) (h' := h) rfl rfl ?_
    refine Seg.ite (fun _ => ?_) (fun _ => ?_)
    · exact Seg.w (mLw.u (mLw.u (mLw.u mLw.nil))) (s17_14 h)
    · refine Seg.blk0 (f' := (15, [.int l0, .int l1, .int l2], [.int 1])) (h' := h) rfl rfl ?_
      exact Seg.w (mLw.u (mLw.u (mLw.u mLw.nil))) (s17_15 h 1)

def f53 (h : mH) (l0 : Nat) (l1 : Int32) : Option (Option Nat) :=
mGd (((Nat.beq (mK h l0).1 1 && (mR h l0 1).isSome) && ((Nat.beq (mK h ((mR h l0 1).getD 0)).1 100 && mIn 0 (mK h ((mR h l0 1).getD 0)).2) && true)) && true) ((f17 h l1 0 ((mI h ((mR h l0 1).getD 0) (Int32.toNatClampNeg 0)) - 1)).bind (fun r1 =>
    if (r1 : Int32) = 0 then
    mGd (true && true) (some (none : Option Nat))
  else 
    mGd ((Nat.beq (mK h l0).1 1 && (mR h l0 2).isSome) && ((Nat.beq (mK h ((mR h l0 2).getD 0)).1 202 && mIn l1 (mK h ((mR h l0 2).getD 0)).2 && (mR h ((mR h l0 2).getD 0) (Int32.toNatClampNeg l1)).isSome) && true)) (
      mGd (true && true) (some ((some ((mR h ((mR h l0 2).getD 0) (Int32.toNatClampNeg l1)).getD 0)) : Option Nat)))))
theorem s53 (h : mH) (l0 : Nat) (l1 : Int32) : Seg 53 (0, [.ref l0, .int l1], []) h (f53 h l0 l1) (fun (q : Option Nat) (res : Option Value × mH) => res = (some (va_rf q), h)) := by
  unfold f53
  refine Seg.callP (f1 := (10, [.ref l0, .int l1], [.int ((mI h ((mR h l0 1).getD 0) (Int32.toNatClampNeg 0)) - 1), .int 0, .int l1])) (h1 := h) (cv := fun r => some (.int r)) rfl rfl rfl rfl (s17 h l1 0 ((mI h ((mR h l0 1).getD 0) (Int32.toNatClampNeg 0)) - 1)) (fun r1 => ?_)
  refine Seg.blk0 (f' := (if (r1 : Int32) = 0 then 25 else 16, [.ref l0, .int l1], [])) (h' := h) rfl rfl ?_
  refine Seg.ite (fun _ => ?_) (fun _ => ?_)
  · refine Seg.blk0 (f' := (26, [.ref l0, .int l1], [.null])) (h' := h) rfl rfl ?_
    exact Seg.ret (f1 := (26, [.ref l0, .int l1], [.null])) (h1 := h) rfl rfl rfl rfl (fun _ q => q)
  · refine Seg.blk (f' := (26, [.ref l0, .int l1], [.ref ((mR h ((mR h l0 2).getD 0) (Int32.toNatClampNeg l1)).getD 0)])) (h' := h) rfl rfl ?_
    exact Seg.ret (f1 := (26, [.ref l0, .int l1], [.ref ((mR h ((mR h l0 2).getD 0) (Int32.toNatClampNeg l1)).getD 0)])) (h1 := h) rfl rfl rfl rfl (fun _ q => q)

def f55 (h : mH) (l0 : Nat) (l1 : Int32) : Option (Int32) :=
if (l1 : Int32) = 0 then
    mGd ((Nat.beq (mK h l0).1 2 && true) && true) (some ((mI h l0 6) : Int32))
  else if (l1 : Int32) = 1 then
    mGd ((Nat.beq (mK h l0).1 2 && true) && true) (some ((mI h l0 7) : Int32))
  else if (l1 : Int32) = 2 then
    mGd ((Nat.beq (mK h l0).1 2 && true) && true) (some ((mI h l0 8) : Int32))
  else 
    mGd (true && true) (some ((-1) : Int32))
theorem s55 (h : mH) (l0 : Nat) (l1 : Int32) : Seg 55 (0, [.ref l0, .int l1], []) h (f55 h l0 l1) (fun (q : Int32) (res : Option Value × mH) => res = (some (.int q), h)) := by
  unfold f55
  refine Seg.blk0 (f' := (if (l1 : Int32) = 0 then 28 else if (l1 : Int32) = 1 then 33 else if (l1 : Int32) = 2 then 38 else 43, [.ref l0, .int l1], [])) (h' := h) rfl rfl ?_
  refine Seg.ite (fun _ => ?_) (fun _ => ?_)
  · exact Seg.ret (f1 := (32, [.ref l0, .int l1], [.int (mI h l0 6)])) (h1 := h) rfl rfl rfl rfl (fun _ q => q)
  refine Seg.ite (fun _ => ?_) (fun _ => ?_)
  · exact Seg.ret (f1 := (37, [.ref l0, .int l1], [.int (mI h l0 7)])) (h1 := h) rfl rfl rfl rfl (fun _ q => q)
  refine Seg.ite (fun _ => ?_) (fun _ => ?_)
  · exact Seg.ret (f1 := (42, [.ref l0, .int l1], [.int (mI h l0 8)])) (h1 := h) rfl rfl rfl rfl (fun _ q => q)
  · exact Seg.ret (f1 := (44, [.ref l0, .int l1], [.int (-1)])) (h1 := h) rfl rfl rfl rfl (fun _ q => q)

def f56_17 (h : mH) (q0 : Int32) : Option (Int32) :=
mGd (true && mIs01 q0) (some (q0 : Int32))
theorem s56_17 (h : mH) (q0 : Int32) : Seg 56 (17, [.retAddr 0, .retAddr 0], [.int q0]) h (f56_17 h q0) (fun (q : Int32) (res : Option Value × mH) => res = (some (.int q), h)) := by
  unfold f56_17
  exact Seg.ret (f1 := (17, [.retAddr 0, .retAddr 0], [.int q0])) (h1 := h) rfl rfl rfl rfl (fun _ q => q)
def f56_16 (h : mH) : Option (Int32) :=
f56_17 h 0
theorem s56_16 (h : mH) : Seg 56 (16, [.retAddr 0, .retAddr 0], []) h (f56_16 h) (fun (q : Int32) (res : Option Value × mH) => res = (some (.int q), h)) := by
  unfold f56_16
  refine Seg.blk0 (f' := (17, [.retAddr 0, .retAddr 0], [.int 0])) (h' := h) rfl rfl ?_
  exact Seg.w (mLw.k (mLw.k mLw.nil)) (s56_17 h 0)
def f56 (h : mH) (l0 : Nat) (l1 : Int32) : Option (Int32) :=
if (l1 : Int32) < 0 then
    f56_16 h
  else 
    mGd (Nat.beq (mK h l0).1 2 && true) (
      if ((mI h l0 6) : Int32) ≤ l1 then
      f56_16 h
    else 
      f56_17 h 1)
theorem s56 (h : mH) (l0 : Nat) (l1 : Int32) : Seg 56 (0, [.ref l0, .int l1], []) h (f56 h l0 l1) (fun (q : Int32) (res : Option Value × mH) => res = (some (.int q), h)) := by
  unfold f56
  refine Seg.blk0 (f' := (if (l1 : Int32) < 0 then 16 else 4, [.ref l0, .int l1], [])) (h' := h) rfl rfl ?_
  refine Seg.ite (fun _ => ?_) (fun _ => ?_)
  · exact Seg.w (mLw.u (mLw.u mLw.nil)) (s56_16 h)
  · refine Seg.blk (f' := (if ((mI h l0 6) : Int32) ≤ l1 then 16 else 12, [.ref l0, .int l1], [])) (h' := h) rfl rfl ?_
    refine Seg.ite (fun _ => ?_) (fun _ => ?_)
    · exact Seg.w (mLw.u (mLw.u mLw.nil)) (s56_16 h)
    · refine Seg.blk0 (f' := (17, [.ref l0, .int l1], [.int 1])) (h' := h) rfl rfl ?_
      exact Seg.w (mLw.u (mLw.u mLw.nil)) (s56_17 h 1)

def f57_17 (h : mH) (q0 : Int32) : Option (Int32) :=
mGd (true && mIs01 q0) (some (q0 : Int32))
theorem s57_17 (h : mH) (q0 : Int32) : Seg 57 (17, [.retAddr 0, .retAddr 0], [.int q0]) h (f57_17 h q0) (fun (q : Int32) (res : Option Value × mH) => res = (some (.int q), h)) := by
  unfold f57_17
  exact Seg.ret (f1 := (17, [.retAddr 0, .retAddr 0], [.int q0])) (h1 := h) rfl rfl rfl rfl (fun _ q => q)
def f57_16 (h : mH) : Option (Int32) :=
f57_17 h 0
theorem s57_16 (h : mH) : Seg 57 (16, [.retAddr 0, .retAddr 0], []) h (f57_16 h) (fun (q : Int32) (res : Option Value × mH) => res = (some (.int q), h)) := by
  unfold f57_16
  refine Seg.blk0 (f' := (17, [.retAddr 0, .retAddr 0], [.int 0])) (h' := h) rfl rfl ?_
  exact Seg.w (mLw.k (mLw.k mLw.nil)) (s57_17 h 0)
def f57 (h : mH) (l0 : Nat) (l1 : Int32) : Option (Int32) :=
if (l1 : Int32) < 0 then
    f57_16 h
  else 
    mGd (Nat.beq (mK h l0).1 2 && true) (
      if ((mI h l0 7) : Int32) ≤ l1 then
      f57_16 h
    else 
      f57_17 h 1)
theorem s57 (h : mH) (l0 : Nat) (l1 : Int32) : Seg 57 (0, [.ref l0, .int l1], []) h (f57 h l0 l1) (fun (q : Int32) (res : Option Value × mH) => res = (some (.int q), h)) := by
  unfold f57
  refine Seg.blk0 (f' := (if (l1 : Int32) < 0 then 16 else 4, [.ref l0, .int l1], [])) (h' := h) rfl rfl ?_
  refine Seg.ite (fun _ => ?_) (fun _ => ?_)
  · exact Seg.w (mLw.u (mLw.u mLw.nil)) (s57_16 h)
  · refine Seg.blk (f' := (if ((mI h l0 7) : Int32) ≤ l1 then 16 else 12, [.ref l0, .int l1], [])) (h' := h) rfl rfl ?_
    refine Seg.ite (fun _ => ?_) (fun _ => ?_)
    · exact Seg.w (mLw.u (mLw.u mLw.nil)) (s57_16 h)
    · refine Seg.blk0 (f' := (17, [.ref l0, .int l1], [.int 1])) (h' := h) rfl rfl ?_
      exact Seg.w (mLw.u (mLw.u mLw.nil)) (s57_17 h 1)

def f54_92 (h : mH) (q0 : Int32) : Option (Int32) :=
mGd (true && true) (some (q0 : Int32))
theorem s54_92 (h : mH) (q0 : Int32) : Seg 54 (92, [.retAddr 0, .retAddr 0, .retAddr 0], [.int q0]) h (f54_92 h q0) (fun (q : Int32) (res : Option Value × mH) => res = (some (.int q), h)) := by
  unfold f54_92
  exact Seg.ret (f1 := (92, [.retAddr 0, .retAddr 0, .retAddr 0], [.int q0])) (h1 := h) rfl rfl rfl rfl (fun _ q => q)
def f54_111 (h : mH) (q0 : Int32) : Option (Int32) :=
mGd (true && true) (some (q0 : Int32))
theorem s54_111 (h : mH) (q0 : Int32) : Seg 54 (111, [.retAddr 0, .retAddr 0, .retAddr 0], [.int q0]) h (f54_111 h q0) (fun (q : Int32) (res : Option Value × mH) => res = (some (.int q), h)) := by
  unfold f54_111
  exact Seg.ret (f1 := (111, [.retAddr 0, .retAddr 0, .retAddr 0], [.int q0])) (h1 := h) rfl rfl rfl rfl (fun _ q => q)
def f54_130 (h : mH) (q0 : Int32) : Option (Int32) :=
mGd (true && true) (some (q0 : Int32))
theorem s54_130 (h : mH) (q0 : Int32) : Seg 54 (130, [.retAddr 0, .retAddr 0, .retAddr 0], [.int q0]) h (f54_130 h q0) (fun (q : Int32) (res : Option Value × mH) => res = (some (.int q), h)) := by
  unfold f54_130
  exact Seg.ret (f1 := (130, [.retAddr 0, .retAddr 0, .retAddr 0], [.int q0])) (h1 := h) rfl rfl rfl rfl (fun _ q => q)
def f54_150 (h : mH) (q0 : Int32) : Option (Int32) :=
mGd (true && true) (some (q0 : Int32))
theorem s54_150 (h : mH) (q0 : Int32) : Seg 54 (150, [.retAddr 0, .retAddr 0, .retAddr 0], [.int q0]) h (f54_150 h q0) (fun (q : Int32) (res : Option Value × mH) => res = (some (.int q), h)) := by
  unfold f54_150
  exact Seg.ret (f1 := (150, [.retAddr 0, .retAddr 0, .retAddr 0], [.int q0])) (h1 := h) rfl rfl rfl rfl (fun _ q => q)
def f54_169 (h : mH) (q0 : Int32) : Option (Int32) :=
mGd (true && true) (some (q0 : Int32))
theorem s54_169 (h : mH) (q0 : Int32) : Seg 54 (169, [.retAddr 0, .retAddr 0, .retAddr 0], [.int q0]) h (f54_169 h q0) (fun (q : Int32) (res : Option Value × mH) => res = (some (.int q), h)) := by
  unfold f54_169
  exact Seg.ret (f1 := (169, [.retAddr 0, .retAddr 0, .retAddr 0], [.int q0])) (h1 := h) rfl rfl rfl rfl (fun _ q => q)
def f54_188 (h : mH) (q0 : Int32) : Option (Int32) :=
mGd (true && true) (some (q0 : Int32))
theorem s54_188 (h : mH) (q0 : Int32) : Seg 54 (188, [.retAddr 0, .retAddr 0, .retAddr 0], [.int q0]) h (f54_188 h q0) (fun (q : Int32) (res : Option Value × mH) => res = (some (.int q), h)) := by
  unfold f54_188
  exact Seg.ret (f1 := (188, [.retAddr 0, .retAddr 0, .retAddr 0], [.int q0])) (h1 := h) rfl rfl rfl rfl (fun _ q => q)
def f54_25 (h : mH) (l0 : Nat) (l2 : Int32) (q0 : Int32) : Option (Int32) :=
if (q0 : Int32) = 0 then
    mGd (true && Nat.beq (mK h l0).1 2) ((f55 h l0 l2).bind (fun r1 =>
      mGd (true && true) (some (r1 : Int32))))
  else if (q0 : Int32) = 1 then
    mGd (true && Nat.beq (mK h l0).1 2) ((f56 h l0 l2).bind (fun r2 =>
      if (r2 : Int32) = 0 then
      f54_92 h (-1)
    else 
      mGd ((Nat.beq (mK h l0).1 2 && (mR h l0 0).isSome) && ((Nat.beq (mK h ((mR h l0 0).getD 0)).1 100 && mIn l2 (mK h ((mR h l0 0).getD 0)).2) && true)) (
        f54_92 h (mI h ((mR h l0 0).getD 0) (Int32.toNatClampNeg l2)))))
  else if (q0 : Int32) = 2 then
    mGd (true && Nat.beq (mK h l0).1 2) ((f56 h l0 l2).bind (fun r3 =>
      if (r3 : Int32) = 0 then
      f54_111 h (-1)
    else 
      mGd ((Nat.beq (mK h l0).1 2 && (mR h l0 1).isSome) && ((Nat.beq (mK h ((mR h l0 1).getD 0)).1 100 && mIn l2 (mK h ((mR h l0 1).getD 0)).2) && true)) (
        f54_111 h (mI h ((mR h l0 1).getD 0) (Int32.toNatClampNeg l2)))))
  else if (q0 : Int32) = 3 then
    mGd (true && Nat.beq (mK h l0).1 2) ((f56 h l0 l2).bind (fun r4 =>
      if (r4 : Int32) = 0 then
      f54_130 h (-1)
    else 
      mGd ((Nat.beq (mK h l0).1 2 && (mR h l0 2).isSome) && ((Nat.beq (mK h ((mR h l0 2).getD 0)).1 100 && mIn l2 (mK h ((mR h l0 2).getD 0)).2) && true)) (
        f54_130 h (mI h ((mR h l0 2).getD 0) (Int32.toNatClampNeg l2)))))
  else if (q0 : Int32) = 4 then
    mGd (true && true) ((f17 h l2 0 5).bind (fun r5 =>
      if (r5 : Int32) = 0 then
      f54_150 h (-1)
    else 
      mGd ((Nat.beq (mK h l0).1 2 && (mR h l0 3).isSome) && ((Nat.beq (mK h ((mR h l0 3).getD 0)).1 100 && mIn l2 (mK h ((mR h l0 3).getD 0)).2) && true)) (
        f54_150 h (mI h ((mR h l0 3).getD 0) (Int32.toNatClampNeg l2)))))
  else if (q0 : Int32) = 5 then
    mGd (true && Nat.beq (mK h l0).1 2) ((f57 h l0 l2).bind (fun r6 =>
      if (r6 : Int32) = 0 then
      f54_169 h (-1)
    else 
      mGd ((Nat.beq (mK h l0).1 2 && (mR h l0 4).isSome) && ((Nat.beq (mK h ((mR h l0 4).getD 0)).1 100 && mIn l2 (mK h ((mR h l0 4).getD 0)).2) && true)) (
        f54_169 h (mI h ((mR h l0 4).getD 0) (Int32.toNatClampNeg l2)))))
  else if (q0 : Int32) = 6 then
    mGd (true && Nat.beq (mK h l0).1 2) ((f57 h l0 l2).bind (fun r7 =>
      if (r7 : Int32) = 0 then
      f54_188 h (-1)
    else 
      mGd ((Nat.beq (mK h l0).1 2 && (mR h l0 5).isSome) && ((Nat.beq (mK h ((mR h l0 5).getD 0)).1 100 && mIn l2 (mK h ((mR h l0 5).getD 0)).2) && true)) (
        f54_188 h (mI h ((mR h l0 5).getD 0) (Int32.toNatClampNeg l2)))))
  else 
    mGd (true && true) (some ((-1) : Int32))
theorem s54_25 (h : mH) (l0 : Nat) (l2 : Int32) (q0 : Int32) : Seg 54 (25, [.ref l0, .retAddr 0, .int l2], [.int q0]) h (f54_25 h l0 l2 q0) (fun (q : Int32) (res : Option Value × mH) => res = (some (.int q), h)) := by
  unfold f54_25
  refine Seg.blk0 (f' := (if (q0 : Int32) = 0 then 68 else if (q0 : Int32) = 1 then 74 else if (q0 : Int32) = 2 then 93 else if (q0 : Int32) = 3 then 112 else if (q0 : Int32) = 4 then 131 else if (q0 : Int32) = 5 then 151 else if (q0 : Int32) = 6 then 170 else 189, [.ref l0, .retAddr 0, .int l2], [])) (h' := h) rfl rfl ?_
  refine Seg.ite (fun _ => ?_) (fun _ => ?_)
  · refine Seg.callP (f1 := (70, [.ref l0, .retAddr 0, .int l2], [.int l2, .ref l0])) (h1 := h) (cv := fun r => some (.int r)) rfl rfl rfl rfl (s55 h l0 l2) (fun r1 => ?_)
    exact Seg.ret (f1 := (73, [.ref l0, .retAddr 0, .int l2], [.int r1])) (h1 := h) rfl rfl rfl rfl (fun _ q => q)
  refine Seg.ite (fun _ => ?_) (fun _ => ?_)
  · refine Seg.callP (f1 := (76, [.ref l0, .retAddr 0, .int l2], [.int l2, .ref l0])) (h1 := h) (cv := fun r => some (.int r)) rfl rfl rfl rfl (s56 h l0 l2) (fun r2 => ?_)
    refine Seg.blk0 (f' := (if (r2 : Int32) = 0 then 91 else 82, [.ref l0, .retAddr 0, .int l2], [])) (h' := h) rfl rfl ?_
    refine Seg.ite (fun _ => ?_) (fun _ => ?_)
    · refine Seg.blk0 (f' := (92, [.ref l0, .retAddr 0, .int l2], [.int (-1)])) (h' := h) rfl rfl ?_
      exact Seg.w (mLw.u (mLw.k (mLw.u mLw.nil))) (s54_92 h (-1))
    · refine Seg.blk (f' := (92, [.ref l0, .retAddr 0, .int l2], [.int (mI h ((mR h l0 0).getD 0) (Int32.toNatClampNeg l2))])) (h' := h) rfl rfl ?_
      exact Seg.w (mLw.u (mLw.k (mLw.u mLw.nil))) (s54_92 h (mI h ((mR h l0 0).getD 0) (Int32.toNatClampNeg l2)))
  refine Seg.ite (fun _ => ?_) (fun _ => ?_)
  · refine Seg.callP (f1 := (95, [.ref l0, .retAddr 0, .int l2], [.int l2, .ref l0])) (h1 := h) (cv := fun r => some (.int r)) rfl rfl rfl rfl (s56 h l0 l2) (fun r3 => ?_)
    refine Seg.blk0 (f' := (if (r3 : Int32) = 0 then 110 else 101, [.ref l0, .retAddr 0, .int l2], [])) (h' := h) rfl rfl ?_
    refine Seg.ite (fun _ => ?_) (fun _ => ?_)
    · refine Seg.blk0 (f' := (111, [.ref l0, .retAddr 0, .int l2], [.int (-1)])) (h' := h) rfl rfl ?_
      exact Seg.w (mLw.u (mLw.k (mLw.u mLw.nil))) (s54_111 h (-1))
    · refine Seg.blk (f' := (111, [.ref l0, .retAddr 0, .int l2], [.int (mI h ((mR h l0 1).getD 0) (Int32.toNatClampNeg l2))])) (h' := h) rfl rfl ?_
      exact Seg.w (mLw.u (mLw.k (mLw.u mLw.nil))) (s54_111 h (mI h ((mR h l0 1).getD 0) (Int32.toNatClampNeg l2)))
  refine Seg.ite (fun _ => ?_) (fun _ => ?_)
  · refine Seg.callP (f1 := (114, [.ref l0, .retAddr 0, .int l2], [.int l2, .ref l0])) (h1 := h) (cv := fun r => some (.int r)) rfl rfl rfl rfl (s56 h l0 l2) (fun r4 => ?_)
    refine Seg.blk0 (f' := (if (r4 : Int32) = 0 then 129 else 120, [.ref l0, .retAddr 0, .int l2], [])) (h' := h) rfl rfl ?_
    refine Seg.ite (fun _ => ?_) (fun _ => ?_)
    · refine Seg.blk0 (f' := (130, [.ref l0, .retAddr 0, .int l2], [.int (-1)])) (h' := h) rfl rfl ?_
      exact Seg.w (mLw.u (mLw.k (mLw.u mLw.nil))) (s54_130 h (-1))
    · refine Seg.blk (f' := (130, [.ref l0, .retAddr 0, .int l2], [.int (mI h ((mR h l0 2).getD 0) (Int32.toNatClampNeg l2))])) (h' := h) rfl rfl ?_
      exact Seg.w (mLw.u (mLw.k (mLw.u mLw.nil))) (s54_130 h (mI h ((mR h l0 2).getD 0) (Int32.toNatClampNeg l2)))
  refine Seg.ite (fun _ => ?_) (fun _ => ?_)
  · refine Seg.callP (f1 := (134, [.ref l0, .retAddr 0, .int l2], [.int 5, .int 0, .int l2])) (h1 := h) (cv := fun r => some (.int r)) rfl rfl rfl rfl (s17 h l2 0 5) (fun r5 => ?_)
    refine Seg.blk0 (f' := (if (r5 : Int32) = 0 then 149 else 140, [.ref l0, .retAddr 0, .int l2], [])) (h' := h) rfl rfl ?_
    refine Seg.ite (fun _ => ?_) (fun _ => ?_)
    · refine Seg.blk0 (f' := (150, [.ref l0, .retAddr 0, .int l2], [.int (-1)])) (h' := h) rfl rfl ?_
      exact Seg.w (mLw.u (mLw.k (mLw.u mLw.nil))) (s54_150 h (-1))
    · refine Seg.blk (f' := (150, [.ref l0, .retAddr 0, .int l2], [.int (mI h ((mR h l0 3).getD 0) (Int32.toNatClampNeg l2))])) (h' := h) rfl rfl ?_
      exact Seg.w (mLw.u (mLw.k (mLw.u mLw.nil))) (s54_150 h (mI h ((mR h l0 3).getD 0) (Int32.toNatClampNeg l2)))
  refine Seg.ite (fun _ => ?_) (fun _ => ?_)
  · refine Seg.callP (f1 := (153, [.ref l0, .retAddr 0, .int l2], [.int l2, .ref l0])) (h1 := h) (cv := fun r => some (.int r)) rfl rfl rfl rfl (s57 h l0 l2) (fun r6 => ?_)
    refine Seg.blk0 (f' := (if (r6 : Int32) = 0 then 168 else 159, [.ref l0, .retAddr 0, .int l2], [])) (h' := h) rfl rfl ?_
    refine Seg.ite (fun _ => ?_) (fun _ => ?_)
    · refine Seg.blk0 (f' := (169, [.ref l0, .retAddr 0, .int l2], [.int (-1)])) (h' := h) rfl rfl ?_
      exact Seg.w (mLw.u (mLw.k (mLw.u mLw.nil))) (s54_169 h (-1))
    · refine Seg.blk (f' := (169, [.ref l0, .retAddr 0, .int l2], [.int (mI h ((mR h l0 4).getD 0) (Int32.toNatClampNeg l2))])) (h' := h) rfl rfl ?_
      exact Seg.w (mLw.u (mLw.k (mLw.u mLw.nil))) (s54_169 h (mI h ((mR h l0 4).getD 0) (Int32.toNatClampNeg l2)))
  refine Seg.ite (fun _ => ?_) (fun _ => ?_)
  · refine Seg.callP (f1 := (172, [.ref l0, .retAddr 0, .int l2], [.int l2, .ref l0])) (h1 := h) (cv := fun r => some (.int r)) rfl rfl rfl rfl (s57 h l0 l2) (fun r7 => ?_)
    refine Seg.blk0 (f' := (if (r7 : Int32) = 0 then 187 else 178, [.ref l0, .retAddr 0, .int l2], [])) (h' := h) rfl rfl ?_
    refine Seg.ite (fun _ => ?_) (fun _ => ?_)
    · refine Seg.blk0 (f' := (188, [.ref l0, .retAddr 0, .int l2], [.int (-1)])) (h' := h) rfl rfl ?_
      exact Seg.w (mLw.u (mLw.k (mLw.u mLw.nil))) (s54_188 h (-1))
    · refine Seg.blk (f' := (188, [.ref l0, .retAddr 0, .int l2], [.int (mI h ((mR h l0 5).getD 0) (Int32.toNatClampNeg l2))])) (h' := h) rfl rfl ?_
      exact Seg.w (mLw.u (mLw.k (mLw.u mLw.nil))) (s54_188 h (mI h ((mR h l0 5).getD 0) (Int32.toNatClampNeg l2)))
  · exact Seg.ret (f1 := (190, [.ref l0, .retAddr 0, .int l2], [.int (-1)])) (h1 := h) rfl rfl rfl rfl (fun _ q => q)
def f54_12 (h : mH) (l0 : Nat) (l1 : Int32) (q0 : Int32) : Option (Int32) :=
if (0 : Int32) ≤ l1 then
    mGd (!(10 == (0 : Int32)) && true) (
      f54_25 h l0 q0 (l1 / 10))
  else 
    f54_25 h l0 q0 (-1)
theorem s54_12 (h : mH) (l0 : Nat) (l1 : Int32) (q0 : Int32) : Seg 54 (12, [.ref l0, .int l1, .retAddr 0], [.int q0]) h (f54_12 h l0 l1 q0) (fun (q : Int32) (res : Option Value × mH) => res = (some (.int q), h)) := by
  unfold f54_12
  refine Seg.blk0 (f' := (if (0 : Int32) ≤ l1 then 21 else 17, [.ref l0, .int l1, .int q0], [])) (h' := h) rfl rfl ?_
  refine Seg.ite (fun _ => ?_) (fun _ => ?_)
  · refine Seg.blk (f' := (25, [.ref l0, .int l1, .int q0], [.int (l1 / 10)])) (h' := h) rfl rfl ?_
    exact Seg.w (mLw.k (mLw.u (mLw.k mLw.nil))) (s54_25 h l0 q0 (l1 / 10))
  · refine Seg.blk0 (f' := (25, [.ref l0, .int l1, .int q0], [.int (-1)])) (h' := h) rfl rfl ?_
    exact Seg.w (mLw.k (mLw.u (mLw.k mLw.nil))) (s54_25 h l0 q0 (-1))
def f54 (h : mH) (l0 : Nat) (l1 : Int32) : Option (Int32) :=
if (0 : Int32) ≤ l1 then
    mGd (!(10 == (0 : Int32)) && true) (
      f54_12 h l0 l1 (l1 - l1 / 10 * 10))
  else 
    f54_12 h l0 l1 (-1)
theorem s54 (h : mH) (l0 : Nat) (l1 : Int32) : Seg 54 (0, [.ref l0, .int l1, .retAddr 0], []) h (f54 h l0 l1) (fun (q : Int32) (res : Option Value × mH) => res = (some (.int q), h)) := by
  unfold f54
  refine Seg.blk0 (f' := (if (0 : Int32) ≤ l1 then 8 else 4, [.ref l0, .int l1, .retAddr 0], [])) (h' := h) rfl rfl ?_
  refine Seg.ite (fun _ => ?_) (fun _ => ?_)
  · refine Seg.blk (f' := (12, [.ref l0, .int l1, .retAddr 0], [.int (l1 - l1 / 10 * 10)])) (h' := h) rfl rfl ?_
    exact Seg.w (mLw.k (mLw.k (mLw.k mLw.nil))) (s54_12 h l0 l1 (l1 - l1 / 10 * 10))
  · refine Seg.blk0 (f' := (12, [.ref l0, .int l1, .retAddr 0], [.int (-1)])) (h' := h) rfl rfl ?_
    exact Seg.w (mLw.k (mLw.k (mLw.k mLw.nil))) (s54_12 h l0 l1 (-1))

def f184_28 (h : mH) (q0 : Int32) : Option (Int32) :=
mGd (true && true) (some (q0 : Int32))
theorem s184_28 (h : mH) (q0 : Int32) : Seg 184 (28, [.retAddr 0], [.int q0]) h (f184_28 h q0) (fun (q : Int32) (res : Option Value × mH) => res = (some (.int q), h)) := by
  unfold f184_28
  exact Seg.ret (f1 := (28, [.retAddr 0], [.int q0])) (h1 := h) rfl rfl rfl rfl (fun _ q => q)
def f184 (h : mH) (l0 : Nat) : Option (Int32) :=
mGd (Nat.beq (mK h l0).1 12 && (Nat.beq (mK h l0).1 12 && true)) (
    if ((mI h l0 10) : Int32) ≤ (mI h l0 9) then
    f184_28 h (-1)
  else 
    mGd ((Nat.beq (mK h l0).1 12 && (mR h l0 1).isSome) && (Nat.beq (mK h l0).1 12 && ((Nat.beq (mK h ((mR h l0 1).getD 0)).1 101 && mIn (mI h l0 9) (mK h ((mR h l0 1).getD 0)).2) && true))) (
      f184_28 h ((mI h ((mR h l0 1).getD 0) (Int32.toNatClampNeg (mI h l0 9))) &&& 255)))
theorem s184 (h : mH) (l0 : Nat) : Seg 184 (0, [.ref l0], []) h (f184 h l0) (fun (q : Int32) (res : Option Value × mH) => res = (some (.int q), h)) := by
  unfold f184
  refine Seg.blk (f' := (if ((mI h l0 10) : Int32) ≤ (mI h l0 9) then 27 else 11, [.ref l0], [])) (h' := h) rfl rfl ?_
  refine Seg.ite (fun _ => ?_) (fun _ => ?_)
  · refine Seg.blk0 (f' := (28, [.ref l0], [.int (-1)])) (h' := h) rfl rfl ?_
    exact Seg.w (mLw.u mLw.nil) (s184_28 h (-1))
  · refine Seg.blk (f' := (28, [.ref l0], [.int ((mI h ((mR h l0 1).getD 0) (Int32.toNatClampNeg (mI h l0 9))) &&& 255)])) (h' := h) rfl rfl ?_
    exact Seg.w (mLw.u mLw.nil) (s184_28 h ((mI h ((mR h l0 1).getD 0) (Int32.toNatClampNeg (mI h l0 9))) &&& 255))

def f179_15 (h : mH) (q0 : Int32) : Option (Int32) :=
mGd (true && mIs01 q0) (some (q0 : Int32))
theorem s179_15 (h : mH) (q0 : Int32) : Seg 179 (15, [.retAddr 0, .retAddr 0, .retAddr 0], [.int q0]) h (f179_15 h q0) (fun (q : Int32) (res : Option Value × mH) => res = (some (.int q), h)) := by
  unfold f179_15
  exact Seg.ret (f1 := (15, [.retAddr 0, .retAddr 0, .retAddr 0], [.int q0])) (h1 := h) rfl rfl rfl rfl (fun _ q => q)
def f179_14 (h : mH) : Option (Int32) :=
f179_15 h 0
theorem s179_14 (h : mH) : Seg 179 (14, [.retAddr 0, .retAddr 0, .retAddr 0], []) h (f179_14 h) (fun (q : Int32) (res : Option Value × mH) => res = (some (.int q), h)) := by
  unfold f179_14
  refine Seg.blk0 (f' := (15, [.retAddr 0, .retAddr 0, .retAddr 0], [.int 0])) (h' := h) rfl rfl ?_
  exact Seg.w (mLw.k (mLw.k (mLw.k mLw.nil))) (s179_15 h 0)
def f179 (h : mH) (l0 : Int32) (l1 : Int32) (l2 : Int32) : Option (Int32) :=
if (l0 : Int32) < l1 then
    f179_14 h
  else 
    if (l2 : Int32) < l0 then
      f179_14 h
    else 
      f179_15 h 1
theorem s179 (h : mH) (l0 : Int32) (l1 : Int32) (l2 : Int32) : Seg 179 (0, [.int l0, .int l1, .int l2], []) h (f179 h l0 l1 l2) (fun (q : Int32) (res : Option Value × mH) => res = (some (.int q), h)) := by
  unfold f179
  refine Seg.blk0 (f' := (if (l0 : Int32) < l1 then 14 else 5, [.int l0, .int l1, .int l2], [])) (h' := h) rfl rfl ?_
  refine Seg.ite (fun _ => ?_) (fun _ => ?_)
  · exact Seg.w (mLw.u (mLw.u (mLw.u mLw.nil))) (s179_14 h)
  · refine Seg.blk0 (f' := (if (l2 : Int32) < l0 then 14 else 10, [.int l0, .int l1, .int l2], [])) (h' := h) rfl rfl ?_
    refine Seg.ite (fun _ => ?_) (fun _ => ?_)
    · exact Seg.w (mLw.u (mLw.u (mLw.u mLw.nil))) (s179_14 h)
    · refine Seg.blk0 (f' := (15, [.int l0, .int l1, .int l2], [.int 1])) (h' := h) rfl rfl ?_
      exact Seg.w (mLw.u (mLw.u (mLw.u mLw.nil))) (s179_15 h 1)

def f183_18 (h : mH) (l0 : Nat) : Option ((mH) ⊕ (Unit × mH)) :=
mGd (Nat.beq (mK h l0).1 12 && (Nat.beq (mK h l0).1 12 && true)) (
    some (.inl ((mSI h l0 9 ((mI h l0 9) + 1)))))
theorem s183_18 (h : mH) (l0 : Nat) : Seg 183 (18, [.ref l0, .retAddr 0, .retAddr 0], []) h (f183_18 h l0) (Sum.elim (fun s : (mH) => Ev 183 (0, [.ref l0, .retAddr 0, .retAddr 0], []) s) (fun (q : Unit × mH) (res : Option Value × mH) => res = (none, q.2))) := by
  unfold f183_18
  refine Seg.blk (f' := (0, [.ref l0, .retAddr 0, .retAddr 0], [])) (h' := (mSI h l0 9 ((mI h l0 9) + 1))) rfl rfl ?_
  exact Seg.cont (fun _ q => Ev.w (mLw.k (mLw.k (mLw.k mLw.nil))) q)
def f183_266 (h : mH) : Option (Unit × mH) :=
mGd (true && true) (some ((), h))
theorem s183_266 (h : mH) : Seg 183 (266, [.retAddr 0, .retAddr 0, .retAddr 0], []) h (f183_266 h) (fun (q : Unit × mH) (res : Option Value × mH) => res = (none, q.2)) := by
  unfold f183_266
  exact Seg.ret (f1 := (266, [.retAddr 0, .retAddr 0, .retAddr 0], [])) (h1 := h) rfl rfl rfl rfl (fun _ q => q)
def f183_163 (l0 : Nat) (s : (Int32 × mH)) : Option ((Int32 × mH) ⊕ (Unit × mH)) :=
mGd (true && Nat.beq (mK s.2 l0).1 12) ((f184 s.2 l0).bind (fun r6 =>
    mGd (true && true) ((f179 s.2 r6 48 57).bind (fun r7 =>
    if (r7 : Int32) = 0 then
    mX (
if (s.1 : Int32) ≤ 2 then
      mGd (Nat.beq (mK s.2 l0).1 12 && true) (
        f183_266 (mSI s.2 l0 12 3))
    else 
      mGd (Nat.beq (mK s.2 l0).1 12 && true) (
        f183_266 (mSI s.2 l0 12 1)))
  else 
    if (2 : Int32) ≤ s.1 then
      mGd (Nat.beq (mK s.2 l0).1 12 && true) (
        mGd (Nat.beq (mK s.2 l0).1 12 && (Nat.beq (mK s.2 l0).1 12 && (Nat.beq (mK s.2 l0).1 12 && true))) (
        some (.inl ((s.1 + 1), (mSI (mSI s.2 l0 13 (mI s.2 l0 13)) l0 9 ((mI (mSI s.2 l0 13 (mI s.2 l0 13)) l0 9) + 1))))))
    else 
      mGd ((Nat.beq (mK s.2 l0).1 12 && true) && Nat.beq (mK s.2 l0).1 12) ((f184 s.2 l0).bind (fun r8 =>
        mGd (Nat.beq (mK s.2 l0).1 12 && (Nat.beq (mK s.2 l0).1 12 && (Nat.beq (mK s.2 l0).1 12 && true))) (
        some (.inl ((s.1 + 1), (mSI (mSI s.2 l0 13 (((10 * (mI s.2 l0 13)) + r8) - 48)) l0 9 ((mI (mSI s.2 l0 13 (((10 * (mI s.2 l0 13)) + r8) - 48)) l0 9) + 1)))))))))))
theorem s183_163 (l0 : Nat) : ∀ (n : Nat) (s : (Int32 × mH)), Seg 183 (163, [.ref l0, .retAddr 0, .int s.1], []) s.2 (mLoop (f183_163 l0) n s) (fun (q : Unit × mH) (res : Option Value × mH) => res = (none, q.2)) := by
  refine Seg.loop (F := fun s : (Int32 × mH) => (163, [.ref l0, .retAddr 0, .int s.1], [])) (H := fun s : (Int32 × mH) => s.2) (fun s => ?_)
  show Seg 183 (163, [.ref l0, .retAddr 0, .int s.1], []) s.2 _ (Sum.elim (fun s : (Int32 × mH) => Ev 183 (163, [.ref l0, .retAddr 0, .int s.1], []) s.2) (fun (q : Unit × mH) (res : Option Value × mH) => res = (none, q.2)))
  unfold f183_163
  refine Seg.callP (f1 := (164, [.ref l0, .retAddr 0, .int s.1], [.ref l0])) (h1 := s.2) (cv := fun r => some (.int r)) rfl rfl rfl rfl (s184 s.2 l0) (fun r6 => ?_)
  refine Seg.callP (f1 := (171, [.ref l0, .retAddr 0, .int s.1], [.int 57, .int 48, .int r6])) (h1 := s.2) (cv := fun r => some (.int r)) rfl rfl rfl rfl (s179 s.2 r6 48 57) (fun r7 => ?_)
  refine Seg.blk0 (f' := (if (r7 : Int32) = 0 then 224 else 177, [.ref l0, .retAddr 0, .int s.1], [])) (h' := s.2) rfl rfl ?_
  refine Seg.ite (fun _ => ?_) (fun _ => ?_)
  · refine Seg.x ?_
    refine Seg.blk0 (f' := (if (s.1 : Int32) ≤ 2 then 234 else 230, [.ref l0, .retAddr 0, .int s.1], [.ref l0])) (h' := s.2) rfl rfl ?_
    refine Seg.ite (fun _ => ?_) (fun _ => ?_)
    · refine Seg.blk0 (f' := (235, [.ref l0, .retAddr 0, .int s.1], [.int 3, .ref l0])) (h' := s.2) rfl rfl ?_
      refine Seg.blk (f' := (266, [.ref l0, .retAddr 0, .int s.1], [])) (h' := (mSI s.2 l0 12 3)) rfl rfl ?_
      exact Seg.w (mLw.u (mLw.k (mLw.u mLw.nil))) (s183_266 (mSI s.2 l0 12 3))
    · refine Seg.blk0 (f' := (235, [.ref l0, .retAddr 0, .int s.1], [.int 1, .ref l0])) (h' := s.2) rfl rfl ?_
      refine Seg.blk (f' := (266, [.ref l0, .retAddr 0, .int s.1], [])) (h' := (mSI s.2 l0 12 1)) rfl rfl ?_
      exact Seg.w (mLw.u (mLw.k (mLw.u mLw.nil))) (s183_266 (mSI s.2 l0 12 1))
  · refine Seg.blk0 (f' := (if (2 : Int32) ≤ s.1 then 201 else 183, [.ref l0, .retAddr 0, .int s.1], [.ref l0])) (h' := s.2) rfl rfl ?_
    refine Seg.ite (fun _ => ?_) (fun _ => ?_)
    · refine Seg.blk (f' := (205, [.ref l0, .retAddr 0, .int s.1], [.int (mI s.2 l0 13), .ref l0])) (h' := s.2) rfl rfl ?_
      refine Seg.blk (f' := (163, [.ref l0, .retAddr 0, .int (s.1 + 1)], [])) (h' := (mSI (mSI s.2 l0 13 (mI s.2 l0 13)) l0 9 ((mI (mSI s.2 l0 13 (mI s.2 l0 13)) l0 9) + 1))) rfl rfl ?_
      exact Seg.cont (fun _ q => Ev.w (mLw.k (mLw.k (mLw.k mLw.nil))) q)
    · refine Seg.callP (f1 := (191, [.ref l0, .retAddr 0, .int s.1], [.ref l0, .int (10 * (mI s.2 l0 13)), .ref l0])) (h1 := s.2) (cv := fun r => some (.int r)) rfl rfl rfl rfl (s184 s.2 l0) (fun r8 => ?_)
      refine Seg.blk0 (f' := (205, [.ref l0, .retAddr 0, .int s.1], [.int (((10 * (mI s.2 l0 13)) + r8) - 48), .ref l0])) (h' := s.2) rfl rfl ?_
      refine Seg.blk (f' := (163, [.ref l0, .retAddr 0, .int (s.1 + 1)], [])) (h' := (mSI (mSI s.2 l0 13 (((10 * (mI s.2 l0 13)) + r8) - 48)) l0 9 ((mI (mSI s.2 l0 13 (((10 * (mI s.2 l0 13)) + r8) - 48)) l0 9) + 1))) rfl rfl ?_
      exact Seg.cont (fun _ q => Ev.w (mLw.k (mLw.k (mLw.k mLw.nil))) q)
def f183_74 (l0 : Nat) (s : (Int32 × mH)) : Option ((Int32 × mH) ⊕ (Unit × mH)) :=
mGd (true && Nat.beq (mK s.2 l0).1 12) ((f184 s.2 l0).bind (fun r9 =>
    mGd (true && true) ((f179 s.2 r9 97 122).bind (fun r10 =>
    if (r10 : Int32) = 0 then
    mX (
if (s.1 : Int32) ≤ 8 then
      mGd (Nat.beq (mK s.2 l0).1 12 && true) (
        mGd (Nat.beq (mK s.2 l0).1 12 && (Nat.beq (mK s.2 l0).1 12 && true)) (
        f183_266 (mSI (mSL s.2 l0 14 (mL s.2 l0 14)) l0 12 2)))
    else 
      mGd (Nat.beq (mK s.2 l0).1 12 && (Nat.beq (mK s.2 l0).1 12 && true)) (
        f183_266 (mSI (mSL s.2 l0 14 0) l0 12 2)))
  else 
    mGd ((Nat.beq (mK s.2 l0).1 12 && true) && Nat.beq (mK s.2 l0).1 12) ((f184 s.2 l0).bind (fun r11 =>
      mGd (Nat.beq (mK s.2 l0).1 12 && (Nat.beq (mK s.2 l0).1 12 && (Nat.beq (mK s.2 l0).1 12 && true))) (
      some (.inl ((s.1 + 1), (mSI (mSL s.2 l0 14 (((mL s.2 l0 14) <<< (Int32.toInt64 8 &&& (63 : Int64))) ||| (Int32.toInt64 r11))) l0 9 ((mI s.2 l0 9) + 1)))))))))))
theorem s183_74 (l0 : Nat) : ∀ (n : Nat) (s : (Int32 × mH)), Seg 183 (74, [.ref l0, .retAddr 0, .int s.1], []) s.2 (mLoop (f183_74 l0) n s) (fun (q : Unit × mH) (res : Option Value × mH) => res = (none, q.2)) := by
  refine Seg.loop (F := fun s : (Int32 × mH) => (74, [.ref l0, .retAddr 0, .int s.1], [])) (H := fun s : (Int32 × mH) => s.2) (fun s => ?_)
  show Seg 183 (74, [.ref l0, .retAddr 0, .int s.1], []) s.2 _ (Sum.elim (fun s : (Int32 × mH) => Ev 183 (74, [.ref l0, .retAddr 0, .int s.1], []) s.2) (fun (q : Unit × mH) (res : Option Value × mH) => res = (none, q.2)))
  unfold f183_74
  refine Seg.callP (f1 := (75, [.ref l0, .retAddr 0, .int s.1], [.ref l0])) (h1 := s.2) (cv := fun r => some (.int r)) rfl rfl rfl rfl (s184 s.2 l0) (fun r9 => ?_)
  refine Seg.callP (f1 := (82, [.ref l0, .retAddr 0, .int s.1], [.int 122, .int 97, .int r9])) (h1 := s.2) (cv := fun r => some (.int r)) rfl rfl rfl rfl (s179 s.2 r9 97 122) (fun r10 => ?_)
  refine Seg.blk0 (f' := (if (r10 : Int32) = 0 then 121 else 88, [.ref l0, .retAddr 0, .int s.1], [])) (h' := s.2) rfl rfl ?_
  refine Seg.ite (fun _ => ?_) (fun _ => ?_)
  · refine Seg.x ?_
    refine Seg.blk0 (f' := (if (s.1 : Int32) ≤ 8 then 132 else 128, [.ref l0, .retAddr 0, .int s.1], [.ref l0])) (h' := s.2) rfl rfl ?_
    refine Seg.ite (fun _ => ?_) (fun _ => ?_)
    · refine Seg.blk (f' := (136, [.ref l0, .retAddr 0, .int s.1], [.long (mL s.2 l0 14), .ref l0])) (h' := s.2) rfl rfl ?_
      refine Seg.blk (f' := (266, [.ref l0, .retAddr 0, .int s.1], [])) (h' := (mSI (mSL s.2 l0 14 (mL s.2 l0 14)) l0 12 2)) rfl rfl ?_
      exact Seg.w (mLw.u (mLw.k (mLw.u mLw.nil))) (s183_266 (mSI (mSL s.2 l0 14 (mL s.2 l0 14)) l0 12 2))
    · refine Seg.blk0 (f' := (136, [.ref l0, .retAddr 0, .int s.1], [.long 0, .ref l0])) (h' := s.2) rfl rfl ?_
      refine Seg.blk (f' := (266, [.ref l0, .retAddr 0, .int s.1], [])) (h' := (mSI (mSL s.2 l0 14 0) l0 12 2)) rfl rfl ?_
      exact Seg.w (mLw.u (mLw.k (mLw.u mLw.nil))) (s183_266 (mSI (mSL s.2 l0 14 0) l0 12 2))
  · refine Seg.callP (f1 := (97, [.ref l0, .retAddr 0, .int s.1], [.ref l0, .long ((mL s.2 l0 14) <<< (Int32.toInt64 8 &&& (63 : Int64))), .ref l0])) (h1 := s.2) (cv := fun r => some (.int r)) rfl rfl rfl rfl (s184 s.2 l0) (fun r11 => ?_)
    refine Seg.blk (f' := (74, [.ref l0, .retAddr 0, .int (s.1 + 1)], [])) (h' := (mSI (mSL s.2 l0 14 (((mL s.2 l0 14) <<< (Int32.toInt64 8 &&& (63 : Int64))) ||| (Int32.toInt64 r11))) l0 9 ((mI s.2 l0 9) + 1))) rfl rfl ?_
    exact Seg.cont (fun _ q => Ev.w (mLw.k (mLw.k (mLw.k mLw.nil))) q)
def f183_0 (l0 : Nat) (s : (mH)) : Option ((mH) ⊕ (Unit × mH)) :=
mGd (true && Nat.beq (mK s l0).1 12) ((f184 s l0).bind (fun r1 =>
    if (r1 : Int32) = 10 then
    f183_18 s l0
  else 
    mGd (true && Nat.beq (mK s l0).1 12) ((f184 s l0).bind (fun r2 =>
      if (r2 : Int32) = 32 then
      f183_18 s l0
    else 
      mX (
mGd ((Nat.beq (mK s l0).1 12 && (Nat.beq (mK s l0).1 12 && true)) && Nat.beq (mK s l0).1 12) ((f184 (mSI s l0 11 (mI s l0 9)) l0).bind (fun r3 =>
        mGd (Nat.beq (mK s l0).1 12 && true) (
        if (0 : Int32) ≤ r3 then
        mGd (true && true) ((f179 (mSL (mSI s l0 11 (mI s l0 9)) l0 14 0) r3 97 122).bind (fun r4 =>
          if (r4 : Int32) = 0 then
          mGd (true && true) ((f179 (mSL (mSI s l0 11 (mI s l0 9)) l0 14 0) r3 48 57).bind (fun r5 =>
            if (r5 : Int32) = 0 then
            mGd (Nat.beq (mK s l0).1 12 && (Nat.beq (mK s l0).1 12 && true)) (
              if (r3 : Int32) = 59 then
              mGd (Nat.beq (mK s l0).1 12 && true) (
                f183_266 (mSI (mSI (mSL (mSI s l0 11 (mI s l0 9)) l0 14 0) l0 9 ((mI (mSI s l0 11 (mI s l0 9)) l0 9) + 1)) l0 12 4))
            else 
              mGd (Nat.beq (mK s l0).1 12 && true) (
                f183_266 (mSI (mSI (mSL (mSI s l0 11 (mI s l0 9)) l0 14 0) l0 9 ((mI (mSI s l0 11 (mI s l0 9)) l0 9) + 1)) l0 12 1)))
          else 
            mGd (Nat.beq (mK s l0).1 12 && true) (
              mLoop (f183_163 l0) mFuel (0, (mSI (mSL (mSI s l0 11 (mI s l0 9)) l0 14 0) l0 13 0)))))
        else 
          mLoop (f183_74 l0) mFuel (0, (mSL (mSI s l0 11 (mI s l0 9)) l0 14 0))))
      else 
        mGd (Nat.beq (mK s l0).1 12 && true) (
          f183_266 (mSI (mSL (mSI s l0 11 (mI s l0 9)) l0 14 0) l0 12 0))))))))))
theorem s183_0 (l0 : Nat) : ∀ (n : Nat) (s : (mH)), Seg 183 (0, [.ref l0, .retAddr 0, .retAddr 0], []) s (mLoop (f183_0 l0) n s) (fun (q : Unit × mH) (res : Option Value × mH) => res = (none, q.2)) := by
  refine Seg.loop (F := fun s : (mH) => (0, [.ref l0, .retAddr 0, .retAddr 0], [])) (H := fun s : (mH) => s) (fun s => ?_)
  show Seg 183 (0, [.ref l0, .retAddr 0, .retAddr 0], []) s _ (Sum.elim (fun s : (mH) => Ev 183 (0, [.ref l0, .retAddr 0, .retAddr 0], []) s) (fun (q : Unit × mH) (res : Option Value × mH) => res = (none, q.2)))
  unfold f183_0
  refine Seg.callP (f1 := (1, [.ref l0, .retAddr 0, .retAddr 0], [.ref l0])) (h1 := s) (cv := fun r => some (.int r)) rfl rfl rfl rfl (s184 s l0) (fun r1 => ?_)
  refine Seg.blk0 (f' := (if (r1 : Int32) = 10 then 18 else 9, [.ref l0, .retAddr 0, .retAddr 0], [])) (h' := s) rfl rfl ?_
  refine Seg.ite (fun _ => ?_) (fun _ => ?_)
  · exact Seg.w (mLw.k (mLw.k (mLw.k mLw.nil))) (s183_18 s l0)
  · refine Seg.callP (f1 := (10, [.ref l0, .retAddr 0, .retAddr 0], [.ref l0])) (h1 := s) (cv := fun r => some (.int r)) rfl rfl rfl rfl (s184 s l0) (fun r2 => ?_)
    refine Seg.blk0 (f' := (if (r2 : Int32) = 32 then 18 else 31, [.ref l0, .retAddr 0, .retAddr 0], [])) (h' := s) rfl rfl ?_
    refine Seg.ite (fun _ => ?_) (fun _ => ?_)
    · exact Seg.w (mLw.k (mLw.k (mLw.k mLw.nil))) (s183_18 s l0)
    · refine Seg.x ?_
      refine Seg.callP (f1 := (40, [.ref l0, .retAddr 0, .retAddr 0], [.ref l0])) (h1 := (mSI s l0 11 (mI s l0 9))) (cv := fun r => some (.int r)) rfl rfl rfl rfl (s184 (mSI s l0 11 (mI s l0 9)) l0) (fun r3 => ?_)
      refine Seg.blk (f' := (if (0 : Int32) ≤ r3 then 63 else 55, [.ref l0, .int r3, .int 0], [])) (h' := (mSL (mSI s l0 11 (mI s l0 9)) l0 14 0)) rfl rfl ?_
      refine Seg.ite (fun _ => ?_) (fun _ => ?_)
      · refine Seg.callP (f1 := (68, [.ref l0, .int r3, .int 0], [.int 122, .int 97, .int r3])) (h1 := (mSL (mSI s l0 11 (mI s l0 9)) l0 14 0)) (cv := fun r => some (.int r)) rfl rfl rfl rfl (s179 (mSL (mSI s l0 11 (mI s l0 9)) l0 14 0) r3 97 122) (fun r4 => ?_)
        refine Seg.blk0 (f' := (if (r4 : Int32) = 0 then 147 else 74, [.ref l0, .int r3, .int 0], [])) (h' := (mSL (mSI s l0 11 (mI s l0 9)) l0 14 0)) rfl rfl ?_
        refine Seg.ite (fun _ => ?_) (fun _ => ?_)
        · refine Seg.callP (f1 := (152, [.ref l0, .int r3, .int 0], [.int 57, .int 48, .int r3])) (h1 := (mSL (mSI s l0 11 (mI s l0 9)) l0 14 0)) (cv := fun r => some (.int r)) rfl rfl rfl rfl (s179 (mSL (mSI s l0 11 (mI s l0 9)) l0 14 0) r3 48 57) (fun r5 => ?_)
          refine Seg.blk0 (f' := (if (r5 : Int32) = 0 then 241 else 158, [.ref l0, .int r3, .int 0], [])) (h' := (mSL (mSI s l0 11 (mI s l0 9)) l0 14 0)) rfl rfl ?_
          refine Seg.ite (fun _ => ?_) (fun _ => ?_)
          · refine Seg.blk (f' := (if (r3 : Int32) = 59 then 258 else 262, [.ref l0, .int r3, .int 0], [.ref l0])) (h' := (mSI (mSL (mSI s l0 11 (mI s l0 9)) l0 14 0) l0 9 ((mI (mSI s l0 11 (mI s l0 9)) l0 9) + 1))) rfl rfl ?_
            refine Seg.ite (fun _ => ?_) (fun _ => ?_)
            · refine Seg.blk0 (f' := (263, [.ref l0, .int r3, .int 0], [.int 4, .ref l0])) (h' := (mSI (mSL (mSI s l0 11 (mI s l0 9)) l0 14 0) l0 9 ((mI (mSI s l0 11 (mI s l0 9)) l0 9) + 1))) rfl rfl ?_
              refine Seg.blk (f' := (266, [.ref l0, .int r3, .int 0], [])) (h' := (mSI (mSI (mSL (mSI s l0 11 (mI s l0 9)) l0 14 0) l0 9 ((mI (mSI s l0 11 (mI s l0 9)) l0 9) + 1)) l0 12 4)) rfl rfl ?_
              exact Seg.w (mLw.u (mLw.u (mLw.u mLw.nil))) (s183_266 (mSI (mSI (mSL (mSI s l0 11 (mI s l0 9)) l0 14 0) l0 9 ((mI (mSI s l0 11 (mI s l0 9)) l0 9) + 1)) l0 12 4))
            · refine Seg.blk0 (f' := (263, [.ref l0, .int r3, .int 0], [.int 1, .ref l0])) (h' := (mSI (mSL (mSI s l0 11 (mI s l0 9)) l0 14 0) l0 9 ((mI (mSI s l0 11 (mI s l0 9)) l0 9) + 1))) rfl rfl ?_
              refine Seg.blk (f' := (266, [.ref l0, .int r3, .int 0], [])) (h' := (mSI (mSI (mSL (mSI s l0 11 (mI s l0 9)) l0 14 0) l0 9 ((mI (mSI s l0 11 (mI s l0 9)) l0 9) + 1)) l0 12 1)) rfl rfl ?_
              exact Seg.w (mLw.u (mLw.u (mLw.u mLw.nil))) (s183_266 (mSI (mSI (mSL (mSI s l0 11 (mI s l0 9)) l0 14 0) l0 9 ((mI (mSI s l0 11 (mI s l0 9)) l0 9) + 1)) l0 12 1))
          · refine Seg.blk (f' := (163, [.ref l0, .int r3, .int 0], [])) (h' := (mSI (mSL (mSI s l0 11 (mI s l0 9)) l0 14 0) l0 13 0)) rfl rfl ?_
            exact Seg.w (mLw.k (mLw.u (mLw.k mLw.nil))) (s183_163 l0 mFuel (0, (mSI (mSL (mSI s l0 11 (mI s l0 9)) l0 14 0) l0 13 0)))
        · exact Seg.w (mLw.k (mLw.u (mLw.k mLw.nil))) (s183_74 l0 mFuel (0, (mSL (mSI s l0 11 (mI s l0 9)) l0 14 0)))
      · refine Seg.blk (f' := (266, [.ref l0, .int r3, .int 0], [])) (h' := (mSI (mSL (mSI s l0 11 (mI s l0 9)) l0 14 0) l0 12 0)) rfl rfl ?_
        exact Seg.w (mLw.u (mLw.u (mLw.u mLw.nil))) (s183_266 (mSI (mSL (mSI s l0 11 (mI s l0 9)) l0 14 0) l0 12 0))
def f183 (h : mH) (l0 : Nat) : Option (Unit × mH) :=
mLoop (f183_0 l0) mFuel (h)
theorem s183 (h : mH) (l0 : Nat) : Seg 183 (0, [.ref l0, .retAddr 0, .retAddr 0], []) h (f183 h l0) (fun (q : Unit × mH) (res : Option Value × mH) => res = (none, q.2)) := by
  unfold f183
  exact Seg.w (mLw.k (mLw.k (mLw.k mLw.nil))) (s183_0 l0 mFuel (h))

def f22_17 (h : mH) (q0 : Int32) : Option (Int32) :=
mGd (true && mIs01 q0) (some (q0 : Int32))
theorem s22_17 (h : mH) (q0 : Int32) : Seg 22 (17, [.retAddr 0], [.int q0]) h (f22_17 h q0) (fun (q : Int32) (res : Option Value × mH) => res = (some (.int q), h)) := by
  unfold f22_17
  exact Seg.ret (f1 := (17, [.retAddr 0], [.int q0])) (h1 := h) rfl rfl rfl rfl (fun _ q => q)
def f22_16 (h : mH) : Option (Int32) :=
f22_17 h 0
theorem s22_16 (h : mH) : Seg 22 (16, [.retAddr 0], []) h (f22_16 h) (fun (q : Int32) (res : Option Value × mH) => res = (some (.int q), h)) := by
  unfold f22_16
  refine Seg.blk0 (f' := (17, [.retAddr 0], [.int 0])) (h' := h) rfl rfl ?_
  exact Seg.w (mLw.k mLw.nil) (s22_17 h 0)
def f22 (h : mH) (l0 : Int32) : Option (Int32) :=
if (l0 : Int32) < 97 then
    f22_16 h
  else 
    if (122 : Int32) < l0 then
      f22_16 h
    else 
      f22_17 h 1
theorem s22 (h : mH) (l0 : Int32) : Seg 22 (0, [.int l0], []) h (f22 h l0) (fun (q : Int32) (res : Option Value × mH) => res = (some (.int q), h)) := by
  unfold f22
  refine Seg.blk0 (f' := (if (l0 : Int32) < 97 then 16 else 6, [.int l0], [])) (h' := h) rfl rfl ?_
  refine Seg.ite (fun _ => ?_) (fun _ => ?_)
  · exact Seg.w (mLw.u mLw.nil) (s22_16 h)
  · refine Seg.blk0 (f' := (if (122 : Int32) < l0 then 16 else 12, [.int l0], [])) (h' := h) rfl rfl ?_
    refine Seg.ite (fun _ => ?_) (fun _ => ?_)
    · exact Seg.w (mLw.u mLw.nil) (s22_16 h)
    · refine Seg.blk0 (f' := (17, [.int l0], [.int 1])) (h' := h) rfl rfl ?_
      exact Seg.w (mLw.u mLw.nil) (s22_17 h 1)

def f23_39 (h : mH) (l0 : Nat) : Option (Unit × mH) :=
mGd ((Nat.beq (mK h l0).1 6 && true) && true) (some ((), (mSI h l0 3 1)))
theorem s23_39 (h : mH) (l0 : Nat) : Seg 23 (39, [.ref l0], []) h (f23_39 h l0) (fun (q : Unit × mH) (res : Option Value × mH) => res = (none, q.2)) := by
  unfold f23_39
  exact Seg.ret (f1 := (44, [.ref l0], [])) (h1 := (mSI h l0 3 1)) rfl rfl rfl rfl (fun _ q => q)
def f23_0 (l0 : Nat) (s : (mH)) : Option ((mH) ⊕ (Unit × mH)) :=
mGd (Nat.beq (mK s l0).1 6 && (Nat.beq (mK s l0).1 6 && true)) (
    if ((mI s l0 1) : Int32) ≤ (mI s l0 2) then
    mX (f23_39 s l0)
  else 
    mGd (((Nat.beq (mK s l0).1 6 && (mR s l0 0).isSome) && (Nat.beq (mK s l0).1 6 && ((Nat.beq (mK s ((mR s l0 0).getD 0)).1 100 && mIn (mI s l0 2) (mK s ((mR s l0 0).getD 0)).2) && true))) && true) ((f22 s (mI s ((mR s l0 0).getD 0) (Int32.toNatClampNeg (mI s l0 2)))).bind (fun r1 =>
      if (r1 : Int32) = 0 then
      mX (f23_39 s l0)
    else 
      mGd (Nat.beq (mK s l0).1 6 && (Nat.beq (mK s l0).1 6 && true)) (
        some (.inl ((mSI s l0 2 ((mI s l0 2) + 1))))))))
theorem s23_0 (l0 : Nat) : ∀ (n : Nat) (s : (mH)), Seg 23 (0, [.ref l0], []) s (mLoop (f23_0 l0) n s) (fun (q : Unit × mH) (res : Option Value × mH) => res = (none, q.2)) := by
  refine Seg.loop (F := fun s : (mH) => (0, [.ref l0], [])) (H := fun s : (mH) => s) (fun s => ?_)
  show Seg 23 (0, [.ref l0], []) s _ (Sum.elim (fun s : (mH) => Ev 23 (0, [.ref l0], []) s) (fun (q : Unit × mH) (res : Option Value × mH) => res = (none, q.2)))
  unfold f23_0
  refine Seg.blk (f' := (if ((mI s l0 1) : Int32) ≤ (mI s l0 2) then 39 else 11, [.ref l0], [])) (h' := s) rfl rfl ?_
  refine Seg.ite (fun _ => ?_) (fun _ => ?_)
  · refine Seg.x ?_
    exact Seg.w (mLw.k mLw.nil) (s23_39 s l0)
  · refine Seg.callP (f1 := (20, [.ref l0], [.int (mI s ((mR s l0 0).getD 0) (Int32.toNatClampNeg (mI s l0 2)))])) (h1 := s) (cv := fun r => some (.int r)) rfl rfl rfl rfl (s22 s (mI s ((mR s l0 0).getD 0) (Int32.toNatClampNeg (mI s l0 2)))) (fun r1 => ?_)
    refine Seg.blk0 (f' := (if (r1 : Int32) = 0 then 39 else 26, [.ref l0], [])) (h' := s) rfl rfl ?_
    refine Seg.ite (fun _ => ?_) (fun _ => ?_)
    · refine Seg.x ?_
      exact Seg.w (mLw.k mLw.nil) (s23_39 s l0)
    · refine Seg.blk (f' := (0, [.ref l0], [])) (h' := (mSI s l0 2 ((mI s l0 2) + 1))) rfl rfl ?_
      exact Seg.cont (fun _ q => Ev.w (mLw.k mLw.nil) q)
def f23 (h : mH) (l0 : Nat) : Option (Unit × mH) :=
mLoop (f23_0 l0) mFuel (h)
theorem s23 (h : mH) (l0 : Nat) : Seg 23 (0, [.ref l0], []) h (f23 h l0) (fun (q : Unit × mH) (res : Option Value × mH) => res = (none, q.2)) := by
  unfold f23
  exact Seg.w (mLw.k mLw.nil) (s23_0 l0 mFuel (h))

def f24_17 (h : mH) (q0 : Int32) : Option (Int32) :=
mGd (true && mIs01 q0) (some (q0 : Int32))
theorem s24_17 (h : mH) (q0 : Int32) : Seg 24 (17, [.retAddr 0], [.int q0]) h (f24_17 h q0) (fun (q : Int32) (res : Option Value × mH) => res = (some (.int q), h)) := by
  unfold f24_17
  exact Seg.ret (f1 := (17, [.retAddr 0], [.int q0])) (h1 := h) rfl rfl rfl rfl (fun _ q => q)
def f24_16 (h : mH) : Option (Int32) :=
f24_17 h 0
theorem s24_16 (h : mH) : Seg 24 (16, [.retAddr 0], []) h (f24_16 h) (fun (q : Int32) (res : Option Value × mH) => res = (some (.int q), h)) := by
  unfold f24_16
  refine Seg.blk0 (f' := (17, [.retAddr 0], [.int 0])) (h' := h) rfl rfl ?_
  exact Seg.w (mLw.k mLw.nil) (s24_17 h 0)
def f24 (h : mH) (l0 : Int32) : Option (Int32) :=
if (l0 : Int32) < 48 then
    f24_16 h
  else 
    if (57 : Int32) < l0 then
      f24_16 h
    else 
      f24_17 h 1
theorem s24 (h : mH) (l0 : Int32) : Seg 24 (0, [.int l0], []) h (f24 h l0) (fun (q : Int32) (res : Option Value × mH) => res = (some (.int q), h)) := by
  unfold f24
  refine Seg.blk0 (f' := (if (l0 : Int32) < 48 then 16 else 6, [.int l0], [])) (h' := h) rfl rfl ?_
  refine Seg.ite (fun _ => ?_) (fun _ => ?_)
  · exact Seg.w (mLw.u mLw.nil) (s24_16 h)
  · refine Seg.blk0 (f' := (if (57 : Int32) < l0 then 16 else 12, [.int l0], [])) (h' := h) rfl rfl ?_
    refine Seg.ite (fun _ => ?_) (fun _ => ?_)
    · exact Seg.w (mLw.u mLw.nil) (s24_16 h)
    · refine Seg.blk0 (f' := (17, [.int l0], [.int 1])) (h' := h) rfl rfl ?_
      exact Seg.w (mLw.u mLw.nil) (s24_17 h 1)

def f25_88 (h : mH) (l0 : Nat) : Option (Unit × mH) :=
mGd (Nat.beq (mK h l0).1 6 && (Nat.beq (mK h l0).1 6 && true)) (
    if (2 : Int32) < ((mI h l0 2) - (mI h l0 4)) then
    mGd ((Nat.beq (mK h l0).1 6 && true) && true) (some ((), (mSI h l0 3 4)))
  else 
    mGd ((Nat.beq (mK h l0).1 6 && true) && true) (some ((), (mSI h l0 3 2))))
theorem s25_88 (h : mH) (l0 : Nat) : Seg 25 (88, [.ref l0], []) h (f25_88 h l0) (fun (q : Unit × mH) (res : Option Value × mH) => res = (none, q.2)) := by
  unfold f25_88
  refine Seg.blk (f' := (if (2 : Int32) < ((mI h l0 2) - (mI h l0 4)) then 106 else 102, [.ref l0], [.ref l0])) (h' := h) rfl rfl ?_
  refine Seg.ite (fun _ => ?_) (fun _ => ?_)
  · refine Seg.blk0 (f' := (107, [.ref l0], [.int 4, .ref l0])) (h' := h) rfl rfl ?_
    exact Seg.ret (f1 := (110, [.ref l0], [])) (h1 := (mSI h l0 3 4)) rfl rfl rfl rfl (fun _ q => q)
  · refine Seg.blk0 (f' := (107, [.ref l0], [.int 2, .ref l0])) (h' := h) rfl rfl ?_
    exact Seg.ret (f1 := (110, [.ref l0], [])) (h1 := (mSI h l0 3 2)) rfl rfl rfl rfl (fun _ q => q)
def f25_5 (l0 : Nat) (s : (mH)) : Option ((mH) ⊕ (Unit × mH)) :=
mGd (Nat.beq (mK s l0).1 6 && (Nat.beq (mK s l0).1 6 && true)) (
    if ((mI s l0 1) : Int32) ≤ (mI s l0 2) then
    mX (f25_88 s l0)
  else 
    mGd (((Nat.beq (mK s l0).1 6 && (mR s l0 0).isSome) && (Nat.beq (mK s l0).1 6 && ((Nat.beq (mK s ((mR s l0 0).getD 0)).1 100 && mIn (mI s l0 2) (mK s ((mR s l0 0).getD 0)).2) && true))) && true) ((f24 s (mI s ((mR s l0 0).getD 0) (Int32.toNatClampNeg (mI s l0 2)))).bind (fun r1 =>
      if (r1 : Int32) = 0 then
      mX (f25_88 s l0)
    else 
      mGd (Nat.beq (mK s l0).1 6 && (Nat.beq (mK s l0).1 6 && true)) (
        if (2 : Int32) ≤ ((mI s l0 2) - (mI s l0 4)) then
        mGd (Nat.beq (mK s l0).1 6 && true) (
          mGd (Nat.beq (mK s l0).1 6 && (Nat.beq (mK s l0).1 6 && (Nat.beq (mK s l0).1 6 && true))) (
          some (.inl ((mSI (mSI s l0 5 (mI s l0 5)) l0 2 ((mI (mSI s l0 5 (mI s l0 5)) l0 2) + 1))))))
      else 
        mGd (Nat.beq (mK s l0).1 6 && ((Nat.beq (mK s l0).1 6 && (mR s l0 0).isSome) && (Nat.beq (mK s l0).1 6 && ((Nat.beq (mK s ((mR s l0 0).getD 0)).1 100 && mIn (mI s l0 2) (mK s ((mR s l0 0).getD 0)).2) && true)))) (
          mGd (Nat.beq (mK s l0).1 6 && (Nat.beq (mK s l0).1 6 && (Nat.beq (mK s l0).1 6 && true))) (
          some (.inl ((mSI (mSI s l0 5 (((10 * (mI s l0 5)) + (mI s ((mR s l0 0).getD 0) (Int32.toNatClampNeg (mI s l0 2)))) - 48)) l0 2 ((mI (mSI s l0 5 (((10 * (mI s l0 5)) + (mI s ((mR s l0 0).getD 0) (Int32.toNatClampNeg (mI s l0 2)))) - 48)) l0 2) + 1))))))))))
theorem s25_5 (l0 : Nat) : ∀ (n : Nat) (s : (mH)), Seg 25 (5, [.ref l0], []) s (mLoop (f25_5 l0) n s) (fun (q : Unit × mH) (res : Option Value × mH) => res = (none, q.2)) := by
  refine Seg.loop (F := fun s : (mH) => (5, [.ref l0], [])) (H := fun s : (mH) => s) (fun s => ?_)
  show Seg 25 (5, [.ref l0], []) s _ (Sum.elim (fun s : (mH) => Ev 25 (5, [.ref l0], []) s) (fun (q : Unit × mH) (res : Option Value × mH) => res = (none, q.2)))
  unfold f25_5
  refine Seg.blk (f' := (if ((mI s l0 1) : Int32) ≤ (mI s l0 2) then 88 else 16, [.ref l0], [])) (h' := s) rfl rfl ?_
  refine Seg.ite (fun _ => ?_) (fun _ => ?_)
  · refine Seg.x ?_
    exact Seg.w (mLw.k mLw.nil) (s25_88 s l0)
  · refine Seg.callP (f1 := (25, [.ref l0], [.int (mI s ((mR s l0 0).getD 0) (Int32.toNatClampNeg (mI s l0 2)))])) (h1 := s) (cv := fun r => some (.int r)) rfl rfl rfl rfl (s24 s (mI s ((mR s l0 0).getD 0) (Int32.toNatClampNeg (mI s l0 2)))) (fun r1 => ?_)
    refine Seg.blk0 (f' := (if (r1 : Int32) = 0 then 88 else 31, [.ref l0], [])) (h' := s) rfl rfl ?_
    refine Seg.ite (fun _ => ?_) (fun _ => ?_)
    · refine Seg.x ?_
      exact Seg.w (mLw.k mLw.nil) (s25_88 s l0)
    · refine Seg.blk (f' := (if (2 : Int32) ≤ ((mI s l0 2) - (mI s l0 4)) then 68 else 45, [.ref l0], [.ref l0])) (h' := s) rfl rfl ?_
      refine Seg.ite (fun _ => ?_) (fun _ => ?_)
      · refine Seg.blk (f' := (72, [.ref l0], [.int (mI s l0 5), .ref l0])) (h' := s) rfl rfl ?_
        refine Seg.blk (f' := (5, [.ref l0], [])) (h' := (mSI (mSI s l0 5 (mI s l0 5)) l0 2 ((mI (mSI s l0 5 (mI s l0 5)) l0 2) + 1))) rfl rfl ?_
        exact Seg.cont (fun _ q => Ev.w (mLw.k mLw.nil) q)
      · refine Seg.blk (f' := (72, [.ref l0], [.int (((10 * (mI s l0 5)) + (mI s ((mR s l0 0).getD 0) (Int32.toNatClampNeg (mI s l0 2)))) - 48), .ref l0])) (h' := s) rfl rfl ?_
        refine Seg.blk (f' := (5, [.ref l0], [])) (h' := (mSI (mSI s l0 5 (((10 * (mI s l0 5)) + (mI s ((mR s l0 0).getD 0) (Int32.toNatClampNeg (mI s l0 2)))) - 48)) l0 2 ((mI (mSI s l0 5 (((10 * (mI s l0 5)) + (mI s ((mR s l0 0).getD 0) (Int32.toNatClampNeg (mI s l0 2)))) - 48)) l0 2) + 1))) rfl rfl ?_
        exact Seg.cont (fun _ q => Ev.w (mLw.k mLw.nil) q)
def f25 (h : mH) (l0 : Nat) : Option (Unit × mH) :=
mGd (Nat.beq (mK h l0).1 6 && true) (
    mLoop (f25_5 l0) mFuel ((mSI h l0 5 0)))
theorem s25 (h : mH) (l0 : Nat) : Seg 25 (0, [.ref l0], []) h (f25 h l0) (fun (q : Unit × mH) (res : Option Value × mH) => res = (none, q.2)) := by
  unfold f25
  refine Seg.blk (f' := (5, [.ref l0], [])) (h' := (mSI h l0 5 0)) rfl rfl ?_
  exact Seg.w (mLw.k mLw.nil) (s25_5 l0 mFuel ((mSI h l0 5 0)))

def f21_156 (h : mH) : Option (Unit × mH) :=
mGd (true && true) (some ((), h))
theorem s21_156 (h : mH) : Seg 21 (156, [.retAddr 0], []) h (f21_156 h) (fun (q : Unit × mH) (res : Option Value × mH) => res = (none, q.2)) := by
  unfold f21_156
  exact Seg.ret (f1 := (156, [.retAddr 0], [])) (h1 := h) rfl rfl rfl rfl (fun _ q => q)
def f21_52 (h : mH) (l0 : Nat) : Option (Unit × mH) :=
mGd (Nat.beq (mK h l0).1 6 && (Nat.beq (mK h l0).1 6 && (Nat.beq (mK h l0).1 6 && (Nat.beq (mK h l0).1 6 && true)))) (
    if ((mI (mSI h l0 4 (mI h l0 2)) l0 2) : Int32) < (mI (mSI h l0 4 (mI h l0 2)) l0 1) then
    mGd (((Nat.beq (mK h l0).1 6 && (mR h l0 0).isSome) && (Nat.beq (mK h l0).1 6 && ((Nat.beq (mK h ((mR h l0 0).getD 0)).1 100 && mIn (mI (mSI h l0 4 (mI h l0 2)) l0 2) (mK h ((mR h l0 0).getD 0)).2) && true))) && true) ((f22 (mSI h l0 4 (mI h l0 2)) (mI (mSI h l0 4 (mI h l0 2)) ((mR h l0 0).getD 0) (Int32.toNatClampNeg (mI (mSI h l0 4 (mI h l0 2)) l0 2)))).bind (fun r1 =>
      if (r1 : Int32) = 0 then
      mGd (((Nat.beq (mK h l0).1 6 && (mR h l0 0).isSome) && (Nat.beq (mK h l0).1 6 && ((Nat.beq (mK h ((mR h l0 0).getD 0)).1 100 && mIn (mI (mSI h l0 4 (mI h l0 2)) l0 2) (mK h ((mR h l0 0).getD 0)).2) && true))) && true) ((f24 (mSI h l0 4 (mI h l0 2)) (mI (mSI h l0 4 (mI h l0 2)) ((mR h l0 0).getD 0) (Int32.toNatClampNeg (mI (mSI h l0 4 (mI h l0 2)) l0 2)))).bind (fun r2 =>
        if (r2 : Int32) = 0 then
        mGd ((Nat.beq (mK h l0).1 6 && (mR h l0 0).isSome) && (Nat.beq (mK h l0).1 6 && ((Nat.beq (mK h ((mR h l0 0).getD 0)).1 100 && mIn (mI (mSI h l0 4 (mI h l0 2)) l0 2) (mK h ((mR h l0 0).getD 0)).2) && true))) (
          if ((mI (mSI h l0 4 (mI h l0 2)) ((mR h l0 0).getD 0) (Int32.toNatClampNeg (mI (mSI h l0 4 (mI h l0 2)) l0 2))) : Int32) = 59 then
          mGd (Nat.beq (mK h l0).1 6 && (Nat.beq (mK h l0).1 6 && (Nat.beq (mK h l0).1 6 && true))) (
            f21_156 (mSI (mSI (mSI h l0 4 (mI h l0 2)) l0 3 3) l0 2 ((mI (mSI (mSI h l0 4 (mI h l0 2)) l0 3 3) l0 2) + 1)))
        else 
          mGd (Nat.beq (mK h l0).1 6 && (Nat.beq (mK h l0).1 6 && (Nat.beq (mK h l0).1 6 && true))) (
            f21_156 (mSI (mSI (mSI h l0 4 (mI h l0 2)) l0 3 4) l0 2 ((mI (mSI (mSI h l0 4 (mI h l0 2)) l0 3 4) l0 2) + 1))))
      else 
        mGd (true && Nat.beq (mK h l0).1 6) ((f25 (mSI h l0 4 (mI h l0 2)) l0).bind (fun r3 =>
          f21_156 r3.2))))
    else 
      mGd (true && Nat.beq (mK h l0).1 6) ((f23 (mSI h l0 4 (mI h l0 2)) l0).bind (fun r4 =>
        f21_156 r4.2))))
  else 
    mGd (Nat.beq (mK h l0).1 6 && true) (
      f21_156 (mSI (mSI h l0 4 (mI h l0 2)) l0 3 0)))
theorem s21_52 (h : mH) (l0 : Nat) : Seg 21 (52, [.ref l0], []) h (f21_52 h l0) (fun (q : Unit × mH) (res : Option Value × mH) => res = (none, q.2)) := by
  unfold f21_52
  refine Seg.blk (f' := (if ((mI (mSI h l0 4 (mI h l0 2)) l0 2) : Int32) < (mI (mSI h l0 4 (mI h l0 2)) l0 1) then 79 else 71, [.ref l0], [])) (h' := (mSI h l0 4 (mI h l0 2))) rfl rfl ?_
  refine Seg.ite (fun _ => ?_) (fun _ => ?_)
  · refine Seg.callP (f1 := (88, [.ref l0], [.int (mI (mSI h l0 4 (mI h l0 2)) ((mR h l0 0).getD 0) (Int32.toNatClampNeg (mI (mSI h l0 4 (mI h l0 2)) l0 2)))])) (h1 := (mSI h l0 4 (mI h l0 2))) (cv := fun r => some (.int r)) rfl rfl rfl rfl (s22 (mSI h l0 4 (mI h l0 2)) (mI (mSI h l0 4 (mI h l0 2)) ((mR h l0 0).getD 0) (Int32.toNatClampNeg (mI (mSI h l0 4 (mI h l0 2)) l0 2)))) (fun r1 => ?_)
    refine Seg.blk0 (f' := (if (r1 : Int32) = 0 then 101 else 94, [.ref l0], [])) (h' := (mSI h l0 4 (mI h l0 2))) rfl rfl ?_
    refine Seg.ite (fun _ => ?_) (fun _ => ?_)
    · refine Seg.callP (f1 := (110, [.ref l0], [.int (mI (mSI h l0 4 (mI h l0 2)) ((mR h l0 0).getD 0) (Int32.toNatClampNeg (mI (mSI h l0 4 (mI h l0 2)) l0 2)))])) (h1 := (mSI h l0 4 (mI h l0 2))) (cv := fun r => some (.int r)) rfl rfl rfl rfl (s24 (mSI h l0 4 (mI h l0 2)) (mI (mSI h l0 4 (mI h l0 2)) ((mR h l0 0).getD 0) (Int32.toNatClampNeg (mI (mSI h l0 4 (mI h l0 2)) l0 2)))) (fun r2 => ?_)
      refine Seg.blk0 (f' := (if (r2 : Int32) = 0 then 123 else 116, [.ref l0], [])) (h' := (mSI h l0 4 (mI h l0 2))) rfl rfl ?_
      refine Seg.ite (fun _ => ?_) (fun _ => ?_)
      · refine Seg.blk (f' := (if ((mI (mSI h l0 4 (mI h l0 2)) ((mR h l0 0).getD 0) (Int32.toNatClampNeg (mI (mSI h l0 4 (mI h l0 2)) l0 2))) : Int32) = 59 then 138 else 142, [.ref l0], [.ref l0])) (h' := (mSI h l0 4 (mI h l0 2))) rfl rfl ?_
        refine Seg.ite (fun _ => ?_) (fun _ => ?_)
        · refine Seg.blk0 (f' := (143, [.ref l0], [.int 3, .ref l0])) (h' := (mSI h l0 4 (mI h l0 2))) rfl rfl ?_
          refine Seg.blk (f' := (156, [.ref l0], [])) (h' := (mSI (mSI (mSI h l0 4 (mI h l0 2)) l0 3 3) l0 2 ((mI (mSI (mSI h l0 4 (mI h l0 2)) l0 3 3) l0 2) + 1))) rfl rfl ?_
          exact Seg.w (mLw.u mLw.nil) (s21_156 (mSI (mSI (mSI h l0 4 (mI h l0 2)) l0 3 3) l0 2 ((mI (mSI (mSI h l0 4 (mI h l0 2)) l0 3 3) l0 2) + 1)))
        · refine Seg.blk0 (f' := (143, [.ref l0], [.int 4, .ref l0])) (h' := (mSI h l0 4 (mI h l0 2))) rfl rfl ?_
          refine Seg.blk (f' := (156, [.ref l0], [])) (h' := (mSI (mSI (mSI h l0 4 (mI h l0 2)) l0 3 4) l0 2 ((mI (mSI (mSI h l0 4 (mI h l0 2)) l0 3 4) l0 2) + 1))) rfl rfl ?_
          exact Seg.w (mLw.u mLw.nil) (s21_156 (mSI (mSI (mSI h l0 4 (mI h l0 2)) l0 3 4) l0 2 ((mI (mSI (mSI h l0 4 (mI h l0 2)) l0 3 4) l0 2) + 1)))
      · refine Seg.call (f1 := (117, [.ref l0], [.ref l0])) (h1 := (mSI h l0 4 (mI h l0 2))) (cv := fun _ => none) rfl rfl rfl rfl (s25 (mSI h l0 4 (mI h l0 2)) l0) (fun r3 => ?_)
        refine Seg.blk0 (f' := (156, [.ref l0], [])) (h' := r3.2) rfl rfl ?_
        exact Seg.w (mLw.u mLw.nil) (s21_156 r3.2)
    · refine Seg.call (f1 := (95, [.ref l0], [.ref l0])) (h1 := (mSI h l0 4 (mI h l0 2))) (cv := fun _ => none) rfl rfl rfl rfl (s23 (mSI h l0 4 (mI h l0 2)) l0) (fun r4 => ?_)
      refine Seg.blk0 (f' := (156, [.ref l0], [])) (h' := r4.2) rfl rfl ?_
      exact Seg.w (mLw.u mLw.nil) (s21_156 r4.2)
  · refine Seg.blk (f' := (156, [.ref l0], [])) (h' := (mSI (mSI h l0 4 (mI h l0 2)) l0 3 0)) rfl rfl ?_
    exact Seg.w (mLw.u mLw.nil) (s21_156 (mSI (mSI h l0 4 (mI h l0 2)) l0 3 0))
def f21_39 (h : mH) (l0 : Nat) : Option ((mH) ⊕ (Unit × mH)) :=
mGd (Nat.beq (mK h l0).1 6 && (Nat.beq (mK h l0).1 6 && true)) (
    some (.inl ((mSI h l0 2 ((mI h l0 2) + 1)))))
theorem s21_39 (h : mH) (l0 : Nat) : Seg 21 (39, [.ref l0], []) h (f21_39 h l0) (Sum.elim (fun s : (mH) => Ev 21 (0, [.ref l0], []) s) (fun (q : Unit × mH) (res : Option Value × mH) => res = (none, q.2))) := by
  unfold f21_39
  refine Seg.blk (f' := (0, [.ref l0], [])) (h' := (mSI h l0 2 ((mI h l0 2) + 1))) rfl rfl ?_
  exact Seg.cont (fun _ q => Ev.w (mLw.k mLw.nil) q)
def f21_0 (l0 : Nat) (s : (mH)) : Option ((mH) ⊕ (Unit × mH)) :=
mGd (Nat.beq (mK s l0).1 6 && (Nat.beq (mK s l0).1 6 && true)) (
    if ((mI s l0 1) : Int32) ≤ (mI s l0 2) then
    mX (f21_52 s l0)
  else 
    mGd ((Nat.beq (mK s l0).1 6 && (mR s l0 0).isSome) && (Nat.beq (mK s l0).1 6 && ((Nat.beq (mK s ((mR s l0 0).getD 0)).1 100 && mIn (mI s l0 2) (mK s ((mR s l0 0).getD 0)).2) && true))) (
      if ((mI s ((mR s l0 0).getD 0) (Int32.toNatClampNeg (mI s l0 2))) : Int32) = 10 then
      f21_39 s l0
    else 
      mGd ((Nat.beq (mK s l0).1 6 && (mR s l0 0).isSome) && (Nat.beq (mK s l0).1 6 && ((Nat.beq (mK s ((mR s l0 0).getD 0)).1 100 && mIn (mI s l0 2) (mK s ((mR s l0 0).getD 0)).2) && true))) (
        if ((mI s ((mR s l0 0).getD 0) (Int32.toNatClampNeg (mI s l0 2))) : Int32) = 32 then
        f21_39 s l0
      else 
        mX (f21_52 s l0))))
theorem s21_0 (l0 : Nat) : ∀ (n : Nat) (s : (mH)), Seg 21 (0, [.ref l0], []) s (mLoop (f21_0 l0) n s) (fun (q : Unit × mH) (res : Option Value × mH) => res = (none, q.2)) := by
  refine Seg.loop (F := fun s : (mH) => (0, [.ref l0], [])) (H := fun s : (mH) => s) (fun s => ?_)
  show Seg 21 (0, [.ref l0], []) s _ (Sum.elim (fun s : (mH) => Ev 21 (0, [.ref l0], []) s) (fun (q : Unit × mH) (res : Option Value × mH) => res = (none, q.2)))
  unfold f21_0
  refine Seg.blk (f' := (if ((mI s l0 1) : Int32) ≤ (mI s l0 2) then 52 else 11, [.ref l0], [])) (h' := s) rfl rfl ?_
  refine Seg.ite (fun _ => ?_) (fun _ => ?_)
  · refine Seg.x ?_
    exact Seg.w (mLw.k mLw.nil) (s21_52 s l0)
  · refine Seg.blk (f' := (if ((mI s ((mR s l0 0).getD 0) (Int32.toNatClampNeg (mI s l0 2))) : Int32) = 10 then 39 else 25, [.ref l0], [])) (h' := s) rfl rfl ?_
    refine Seg.ite (fun _ => ?_) (fun _ => ?_)
    · exact Seg.w (mLw.k mLw.nil) (s21_39 s l0)
    · refine Seg.blk (f' := (if ((mI s ((mR s l0 0).getD 0) (Int32.toNatClampNeg (mI s l0 2))) : Int32) = 32 then 39 else 52, [.ref l0], [])) (h' := s) rfl rfl ?_
      refine Seg.ite (fun _ => ?_) (fun _ => ?_)
      · exact Seg.w (mLw.k mLw.nil) (s21_39 s l0)
      · refine Seg.x ?_
        exact Seg.w (mLw.k mLw.nil) (s21_52 s l0)
def f21 (h : mH) (l0 : Nat) : Option (Unit × mH) :=
mLoop (f21_0 l0) mFuel (h)
theorem s21 (h : mH) (l0 : Nat) : Seg 21 (0, [.ref l0], []) h (f21 h l0) (fun (q : Unit × mH) (res : Option Value × mH) => res = (none, q.2)) := by
  unfold f21
  exact Seg.w (mLw.k mLw.nil) (s21_0 l0 mFuel (h))

def f206 (h : mH) (l0 : Nat) (l1 : Int32) : Option (Int32) :=
mGd (((Nat.beq (mK h l0).1 12 && (mR h l0 6).isSome) && (Nat.beq (mK h l0).1 12 && ((Nat.beq (mK h ((mR h l0 6).getD 0)).1 100 && mIn ((45 * (mI h l0 23)) + l1) (mK h ((mR h l0 6).getD 0)).2) && true))) && true) (some ((mI h ((mR h l0 6).getD 0) (Int32.toNatClampNeg ((45 * (mI h l0 23)) + l1))) : Int32))
theorem s206 (h : mH) (l0 : Nat) (l1 : Int32) : Seg 206 (0, [.ref l0, .int l1], []) h (f206 h l0 l1) (fun (q : Int32) (res : Option Value × mH) => res = (some (.int q), h)) := by
  unfold f206
  exact Seg.ret (f1 := (14, [.ref l0, .int l1], [.int (mI h ((mR h l0 6).getD 0) (Int32.toNatClampNeg ((45 * (mI h l0 23)) + l1)))])) (h1 := h) rfl rfl rfl rfl (fun _ q => q)

def f221_14 (h : mH) (q0 : Int32) : Option (Int32) :=
mGd (true && mIs01 q0) (some (q0 : Int32))
theorem s221_14 (h : mH) (q0 : Int32) : Seg 221 (14, [.retAddr 0, .retAddr 0], [.int q0]) h (f221_14 h q0) (fun (q : Int32) (res : Option Value × mH) => res = (some (.int q), h)) := by
  unfold f221_14
  exact Seg.ret (f1 := (14, [.retAddr 0, .retAddr 0], [.int q0])) (h1 := h) rfl rfl rfl rfl (fun _ q => q)
def f221 (h : mH) (l0 : Int32) (l1 : Int32) : Option (Int32) :=
if (((l0 >>> (l1 &&& (31 : Int32))) &&& 1) : Int32) = 1 then
    f221_14 h 1
  else 
    f221_14 h 0
theorem s221 (h : mH) (l0 : Int32) (l1 : Int32) : Seg 221 (0, [.int l0, .int l1], []) h (f221 h l0 l1) (fun (q : Int32) (res : Option Value × mH) => res = (some (.int q), h)) := by
  unfold f221
  refine Seg.blk0 (f' := (if (((l0 >>> (l1 &&& (31 : Int32))) &&& 1) : Int32) = 1 then 9 else 13, [.int l0, .int l1], [])) (h' := h) rfl rfl ?_
  refine Seg.ite (fun _ => ?_) (fun _ => ?_)
  · refine Seg.blk0 (f' := (14, [.int l0, .int l1], [.int 1])) (h' := h) rfl rfl ?_
    exact Seg.w (mLw.u (mLw.u mLw.nil)) (s221_14 h 1)
  · refine Seg.blk0 (f' := (14, [.int l0, .int l1], [.int 0])) (h' := h) rfl rfl ?_
    exact Seg.w (mLw.u (mLw.u mLw.nil)) (s221_14 h 0)

def f220_28 (h : mH) (q0 : Int32) : Option (Int32) :=
mGd (true && mIs01 q0) (some (q0 : Int32))
theorem s220_28 (h : mH) (q0 : Int32) : Seg 220 (28, [.retAddr 0, .retAddr 0, .retAddr 0], [.int q0]) h (f220_28 h q0) (fun (q : Int32) (res : Option Value × mH) => res = (some (.int q), h)) := by
  unfold f220_28
  exact Seg.ret (f1 := (28, [.retAddr 0, .retAddr 0, .retAddr 0], [.int q0])) (h1 := h) rfl rfl rfl rfl (fun _ q => q)
def f220_27 (h : mH) : Option (Int32) :=
f220_28 h 0
theorem s220_27 (h : mH) : Seg 220 (27, [.retAddr 0, .retAddr 0, .retAddr 0], []) h (f220_27 h) (fun (q : Int32) (res : Option Value × mH) => res = (some (.int q), h)) := by
  unfold f220_27
  refine Seg.blk0 (f' := (28, [.retAddr 0, .retAddr 0, .retAddr 0], [.int 0])) (h' := h) rfl rfl ?_
  exact Seg.w (mLw.k (mLw.k (mLw.k mLw.nil))) (s220_28 h 0)
def f220 (h : mH) (l0 : Nat) (l1 : Int32) (l2 : Int32) : Option (Int32) :=
mGd (true && true) ((f221 h l2 l1).bind (fun r1 =>
    if (r1 : Int32) = 0 then
    mGd (true && Nat.beq (mK h l0).1 12) ((f206 h l0 (19 + l1)).bind (fun r2 =>
      if ((r2 &&& (l2 ^^^ (-1))) : Int32) = 0 then
      f220_28 h 1
    else 
      f220_27 h))
  else 
    f220_27 h))
theorem s220 (h : mH) (l0 : Nat) (l1 : Int32) (l2 : Int32) : Seg 220 (0, [.ref l0, .int l1, .int l2], []) h (f220 h l0 l1 l2) (fun (q : Int32) (res : Option Value × mH) => res = (some (.int q), h)) := by
  unfold f220
  refine Seg.callP (f1 := (2, [.ref l0, .int l1, .int l2], [.int l1, .int l2])) (h1 := h) (cv := fun r => some (.int r)) rfl rfl rfl rfl (s221 h l2 l1) (fun r1 => ?_)
  refine Seg.blk0 (f' := (if (r1 : Int32) = 0 then 8 else 27, [.ref l0, .int l1, .int l2], [])) (h' := h) rfl rfl ?_
  refine Seg.ite (fun _ => ?_) (fun _ => ?_)
  · refine Seg.callP (f1 := (13, [.ref l0, .int l1, .int l2], [.int (19 + l1), .ref l0])) (h1 := h) (cv := fun r => some (.int r)) rfl rfl rfl rfl (s206 h l0 (19 + l1)) (fun r2 => ?_)
    refine Seg.blk0 (f' := (if ((r2 &&& (l2 ^^^ (-1))) : Int32) = 0 then 23 else 27, [.ref l0, .int l1, .int l2], [])) (h' := h) rfl rfl ?_
    refine Seg.ite (fun _ => ?_) (fun _ => ?_)
    · refine Seg.blk0 (f' := (28, [.ref l0, .int l1, .int l2], [.int 1])) (h' := h) rfl rfl ?_
      exact Seg.w (mLw.u (mLw.u (mLw.u mLw.nil))) (s220_28 h 1)
    · exact Seg.w (mLw.u (mLw.u (mLw.u mLw.nil))) (s220_27 h)
  · exact Seg.w (mLw.u (mLw.u (mLw.u mLw.nil))) (s220_27 h)

def f195_10 (h : mH) (q0 : Int32) : Option (Int32) :=
mGd (true && true) (some (q0 : Int32))
theorem s195_10 (h : mH) (q0 : Int32) : Seg 195 (10, [.retAddr 0, .retAddr 0], [.int q0]) h (f195_10 h q0) (fun (q : Int32) (res : Option Value × mH) => res = (some (.int q), h)) := by
  unfold f195_10
  exact Seg.ret (f1 := (10, [.retAddr 0, .retAddr 0], [.int q0])) (h1 := h) rfl rfl rfl rfl (fun _ q => q)
def f195 (h : mH) (l0 : Int32) (l1 : Int32) : Option (Int32) :=
if (l1 : Int32) ≤ l0 then
    f195_10 h l1
  else 
    f195_10 h l0
theorem s195 (h : mH) (l0 : Int32) (l1 : Int32) : Seg 195 (0, [.int l0, .int l1], []) h (f195 h l0 l1) (fun (q : Int32) (res : Option Value × mH) => res = (some (.int q), h)) := by
  unfold f195
  refine Seg.blk0 (f' := (if (l1 : Int32) ≤ l0 then 9 else 5, [.int l0, .int l1], [])) (h' := h) rfl rfl ?_
  refine Seg.ite (fun _ => ?_) (fun _ => ?_)
  · refine Seg.blk0 (f' := (10, [.int l0, .int l1], [.int l1])) (h' := h) rfl rfl ?_
    exact Seg.w (mLw.u (mLw.u mLw.nil)) (s195_10 h l1)
  · refine Seg.blk0 (f' := (10, [.int l0, .int l1], [.int l0])) (h' := h) rfl rfl ?_
    exact Seg.w (mLw.u (mLw.u mLw.nil)) (s195_10 h l0)

def f272_255 (h : mH) (q0 : Int32) : Option (Int32 × mH) :=
mGd (true && true) (some (q0, h))
theorem s272_255 (h : mH) (q0 : Int32) : Seg 272 (255, [.retAddr 0, .retAddr 0, .retAddr 0, .retAddr 0, .retAddr 0, .retAddr 0, .retAddr 0, .retAddr 0, .retAddr 0, .retAddr 0], [.int q0]) h (f272_255 h q0) (fun (q : Int32 × mH) (res : Option Value × mH) => res = (some (.int q.1), q.2)) := by
  unfold f272_255
  exact Seg.ret (f1 := (255, [.retAddr 0, .retAddr 0, .retAddr 0, .retAddr 0, .retAddr 0, .retAddr 0, .retAddr 0, .retAddr 0, .retAddr 0, .retAddr 0], [.int q0])) (h1 := h) rfl rfl rfl rfl (fun _ q => q)
def f272_222 (h : mH) (l0 : Nat) (l2 : Int32) (l3 : Int32) (l5 : Int32) : Option ((Int32 × mH) ⊕ (Int32 × mH)) :=
some (.inl ((l5 + 1), h))
theorem s272_222 (h : mH) (l0 : Nat) (l2 : Int32) (l3 : Int32) (l5 : Int32) : Seg 272 (222, [.ref l0, .retAddr 0, .int l2, .int l3, .retAddr 0, .int l5, .retAddr 0, .retAddr 0, .retAddr 0, .retAddr 0], []) h (f272_222 h l0 l2 l3 l5) (Sum.elim (fun s : (Int32 × mH) => Ev 272 (56, [.ref l0, .retAddr 0, .int l2, .int l3, .retAddr 0, .int s.1, .retAddr 0, .retAddr 0, .retAddr 0, .retAddr 0], []) s.2) (fun (q : Int32 × mH) (res : Option Value × mH) => res = (some (.int q.1), q.2))) := by
  unfold f272_222
  refine Seg.blk0 (f' := (56, [.ref l0, .retAddr 0, .int l2, .int l3, .retAddr 0, .int (l5 + 1), .retAddr 0, .retAddr 0, .retAddr 0, .retAddr 0], [])) (h' := h) rfl rfl ?_
  exact Seg.cont (fun _ q => Ev.w (mLw.k (mLw.k (mLw.k (mLw.k (mLw.k (mLw.k (mLw.k (mLw.k (mLw.k (mLw.k mLw.nil)))))))))) q)
def f272_216 (h : mH) (l0 : Nat) (l2 : Int32) (l3 : Int32) (l5 : Int32) (l6 : Int32) : Option ((Int32 × mH) ⊕ ((Int32 × mH) ⊕ (Int32 × mH))) :=
some (.inl ((l6 + 1), h))
theorem s272_216 (h : mH) (l0 : Nat) (l2 : Int32) (l3 : Int32) (l5 : Int32) (l6 : Int32) : Seg 272 (216, [.ref l0, .retAddr 0, .int l2, .int l3, .retAddr 0, .int l5, .int l6, .retAddr 0, .retAddr 0, .retAddr 0], []) h (f272_216 h l0 l2 l3 l5 l6) (Sum.elim (fun s : (Int32 × mH) => Ev 272 (65, [.ref l0, .retAddr 0, .int l2, .int l3, .retAddr 0, .int l5, .int s.1, .retAddr 0, .retAddr 0, .retAddr 0], []) s.2) (Sum.elim (fun s : (Int32 × mH) => Ev 272 (56, [.ref l0, .retAddr 0, .int l2, .int l3, .retAddr 0, .int s.1, .retAddr 0, .retAddr 0, .retAddr 0, .retAddr 0], []) s.2) (fun (q : Int32 × mH) (res : Option Value × mH) => res = (some (.int q.1), q.2)))) := by
  unfold f272_216
  refine Seg.blk0 (f' := (65, [.ref l0, .retAddr 0, .int l2, .int l3, .retAddr 0, .int l5, .int (l6 + 1), .retAddr 0, .retAddr 0, .retAddr 0], [])) (h' := h) rfl rfl ?_
  exact Seg.cont (fun _ q => Ev.w (mLw.k (mLw.k (mLw.k (mLw.k (mLw.k (mLw.k (mLw.k (mLw.k (mLw.k (mLw.k mLw.nil)))))))))) q)
def f272_185 (h : mH) (l0 : Nat) (l2 : Int32) (l3 : Int32) (l5 : Int32) (l6 : Int32) (q0 : Int32) : Option ((Int32 × mH) ⊕ ((Int32 × mH) ⊕ (Int32 × mH))) :=
mGd (((Nat.beq (mK h l0).1 12 && (mR h l0 45).isSome) && ((Nat.beq (mK h l0).1 12 && (mR h l0 45).isSome) && ((Nat.beq (mK h ((mR h l0 45).getD 0)).1 100 && mIn (l5 ||| ((1 : Int32) <<< (l6 &&& (31 : Int32)))) (mK h ((mR h l0 45).getD 0)).2) && true))) && true) ((f195 h (mI h ((mR h l0 45).getD 0) (Int32.toNatClampNeg (l5 ||| ((1 : Int32) <<< (l6 &&& (31 : Int32)))))) q0).bind (fun r3 =>
    mGd ((Nat.beq (mK h ((mR h l0 45).getD 0)).1 100 && mIn (l5 ||| ((1 : Int32) <<< (l6 &&& (31 : Int32)))) (mK h ((mR h l0 45).getD 0)).2) && true) (
    f272_216 (mSI h ((mR h l0 45).getD 0) (Int32.toNatClampNeg (l5 ||| ((1 : Int32) <<< (l6 &&& (31 : Int32))))) r3) l0 l2 l3 l5 l6)))
theorem s272_185 (h : mH) (l0 : Nat) (l2 : Int32) (l3 : Int32) (l5 : Int32) (l6 : Int32) (q0 : Int32) : Seg 272 (185, [.ref l0, .retAddr 0, .int l2, .int l3, .retAddr 0, .int l5, .int l6, .retAddr 0, .retAddr 0, .retAddr 0], [.int q0]) h (f272_185 h l0 l2 l3 l5 l6 q0) (Sum.elim (fun s : (Int32 × mH) => Ev 272 (65, [.ref l0, .retAddr 0, .int l2, .int l3, .retAddr 0, .int l5, .int s.1, .retAddr 0, .retAddr 0, .retAddr 0], []) s.2) (Sum.elim (fun s : (Int32 × mH) => Ev 272 (56, [.ref l0, .retAddr 0, .int l2, .int l3, .retAddr 0, .int s.1, .retAddr 0, .retAddr 0, .retAddr 0, .retAddr 0], []) s.2) (fun (q : Int32 × mH) (res : Option Value × mH) => res = (some (.int q.1), q.2)))) := by
  unfold f272_185
  refine Seg.callP (f1 := (212, [.ref l0, .retAddr 0, .int l2, .int l3, .retAddr 0, .int l5, .int l6, .retAddr 0, .retAddr 0, .int q0], [.int q0, .int (mI h ((mR h l0 45).getD 0) (Int32.toNatClampNeg (l5 ||| ((1 : Int32) <<< (l6 &&& (31 : Int32)))))), .int (l5 ||| ((1 : Int32) <<< (l6 &&& (31 : Int32)))), .ref ((mR h l0 45).getD 0)])) (h1 := h) (cv := fun r => some (.int r)) rfl rfl rfl rfl (s195 h (mI h ((mR h l0 45).getD 0) (Int32.toNatClampNeg (l5 ||| ((1 : Int32) <<< (l6 &&& (31 : Int32)))))) q0) (fun r3 => ?_)
  refine Seg.blk (f' := (216, [.ref l0, .retAddr 0, .int l2, .int l3, .retAddr 0, .int l5, .int l6, .retAddr 0, .retAddr 0, .int q0], [])) (h' := (mSI h ((mR h l0 45).getD 0) (Int32.toNatClampNeg (l5 ||| ((1 : Int32) <<< (l6 &&& (31 : Int32))))) r3)) rfl rfl ?_
  exact Seg.w (mLw.k (mLw.k (mLw.k (mLw.k (mLw.k (mLw.k (mLw.k (mLw.k (mLw.k (mLw.u mLw.nil)))))))))) (s272_216 (mSI h ((mR h l0 45).getD 0) (Int32.toNatClampNeg (l5 ||| ((1 : Int32) <<< (l6 &&& (31 : Int32))))) r3) l0 l2 l3 l5 l6)
def f272_146 (h : mH) (l0 : Nat) (l2 : Int32) (l3 : Int32) (l5 : Int32) (l6 : Int32) (l7 : Int32) (q0 : Int32) : Option ((Int32 × mH) ⊕ ((Int32 × mH) ⊕ (Int32 × mH))) :=
if (q0 : Int32) = 0 then
    mGd ((Nat.beq (mK h l0).1 12 && (mR h l0 45).isSome) && ((Nat.beq (mK h ((mR h l0 45).getD 0)).1 100 && mIn l5 (mK h ((mR h l0 45).getD 0)).2) && (!(100 == (0 : Int32)) && true))) (
      f272_185 h l0 l2 l3 l5 l6 (((((mI h ((mR h l0 45).getD 0) (Int32.toNatClampNeg l5)) / 100) * 100) + 100) + l7))
  else 
    mGd ((Nat.beq (mK h l0).1 12 && (mR h l0 45).isSome) && ((Nat.beq (mK h ((mR h l0 45).getD 0)).1 100 && mIn l5 (mK h ((mR h l0 45).getD 0)).2) && true)) (
      f272_185 h l0 l2 l3 l5 l6 ((mI h ((mR h l0 45).getD 0) (Int32.toNatClampNeg l5)) + l7))
theorem s272_146 (h : mH) (l0 : Nat) (l2 : Int32) (l3 : Int32) (l5 : Int32) (l6 : Int32) (l7 : Int32) (q0 : Int32) : Seg 272 (146, [.ref l0, .retAddr 0, .int l2, .int l3, .retAddr 0, .int l5, .int l6, .int l7, .retAddr 0, .retAddr 0], [.int q0]) h (f272_146 h l0 l2 l3 l5 l6 l7 q0) (Sum.elim (fun s : (Int32 × mH) => Ev 272 (65, [.ref l0, .retAddr 0, .int l2, .int l3, .retAddr 0, .int l5, .int s.1, .retAddr 0, .retAddr 0, .retAddr 0], []) s.2) (Sum.elim (fun s : (Int32 × mH) => Ev 272 (56, [.ref l0, .retAddr 0, .int l2, .int l3, .retAddr 0, .int s.1, .retAddr 0, .retAddr 0, .retAddr 0, .retAddr 0], []) s.2) (fun (q : Int32 × mH) (res : Option Value × mH) => res = (some (.int q.1), q.2)))) := by
  unfold f272_146
  refine Seg.blk0 (f' := (if (q0 : Int32) = 0 then 166 else 153, [.ref l0, .retAddr 0, .int l2, .int l3, .retAddr 0, .int l5, .int l6, .int l7, .int q0, .retAddr 0], [])) (h' := h) rfl rfl ?_
  refine Seg.ite (fun _ => ?_) (fun _ => ?_)
  · refine Seg.blk (f' := (185, [.ref l0, .retAddr 0, .int l2, .int l3, .retAddr 0, .int l5, .int l6, .int l7, .int q0, .retAddr 0], [.int (((((mI h ((mR h l0 45).getD 0) (Int32.toNatClampNeg l5)) / 100) * 100) + 100) + l7)])) (h' := h) rfl rfl ?_
    exact Seg.w (mLw.k (mLw.k (mLw.k (mLw.k (mLw.k (mLw.k (mLw.k (mLw.u (mLw.u (mLw.k mLw.nil)))))))))) (s272_185 h l0 l2 l3 l5 l6 (((((mI h ((mR h l0 45).getD 0) (Int32.toNatClampNeg l5)) / 100) * 100) + 100) + l7))
  · refine Seg.blk (f' := (185, [.ref l0, .retAddr 0, .int l2, .int l3, .retAddr 0, .int l5, .int l6, .int l7, .int q0, .retAddr 0], [.int ((mI h ((mR h l0 45).getD 0) (Int32.toNatClampNeg l5)) + l7)])) (h' := h) rfl rfl ?_
    exact Seg.w (mLw.k (mLw.k (mLw.k (mLw.k (mLw.k (mLw.k (mLw.k (mLw.u (mLw.u (mLw.k mLw.nil)))))))))) (s272_185 h l0 l2 l3 l5 l6 ((mI h ((mR h l0 45).getD 0) (Int32.toNatClampNeg l5)) + l7))
def f272_145 (h : mH) (l0 : Nat) (l2 : Int32) (l3 : Int32) (l5 : Int32) (l6 : Int32) (l7 : Int32) : Option ((Int32 × mH) ⊕ ((Int32 × mH) ⊕ (Int32 × mH))) :=
f272_146 h l0 l2 l3 l5 l6 l7 0
theorem s272_145 (h : mH) (l0 : Nat) (l2 : Int32) (l3 : Int32) (l5 : Int32) (l6 : Int32) (l7 : Int32) : Seg 272 (145, [.ref l0, .retAddr 0, .int l2, .int l3, .retAddr 0, .int l5, .int l6, .int l7, .retAddr 0, .retAddr 0], []) h (f272_145 h l0 l2 l3 l5 l6 l7) (Sum.elim (fun s : (Int32 × mH) => Ev 272 (65, [.ref l0, .retAddr 0, .int l2, .int l3, .retAddr 0, .int l5, .int s.1, .retAddr 0, .retAddr 0, .retAddr 0], []) s.2) (Sum.elim (fun s : (Int32 × mH) => Ev 272 (56, [.ref l0, .retAddr 0, .int l2, .int l3, .retAddr 0, .int s.1, .retAddr 0, .retAddr 0, .retAddr 0, .retAddr 0], []) s.2) (fun (q : Int32 × mH) (res : Option Value × mH) => res = (some (.int q.1), q.2)))) := by
  unfold f272_145
  refine Seg.blk0 (f' := (146, [.ref l0, .retAddr 0, .int l2, .int l3, .retAddr 0, .int l5, .int l6, .int l7, .retAddr 0, .retAddr 0], [.int 0])) (h' := h) rfl rfl ?_
  exact Seg.w (mLw.k (mLw.k (mLw.k (mLw.k (mLw.k (mLw.k (mLw.k (mLw.k (mLw.k (mLw.k mLw.nil)))))))))) (s272_146 h l0 l2 l3 l5 l6 l7 0)
def f272_65 (l0 : Nat) (l2 : Int32) (l3 : Int32) (l5 : Int32) (s : (Int32 × mH)) : Option ((Int32 × mH) ⊕ ((Int32 × mH) ⊕ (Int32 × mH))) :=
mGd (Nat.beq (mK s.2 l0).1 12 && true) (
    if ((mI s.2 l0 24) : Int32) ≤ s.1 then
    mX (f272_222 s.2 l0 l2 l3 l5)
  else 
    mGd ((Nat.beq (mK s.2 l0).1 12 && (mR s.2 l0 45).isSome) && ((Nat.beq (mK s.2 ((mR s.2 l0 45).getD 0)).1 100 && mIn l5 (mK s.2 ((mR s.2 l0 45).getD 0)).2) && true)) (
      if (1000000 : Int32) ≤ (mI s.2 ((mR s.2 l0 45).getD 0) (Int32.toNatClampNeg l5)) then
      mX (f272_222 s.2 l0 l2 l3 l5)
    else 
      mGd (true && Nat.beq (mK s.2 l0).1 12) ((f206 s.2 l0 (3 + s.1)).bind (fun r1 =>
        mGd (true && Nat.beq (mK s.2 l0).1 12) ((f220 s.2 l0 s.1 l5).bind (fun r2 =>
        if (r2 : Int32) = 0 then
        f272_216 s.2 l0 l2 l3 l5 s.1
      else 
        if (l2 : Int32) < r1 then
          f272_216 s.2 l0 l2 l3 l5 s.1
        else 
          mGd ((Nat.beq (mK s.2 l0).1 12 && (mR s.2 l0 45).isSome) && ((Nat.beq (mK s.2 ((mR s.2 l0 45).getD 0)).1 100 && mIn l5 (mK s.2 ((mR s.2 l0 45).getD 0)).2) && (!(100 == (0 : Int32)) && true))) (
            if (l2 : Int32) < (((mI s.2 ((mR s.2 l0 45).getD 0) (Int32.toNatClampNeg l5)) - (mI s.2 ((mR s.2 l0 45).getD 0) (Int32.toNatClampNeg l5)) / 100 * 100) + r1) then
            f272_145 s.2 l0 l2 l3 l5 s.1 r1
          else 
            mGd ((Nat.beq (mK s.2 l0).1 12 && (mR s.2 l0 45).isSome) && ((Nat.beq (mK s.2 ((mR s.2 l0 45).getD 0)).1 100 && mIn l5 (mK s.2 ((mR s.2 l0 45).getD 0)).2) && true)) (
              if ((mI s.2 ((mR s.2 l0 45).getD 0) (Int32.toNatClampNeg l5)) : Int32) ≤ 0 then
              f272_145 s.2 l0 l2 l3 l5 s.1 r1
            else 
              f272_146 s.2 l0 l2 l3 l5 s.1 r1 1))))))))
theorem s272_65 (l0 : Nat) (l2 : Int32) (l3 : Int32) (l5 : Int32) : ∀ (n : Nat) (s : (Int32 × mH)), Seg 272 (65, [.ref l0, .retAddr 0, .int l2, .int l3, .retAddr 0, .int l5, .int s.1, .retAddr 0, .retAddr 0, .retAddr 0], []) s.2 (mLoop (f272_65 l0 l2 l3 l5) n s) (Sum.elim (fun s : (Int32 × mH) => Ev 272 (56, [.ref l0, .retAddr 0, .int l2, .int l3, .retAddr 0, .int s.1, .retAddr 0, .retAddr 0, .retAddr 0, .retAddr 0], []) s.2) (fun (q : Int32 × mH) (res : Option Value × mH) => res = (some (.int q.1), q.2))) := by
  refine Seg.loop (F := fun s : (Int32 × mH) => (65, [.ref l0, .retAddr 0, .int l2, .int l3, .retAddr 0, .int l5, .int s.1, .retAddr 0, .retAddr 0, .retAddr 0], [])) (H := fun s : (Int32 × mH) => s.2) (fun s => ?_)
  show Seg 272 (65, [.ref l0, .retAddr 0, .int l2, .int l3, .retAddr 0, .int l5, .int s.1, .retAddr 0, .retAddr 0, .retAddr 0], []) s.2 _ (Sum.elim (fun s : (Int32 × mH) => Ev 272 (65, [.ref l0, .retAddr 0, .int l2, .int l3, .retAddr 0, .int l5, .int s.1, .retAddr 0, .retAddr 0, .retAddr 0], []) s.2) (Sum.elim (fun s : (Int32 × mH) => Ev 272 (56, [.ref l0, .retAddr 0, .int l2, .int l3, .retAddr 0, .int s.1, .retAddr 0, .retAddr 0, .retAddr 0, .retAddr 0], []) s.2) (fun (q : Int32 × mH) (res : Option Value × mH) => res = (some (.int q.1), q.2))))
  unfold f272_65
  refine Seg.blk (f' := (if ((mI s.2 l0 24) : Int32) ≤ s.1 then 222 else 74, [.ref l0, .retAddr 0, .int l2, .int l3, .retAddr 0, .int l5, .int s.1, .retAddr 0, .retAddr 0, .retAddr 0], [])) (h' := s.2) rfl rfl ?_
  refine Seg.ite (fun _ => ?_) (fun _ => ?_)
  · refine Seg.x ?_
    exact Seg.w (mLw.k (mLw.k (mLw.k (mLw.k (mLw.k (mLw.k (mLw.u (mLw.k (mLw.k (mLw.k mLw.nil)))))))))) (s272_222 s.2 l0 l2 l3 l5)
  · refine Seg.blk (f' := (if (1000000 : Int32) ≤ (mI s.2 ((mR s.2 l0 45).getD 0) (Int32.toNatClampNeg l5)) then 222 else 87, [.ref l0, .retAddr 0, .int l2, .int l3, .retAddr 0, .int l5, .int s.1, .retAddr 0, .retAddr 0, .retAddr 0], [])) (h' := s.2) rfl rfl ?_
    refine Seg.ite (fun _ => ?_) (fun _ => ?_)
    · refine Seg.x ?_
      exact Seg.w (mLw.k (mLw.k (mLw.k (mLw.k (mLw.k (mLw.k (mLw.u (mLw.k (mLw.k (mLw.k mLw.nil)))))))))) (s272_222 s.2 l0 l2 l3 l5)
    · refine Seg.callP (f1 := (92, [.ref l0, .retAddr 0, .int l2, .int l3, .retAddr 0, .int l5, .int s.1, .retAddr 0, .retAddr 0, .retAddr 0], [.int (3 + s.1), .ref l0])) (h1 := s.2) (cv := fun r => some (.int r)) rfl rfl rfl rfl (s206 s.2 l0 (3 + s.1)) (fun r1 => ?_)
      refine Seg.callP (f1 := (102, [.ref l0, .retAddr 0, .int l2, .int l3, .retAddr 0, .int l5, .int s.1, .int r1, .retAddr 0, .retAddr 0], [.int l5, .int s.1, .ref l0])) (h1 := s.2) (cv := fun r => some (.int r)) rfl rfl rfl rfl (s220 s.2 l0 s.1 l5) (fun r2 => ?_)
      refine Seg.blk0 (f' := (if (r2 : Int32) = 0 then 216 else 108, [.ref l0, .retAddr 0, .int l2, .int l3, .retAddr 0, .int l5, .int s.1, .int r1, .retAddr 0, .retAddr 0], [])) (h' := s.2) rfl rfl ?_
      refine Seg.ite (fun _ => ?_) (fun _ => ?_)
      · exact Seg.w (mLw.k (mLw.k (mLw.k (mLw.k (mLw.k (mLw.k (mLw.k (mLw.u (mLw.k (mLw.k mLw.nil)))))))))) (s272_216 s.2 l0 l2 l3 l5 s.1)
      · refine Seg.blk0 (f' := (if (l2 : Int32) < r1 then 216 else 114, [.ref l0, .retAddr 0, .int l2, .int l3, .retAddr 0, .int l5, .int s.1, .int r1, .retAddr 0, .retAddr 0], [])) (h' := s.2) rfl rfl ?_
        refine Seg.ite (fun _ => ?_) (fun _ => ?_)
        · exact Seg.w (mLw.k (mLw.k (mLw.k (mLw.k (mLw.k (mLw.k (mLw.k (mLw.u (mLw.k (mLw.k mLw.nil)))))))))) (s272_216 s.2 l0 l2 l3 l5 s.1)
        · refine Seg.blk (f' := (if (l2 : Int32) < (((mI s.2 ((mR s.2 l0 45).getD 0) (Int32.toNatClampNeg l5)) - (mI s.2 ((mR s.2 l0 45).getD 0) (Int32.toNatClampNeg l5)) / 100 * 100) + r1) then 145 else 131, [.ref l0, .retAddr 0, .int l2, .int l3, .retAddr 0, .int l5, .int s.1, .int r1, .retAddr 0, .retAddr 0], [])) (h' := s.2) rfl rfl ?_
          refine Seg.ite (fun _ => ?_) (fun _ => ?_)
          · exact Seg.w (mLw.k (mLw.k (mLw.k (mLw.k (mLw.k (mLw.k (mLw.k (mLw.k (mLw.k (mLw.k mLw.nil)))))))))) (s272_145 s.2 l0 l2 l3 l5 s.1 r1)
          · refine Seg.blk (f' := (if ((mI s.2 ((mR s.2 l0 45).getD 0) (Int32.toNatClampNeg l5)) : Int32) ≤ 0 then 145 else 141, [.ref l0, .retAddr 0, .int l2, .int l3, .retAddr 0, .int l5, .int s.1, .int r1, .retAddr 0, .retAddr 0], [])) (h' := s.2) rfl rfl ?_
            refine Seg.ite (fun _ => ?_) (fun _ => ?_)
            · exact Seg.w (mLw.k (mLw.k (mLw.k (mLw.k (mLw.k (mLw.k (mLw.k (mLw.k (mLw.k (mLw.k mLw.nil)))))))))) (s272_145 s.2 l0 l2 l3 l5 s.1 r1)
            · refine Seg.blk0 (f' := (146, [.ref l0, .retAddr 0, .int l2, .int l3, .retAddr 0, .int l5, .int s.1, .int r1, .retAddr 0, .retAddr 0], [.int 1])) (h' := s.2) rfl rfl ?_
              exact Seg.w (mLw.k (mLw.k (mLw.k (mLw.k (mLw.k (mLw.k (mLw.k (mLw.k (mLw.k (mLw.k mLw.nil)))))))))) (s272_146 s.2 l0 l2 l3 l5 s.1 r1 1)
def f272_56 (l0 : Nat) (l2 : Int32) (l3 : Int32) (s : (Int32 × mH)) : Option ((Int32 × mH) ⊕ (Int32 × mH)) :=
if (l3 : Int32) < s.1 then
    mX (
mGd ((Nat.beq (mK s.2 l0).1 12 && (mR s.2 l0 45).isSome) && ((Nat.beq (mK s.2 ((mR s.2 l0 45).getD 0)).1 100 && mIn l3 (mK s.2 ((mR s.2 l0 45).getD 0)).2) && true)) (
      if ((mI s.2 ((mR s.2 l0 45).getD 0) (Int32.toNatClampNeg l3)) : Int32) < 1000000 then
      mGd ((Nat.beq (mK s.2 l0).1 12 && (mR s.2 l0 45).isSome) && ((Nat.beq (mK s.2 ((mR s.2 l0 45).getD 0)).1 100 && mIn l3 (mK s.2 ((mR s.2 l0 45).getD 0)).2) && (!(100 == (0 : Int32)) && true))) (
        f272_255 s.2 ((mI s.2 ((mR s.2 l0 45).getD 0) (Int32.toNatClampNeg l3)) / 100))
    else 
      f272_255 s.2 1000000))
  else 
    mLoop (f272_65 l0 l2 l3 s.1) mFuel (0, s.2)
theorem s272_56 (l0 : Nat) (l2 : Int32) (l3 : Int32) : ∀ (n : Nat) (s : (Int32 × mH)), Seg 272 (56, [.ref l0, .retAddr 0, .int l2, .int l3, .retAddr 0, .int s.1, .retAddr 0, .retAddr 0, .retAddr 0, .retAddr 0], []) s.2 (mLoop (f272_56 l0 l2 l3) n s) (fun (q : Int32 × mH) (res : Option Value × mH) => res = (some (.int q.1), q.2)) := by
  refine Seg.loop (F := fun s : (Int32 × mH) => (56, [.ref l0, .retAddr 0, .int l2, .int l3, .retAddr 0, .int s.1, .retAddr 0, .retAddr 0, .retAddr 0, .retAddr 0], [])) (H := fun s : (Int32 × mH) => s.2) (fun s => ?_)
  show Seg 272 (56, [.ref l0, .retAddr 0, .int l2, .int l3, .retAddr 0, .int s.1, .retAddr 0, .retAddr 0, .retAddr 0, .retAddr 0], []) s.2 _ (Sum.elim (fun s : (Int32 × mH) => Ev 272 (56, [.ref l0, .retAddr 0, .int l2, .int l3, .retAddr 0, .int s.1, .retAddr 0, .retAddr 0, .retAddr 0, .retAddr 0], []) s.2) (fun (q : Int32 × mH) (res : Option Value × mH) => res = (some (.int q.1), q.2)))
  unfold f272_56
  refine Seg.blk0 (f' := (if (l3 : Int32) < s.1 then 228 else 62, [.ref l0, .retAddr 0, .int l2, .int l3, .retAddr 0, .int s.1, .retAddr 0, .retAddr 0, .retAddr 0, .retAddr 0], [])) (h' := s.2) rfl rfl ?_
  refine Seg.ite (fun _ => ?_) (fun _ => ?_)
  · refine Seg.x ?_
    refine Seg.blk (f' := (if ((mI s.2 ((mR s.2 l0 45).getD 0) (Int32.toNatClampNeg l3)) : Int32) < 1000000 then 246 else 240, [.ref l0, .retAddr 0, .int l2, .int l3, .retAddr 0, .int s.1, .retAddr 0, .retAddr 0, .retAddr 0, .retAddr 0], [])) (h' := s.2) rfl rfl ?_
    refine Seg.ite (fun _ => ?_) (fun _ => ?_)
    · refine Seg.blk (f' := (255, [.ref l0, .retAddr 0, .int l2, .int l3, .retAddr 0, .int s.1, .retAddr 0, .retAddr 0, .retAddr 0, .retAddr 0], [.int ((mI s.2 ((mR s.2 l0 45).getD 0) (Int32.toNatClampNeg l3)) / 100)])) (h' := s.2) rfl rfl ?_
      exact Seg.w (mLw.u (mLw.k (mLw.u (mLw.u (mLw.k (mLw.u (mLw.k (mLw.k (mLw.k (mLw.k mLw.nil)))))))))) (s272_255 s.2 ((mI s.2 ((mR s.2 l0 45).getD 0) (Int32.toNatClampNeg l3)) / 100))
    · refine Seg.blk0 (f' := (255, [.ref l0, .retAddr 0, .int l2, .int l3, .retAddr 0, .int s.1, .retAddr 0, .retAddr 0, .retAddr 0, .retAddr 0], [.int 1000000])) (h' := s.2) rfl rfl ?_
      exact Seg.w (mLw.u (mLw.k (mLw.u (mLw.u (mLw.k (mLw.u (mLw.k (mLw.k (mLw.k (mLw.k mLw.nil)))))))))) (s272_255 s.2 1000000)
  · refine Seg.blk0 (f' := (65, [.ref l0, .retAddr 0, .int l2, .int l3, .retAddr 0, .int s.1, .int 0, .retAddr 0, .retAddr 0, .retAddr 0], [])) (h' := s.2) rfl rfl ?_
    exact Seg.w (mLw.k (mLw.k (mLw.k (mLw.k (mLw.k (mLw.k (mLw.k (mLw.k (mLw.k (mLw.k mLw.nil)))))))))) (s272_65 l0 l2 l3 s.1 mFuel (0, s.2))
def f272_19 (l0 : Nat) (l2 : Int32) (l3 : Int32) (l4 : Int32) (s : (Int32 × mH)) : Option ((Int32 × mH) ⊕ (Int32 × mH)) :=
if (l3 : Int32) < s.1 then
    mX (mLoop (f272_56 l0 l2 l3) mFuel (l4, s.2))
  else 
    mGd ((Nat.beq (mK s.2 l0).1 12 && (mR s.2 l0 45).isSome) && true) (
      if (s.1 : Int32) = l4 then
      mGd ((Nat.beq (mK s.2 ((mR s.2 l0 45).getD 0)).1 100 && mIn s.1 (mK s.2 ((mR s.2 l0 45).getD 0)).2) && true) (
        some (.inl ((s.1 + 1), (mSI s.2 ((mR s.2 l0 45).getD 0) (Int32.toNatClampNeg s.1) 0))))
    else 
      mGd ((Nat.beq (mK s.2 ((mR s.2 l0 45).getD 0)).1 100 && mIn s.1 (mK s.2 ((mR s.2 l0 45).getD 0)).2) && true) (
        some (.inl ((s.1 + 1), (mSI s.2 ((mR s.2 l0 45).getD 0) (Int32.toNatClampNeg s.1) 1000000)))))
theorem s272_19 (l0 : Nat) (l2 : Int32) (l3 : Int32) (l4 : Int32) : ∀ (n : Nat) (s : (Int32 × mH)), Seg 272 (19, [.ref l0, .retAddr 0, .int l2, .int l3, .int l4, .int s.1, .retAddr 0, .retAddr 0, .retAddr 0, .retAddr 0], []) s.2 (mLoop (f272_19 l0 l2 l3 l4) n s) (fun (q : Int32 × mH) (res : Option Value × mH) => res = (some (.int q.1), q.2)) := by
  refine Seg.loop (F := fun s : (Int32 × mH) => (19, [.ref l0, .retAddr 0, .int l2, .int l3, .int l4, .int s.1, .retAddr 0, .retAddr 0, .retAddr 0, .retAddr 0], [])) (H := fun s : (Int32 × mH) => s.2) (fun s => ?_)
  show Seg 272 (19, [.ref l0, .retAddr 0, .int l2, .int l3, .int l4, .int s.1, .retAddr 0, .retAddr 0, .retAddr 0, .retAddr 0], []) s.2 _ (Sum.elim (fun s : (Int32 × mH) => Ev 272 (19, [.ref l0, .retAddr 0, .int l2, .int l3, .int l4, .int s.1, .retAddr 0, .retAddr 0, .retAddr 0, .retAddr 0], []) s.2) (fun (q : Int32 × mH) (res : Option Value × mH) => res = (some (.int q.1), q.2)))
  unfold f272_19
  refine Seg.blk0 (f' := (if (l3 : Int32) < s.1 then 52 else 25, [.ref l0, .retAddr 0, .int l2, .int l3, .int l4, .int s.1, .retAddr 0, .retAddr 0, .retAddr 0, .retAddr 0], [])) (h' := s.2) rfl rfl ?_
  refine Seg.ite (fun _ => ?_) (fun _ => ?_)
  · refine Seg.x ?_
    refine Seg.blk0 (f' := (56, [.ref l0, .retAddr 0, .int l2, .int l3, .int l4, .int l4, .retAddr 0, .retAddr 0, .retAddr 0, .retAddr 0], [])) (h' := s.2) rfl rfl ?_
    exact Seg.w (mLw.k (mLw.k (mLw.k (mLw.k (mLw.u (mLw.k (mLw.k (mLw.k (mLw.k (mLw.k mLw.nil)))))))))) (s272_56 l0 l2 l3 mFuel (l4, s.2))
  · refine Seg.blk (f' := (if (s.1 : Int32) = l4 then 38 else 42, [.ref l0, .retAddr 0, .int l2, .int l3, .int l4, .int s.1, .retAddr 0, .retAddr 0, .retAddr 0, .retAddr 0], [.int s.1, .ref ((mR s.2 l0 45).getD 0)])) (h' := s.2) rfl rfl ?_
    refine Seg.ite (fun _ => ?_) (fun _ => ?_)
    · refine Seg.blk0 (f' := (45, [.ref l0, .retAddr 0, .int l2, .int l3, .int l4, .int s.1, .retAddr 0, .retAddr 0, .retAddr 0, .retAddr 0], [.int 0, .int s.1, .ref ((mR s.2 l0 45).getD 0)])) (h' := s.2) rfl rfl ?_
      refine Seg.blk (f' := (19, [.ref l0, .retAddr 0, .int l2, .int l3, .int l4, .int (s.1 + 1), .retAddr 0, .retAddr 0, .retAddr 0, .retAddr 0], [])) (h' := (mSI s.2 ((mR s.2 l0 45).getD 0) (Int32.toNatClampNeg s.1) 0)) rfl rfl ?_
      exact Seg.cont (fun _ q => Ev.w (mLw.k (mLw.k (mLw.k (mLw.k (mLw.k (mLw.k (mLw.k (mLw.k (mLw.k (mLw.k mLw.nil)))))))))) q)
    · refine Seg.blk0 (f' := (45, [.ref l0, .retAddr 0, .int l2, .int l3, .int l4, .int s.1, .retAddr 0, .retAddr 0, .retAddr 0, .retAddr 0], [.int 1000000, .int s.1, .ref ((mR s.2 l0 45).getD 0)])) (h' := s.2) rfl rfl ?_
      refine Seg.blk (f' := (19, [.ref l0, .retAddr 0, .int l2, .int l3, .int l4, .int (s.1 + 1), .retAddr 0, .retAddr 0, .retAddr 0, .retAddr 0], [])) (h' := (mSI s.2 ((mR s.2 l0 45).getD 0) (Int32.toNatClampNeg s.1) 1000000)) rfl rfl ?_
      exact Seg.cont (fun _ q => Ev.w (mLw.k (mLw.k (mLw.k (mLw.k (mLw.k (mLw.k (mLw.k (mLw.k (mLw.k (mLw.k mLw.nil)))))))))) q)
def f272 (h : mH) (l0 : Nat) (l1 : Int32) (l2 : Int32) : Option (Int32 × mH) :=
mGd (Nat.beq (mK h l0).1 12 && true) (
    mLoop (f272_19 l0 l2 (((1 : Int32) <<< ((mI h l0 24) &&& (31 : Int32))) - 1) ((((1 : Int32) <<< ((mI h l0 24) &&& (31 : Int32))) - 1) &&& (l1 ^^^ (-1)))) mFuel (0, h))
theorem s272 (h : mH) (l0 : Nat) (l1 : Int32) (l2 : Int32) : Seg 272 (0, [.ref l0, .int l1, .int l2, .retAddr 0, .retAddr 0, .retAddr 0, .retAddr 0, .retAddr 0, .retAddr 0, .retAddr 0], []) h (f272 h l0 l1 l2) (fun (q : Int32 × mH) (res : Option Value × mH) => res = (some (.int q.1), q.2)) := by
  unfold f272
  refine Seg.blk (f' := (19, [.ref l0, .int l1, .int l2, .int (((1 : Int32) <<< ((mI h l0 24) &&& (31 : Int32))) - 1), .int ((((1 : Int32) <<< ((mI h l0 24) &&& (31 : Int32))) - 1) &&& (l1 ^^^ (-1))), .int 0, .retAddr 0, .retAddr 0, .retAddr 0, .retAddr 0], [])) (h' := h) rfl rfl ?_
  exact Seg.w (mLw.k (mLw.u (mLw.k (mLw.k (mLw.k (mLw.k (mLw.k (mLw.k (mLw.k (mLw.k mLw.nil)))))))))) (s272_19 l0 l2 (((1 : Int32) <<< ((mI h l0 24) &&& (31 : Int32))) - 1) ((((1 : Int32) <<< ((mI h l0 24) &&& (31 : Int32))) - 1) &&& (l1 ^^^ (-1))) mFuel (0, h))

def f132_129 (h : mH) (l0 : Nat) (l1 : Nat) (l2 : Int32) (l3 : Int32) (l4 : Int32) (l5 : Int32) : Option ((Int32 × Int32) ⊕ (Int32)) :=
some (.inl (l4, (l5 + 1)))
theorem s132_129 (h : mH) (l0 : Nat) (l1 : Nat) (l2 : Int32) (l3 : Int32) (l4 : Int32) (l5 : Int32) : Seg 132 (129, [.ref l0, .ref l1, .int l2, .int l3, .int l4, .int l5, .retAddr 0, .retAddr 0, .retAddr 0, .retAddr 0], []) h (f132_129 h l0 l1 l2 l3 l4 l5) (Sum.elim (fun s : (Int32 × Int32) => Ev 132 (8, [.ref l0, .ref l1, .int l2, .int l3, .int s.1, .int s.2, .retAddr 0, .retAddr 0, .retAddr 0, .retAddr 0], []) h) (fun (q : Int32) (res : Option Value × mH) => res = (some (.int q), h))) := by
  unfold f132_129
  refine Seg.blk0 (f' := (8, [.ref l0, .ref l1, .int l2, .int l3, .int l4, .int (l5 + 1), .retAddr 0, .retAddr 0, .retAddr 0, .retAddr 0], [])) (h' := h) rfl rfl ?_
  exact Seg.cont (fun _ q => Ev.w (mLw.k (mLw.k (mLw.k (mLw.k (mLw.k (mLw.k (mLw.k (mLw.k (mLw.k (mLw.k mLw.nil)))))))))) q)
def f132_118 (h : mH) (l0 : Nat) (l1 : Nat) (l2 : Int32) (l3 : Int32) (l4 : Int32) (l5 : Int32) (q0 : Int32) : Option ((Int32 × Int32) ⊕ (Int32)) :=
f132_129 h l0 l1 l2 l3 (if (q0 : Int32) < l4 then q0 else l4) l5
theorem s132_118 (h : mH) (l0 : Nat) (l1 : Nat) (l2 : Int32) (l3 : Int32) (l4 : Int32) (l5 : Int32) (q0 : Int32) : Seg 132 (118, [.ref l0, .ref l1, .int l2, .int l3, .int l4, .int l5, .retAddr 0, .retAddr 0, .retAddr 0, .retAddr 0], [.int q0]) h (f132_118 h l0 l1 l2 l3 l4 l5 q0) (Sum.elim (fun s : (Int32 × Int32) => Ev 132 (8, [.ref l0, .ref l1, .int l2, .int l3, .int s.1, .int s.2, .retAddr 0, .retAddr 0, .retAddr 0, .retAddr 0], []) h) (fun (q : Int32) (res : Option Value × mH) => res = (some (.int q), h))) := by
  unfold f132_118
  refine Seg.blk0 (f' := (129, [.ref l0, .ref l1, .int l2, .int l3, .int (if (q0 : Int32) < l4 then q0 else l4), .int l5, .retAddr 0, .retAddr 0, .retAddr 0, .int q0], [])) (h' := h) rfl rfl ?_
  exact Seg.w (mLw.k (mLw.k (mLw.k (mLw.k (mLw.k (mLw.k (mLw.k (mLw.k (mLw.k (mLw.u mLw.nil)))))))))) (s132_129 h l0 l1 l2 l3 (if (q0 : Int32) < l4 then q0 else l4) l5)
def f132_79 (h : mH) (l0 : Nat) (l1 : Nat) (l2 : Int32) (l3 : Int32) (l4 : Int32) (l5 : Int32) (l7 : Int32) (q0 : Int32) : Option ((Int32 × Int32) ⊕ (Int32)) :=
if (q0 : Int32) = 0 then
    mGd (!(16 == (0 : Int32)) && ((Nat.beq (mK h l1).1 2 && (mR h l1 0).isSome) && ((Nat.beq (mK h ((mR h l1 0).getD 0)).1 100 && mIn l5 (mK h ((mR h l1 0).getD 0)).2) && true))) (
      f132_118 h l0 l1 l2 l3 l4 l5 ((((l7 / 16) * 16) + 16) + (mI h ((mR h l1 0).getD 0) (Int32.toNatClampNeg l5))))
  else 
    mGd ((Nat.beq (mK h l1).1 2 && (mR h l1 0).isSome) && ((Nat.beq (mK h ((mR h l1 0).getD 0)).1 100 && mIn l5 (mK h ((mR h l1 0).getD 0)).2) && true)) (
      f132_118 h l0 l1 l2 l3 l4 l5 (l7 + (mI h ((mR h l1 0).getD 0) (Int32.toNatClampNeg l5))))
theorem s132_79 (h : mH) (l0 : Nat) (l1 : Nat) (l2 : Int32) (l3 : Int32) (l4 : Int32) (l5 : Int32) (l7 : Int32) (q0 : Int32) : Seg 132 (79, [.ref l0, .ref l1, .int l2, .int l3, .int l4, .int l5, .retAddr 0, .int l7, .retAddr 0, .retAddr 0], [.int q0]) h (f132_79 h l0 l1 l2 l3 l4 l5 l7 q0) (Sum.elim (fun s : (Int32 × Int32) => Ev 132 (8, [.ref l0, .ref l1, .int l2, .int l3, .int s.1, .int s.2, .retAddr 0, .retAddr 0, .retAddr 0, .retAddr 0], []) h) (fun (q : Int32) (res : Option Value × mH) => res = (some (.int q), h))) := by
  unfold f132_79
  refine Seg.blk0 (f' := (if (q0 : Int32) = 0 then 99 else 86, [.ref l0, .ref l1, .int l2, .int l3, .int l4, .int l5, .retAddr 0, .int l7, .int q0, .retAddr 0], [])) (h' := h) rfl rfl ?_
  refine Seg.ite (fun _ => ?_) (fun _ => ?_)
  · refine Seg.blk (f' := (118, [.ref l0, .ref l1, .int l2, .int l3, .int l4, .int l5, .retAddr 0, .int l7, .int q0, .retAddr 0], [.int ((((l7 / 16) * 16) + 16) + (mI h ((mR h l1 0).getD 0) (Int32.toNatClampNeg l5)))])) (h' := h) rfl rfl ?_
    exact Seg.w (mLw.k (mLw.k (mLw.k (mLw.k (mLw.k (mLw.k (mLw.k (mLw.u (mLw.u (mLw.k mLw.nil)))))))))) (s132_118 h l0 l1 l2 l3 l4 l5 ((((l7 / 16) * 16) + 16) + (mI h ((mR h l1 0).getD 0) (Int32.toNatClampNeg l5))))
  · refine Seg.blk (f' := (118, [.ref l0, .ref l1, .int l2, .int l3, .int l4, .int l5, .retAddr 0, .int l7, .int q0, .retAddr 0], [.int (l7 + (mI h ((mR h l1 0).getD 0) (Int32.toNatClampNeg l5)))])) (h' := h) rfl rfl ?_
    exact Seg.w (mLw.k (mLw.k (mLw.k (mLw.k (mLw.k (mLw.k (mLw.k (mLw.u (mLw.u (mLw.k mLw.nil)))))))))) (s132_118 h l0 l1 l2 l3 l4 l5 (l7 + (mI h ((mR h l1 0).getD 0) (Int32.toNatClampNeg l5))))
def f132_8 (h : mH) (l0 : Nat) (l1 : Nat) (l2 : Int32) (l3 : Int32) (s : (Int32 × Int32)) : Option ((Int32 × Int32) ⊕ (Int32)) :=
mGd (Nat.beq (mK h l1).1 2 && true) (
    if ((mI h l1 6) : Int32) ≤ s.2 then
    mX (mGd (true && true) (some (s.1 : Int32)))
  else 
    if ((l2 &&& (((1 : Int32) <<< (s.2 &&& (31 : Int32))) ^^^ (-1))) : Int32) = l2 then
      f132_129 h l0 l1 l2 l3 s.1 s.2
    else 
      mGd ((Nat.beq (mK h l1).1 2 && (mR h l1 2).isSome) && ((Nat.beq (mK h ((mR h l1 2).getD 0)).1 100 && mIn s.2 (mK h ((mR h l1 2).getD 0)).2) && true)) (
        if (((mI h ((mR h l1 2).getD 0) (Int32.toNatClampNeg s.2)) &&& ((l2 &&& (((1 : Int32) <<< (s.2 &&& (31 : Int32))) ^^^ (-1))) ^^^ (-1))) : Int32) = 0 then
        mGd ((Nat.beq (mK h l0).1 9 && (mR h l0 4).isSome) && ((Nat.beq (mK h ((mR h l0 4).getD 0)).1 100 && mIn (l2 &&& (((1 : Int32) <<< (s.2 &&& (31 : Int32))) ^^^ (-1))) (mK h ((mR h l0 4).getD 0)).2) && (!(16 == (0 : Int32)) && ((Nat.beq (mK h l1).1 2 && (mR h l1 0).isSome) && ((Nat.beq (mK h ((mR h l1 0).getD 0)).1 100 && mIn s.2 (mK h ((mR h l1 0).getD 0)).2) && true))))) (
          if (l3 : Int32) < (((mI h ((mR h l0 4).getD 0) (Int32.toNatClampNeg (l2 &&& (((1 : Int32) <<< (s.2 &&& (31 : Int32))) ^^^ (-1))))) - (mI h ((mR h l0 4).getD 0) (Int32.toNatClampNeg (l2 &&& (((1 : Int32) <<< (s.2 &&& (31 : Int32))) ^^^ (-1))))) / 16 * 16) + (mI h ((mR h l1 0).getD 0) (Int32.toNatClampNeg s.2))) then
          f132_79 h l0 l1 l2 l3 s.1 s.2 (mI h ((mR h l0 4).getD 0) (Int32.toNatClampNeg (l2 &&& (((1 : Int32) <<< (s.2 &&& (31 : Int32))) ^^^ (-1))))) 0
        else 
          f132_79 h l0 l1 l2 l3 s.1 s.2 (mI h ((mR h l0 4).getD 0) (Int32.toNatClampNeg (l2 &&& (((1 : Int32) <<< (s.2 &&& (31 : Int32))) ^^^ (-1))))) 1)
      else 
        f132_129 h l0 l1 l2 l3 s.1 s.2))
theorem s132_8 (h : mH) (l0 : Nat) (l1 : Nat) (l2 : Int32) (l3 : Int32) : ∀ (n : Nat) (s : (Int32 × Int32)), Seg 132 (8, [.ref l0, .ref l1, .int l2, .int l3, .int s.1, .int s.2, .retAddr 0, .retAddr 0, .retAddr 0, .retAddr 0], []) h (mLoop (f132_8 h l0 l1 l2 l3) n s) (fun (q : Int32) (res : Option Value × mH) => res = (some (.int q), h)) := by
  refine Seg.loop (F := fun s : (Int32 × Int32) => (8, [.ref l0, .ref l1, .int l2, .int l3, .int s.1, .int s.2, .retAddr 0, .retAddr 0, .retAddr 0, .retAddr 0], [])) (H := fun s : (Int32 × Int32) => h) (fun s => ?_)
  show Seg 132 (8, [.ref l0, .ref l1, .int l2, .int l3, .int s.1, .int s.2, .retAddr 0, .retAddr 0, .retAddr 0, .retAddr 0], []) h _ (Sum.elim (fun s : (Int32 × Int32) => Ev 132 (8, [.ref l0, .ref l1, .int l2, .int l3, .int s.1, .int s.2, .retAddr 0, .retAddr 0, .retAddr 0, .retAddr 0], []) h) (fun (q : Int32) (res : Option Value × mH) => res = (some (.int q), h)))
  unfold f132_8
  refine Seg.blk (f' := (if ((mI h l1 6) : Int32) ≤ s.2 then 135 else 17, [.ref l0, .ref l1, .int l2, .int l3, .int s.1, .int s.2, .retAddr 0, .retAddr 0, .retAddr 0, .retAddr 0], [])) (h' := h) rfl rfl ?_
  refine Seg.ite (fun _ => ?_) (fun _ => ?_)
  · refine Seg.x ?_
    exact Seg.ret (f1 := (137, [.ref l0, .ref l1, .int l2, .int l3, .int s.1, .int s.2, .retAddr 0, .retAddr 0, .retAddr 0, .retAddr 0], [.int s.1])) (h1 := h) rfl rfl rfl rfl (fun _ q => q)
  · refine Seg.blk0 (f' := (if ((l2 &&& (((1 : Int32) <<< (s.2 &&& (31 : Int32))) ^^^ (-1))) : Int32) = l2 then 129 else 33, [.ref l0, .ref l1, .int l2, .int l3, .int s.1, .int s.2, .int (l2 &&& (((1 : Int32) <<< (s.2 &&& (31 : Int32))) ^^^ (-1))), .retAddr 0, .retAddr 0, .retAddr 0], [])) (h' := h) rfl rfl ?_
    refine Seg.ite (fun _ => ?_) (fun _ => ?_)
    · exact Seg.w (mLw.k (mLw.k (mLw.k (mLw.k (mLw.k (mLw.k (mLw.u (mLw.k (mLw.k (mLw.k mLw.nil)))))))))) (s132_129 h l0 l1 l2 l3 s.1 s.2)
    · refine Seg.blk (f' := (if (((mI h ((mR h l1 2).getD 0) (Int32.toNatClampNeg s.2)) &&& ((l2 &&& (((1 : Int32) <<< (s.2 &&& (31 : Int32))) ^^^ (-1))) ^^^ (-1))) : Int32) = 0 then 48 else 129, [.ref l0, .ref l1, .int l2, .int l3, .int s.1, .int s.2, .int (l2 &&& (((1 : Int32) <<< (s.2 &&& (31 : Int32))) ^^^ (-1))), .retAddr 0, .retAddr 0, .retAddr 0], [])) (h' := h) rfl rfl ?_
      refine Seg.ite (fun _ => ?_) (fun _ => ?_)
      · refine Seg.blk (f' := (if (l3 : Int32) < (((mI h ((mR h l0 4).getD 0) (Int32.toNatClampNeg (l2 &&& (((1 : Int32) <<< (s.2 &&& (31 : Int32))) ^^^ (-1))))) - (mI h ((mR h l0 4).getD 0) (Int32.toNatClampNeg (l2 &&& (((1 : Int32) <<< (s.2 &&& (31 : Int32))) ^^^ (-1))))) / 16 * 16) + (mI h ((mR h l1 0).getD 0) (Int32.toNatClampNeg s.2))) then 78 else 74, [.ref l0, .ref l1, .int l2, .int l3, .int s.1, .int s.2, .int (l2 &&& (((1 : Int32) <<< (s.2 &&& (31 : Int32))) ^^^ (-1))), .int (mI h ((mR h l0 4).getD 0) (Int32.toNatClampNeg (l2 &&& (((1 : Int32) <<< (s.2 &&& (31 : Int32))) ^^^ (-1))))), .retAddr 0, .retAddr 0], [])) (h' := h) rfl rfl ?_
        refine Seg.ite (fun _ => ?_) (fun _ => ?_)
        · refine Seg.blk0 (f' := (79, [.ref l0, .ref l1, .int l2, .int l3, .int s.1, .int s.2, .int (l2 &&& (((1 : Int32) <<< (s.2 &&& (31 : Int32))) ^^^ (-1))), .int (mI h ((mR h l0 4).getD 0) (Int32.toNatClampNeg (l2 &&& (((1 : Int32) <<< (s.2 &&& (31 : Int32))) ^^^ (-1))))), .retAddr 0, .retAddr 0], [.int 0])) (h' := h) rfl rfl ?_
          exact Seg.w (mLw.k (mLw.k (mLw.k (mLw.k (mLw.k (mLw.k (mLw.u (mLw.k (mLw.k (mLw.k mLw.nil)))))))))) (s132_79 h l0 l1 l2 l3 s.1 s.2 (mI h ((mR h l0 4).getD 0) (Int32.toNatClampNeg (l2 &&& (((1 : Int32) <<< (s.2 &&& (31 : Int32))) ^^^ (-1))))) 0)
        · refine Seg.blk0 (f' := (79, [.ref l0, .ref l1, .int l2, .int l3, .int s.1, .int s.2, .int (l2 &&& (((1 : Int32) <<< (s.2 &&& (31 : Int32))) ^^^ (-1))), .int (mI h ((mR h l0 4).getD 0) (Int32.toNatClampNeg (l2 &&& (((1 : Int32) <<< (s.2 &&& (31 : Int32))) ^^^ (-1))))), .retAddr 0, .retAddr 0], [.int 1])) (h' := h) rfl rfl ?_
          exact Seg.w (mLw.k (mLw.k (mLw.k (mLw.k (mLw.k (mLw.k (mLw.u (mLw.k (mLw.k (mLw.k mLw.nil)))))))))) (s132_79 h l0 l1 l2 l3 s.1 s.2 (mI h ((mR h l0 4).getD 0) (Int32.toNatClampNeg (l2 &&& (((1 : Int32) <<< (s.2 &&& (31 : Int32))) ^^^ (-1))))) 1)
      · exact Seg.w (mLw.k (mLw.k (mLw.k (mLw.k (mLw.k (mLw.k (mLw.u (mLw.k (mLw.k (mLw.k mLw.nil)))))))))) (s132_129 h l0 l1 l2 l3 s.1 s.2)
def f132 (h : mH) (l0 : Nat) (l1 : Nat) (l2 : Int32) (l3 : Int32) : Option (Int32) :=
mLoop (f132_8 h l0 l1 l2 l3) mFuel (1584, 0)
theorem s132 (h : mH) (l0 : Nat) (l1 : Nat) (l2 : Int32) (l3 : Int32) : Seg 132 (0, [.ref l0, .ref l1, .int l2, .int l3, .retAddr 0, .retAddr 0, .retAddr 0, .retAddr 0, .retAddr 0, .retAddr 0], []) h (f132 h l0 l1 l2 l3) (fun (q : Int32) (res : Option Value × mH) => res = (some (.int q), h)) := by
  unfold f132
  refine Seg.blk0 (f' := (8, [.ref l0, .ref l1, .int l2, .int l3, .int 1584, .int 0, .retAddr 0, .retAddr 0, .retAddr 0, .retAddr 0], [])) (h' := h) rfl rfl ?_
  exact Seg.w (mLw.k (mLw.k (mLw.k (mLw.k (mLw.k (mLw.k (mLw.k (mLw.k (mLw.k (mLw.k mLw.nil)))))))))) (s132_8 h l0 l1 l2 l3 mFuel (1584, 0))

def f131_80 (h : mH) (l0 : Nat) (l1 : Nat) (l2 : Int32) (l3 : Int32) (l4 : Int32) : Option ((Int32 × mH) ⊕ (Int32 × mH)) :=
some (.inl ((l4 + 1), h))
theorem s131_80 (h : mH) (l0 : Nat) (l1 : Nat) (l2 : Int32) (l3 : Int32) (l4 : Int32) : Seg 131 (80, [.ref l0, .ref l1, .int l2, .int l3, .int l4], []) h (f131_80 h l0 l1 l2 l3 l4) (Sum.elim (fun s : (Int32 × mH) => Ev 131 (50, [.ref l0, .ref l1, .int l2, .int l3, .int s.1], []) s.2) (fun (q : Int32 × mH) (res : Option Value × mH) => res = (some (.int q.1), q.2))) := by
  unfold f131_80
  refine Seg.blk0 (f' := (50, [.ref l0, .ref l1, .int l2, .int l3, .int (l4 + 1)], [])) (h' := h) rfl rfl ?_
  exact Seg.cont (fun _ q => Ev.w (mLw.k (mLw.k (mLw.k (mLw.k (mLw.k mLw.nil))))) q)
def f131_50 (l0 : Nat) (l1 : Nat) (l2 : Int32) (l3 : Int32) (s : (Int32 × mH)) : Option ((Int32 × mH) ⊕ (Int32 × mH)) :=
if (l2 : Int32) < s.1 then
    mX (mGd (((Nat.beq (mK s.2 l0).1 9 && (mR s.2 l0 4).isSome) && ((Nat.beq (mK s.2 ((mR s.2 l0 4).getD 0)).1 100 && mIn l2 (mK s.2 ((mR s.2 l0 4).getD 0)).2) && (!(16 == (0 : Int32)) && true))) && true) (some (((mI s.2 ((mR s.2 l0 4).getD 0) (Int32.toNatClampNeg l2)) / 16), s.2)))
  else 
    if ((s.1 &&& (l2 ^^^ (-1))) : Int32) = 0 then
      mGd (((Nat.beq (mK s.2 l0).1 9 && (mR s.2 l0 4).isSome) && true) && Nat.beq (mK s.2 l0).1 9) ((f132 s.2 l0 l1 s.1 l3).bind (fun r1 =>
        mGd ((Nat.beq (mK s.2 ((mR s.2 l0 4).getD 0)).1 100 && mIn s.1 (mK s.2 ((mR s.2 l0 4).getD 0)).2) && true) (
        f131_80 (mSI s.2 ((mR s.2 l0 4).getD 0) (Int32.toNatClampNeg s.1) r1) l0 l1 l2 l3 s.1)))
    else 
      f131_80 s.2 l0 l1 l2 l3 s.1
theorem s131_50 (l0 : Nat) (l1 : Nat) (l2 : Int32) (l3 : Int32) : ∀ (n : Nat) (s : (Int32 × mH)), Seg 131 (50, [.ref l0, .ref l1, .int l2, .int l3, .int s.1], []) s.2 (mLoop (f131_50 l0 l1 l2 l3) n s) (fun (q : Int32 × mH) (res : Option Value × mH) => res = (some (.int q.1), q.2)) := by
  refine Seg.loop (F := fun s : (Int32 × mH) => (50, [.ref l0, .ref l1, .int l2, .int l3, .int s.1], [])) (H := fun s : (Int32 × mH) => s.2) (fun s => ?_)
  show Seg 131 (50, [.ref l0, .ref l1, .int l2, .int l3, .int s.1], []) s.2 _ (Sum.elim (fun s : (Int32 × mH) => Ev 131 (50, [.ref l0, .ref l1, .int l2, .int l3, .int s.1], []) s.2) (fun (q : Int32 × mH) (res : Option Value × mH) => res = (some (.int q.1), q.2)))
  unfold f131_50
  refine Seg.blk0 (f' := (if (l2 : Int32) < s.1 then 86 else 56, [.ref l0, .ref l1, .int l2, .int l3, .int s.1], [])) (h' := s.2) rfl rfl ?_
  refine Seg.ite (fun _ => ?_) (fun _ => ?_)
  · refine Seg.x ?_
    exact Seg.ret (f1 := (95, [.ref l0, .ref l1, .int l2, .int l3, .int s.1], [.int ((mI s.2 ((mR s.2 l0 4).getD 0) (Int32.toNatClampNeg l2)) / 16)])) (h1 := s.2) rfl rfl rfl rfl (fun _ q => q)
  · refine Seg.blk0 (f' := (if ((s.1 &&& (l2 ^^^ (-1))) : Int32) = 0 then 65 else 80, [.ref l0, .ref l1, .int l2, .int l3, .int s.1], [])) (h' := s.2) rfl rfl ?_
    refine Seg.ite (fun _ => ?_) (fun _ => ?_)
    · refine Seg.callP (f1 := (76, [.ref l0, .ref l1, .int l2, .int l3, .int s.1], [.int l3, .int s.1, .ref l1, .ref l0, .int s.1, .ref ((mR s.2 l0 4).getD 0)])) (h1 := s.2) (cv := fun r => some (.int r)) rfl rfl rfl rfl (s132 s.2 l0 l1 s.1 l3) (fun r1 => ?_)
      refine Seg.blk (f' := (80, [.ref l0, .ref l1, .int l2, .int l3, .int s.1], [])) (h' := (mSI s.2 ((mR s.2 l0 4).getD 0) (Int32.toNatClampNeg s.1) r1)) rfl rfl ?_
      exact Seg.w (mLw.k (mLw.k (mLw.k (mLw.k (mLw.k mLw.nil))))) (s131_80 (mSI s.2 ((mR s.2 l0 4).getD 0) (Int32.toNatClampNeg s.1) r1) l0 l1 l2 l3 s.1)
    · exact Seg.w (mLw.k (mLw.k (mLw.k (mLw.k (mLw.k mLw.nil))))) (s131_80 s.2 l0 l1 l2 l3 s.1)
def f131_34 (h : mH) (l0 : Nat) (l1 : Nat) (l2 : Int32) (l3 : Int32) (l4 : Int32) : Option ((Int32) ⊕ (Int32 × mH)) :=
some (.inl ((l4 + 1)))
theorem s131_34 (h : mH) (l0 : Nat) (l1 : Nat) (l2 : Int32) (l3 : Int32) (l4 : Int32) : Seg 131 (34, [.ref l0, .ref l1, .int l2, .int l3, .int l4], []) h (f131_34 h l0 l1 l2 l3 l4) (Sum.elim (fun s : (Int32) => Ev 131 (3, [.ref l0, .ref l1, .int l2, .int l3, .int s], []) h) (fun (q : Int32 × mH) (res : Option Value × mH) => res = (some (.int q.1), q.2))) := by
  unfold f131_34
  refine Seg.blk0 (f' := (3, [.ref l0, .ref l1, .int l2, .int l3, .int (l4 + 1)], [])) (h' := h) rfl rfl ?_
  exact Seg.cont (fun _ q => Ev.w (mLw.k (mLw.k (mLw.k (mLw.k (mLw.k mLw.nil))))) q)
def f131_3 (h : mH) (l0 : Nat) (l1 : Nat) (l2 : Int32) (l3 : Int32) (s : (Int32)) : Option ((Int32) ⊕ (Int32 × mH)) :=
mGd (Nat.beq (mK h l1).1 2 && true) (
    if ((mI h l1 6) : Int32) ≤ s then
    mX (
mGd ((Nat.beq (mK h l0).1 9 && (mR h l0 4).isSome) && ((Nat.beq (mK h ((mR h l0 4).getD 0)).1 100 && mIn 0 (mK h ((mR h l0 4).getD 0)).2) && true)) (
      mLoop (f131_50 l0 l1 l2 l3) mFuel (1, (mSI h ((mR h l0 4).getD 0) (Int32.toNatClampNeg 0) l3))))
  else 
    mGd (true && true) ((f71 h l2 s).bind (fun r2 =>
      if (r2 : Int32) = 0 then
      f131_34 h l0 l1 l2 l3 s
    else 
      mGd ((Nat.beq (mK h l1).1 2 && (mR h l1 0).isSome) && ((Nat.beq (mK h ((mR h l1 0).getD 0)).1 100 && mIn s (mK h ((mR h l1 0).getD 0)).2) && true)) (
        if ((mI h ((mR h l1 0).getD 0) (Int32.toNatClampNeg s)) : Int32) ≤ l3 then
        f131_34 h l0 l1 l2 l3 s
      else 
        mX (mGd (true && true) (some ((-1), h)))))))
theorem s131_3 (h : mH) (l0 : Nat) (l1 : Nat) (l2 : Int32) (l3 : Int32) : ∀ (n : Nat) (s : (Int32)), Seg 131 (3, [.ref l0, .ref l1, .int l2, .int l3, .int s], []) h (mLoop (f131_3 h l0 l1 l2 l3) n s) (fun (q : Int32 × mH) (res : Option Value × mH) => res = (some (.int q.1), q.2)) := by
  refine Seg.loop (F := fun s : (Int32) => (3, [.ref l0, .ref l1, .int l2, .int l3, .int s], [])) (H := fun s : (Int32) => h) (fun s => ?_)
  show Seg 131 (3, [.ref l0, .ref l1, .int l2, .int l3, .int s], []) h _ (Sum.elim (fun s : (Int32) => Ev 131 (3, [.ref l0, .ref l1, .int l2, .int l3, .int s], []) h) (fun (q : Int32 × mH) (res : Option Value × mH) => res = (some (.int q.1), q.2)))
  unfold f131_3
  refine Seg.blk (f' := (if ((mI h l1 6) : Int32) ≤ s then 40 else 12, [.ref l0, .ref l1, .int l2, .int l3, .int s], [])) (h' := h) rfl rfl ?_
  refine Seg.ite (fun _ => ?_) (fun _ => ?_)
  · refine Seg.x ?_
    refine Seg.blk (f' := (50, [.ref l0, .ref l1, .int l2, .int l3, .int 1], [])) (h' := (mSI h ((mR h l0 4).getD 0) (Int32.toNatClampNeg 0) l3)) rfl rfl ?_
    exact Seg.w (mLw.k (mLw.k (mLw.k (mLw.k (mLw.k mLw.nil))))) (s131_50 l0 l1 l2 l3 mFuel (1, (mSI h ((mR h l0 4).getD 0) (Int32.toNatClampNeg 0) l3)))
  · refine Seg.callP (f1 := (15, [.ref l0, .ref l1, .int l2, .int l3, .int s], [.int s, .int l2])) (h1 := h) (cv := fun r => some (.int r)) rfl rfl rfl rfl (s71 h l2 s) (fun r2 => ?_)
    refine Seg.blk0 (f' := (if (r2 : Int32) = 0 then 34 else 21, [.ref l0, .ref l1, .int l2, .int l3, .int s], [])) (h' := h) rfl rfl ?_
    refine Seg.ite (fun _ => ?_) (fun _ => ?_)
    · exact Seg.w (mLw.k (mLw.k (mLw.k (mLw.k (mLw.k mLw.nil))))) (s131_34 h l0 l1 l2 l3 s)
    · refine Seg.blk (f' := (if ((mI h ((mR h l1 0).getD 0) (Int32.toNatClampNeg s)) : Int32) ≤ l3 then 34 else 32, [.ref l0, .ref l1, .int l2, .int l3, .int s], [])) (h' := h) rfl rfl ?_
      refine Seg.ite (fun _ => ?_) (fun _ => ?_)
      · exact Seg.w (mLw.k (mLw.k (mLw.k (mLw.k (mLw.k mLw.nil))))) (s131_34 h l0 l1 l2 l3 s)
      · refine Seg.x ?_
        exact Seg.ret (f1 := (33, [.ref l0, .ref l1, .int l2, .int l3, .int s], [.int (-1)])) (h1 := h) rfl rfl rfl rfl (fun _ q => q)
def f131 (h : mH) (l0 : Nat) (l1 : Nat) (l2 : Int32) (l3 : Int32) : Option (Int32 × mH) :=
mLoop (f131_3 h l0 l1 l2 l3) mFuel (0)
theorem s131 (h : mH) (l0 : Nat) (l1 : Nat) (l2 : Int32) (l3 : Int32) : Seg 131 (0, [.ref l0, .ref l1, .int l2, .int l3, .retAddr 0], []) h (f131 h l0 l1 l2 l3) (fun (q : Int32 × mH) (res : Option Value × mH) => res = (some (.int q.1), q.2)) := by
  unfold f131
  refine Seg.blk0 (f' := (3, [.ref l0, .ref l1, .int l2, .int l3, .int 0], [])) (h' := h) rfl rfl ?_
  exact Seg.w (mLw.k (mLw.k (mLw.k (mLw.k (mLw.k mLw.nil))))) (s131_3 h l0 l1 l2 l3 mFuel (0))
