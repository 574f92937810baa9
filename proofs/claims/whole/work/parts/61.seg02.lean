/-! The small machine runs the programs; printed by a program of ours. -/
theorem s71_13 (h : mH) (q0 : Int32) : Seg 71 (13, [.retAddr 0, .retAddr 0], [.int q0]) h (f71_13 h q0) (fun (q : Int32) (res : Option Value × mH) => res = (some (.int q), h)) := by
  unfold f71_13
  exact Seg.ret (f1 := (13, [.retAddr 0, .retAddr 0], [.int q0])) (h1 := h) rfl rfl rfl rfl (fun _ q => q)
theorem s71 (h : mH) (l0 : Int32) (l1 : Int32) : Seg 71 (0, [.int l0, .int l1], []) h (f71 h l0 l1) (fun (q : Int32) (res : Option Value × mH) => res = (some (.int q), h)) := by
  unfold f71
  refine Seg.blk0 (f' := (if (((l0 >>> (l1 &&& (31 : Int32))) &&& 1) : Int32) = 0 then 12 else 8, [.int l0, .int l1], [])) (h' := h) rfl rfl ?_
  refine Seg.ite (fun _ => ?_) (fun _ => ?_)
  · refine Seg.blk0 (f' := (13, [.int l0, .int l1], [.int 0])) (h' := h) rfl rfl ?_
    exact Seg.w (mLw.u (mLw.u mLw.nil)) (s71_13 h 0)
  · refine Seg.blk0 (f' := (13, [.int l0, .int l1], [.int 1])) (h' := h) rfl rfl ?_
    exact Seg.w (mLw.u (mLw.u mLw.nil)) (s71_13 h 1)
theorem s69_90 (h : mH) (l0 : Nat) (l1 : Int32) (l2 : Int32) (l3 : Int32) : Seg 69 (90, [.ref l0, .int l1, .int l2, .int l3], []) h (f69_90 h l0 l1 l2 l3) (Sum.elim (fun s : (Int32 × Int32) => Ev 69 (32, [.ref l0, .int l1, .int s.1, .int s.2], []) h) (fun (q : Int32) (res : Option Value × mH) => res = (some (.int q), h))) := by
  unfold f69_90
  refine Seg.blk0 (f' := (32, [.ref l0, .int l1, .int l2, .int (l3 + 1)], [])) (h' := h) rfl rfl ?_
  exact Seg.cont (fun _ q => Ev.w (mLw.k (mLw.k (mLw.k (mLw.k mLw.nil)))) q)
theorem s69_32 (h : mH) (l0 : Nat) (l1 : Int32) : ∀ (n : Nat) (s : (Int32 × Int32)), Seg 69 (32, [.ref l0, .int l1, .int s.1, .int s.2], []) h (mLoop (f69_32 h l0 l1) n s) (fun (q : Int32) (res : Option Value × mH) => res = (some (.int q), h)) := by
  refine Seg.loop (F := fun s : (Int32 × Int32) => (32, [.ref l0, .int l1, .int s.1, .int s.2], [])) (H := fun s : (Int32 × Int32) => h) (fun s => ?_)
  show Seg 69 (32, [.ref l0, .int l1, .int s.1, .int s.2], []) h _ (Sum.elim (fun s : (Int32 × Int32) => Ev 69 (32, [.ref l0, .int l1, .int s.1, .int s.2], []) h) (fun (q : Int32) (res : Option Value × mH) => res = (some (.int q), h)))
  unfold f69_32
  refine Seg.blk (f' := (if ((mI h ((mR h l0 3).getD 0) 6) : Int32) ≤ s.2 then 96 else 43, [.ref l0, .int l1, .int s.1, .int s.2], [])) (h' := h) rfl rfl ?_
  refine Seg.ite (fun _ => ?_) (fun _ => ?_)
  · refine Seg.x ?_
    exact Seg.ret (f1 := (97, [.ref l0, .int l1, .int s.1, .int s.2], [.int s.1])) (h1 := h) rfl rfl rfl rfl (fun _ q => q)
  · refine Seg.callP (f1 := (45, [.ref l0, .int l1, .int s.1, .int s.2], [.int s.2, .int l1])) (h1 := h) (cv := fun r => some (.int r)) rfl rfl rfl rfl (s71 h l1 s.2) (fun r2 => ?_)
    refine Seg.blk0 (f' := (if (r2 : Int32) = 0 then 90 else 51, [.ref l0, .int l1, .int s.1, .int s.2], [])) (h' := h) rfl rfl ?_
    refine Seg.ite (fun _ => ?_) (fun _ => ?_)
    · exact Seg.w (mLw.k (mLw.k (mLw.k (mLw.k mLw.nil)))) (s69_90 h l0 l1 s.1 s.2)
    · refine Seg.blk (f' := (if ((mI h l0 6) : Int32) < (mI h ((mR h ((mR h l0 3).getD 0) 0).getD 0) (Int32.toNatClampNeg s.2)) then 90 else 67, [.ref l0, .int l1, .int s.1, .int s.2], [])) (h' := h) rfl rfl ?_
      refine Seg.ite (fun _ => ?_) (fun _ => ?_)
      · exact Seg.w (mLw.k (mLw.k (mLw.k (mLw.k mLw.nil)))) (s69_90 h l0 l1 s.1 s.2)
      · refine Seg.blk (f' := (if ((mI h ((mR h l0 0).getD 0) (Int32.toNatClampNeg (mI h ((mR h ((mR h l0 3).getD 0) 1).getD 0) (Int32.toNatClampNeg s.2)))) : Int32) ≤ 0 then 90 else 84, [.ref l0, .int l1, .int s.1, .int s.2], [])) (h' := h) rfl rfl ?_
        refine Seg.ite (fun _ => ?_) (fun _ => ?_)
        · exact Seg.w (mLw.k (mLw.k (mLw.k (mLw.k mLw.nil)))) (s69_90 h l0 l1 s.1 s.2)
        · refine Seg.blk0 (f' := (90, [.ref l0, .int l1, .int (s.1 ||| ((1 : Int32) <<< (s.2 &&& (31 : Int32)))), .int s.2], [])) (h' := h) rfl rfl ?_
          exact Seg.w (mLw.k (mLw.k (mLw.k (mLw.k mLw.nil)))) (s69_90 h l0 l1 (s.1 ||| ((1 : Int32) <<< (s.2 &&& (31 : Int32)))) s.2)
theorem s69_27 (h : mH) (l0 : Nat) (q0 : Int32) : Seg 69 (27, [.ref l0, .retAddr 0, .retAddr 0, .retAddr 0], [.int q0]) h (f69_27 h l0 q0) (fun (q : Int32) (res : Option Value × mH) => res = (some (.int q), h)) := by
  unfold f69_27
  refine Seg.blk0 (f' := (32, [.ref l0, .int q0, .int 0, .int 0], [])) (h' := h) rfl rfl ?_
  exact Seg.w (mLw.k (mLw.k (mLw.k (mLw.k mLw.nil)))) (s69_32 h l0 q0 mFuel (0, 0))
theorem s69 (h : mH) (l0 : Nat) : Seg 69 (0, [.ref l0, .retAddr 0, .retAddr 0, .retAddr 0], []) h (f69 h l0) (fun (q : Int32) (res : Option Value × mH) => res = (some (.int q), h)) := by
  unfold f69
  refine Seg.blk (f' := (if ((mI h l0 7) : Int32) = 0 then 11 else 7, [.ref l0, .retAddr 0, .retAddr 0, .retAddr 0], [])) (h' := h) rfl rfl ?_
  refine Seg.ite (fun _ => ?_) (fun _ => ?_)
  · refine Seg.callP (f1 := (24, [.ref l0, .retAddr 0, .retAddr 0, .retAddr 0], [.int ((mI h l0 1) ||| (mI h l0 5)), .ref ((mR h l0 3).getD 0)])) (h1 := h) (cv := fun r => some (.int r)) rfl rfl rfl rfl (s70 h ((mR h l0 3).getD 0) ((mI h l0 1) ||| (mI h l0 5))) (fun r1 => ?_)
    exact Seg.w (mLw.k (mLw.k (mLw.k (mLw.k mLw.nil)))) (s69_27 h l0 r1)
  · refine Seg.blk0 (f' := (27, [.ref l0, .retAddr 0, .retAddr 0, .retAddr 0], [.int 0])) (h' := h) rfl rfl ?_
    exact Seg.w (mLw.k (mLw.k (mLw.k (mLw.k mLw.nil)))) (s69_27 h l0 0)
theorem s68_22 (h : mH) : Seg 68 (22, [.retAddr 0, .retAddr 0], []) h (f68_22 h) (fun (q : Int32 × mH) (res : Option Value × mH) => res = (some (.int q.1), q.2)) := by
  unfold f68_22
  exact Seg.ret (f1 := (23, [.retAddr 0, .retAddr 0], [.int 0])) (h1 := h) rfl rfl rfl rfl (fun _ q => q)
theorem s68_72 (h : mH) : Seg 68 (72, [.retAddr 0, .retAddr 0], []) h (f68_72 h) (fun (q : Int32 × mH) (res : Option Value × mH) => res = (some (.int q.1), q.2)) := by
  unfold f68_72
  exact Seg.ret (f1 := (73, [.retAddr 0, .retAddr 0], [.int 1])) (h1 := h) rfl rfl rfl rfl (fun _ q => q)
theorem s68_54 (h : mH) (l0 : Nat) (l1 : Int32) : Seg 68 (54, [.ref l0, .int l1], []) h (f68_54 h l0 l1) (fun (q : Int32 × mH) (res : Option Value × mH) => res = (some (.int q.1), q.2)) := by
  unfold f68_54
  refine Seg.blk (f' := (72, [.ref l0, .int l1], [])) (h' := (mSI h ((mR h l0 0).getD 0) (Int32.toNatClampNeg (mI h ((mR h ((mR h l0 3).getD 0) 1).getD 0) (Int32.toNatClampNeg l1))) ((mI h ((mR h l0 0).getD 0) (Int32.toNatClampNeg (mI h ((mR h ((mR h l0 3).getD 0) 1).getD 0) (Int32.toNatClampNeg l1)))) - 1))) rfl rfl ?_
  exact Seg.w (mLw.u (mLw.u mLw.nil)) (s68_72 (mSI h ((mR h l0 0).getD 0) (Int32.toNatClampNeg (mI h ((mR h ((mR h l0 3).getD 0) 1).getD 0) (Int32.toNatClampNeg l1))) ((mI h ((mR h l0 0).getD 0) (Int32.toNatClampNeg (mI h ((mR h ((mR h l0 3).getD 0) 1).getD 0) (Int32.toNatClampNeg l1)))) - 1)))
theorem s68 (h : mH) (l0 : Nat) (l1 : Int32) : Seg 68 (0, [.ref l0, .int l1], []) h (f68 h l0 l1) (fun (q : Int32 × mH) (res : Option Value × mH) => res = (some (.int q.1), q.2)) := by
  unfold f68
  refine Seg.callP (f1 := (5, [.ref l0, .int l1], [.int l1, .ref ((mR h l0 3).getD 0)])) (h1 := h) (cv := fun r => some (.int r)) rfl rfl rfl rfl (s56 h ((mR h l0 3).getD 0) l1) (fun r1 => ?_)
  refine Seg.blk0 (f' := (if (r1 : Int32) = 0 then 22 else 11, [.ref l0, .int l1], [])) (h' := h) rfl rfl ?_
  refine Seg.ite (fun _ => ?_) (fun _ => ?_)
  · exact Seg.w (mLw.u (mLw.u mLw.nil)) (s68_22 h)
  · refine Seg.callP (f1 := (12, [.ref l0, .int l1], [.ref l0])) (h1 := h) (cv := fun r => some (.int r)) rfl rfl rfl rfl (s69 h l0) (fun r2 => ?_)
    refine Seg.callP (f1 := (16, [.ref l0, .int l1], [.int l1, .int r2])) (h1 := h) (cv := fun r => some (.int r)) rfl rfl rfl rfl (s71 h r2 l1) (fun r3 => ?_)
    refine Seg.blk0 (f' := (if (r3 : Int32) = 0 then 22 else 24, [.ref l0, .int l1], [])) (h' := h) rfl rfl ?_
    refine Seg.ite (fun _ => ?_) (fun _ => ?_)
    · exact Seg.w (mLw.u (mLw.u mLw.nil)) (s68_22 h)
    · refine Seg.blk (f' := (36, [.ref l0, .int l1], [])) (h' := (mSI h l0 1 ((mI h l0 1) ||| ((1 : Int32) <<< (l1 &&& (31 : Int32)))))) rfl rfl ?_
      refine Seg.blk (f' := (54, [.ref l0, .int l1], [])) (h' := (mSI (mSI h l0 1 ((mI h l0 1) ||| ((1 : Int32) <<< (l1 &&& (31 : Int32))))) l0 6 ((mI (mSI h l0 1 ((mI h l0 1) ||| ((1 : Int32) <<< (l1 &&& (31 : Int32))))) l0 6) - (mI (mSI h l0 1 ((mI h l0 1) ||| ((1 : Int32) <<< (l1 &&& (31 : Int32))))) ((mR h ((mR h l0 3).getD 0) 0).getD 0) (Int32.toNatClampNeg l1))))) rfl rfl ?_
      exact Seg.w (mLw.k (mLw.k mLw.nil)) (s68_54 (mSI (mSI h l0 1 ((mI h l0 1) ||| ((1 : Int32) <<< (l1 &&& (31 : Int32))))) l0 6 ((mI (mSI h l0 1 ((mI h l0 1) ||| ((1 : Int32) <<< (l1 &&& (31 : Int32))))) l0 6) - (mI (mSI h l0 1 ((mI h l0 1) ||| ((1 : Int32) <<< (l1 &&& (31 : Int32))))) ((mR h ((mR h l0 3).getD 0) 0).getD 0) (Int32.toNatClampNeg l1)))) l0 l1)
theorem s72_34 (h : mH) : Seg 72 (34, [.retAddr 0, .retAddr 0], []) h (f72_34 h) (fun (q : Int32 × mH) (res : Option Value × mH) => res = (some (.int q.1), q.2)) := by
  unfold f72_34
  exact Seg.ret (f1 := (35, [.retAddr 0, .retAddr 0], [.int 0])) (h1 := h) rfl rfl rfl rfl (fun _ q => q)
theorem s72 (h : mH) (l0 : Nat) (l1 : Int32) : Seg 72 (0, [.ref l0, .int l1], []) h (f72 h l0 l1) (fun (q : Int32 × mH) (res : Option Value × mH) => res = (some (.int q.1), q.2)) := by
  unfold f72
  refine Seg.callP (f1 := (5, [.ref l0, .int l1], [.int l1, .ref ((mR h l0 3).getD 0)])) (h1 := h) (cv := fun r => some (.int r)) rfl rfl rfl rfl (s56 h ((mR h l0 3).getD 0) l1) (fun r1 => ?_)
  refine Seg.blk0 (f' := (if (r1 : Int32) = 0 then 34 else 11, [.ref l0, .int l1], [])) (h' := h) rfl rfl ?_
  refine Seg.ite (fun _ => ?_) (fun _ => ?_)
  · exact Seg.w (mLw.u (mLw.u mLw.nil)) (s72_34 h)
  · refine Seg.callP (f1 := (24, [.ref l0, .int l1], [.int ((mI h l0 1) ||| (mI h l0 5)), .ref ((mR h l0 3).getD 0)])) (h1 := h) (cv := fun r => some (.int r)) rfl rfl rfl rfl (s70 h ((mR h l0 3).getD 0) ((mI h l0 1) ||| (mI h l0 5))) (fun r2 => ?_)
    refine Seg.callP (f1 := (28, [.ref l0, .int l1], [.int l1, .int r2])) (h1 := h) (cv := fun r => some (.int r)) rfl rfl rfl rfl (s71 h r2 l1) (fun r3 => ?_)
    refine Seg.blk0 (f' := (if (r3 : Int32) = 0 then 34 else 36, [.ref l0, .int l1], [])) (h' := h) rfl rfl ?_
    refine Seg.ite (fun _ => ?_) (fun _ => ?_)
    · exact Seg.w (mLw.u (mLw.u mLw.nil)) (s72_34 h)
    · refine Seg.blk (f' := (48, [.ref l0, .int l1], [])) (h' := (mSI h l0 5 ((mI h l0 5) ||| ((1 : Int32) <<< (l1 &&& (31 : Int32)))))) rfl rfl ?_
      exact Seg.ret (f1 := (49, [.ref l0, .int l1], [.int 1])) (h1 := (mSI h l0 5 ((mI h l0 5) ||| ((1 : Int32) <<< (l1 &&& (31 : Int32)))))) rfl rfl rfl rfl (fun _ q => q)
theorem s73_30 (h : mH) (l0 : Nat) : Seg 73 (30, [.ref l0, .retAddr 0], []) h (f73_30 h l0) (fun (q : Int32 × mH) (res : Option Value × mH) => res = (some (.int q.1), q.2)) := by
  unfold f73_30
  refine Seg.blk (f' := (40, [.ref l0, .retAddr 0], [])) (h' := (mSI h l0 8 ((mI h l0 8) + 1))) rfl rfl ?_
  exact Seg.ret (f1 := (41, [.ref l0, .retAddr 0], [.int 1])) (h1 := (mSI h l0 8 ((mI h l0 8) + 1))) rfl rfl rfl rfl (fun _ q => q)
theorem s73 (h : mH) (l0 : Nat) (l1 : Int32) : Seg 73 (0, [.ref l0, .int l1], []) h (f73 h l0 l1) (fun (q : Int32 × mH) (res : Option Value × mH) => res = (some (.int q.1), q.2)) := by
  unfold f73
  refine Seg.callP (f1 := (3, [.ref l0, .int l1], [.int 5, .int 0, .int l1])) (h1 := h) (cv := fun r => some (.int r)) rfl rfl rfl rfl (s17 h l1 0 5) (fun r1 => ?_)
  refine Seg.blk0 (f' := (if (r1 : Int32) = 0 then 9 else 11, [.ref l0, .int l1], [])) (h' := h) rfl rfl ?_
  refine Seg.ite (fun _ => ?_) (fun _ => ?_)
  · exact Seg.ret (f1 := (10, [.ref l0, .int l1], [.int 0])) (h1 := h) rfl rfl rfl rfl (fun _ q => q)
  · refine Seg.blk (f' := (30, [.ref l0, .int l1], [])) (h' := (mSI h ((mR h l0 0).getD 0) (Int32.toNatClampNeg l1) (if (((mI h ((mR h l0 0).getD 0) (Int32.toNatClampNeg l1)) + 2) : Int32) < 9 then ((mI h ((mR h l0 0).getD 0) (Int32.toNatClampNeg l1)) + 2) else 9))) rfl rfl ?_
    exact Seg.w (mLw.k (mLw.u mLw.nil)) (s73_30 (mSI h ((mR h l0 0).getD 0) (Int32.toNatClampNeg l1) (if (((mI h ((mR h l0 0).getD 0) (Int32.toNatClampNeg l1)) + 2) : Int32) < 9 then ((mI h ((mR h l0 0).getD 0) (Int32.toNatClampNeg l1)) + 2) else 9)) l0)
theorem s74_40 (h : mH) : Seg 74 (40, [.retAddr 0, .retAddr 0, .retAddr 0], []) h (f74_40 h) (fun (q : Int32 × mH) (res : Option Value × mH) => res = (some (.int q.1), q.2)) := by
  unfold f74_40
  exact Seg.ret (f1 := (41, [.retAddr 0, .retAddr 0, .retAddr 0], [.int 0])) (h1 := h) rfl rfl rfl rfl (fun _ q => q)
theorem s74 (h : mH) (l0 : Nat) (l1 : Int32) (l2 : Int32) : Seg 74 (0, [.ref l0, .int l1, .int l2], []) h (f74 h l0 l1 l2) (fun (q : Int32 × mH) (res : Option Value × mH) => res = (some (.int q.1), q.2)) := by
  unfold f74
  refine Seg.blk (f' := (if ((mI h l0 7) : Int32) = 0 then 7 else 40, [.ref l0, .int l1, .int l2], [])) (h' := h) rfl rfl ?_
  refine Seg.ite (fun _ => ?_) (fun _ => ?_)
  · refine Seg.callP (f1 := (12, [.ref l0, .int l1, .int l2], [.int l1, .ref ((mR h l0 3).getD 0)])) (h1 := h) (cv := fun r => some (.int r)) rfl rfl rfl rfl (s56 h ((mR h l0 3).getD 0) l1) (fun r1 => ?_)
    refine Seg.blk0 (f' := (if (r1 : Int32) = 0 then 40 else 18, [.ref l0, .int l1, .int l2], [])) (h' := h) rfl rfl ?_
    refine Seg.ite (fun _ => ?_) (fun _ => ?_)
    · exact Seg.w (mLw.u (mLw.u (mLw.u mLw.nil))) (s74_40 h)
    · refine Seg.callP (f1 := (23, [.ref l0, .int l1, .int l2], [.int l2, .ref ((mR h l0 3).getD 0)])) (h1 := h) (cv := fun r => some (.int r)) rfl rfl rfl rfl (s57 h ((mR h l0 3).getD 0) l2) (fun r2 => ?_)
      refine Seg.blk0 (f' := (if (r2 : Int32) = 0 then 40 else 29, [.ref l0, .int l1, .int l2], [])) (h' := h) rfl rfl ?_
      refine Seg.ite (fun _ => ?_) (fun _ => ?_)
      · exact Seg.w (mLw.u (mLw.u (mLw.u mLw.nil))) (s74_40 h)
      · refine Seg.callP (f1 := (34, [.ref l0, .int l1, .int l2], [.int l1, .int (mI h l0 1)])) (h1 := h) (cv := fun r => some (.int r)) rfl rfl rfl rfl (s71 h (mI h l0 1) l1) (fun r3 => ?_)
        refine Seg.blk0 (f' := (if (r3 : Int32) = 0 then 40 else 42, [.ref l0, .int l1, .int l2], [])) (h' := h) rfl rfl ?_
        refine Seg.ite (fun _ => ?_) (fun _ => ?_)
        · exact Seg.w (mLw.u (mLw.u (mLw.u mLw.nil))) (s74_40 h)
        · refine Seg.blk (f' := (54, [.ref l0, .int l1, .int l2], [])) (h' := (mSI h ((mR h l0 2).getD 0) (Int32.toNatClampNeg ((l2 * 8) + l1)) 0)) rfl rfl ?_
          exact Seg.ret (f1 := (55, [.ref l0, .int l1, .int l2], [.int 1])) (h1 := (mSI h ((mR h l0 2).getD 0) (Int32.toNatClampNeg ((l2 * 8) + l1)) 0)) rfl rfl rfl rfl (fun _ q => q)
  · exact Seg.w (mLw.u (mLw.u (mLw.u mLw.nil))) (s74_40 h)
theorem s75 (h : mH) (l0 : Nat) : Seg 75 (0, [.ref l0], []) h (f75 h l0) (fun (q : Int32 × mH) (res : Option Value × mH) => res = (some (.int q.1), q.2)) := by
  unfold f75
  refine Seg.blk (f' := (if ((mI h l0 7) : Int32) = 0 then 9 else 7, [.ref l0], [])) (h' := h) rfl rfl ?_
  refine Seg.ite (fun _ => ?_) (fun _ => ?_)
  · refine Seg.blk (f' := (14, [.ref l0], [])) (h' := (mSI h l0 7 1)) rfl rfl ?_
    exact Seg.ret (f1 := (15, [.ref l0], [.int 1])) (h1 := (mSI h l0 7 1)) rfl rfl rfl rfl (fun _ q => q)
  · exact Seg.ret (f1 := (8, [.ref l0], [.int 0])) (h1 := h) rfl rfl rfl rfl (fun _ q => q)
theorem s78_36 (h : mH) (l0 : Nat) (l1 : Int32) (l2 : Int32) (l3 : Int32) : Seg 78 (36, [.ref l0, .int l1, .int l2, .int l3], []) h (f78_36 h l0 l1 l2 l3) (Sum.elim (fun s : (Int32 × Int32) => Ev 78 (4, [.ref l0, .int l1, .int s.1, .int s.2], []) h) (fun (q : Int32) (res : Option Value × mH) => res = (some (.int q), h))) := by
  unfold f78_36
  refine Seg.blk0 (f' := (4, [.ref l0, .int l1, .int l2, .int (l3 + 1)], [])) (h' := h) rfl rfl ?_
  exact Seg.cont (fun _ q => Ev.w (mLw.k (mLw.k (mLw.k (mLw.k mLw.nil)))) q)
theorem s78_4 (h : mH) (l0 : Nat) (l1 : Int32) : ∀ (n : Nat) (s : (Int32 × Int32)), Seg 78 (4, [.ref l0, .int l1, .int s.1, .int s.2], []) h (mLoop (f78_4 h l0 l1) n s) (fun (q : Int32) (res : Option Value × mH) => res = (some (.int q), h)) := by
  refine Seg.loop (F := fun s : (Int32 × Int32) => (4, [.ref l0, .int l1, .int s.1, .int s.2], [])) (H := fun s : (Int32 × Int32) => h) (fun s => ?_)
  show Seg 78 (4, [.ref l0, .int l1, .int s.1, .int s.2], []) h _ (Sum.elim (fun s : (Int32 × Int32) => Ev 78 (4, [.ref l0, .int l1, .int s.1, .int s.2], []) h) (fun (q : Int32) (res : Option Value × mH) => res = (some (.int q), h)))
  unfold f78_4
  refine Seg.blk (f' := (if ((mI h ((mR h l0 3).getD 0) 7) : Int32) ≤ s.2 then 42 else 15, [.ref l0, .int l1, .int s.1, .int s.2], [])) (h' := h) rfl rfl ?_
  refine Seg.ite (fun _ => ?_) (fun _ => ?_)
  · refine Seg.x ?_
    exact Seg.ret (f1 := (43, [.ref l0, .int l1, .int s.1, .int s.2], [.int s.1])) (h1 := h) rfl rfl rfl rfl (fun _ q => q)
  · refine Seg.blk (f' := (if ((mI h ((mR h l0 2).getD 0) (Int32.toNatClampNeg ((s.2 * 8) + l1))) : Int32) = (-1) then 36 else 30, [.ref l0, .int l1, .int s.1, .int s.2], [])) (h' := h) rfl rfl ?_
    refine Seg.ite (fun _ => ?_) (fun _ => ?_)
    · exact Seg.w (mLw.k (mLw.k (mLw.k (mLw.k mLw.nil)))) (s78_36 h l0 l1 s.1 s.2)
    · refine Seg.blk0 (f' := (36, [.ref l0, .int l1, .int (s.1 ||| ((1 : Int32) <<< (s.2 &&& (31 : Int32)))), .int s.2], [])) (h' := h) rfl rfl ?_
      exact Seg.w (mLw.k (mLw.k (mLw.k (mLw.k mLw.nil)))) (s78_36 h l0 l1 (s.1 ||| ((1 : Int32) <<< (s.2 &&& (31 : Int32)))) s.2)
theorem s78 (h : mH) (l0 : Nat) (l1 : Int32) : Seg 78 (0, [.ref l0, .int l1, .retAddr 0, .retAddr 0], []) h (f78 h l0 l1) (fun (q : Int32) (res : Option Value × mH) => res = (some (.int q), h)) := by
  unfold f78
  refine Seg.blk0 (f' := (4, [.ref l0, .int l1, .int 0, .int 0], [])) (h' := h) rfl rfl ?_
  exact Seg.w (mLw.k (mLw.k (mLw.k (mLw.k mLw.nil)))) (s78_4 h l0 l1 mFuel (0, 0))
theorem s77_108 (h : mH) (l0 : Nat) (l1 : Int32) (l2 : Int32) (l3 : Int32) : Seg 77 (108, [.ref l0, .int l1, .int l2, .int l3, .retAddr 0], []) h (f77_108 h l0 l1 l2 l3) (Sum.elim (fun s : (Int32 × mH) => Ev 77 (8, [.ref l0, .int l1, .int l2, .int s.1, .retAddr 0], []) s.2) (fun (q : Unit × mH) (res : Option Value × mH) => res = (none, q.2))) := by
  unfold f77_108
  refine Seg.blk0 (f' := (8, [.ref l0, .int l1, .int l2, .int (l3 + 1), .retAddr 0], [])) (h' := h) rfl rfl ?_
  exact Seg.cont (fun _ q => Ev.w (mLw.k (mLw.k (mLw.k (mLw.k (mLw.k mLw.nil))))) q)
theorem s77_73 (h : mH) (l0 : Nat) (l1 : Int32) (l2 : Int32) (l3 : Int32) : Seg 77 (73, [.ref l0, .int l1, .int l2, .int l3, .retAddr 0], []) h (f77_73 h l0 l1 l2 l3) (Sum.elim (fun s : (Int32 × mH) => Ev 77 (8, [.ref l0, .int l1, .int l2, .int s.1, .retAddr 0], []) s.2) (fun (q : Unit × mH) (res : Option Value × mH) => res = (none, q.2))) := by
  unfold f77_73
  refine Seg.blk (f' := (83, [.ref l0, .int l1, .int l2, .int l3, .retAddr 0], [])) (h' := (mSI h l0 9 ((mI h l0 9) + 1))) rfl rfl ?_
  refine Seg.blk0 (f' := (108, [.ref l0, .int l1, .int l2, .int l3, .retAddr 0], [])) (h' := (mSI h l0 9 ((mI h l0 9) + 1))) rfl rfl ?_
  exact Seg.w (mLw.k (mLw.k (mLw.k (mLw.k (mLw.k mLw.nil))))) (s77_108 (mSI h l0 9 ((mI h l0 9) + 1)) l0 l1 l2 l3)
theorem s77_8 (l0 : Nat) (l1 : Int32) (l2 : Int32) : ∀ (n : Nat) (s : (Int32 × mH)), Seg 77 (8, [.ref l0, .int l1, .int l2, .int s.1, .retAddr 0], []) s.2 (mLoop (f77_8 l0 l1 l2) n s) (fun (q : Unit × mH) (res : Option Value × mH) => res = (none, q.2)) := by
  refine Seg.loop (F := fun s : (Int32 × mH) => (8, [.ref l0, .int l1, .int l2, .int s.1, .retAddr 0], [])) (H := fun s : (Int32 × mH) => s.2) (fun s => ?_)
  show Seg 77 (8, [.ref l0, .int l1, .int l2, .int s.1, .retAddr 0], []) s.2 _ (Sum.elim (fun s : (Int32 × mH) => Ev 77 (8, [.ref l0, .int l1, .int l2, .int s.1, .retAddr 0], []) s.2) (fun (q : Unit × mH) (res : Option Value × mH) => res = (none, q.2)))
  unfold f77_8
  refine Seg.blk (f' := (if ((mI s.2 ((mR s.2 l0 3).getD 0) 7) : Int32) ≤ s.1 then 114 else 19, [.ref l0, .int l1, .int l2, .int s.1, .retAddr 0], [])) (h' := s.2) rfl rfl ?_
  refine Seg.ite (fun _ => ?_) (fun _ => ?_)
  · refine Seg.x ?_
    exact Seg.ret (f1 := (114, [.ref l0, .int l1, .int l2, .int s.1, .retAddr 0], [])) (h1 := s.2) rfl rfl rfl rfl (fun _ q => q)
  · refine Seg.callP (f1 := (29, [.ref l0, .int l1, .int l2, .int s.1, .int ((s.1 * 8) + l1)], [.int s.1, .int l2])) (h1 := s.2) (cv := fun r => some (.int r)) rfl rfl rfl rfl (s71 s.2 l2 s.1) (fun r2 => ?_)
    refine Seg.blk0 (f' := (if (r2 : Int32) = 0 then 86 else 35, [.ref l0, .int l1, .int l2, .int s.1, .int ((s.1 * 8) + l1)], [])) (h' := s.2) rfl rfl ?_
    refine Seg.ite (fun _ => ?_) (fun _ => ?_)
    · refine Seg.blk (f' := (if (((mI s.2 ((mR s.2 ((mR s.2 l0 3).getD 0) 5).getD 0) (Int32.toNatClampNeg s.1)) &&& l2) : Int32) = 0 then 108 else 100, [.ref l0, .int l1, .int l2, .int s.1, .int ((s.1 * 8) + l1)], [])) (h' := s.2) rfl rfl ?_
      refine Seg.ite (fun _ => ?_) (fun _ => ?_)
      · exact Seg.w (mLw.k (mLw.k (mLw.k (mLw.k (mLw.u mLw.nil))))) (s77_108 s.2 l0 l1 l2 s.1)
      · refine Seg.blk (f' := (108, [.ref l0, .int l1, .int l2, .int s.1, .int ((s.1 * 8) + l1)], [])) (h' := (mSI s.2 ((mR s.2 l0 2).getD 0) (Int32.toNatClampNeg ((s.1 * 8) + l1)) 0)) rfl rfl ?_
        exact Seg.w (mLw.k (mLw.k (mLw.k (mLw.k (mLw.u mLw.nil))))) (s77_108 (mSI s.2 ((mR s.2 l0 2).getD 0) (Int32.toNatClampNeg ((s.1 * 8) + l1)) 0) l0 l1 l2 s.1)
    · refine Seg.blk (f' := (46, [.ref l0, .int l1, .int l2, .int s.1, .int ((s.1 * 8) + l1)], [])) (h' := (mSI s.2 ((mR s.2 l0 2).getD 0) (Int32.toNatClampNeg ((s.1 * 8) + l1)) ((mI s.2 ((mR s.2 l0 2).getD 0) (Int32.toNatClampNeg ((s.1 * 8) + l1))) + 1))) rfl rfl ?_
      refine Seg.blk (f' := (if ((mI (mSI s.2 ((mR s.2 l0 2).getD 0) (Int32.toNatClampNeg ((s.1 * 8) + l1)) ((mI s.2 ((mR s.2 l0 2).getD 0) (Int32.toNatClampNeg ((s.1 * 8) + l1))) + 1)) ((mR s.2 l0 2).getD 0) (Int32.toNatClampNeg ((s.1 * 8) + l1))) : Int32) < (mI (mSI s.2 ((mR s.2 l0 2).getD 0) (Int32.toNatClampNeg ((s.1 * 8) + l1)) ((mI s.2 ((mR s.2 l0 2).getD 0) (Int32.toNatClampNeg ((s.1 * 8) + l1))) + 1)) ((mR s.2 ((mR s.2 l0 3).getD 0) 4).getD 0) (Int32.toNatClampNeg s.1)) then 108 else 65, [.ref l0, .int l1, .int l2, .int s.1, .int ((s.1 * 8) + l1)], [])) (h' := (mSI s.2 ((mR s.2 l0 2).getD 0) (Int32.toNatClampNeg ((s.1 * 8) + l1)) ((mI s.2 ((mR s.2 l0 2).getD 0) (Int32.toNatClampNeg ((s.1 * 8) + l1))) + 1))) rfl rfl ?_
      refine Seg.ite (fun _ => ?_) (fun _ => ?_)
      · exact Seg.w (mLw.k (mLw.k (mLw.k (mLw.k (mLw.u mLw.nil))))) (s77_108 (mSI s.2 ((mR s.2 l0 2).getD 0) (Int32.toNatClampNeg ((s.1 * 8) + l1)) ((mI s.2 ((mR s.2 l0 2).getD 0) (Int32.toNatClampNeg ((s.1 * 8) + l1))) + 1)) l0 l1 l2 s.1)
      · refine Seg.blk (f' := (73, [.ref l0, .int l1, .int l2, .int s.1, .int ((s.1 * 8) + l1)], [])) (h' := (mSI (mSI s.2 ((mR s.2 l0 2).getD 0) (Int32.toNatClampNeg ((s.1 * 8) + l1)) ((mI s.2 ((mR s.2 l0 2).getD 0) (Int32.toNatClampNeg ((s.1 * 8) + l1))) + 1)) ((mR s.2 l0 2).getD 0) (Int32.toNatClampNeg ((s.1 * 8) + l1)) (-1))) rfl rfl ?_
        exact Seg.w (mLw.k (mLw.k (mLw.k (mLw.k (mLw.u mLw.nil))))) (s77_73 (mSI (mSI s.2 ((mR s.2 l0 2).getD 0) (Int32.toNatClampNeg ((s.1 * 8) + l1)) ((mI s.2 ((mR s.2 l0 2).getD 0) (Int32.toNatClampNeg ((s.1 * 8) + l1))) + 1)) ((mR s.2 l0 2).getD 0) (Int32.toNatClampNeg ((s.1 * 8) + l1)) (-1)) l0 l1 l2 s.1)
theorem s77 (h : mH) (l0 : Nat) (l1 : Int32) : Seg 77 (0, [.ref l0, .int l1, .retAddr 0, .retAddr 0, .retAddr 0], []) h (f77 h l0 l1) (fun (q : Unit × mH) (res : Option Value × mH) => res = (none, q.2)) := by
  unfold f77
  refine Seg.callP (f1 := (2, [.ref l0, .int l1, .retAddr 0, .retAddr 0, .retAddr 0], [.int l1, .ref l0])) (h1 := h) (cv := fun r => some (.int r)) rfl rfl rfl rfl (s78 h l0 l1) (fun r1 => ?_)
  refine Seg.blk0 (f' := (8, [.ref l0, .int l1, .int r1, .int 0, .retAddr 0], [])) (h' := h) rfl rfl ?_
  exact Seg.w (mLw.k (mLw.k (mLw.k (mLw.k (mLw.k mLw.nil))))) (s77_8 l0 l1 r1 mFuel (0, h))
theorem s79_26 (h : mH) : Seg 79 (26, [.retAddr 0], []) h (f79_26 h) (fun (q : Unit × mH) (res : Option Value × mH) => res = (none, q.2)) := by
  unfold f79_26
  exact Seg.ret (f1 := (26, [.retAddr 0], [])) (h1 := h) rfl rfl rfl rfl (fun _ q => q)
theorem s79 (h : mH) (l0 : Nat) : Seg 79 (0, [.ref l0], []) h (f79 h l0) (fun (q : Unit × mH) (res : Option Value × mH) => res = (none, q.2)) := by
  unfold f79
  refine Seg.blk (f' := (5, [.ref l0], [])) (h' := (mSI h l0 7 0)) rfl rfl ?_
  refine Seg.blk (f' := (16, [.ref l0], [])) (h' := (mSI (mSI h l0 7 0) l0 6 (mI (mSI h l0 7 0) ((mR h l0 3).getD 0) 8))) rfl rfl ?_
  refine Seg.blk (f' := (26, [.ref l0], [])) (h' := (mSI (mSI (mSI h l0 7 0) l0 6 (mI (mSI h l0 7 0) ((mR h l0 3).getD 0) 8)) l0 4 ((mI (mSI (mSI h l0 7 0) l0 6 (mI (mSI h l0 7 0) ((mR h l0 3).getD 0) 8)) l0 4) + 1))) rfl rfl ?_
  exact Seg.w (mLw.u mLw.nil) (s79_26 (mSI (mSI (mSI h l0 7 0) l0 6 (mI (mSI h l0 7 0) ((mR h l0 3).getD 0) 8)) l0 4 ((mI (mSI (mSI h l0 7 0) l0 6 (mI (mSI h l0 7 0) ((mR h l0 3).getD 0) 8)) l0 4) + 1)))
theorem s76_2 (l0 : Nat) : ∀ (n : Nat) (s : (Int32 × mH)), Seg 76 (2, [.ref l0, .int s.1], []) s.2 (mLoop (f76_2 l0) n s) (fun (q : Unit × mH) (res : Option Value × mH) => res = (none, q.2)) := by
  refine Seg.loop (F := fun s : (Int32 × mH) => (2, [.ref l0, .int s.1], [])) (H := fun s : (Int32 × mH) => s.2) (fun s => ?_)
  show Seg 76 (2, [.ref l0, .int s.1], []) s.2 _ (Sum.elim (fun s : (Int32 × mH) => Ev 76 (2, [.ref l0, .int s.1], []) s.2) (fun (q : Unit × mH) (res : Option Value × mH) => res = (none, q.2)))
  unfold f76_2
  refine Seg.blk (f' := (if ((mI s.2 ((mR s.2 l0 3).getD 0) 6) : Int32) ≤ s.1 then 24 else 13, [.ref l0, .int s.1], [])) (h' := s.2) rfl rfl ?_
  refine Seg.ite (fun _ => ?_) (fun _ => ?_)
  · refine Seg.x ?_
    refine Seg.call (f1 := (25, [.ref l0, .int s.1], [.ref l0])) (h1 := s.2) (cv := fun _ => none) rfl rfl rfl rfl (s79 s.2 l0) (fun r1 => ?_)
    exact Seg.ret (f1 := (28, [.ref l0, .int s.1], [])) (h1 := r1.2) rfl rfl rfl rfl (fun _ q => q)
  · refine Seg.call (f1 := (15, [.ref l0, .int s.1], [.int s.1, .ref l0])) (h1 := s.2) (cv := fun _ => none) rfl rfl rfl rfl (s77 s.2 l0 s.1) (fun r2 => ?_)
    refine Seg.blk0 (f' := (2, [.ref l0, .int (s.1 + 1)], [])) (h' := r2.2) rfl rfl ?_
    exact Seg.cont (fun _ q => Ev.w (mLw.k (mLw.k mLw.nil)) q)
theorem s76 (h : mH) (l0 : Nat) : Seg 76 (0, [.ref l0, .retAddr 0], []) h (f76 h l0) (fun (q : Unit × mH) (res : Option Value × mH) => res = (none, q.2)) := by
  unfold f76
  refine Seg.blk0 (f' := (2, [.ref l0, .int 0], [])) (h' := h) rfl rfl ?_
  exact Seg.w (mLw.k (mLw.k mLw.nil)) (s76_2 l0 mFuel (0, h))
theorem s67 (h : mH) (l0 : Nat) (l1 : Int32) (l2 : Int32) (l3 : Int32) : Seg 67 (0, [.ref l0, .int l1, .int l2, .int l3], []) h (f67 h l0 l1 l2 l3) (fun (q : Int32 × mH) (res : Option Value × mH) => res = (some (.int q.1), q.2)) := by
  unfold f67
  refine Seg.blk0 (f' := (if (l1 : Int32) = 0 then 40 else if (l1 : Int32) = 1 then 46 else if (l1 : Int32) = 2 then 52 else if (l1 : Int32) = 3 then 58 else if (l1 : Int32) = 4 then 65 else if (l1 : Int32) = 5 then 70 else 76, [.ref l0, .int l1, .int l2, .int l3], [])) (h' := h) rfl rfl ?_
  refine Seg.ite (fun _ => ?_) (fun _ => ?_)
  · refine Seg.call (f1 := (42, [.ref l0, .int l1, .int l2, .int l3], [.int l2, .ref l0])) (h1 := h) (cv := fun r => some (.int r)) rfl rfl rfl rfl (s68 h l0 l2) (fun r1 => ?_)
    exact Seg.ret (f1 := (45, [.ref l0, .int l1, .int l2, .int l3], [.int r1.1])) (h1 := r1.2) rfl rfl rfl rfl (fun _ q => q)
  refine Seg.ite (fun _ => ?_) (fun _ => ?_)
  · refine Seg.call (f1 := (48, [.ref l0, .int l1, .int l2, .int l3], [.int l2, .ref l0])) (h1 := h) (cv := fun r => some (.int r)) rfl rfl rfl rfl (s72 h l0 l2) (fun r2 => ?_)
    exact Seg.ret (f1 := (51, [.ref l0, .int l1, .int l2, .int l3], [.int r2.1])) (h1 := r2.2) rfl rfl rfl rfl (fun _ q => q)
  refine Seg.ite (fun _ => ?_) (fun _ => ?_)
  · refine Seg.call (f1 := (54, [.ref l0, .int l1, .int l2, .int l3], [.int l2, .ref l0])) (h1 := h) (cv := fun r => some (.int r)) rfl rfl rfl rfl (s73 h l0 l2) (fun r3 => ?_)
    exact Seg.ret (f1 := (57, [.ref l0, .int l1, .int l2, .int l3], [.int r3.1])) (h1 := r3.2) rfl rfl rfl rfl (fun _ q => q)
  refine Seg.ite (fun _ => ?_) (fun _ => ?_)
  · refine Seg.call (f1 := (61, [.ref l0, .int l1, .int l2, .int l3], [.int l3, .int l2, .ref l0])) (h1 := h) (cv := fun r => some (.int r)) rfl rfl rfl rfl (s74 h l0 l2 l3) (fun r4 => ?_)
    exact Seg.ret (f1 := (64, [.ref l0, .int l1, .int l2, .int l3], [.int r4.1])) (h1 := r4.2) rfl rfl rfl rfl (fun _ q => q)
  refine Seg.ite (fun _ => ?_) (fun _ => ?_)
  · refine Seg.call (f1 := (66, [.ref l0, .int l1, .int l2, .int l3], [.ref l0])) (h1 := h) (cv := fun r => some (.int r)) rfl rfl rfl rfl (s75 h l0) (fun r5 => ?_)
    exact Seg.ret (f1 := (69, [.ref l0, .int l1, .int l2, .int l3], [.int r5.1])) (h1 := r5.2) rfl rfl rfl rfl (fun _ q => q)
  refine Seg.ite (fun _ => ?_) (fun _ => ?_)
  · refine Seg.call (f1 := (71, [.ref l0, .int l1, .int l2, .int l3], [.ref l0])) (h1 := h) (cv := fun _ => none) rfl rfl rfl rfl (s76 h l0) (fun r6 => ?_)
    exact Seg.ret (f1 := (75, [.ref l0, .int l1, .int l2, .int l3], [.int 1])) (h1 := r6.2) rfl rfl rfl rfl (fun _ q => q)
  · exact Seg.ret (f1 := (77, [.ref l0, .int l1, .int l2, .int l3], [.int 0])) (h1 := h) rfl rfl rfl rfl (fun _ q => q)
theorem s62_92 (h : mH) (l2 : Nat) (l3 : Int32) : Seg 62 (92, [.retAddr 0, .retAddr 0, .ref l2, .int l3, .retAddr 0], []) h (f62_92 h l2 l3) (fun (q : Int32 × mH) (res : Option Value × mH) => res = (some (.int q.1), q.2)) := by
  unfold f62_92
  exact Seg.ret (f1 := (100, [.retAddr 0, .retAddr 0, .ref l2, .int l3, .retAddr 0], [.int (if ((mI h l2 3) : Int32) < l3 then (mI h l2 3) else l3)])) (h1 := h) rfl rfl rfl rfl (fun _ q => q)
theorem s62_82 (h : mH) (l0 : Nat) (l2 : Nat) (l3 : Int32) (l4 : Int32) : Seg 62 (82, [.ref l0, .retAddr 0, .ref l2, .int l3, .int l4], []) h (f62_82 h l0 l2 l3 l4) (Sum.elim (fun s : (Int32 × mH) => Ev 62 (12, [.ref l0, .retAddr 0, .ref l2, .int l3, .int s.1], []) s.2) (fun (q : Int32 × mH) (res : Option Value × mH) => res = (some (.int q.1), q.2))) := by
  unfold f62_82
  refine Seg.call (f1 := (83, [.ref l0, .retAddr 0, .ref l2, .int l3, .int l4], [.ref l0])) (h1 := h) (cv := fun _ => none) rfl rfl rfl rfl (s64 h l0) (fun r4 => ?_)
  refine Seg.blk0 (f' := (12, [.ref l0, .retAddr 0, .ref l2, .int l3, .int (l4 + 1)], [])) (h' := r4.2) rfl rfl ?_
  exact Seg.cont (fun _ q => Ev.w (mLw.k (mLw.k (mLw.k (mLw.k (mLw.k mLw.nil))))) q)
theorem s62_12 (l0 : Nat) (l2 : Nat) (l3 : Int32) : ∀ (n : Nat) (s : (Int32 × mH)), Seg 62 (12, [.ref l0, .retAddr 0, .ref l2, .int l3, .int s.1], []) s.2 (mLoop (f62_12 l0 l2 l3) n s) (fun (q : Int32 × mH) (res : Option Value × mH) => res = (some (.int q.1), q.2)) := by
  refine Seg.loop (F := fun s : (Int32 × mH) => (12, [.ref l0, .retAddr 0, .ref l2, .int l3, .int s.1], [])) (H := fun s : (Int32 × mH) => s.2) (fun s => ?_)
  show Seg 62 (12, [.ref l0, .retAddr 0, .ref l2, .int l3, .int s.1], []) s.2 _ (Sum.elim (fun s : (Int32 × mH) => Ev 62 (12, [.ref l0, .retAddr 0, .ref l2, .int l3, .int s.1], []) s.2) (fun (q : Int32 × mH) (res : Option Value × mH) => res = (some (.int q.1), q.2)))
  unfold f62_12
  refine Seg.blk0 (f' := (if (l3 : Int32) ≤ s.1 then 92 else 18, [.ref l0, .retAddr 0, .ref l2, .int l3, .int s.1], [])) (h' := s.2) rfl rfl ?_
  refine Seg.ite (fun _ => ?_) (fun _ => ?_)
  · refine Seg.x ?_
    exact Seg.w (mLw.u (mLw.k (mLw.k (mLw.k (mLw.u mLw.nil))))) (s62_92 s.2 l2 l3)
  · refine Seg.blk (f' := (if ((mI s.2 l2 3) : Int32) ≤ s.1 then 92 else 27, [.ref l0, .retAddr 0, .ref l2, .int l3, .int s.1], [])) (h' := s.2) rfl rfl ?_
    refine Seg.ite (fun _ => ?_) (fun _ => ?_)
    · refine Seg.x ?_
      exact Seg.w (mLw.u (mLw.k (mLw.k (mLw.k (mLw.u mLw.nil))))) (s62_92 s.2 l2 l3)
    · refine Seg.call (f1 := (49, [.ref l0, .retAddr 0, .ref l2, .int l3, .int s.1], [.int (mI s.2 ((mR s.2 l2 2).getD 0) (Int32.toNatClampNeg s.1)), .int (mI s.2 ((mR s.2 l2 1).getD 0) (Int32.toNatClampNeg s.1)), .int (mI s.2 ((mR s.2 l2 0).getD 0) (Int32.toNatClampNeg s.1)), .ref l0])) (h1 := s.2) (cv := fun r => some (.int r)) rfl rfl rfl rfl (s67 s.2 l0 (mI s.2 ((mR s.2 l2 0).getD 0) (Int32.toNatClampNeg s.1)) (mI s.2 ((mR s.2 l2 1).getD 0) (Int32.toNatClampNeg s.1)) (mI s.2 ((mR s.2 l2 2).getD 0) (Int32.toNatClampNeg s.1))) (fun r3 => ?_)
      refine Seg.blk0 (f' := (if (r3.1 : Int32) = 0 then 55 else 58, [.ref l0, .retAddr 0, .ref l2, .int l3, .int s.1], [])) (h' := r3.2) rfl rfl ?_
      refine Seg.ite (fun _ => ?_) (fun _ => ?_)
      · refine Seg.x ?_
        exact Seg.ret (f1 := (57, [.ref l0, .retAddr 0, .ref l2, .int l3, .int s.1], [.int s.1])) (h1 := r3.2) rfl rfl rfl rfl (fun _ q => q)
      · refine Seg.blk (f' := (if ((mI r3.2 ((mR r3.2 l2 0).getD 0) (Int32.toNatClampNeg s.1)) : Int32) = 0 then 68 else 82, [.ref l0, .retAddr 0, .ref l2, .int l3, .int s.1], [])) (h' := r3.2) rfl rfl ?_
        refine Seg.ite (fun _ => ?_) (fun _ => ?_)
        · refine Seg.blk (f' := (if ((mI r3.2 l0 12) : Int32) = (-1) then 76 else 82, [.ref l0, .retAddr 0, .ref l2, .int l3, .int s.1], [])) (h' := r3.2) rfl rfl ?_
          refine Seg.ite (fun _ => ?_) (fun _ => ?_)
          · refine Seg.blk (f' := (82, [.ref l0, .retAddr 0, .ref l2, .int l3, .int s.1], [])) (h' := (mSI r3.2 l0 12 s.1)) rfl rfl ?_
            exact Seg.w (mLw.k (mLw.k (mLw.k (mLw.k (mLw.k mLw.nil))))) (s62_82 (mSI r3.2 l0 12 s.1) l0 l2 l3 s.1)
          · exact Seg.w (mLw.k (mLw.k (mLw.k (mLw.k (mLw.k mLw.nil))))) (s62_82 r3.2 l0 l2 l3 s.1)
        · exact Seg.w (mLw.k (mLw.k (mLw.k (mLw.k (mLw.k mLw.nil))))) (s62_82 r3.2 l0 l2 l3 s.1)
theorem s62 (h : mH) (l0 : Nat) (l1 : Nat) (l2 : Nat) (l3 : Int32) : Seg 62 (0, [.ref l0, .ref l1, .ref l2, .int l3, .retAddr 0], []) h (f62 h l0 l1 l2 l3) (fun (q : Int32 × mH) (res : Option Value × mH) => res = (some (.int q.1), q.2)) := by
  unfold f62
  refine Seg.call (f1 := (2, [.ref l0, .ref l1, .ref l2, .int l3, .retAddr 0], [.ref l1, .ref l0])) (h1 := h) (cv := fun _ => none) rfl rfl rfl rfl (s63 h l0 l1) (fun r1 => ?_)
  refine Seg.call (f1 := (6, [.ref l0, .ref l1, .ref l2, .int l3, .retAddr 0], [.ref l0])) (h1 := r1.2) (cv := fun _ => none) rfl rfl rfl rfl (s64 r1.2 l0) (fun r2 => ?_)
  refine Seg.blk0 (f' := (12, [.ref l0, .ref l1, .ref l2, .int l3, .int 0], [])) (h' := r2.2) rfl rfl ?_
  exact Seg.w (mLw.k (mLw.u (mLw.k (mLw.k (mLw.k mLw.nil))))) (s62_12 l0 l2 l3 mFuel (0, r2.2))
theorem s61_28 (h : mH) : Seg 61 (28, [.retAddr 0, .retAddr 0, .retAddr 0, .retAddr 0, .retAddr 0], []) h (f61_28 h) (fun (q : Int32 × mH) (res : Option Value × mH) => res = (some (.int q.1), q.2)) := by
  unfold f61_28
  exact Seg.ret (f1 := (29, [.retAddr 0, .retAddr 0, .retAddr 0, .retAddr 0, .retAddr 0], [.int (-1)])) (h1 := h) rfl rfl rfl rfl (fun _ q => q)
theorem s61 (h : mH) (l0 : Nat) (l1 : Int32) (l2 : Int32) : Seg 61 (0, [.ref l0, .int l1, .int l2, .retAddr 0, .retAddr 0], []) h (f61 h l0 l1 l2) (fun (q : Int32 × mH) (res : Option Value × mH) => res = (some (.int q.1), q.2)) := by
  unfold f61
  refine Seg.callP (f1 := (5, [.ref l0, .int l1, .int l2, .retAddr 0, .retAddr 0], [.int l1, .ref ((mR h l0 0).getD 0)])) (h1 := h) (cv := fun r => some (va_rf r)) rfl rfl rfl rfl (s53 h ((mR h l0 0).getD 0) l1) (fun r1 => ?_)
  cases r1 with
  | none =>
    refine Seg.callP (f1 := (14, [.ref l0, .int l1, .int l2, .null, .retAddr 0], [.int l2, .ref ((mR h l0 0).getD 0)])) (h1 := h) (cv := fun r => some (va_rf r)) rfl rfl rfl rfl (s59 h ((mR h l0 0).getD 0) l2) (fun r2 => ?_)
    cases r2 with
    | none =>
      refine Seg.blk0 (f' := (28, [.ref l0, .int l1, .int l2, .null, .null], [])) (h' := h) rfl rfl ?_
      exact Seg.w (mLw.u (mLw.u (mLw.u (mLw.u (mLw.u mLw.nil))))) (s61_28 h)
    | some a2 =>
      refine Seg.blk0 (f' := (28, [.ref l0, .int l1, .int l2, .null, .ref a2], [])) (h' := h) rfl rfl ?_
      exact Seg.w (mLw.u (mLw.u (mLw.u (mLw.u (mLw.u mLw.nil))))) (s61_28 h)
  | some a1 =>
    refine Seg.callP (f1 := (14, [.ref l0, .int l1, .int l2, .ref a1, .retAddr 0], [.int l2, .ref ((mR h l0 0).getD 0)])) (h1 := h) (cv := fun r => some (va_rf r)) rfl rfl rfl rfl (s59 h ((mR h l0 0).getD 0) l2) (fun r3 => ?_)
    cases r3 with
    | none =>
      refine Seg.blk0 (f' := (23, [.ref l0, .int l1, .int l2, .ref a1, .null], [])) (h' := h) rfl rfl ?_
      refine Seg.blk0 (f' := (28, [.ref l0, .int l1, .int l2, .ref a1, .null], [])) (h' := h) rfl rfl ?_
      exact Seg.w (mLw.u (mLw.u (mLw.u (mLw.u (mLw.u mLw.nil))))) (s61_28 h)
    | some a3 =>
      refine Seg.blk0 (f' := (23, [.ref l0, .int l1, .int l2, .ref a1, .ref a3], [])) (h' := h) rfl rfl ?_
      refine Seg.blk0 (f' := (30, [.ref l0, .int l1, .int l2, .ref a1, .ref a3], [])) (h' := h) rfl rfl ?_
      refine Seg.call (f1 := (42, [.ref l0, .int l1, .int l2, .ref a1, .ref a3], [.int (mI h a3 3), .ref a3, .ref a1, .ref ((mR h l0 4).getD 0)])) (h1 := h) (cv := fun r => some (.int r)) rfl rfl rfl rfl (s62 h ((mR h l0 4).getD 0) a1 a3 (mI h a3 3)) (fun r4 => ?_)
      exact Seg.ret (f1 := (45, [.ref l0, .int l1, .int l2, .ref a1, .ref a3], [.int r4.1])) (h1 := r4.2) rfl rfl rfl rfl (fun _ q => q)
theorem s82_97 (h : mH) : Seg 82 (97, [.retAddr 0, .retAddr 0, .retAddr 0, .retAddr 0], []) h (f82_97 h) (fun (q : Int32) (res : Option Value × mH) => res = (some (.int q), h)) := by
  unfold f82_97
  exact Seg.ret (f1 := (99, [.retAddr 0, .retAddr 0, .retAddr 0, .retAddr 0], [.int (-2)])) (h1 := h) rfl rfl rfl rfl (fun _ q => q)
theorem s82_50 (h : mH) (l0 : Nat) (l1 : Int32) : Seg 82 (50, [.ref l0, .int l1, .retAddr 0, .retAddr 0], []) h (f82_50 h l0 l1) (fun (q : Int32) (res : Option Value × mH) => res = (some (.int q), h)) := by
  unfold f82_50
  refine Seg.blk0 (f' := (if (100 : Int32) ≤ l1 then 59 else 56, [.ref l0, .int l1, .retAddr 0, .retAddr 0], [])) (h' := h) rfl rfl ?_
  refine Seg.ite (fun _ => ?_) (fun _ => ?_)
  · refine Seg.callP (f1 := (80, [.ref l0, .int l1, .int ((l1 - 100) / 8), .int ((l1 - 100) - (l1 - 100) / 8 * 8)], [.int ((l1 - 100) / 8), .ref ((mR h l0 3).getD 0)])) (h1 := h) (cv := fun r => some (.int r)) rfl rfl rfl rfl (s57 h ((mR h l0 3).getD 0) ((l1 - 100) / 8)) (fun r2 => ?_)
    refine Seg.blk0 (f' := (if (r2 : Int32) = 0 then 97 else 86, [.ref l0, .int l1, .int ((l1 - 100) / 8), .int ((l1 - 100) - (l1 - 100) / 8 * 8)], [])) (h' := h) rfl rfl ?_
    refine Seg.ite (fun _ => ?_) (fun _ => ?_)
    · exact Seg.w (mLw.u (mLw.u (mLw.u (mLw.u mLw.nil)))) (s82_97 h)
    · refine Seg.callP (f1 := (91, [.ref l0, .int l1, .int ((l1 - 100) / 8), .int ((l1 - 100) - (l1 - 100) / 8 * 8)], [.int ((l1 - 100) - (l1 - 100) / 8 * 8), .ref ((mR h l0 3).getD 0)])) (h1 := h) (cv := fun r => some (.int r)) rfl rfl rfl rfl (s56 h ((mR h l0 3).getD 0) ((l1 - 100) - (l1 - 100) / 8 * 8)) (fun r3 => ?_)
      refine Seg.blk0 (f' := (if (r3 : Int32) = 0 then 97 else 100, [.ref l0, .int l1, .int ((l1 - 100) / 8), .int ((l1 - 100) - (l1 - 100) / 8 * 8)], [])) (h' := h) rfl rfl ?_
      refine Seg.ite (fun _ => ?_) (fun _ => ?_)
      · exact Seg.w (mLw.u (mLw.u (mLw.u (mLw.u mLw.nil)))) (s82_97 h)
      · exact Seg.ret (f1 := (111, [.ref l0, .int l1, .int ((l1 - 100) / 8), .int ((l1 - 100) - (l1 - 100) / 8 * 8)], [.int (mI h ((mR h l0 2).getD 0) (Int32.toNatClampNeg ((((l1 - 100) / 8) * 8) + ((l1 - 100) - (l1 - 100) / 8 * 8))))])) (h1 := h) rfl rfl rfl rfl (fun _ q => q)
  · exact Seg.ret (f1 := (58, [.ref l0, .int l1, .retAddr 0, .retAddr 0], [.int (-2)])) (h1 := h) rfl rfl rfl rfl (fun _ q => q)
theorem s82 (h : mH) (l0 : Nat) (l1 : Int32) : Seg 82 (0, [.ref l0, .int l1, .retAddr 0, .retAddr 0], []) h (f82 h l0 l1) (fun (q : Int32) (res : Option Value × mH) => res = (some (.int q), h)) := by
  unfold f82
  refine Seg.callP (f1 := (5, [.ref l0, .int l1, .retAddr 0, .retAddr 0], [.int 15, .int 10, .int l1])) (h1 := h) (cv := fun r => some (.int r)) rfl rfl rfl rfl (s17 h l1 10 15) (fun r1 => ?_)
  refine Seg.blk0 (f' := (if (r1 : Int32) = 0 then 21 else 11, [.ref l0, .int l1, .retAddr 0, .retAddr 0], [])) (h' := h) rfl rfl ?_
  refine Seg.ite (fun _ => ?_) (fun _ => ?_)
  · refine Seg.blk0 (f' := (if (l1 : Int32) < 20 then 50 else 27, [.ref l0, .int l1, .retAddr 0, .retAddr 0], [])) (h' := h) rfl rfl ?_
    refine Seg.ite (fun _ => ?_) (fun _ => ?_)
    · exact Seg.w (mLw.k (mLw.k (mLw.k (mLw.k mLw.nil)))) (s82_50 h l0 l1)
    · refine Seg.callP (f1 := (35, [.ref l0, .int l1, .retAddr 0, .retAddr 0], [.int (l1 - 20), .ref ((mR h l0 3).getD 0)])) (h1 := h) (cv := fun r => some (.int r)) rfl rfl rfl rfl (s57 h ((mR h l0 3).getD 0) (l1 - 20)) (fun r4 => ?_)
      refine Seg.blk0 (f' := (if (r4 : Int32) = 0 then 50 else 41, [.ref l0, .int l1, .retAddr 0, .retAddr 0], [])) (h' := h) rfl rfl ?_
      refine Seg.ite (fun _ => ?_) (fun _ => ?_)
      · exact Seg.w (mLw.k (mLw.k (mLw.k (mLw.k mLw.nil)))) (s82_50 h l0 l1)
      · refine Seg.callP (f1 := (46, [.ref l0, .int l1, .retAddr 0, .retAddr 0], [.int (l1 - 20), .ref l0])) (h1 := h) (cv := fun r => some (.int r)) rfl rfl rfl rfl (s65 h l0 (l1 - 20)) (fun r5 => ?_)
        exact Seg.ret (f1 := (49, [.ref l0, .int l1, .retAddr 0, .retAddr 0], [.int r5])) (h1 := h) rfl rfl rfl rfl (fun _ q => q)
  · exact Seg.ret (f1 := (20, [.ref l0, .int l1, .retAddr 0, .retAddr 0], [.int (mI h ((mR h l0 0).getD 0) (Int32.toNatClampNeg (l1 - 10)))])) (h1 := h) rfl rfl rfl rfl (fun _ q => q)
theorem s81_72 (h : mH) (q0 : Int32) : Seg 81 (72, [.retAddr 0, .retAddr 0], [.int q0]) h (f81_72 h q0) (fun (q : Int32) (res : Option Value × mH) => res = (some (.int q), h)) := by
  unfold f81_72
  exact Seg.ret (f1 := (72, [.retAddr 0, .retAddr 0], [.int q0])) (h1 := h) rfl rfl rfl rfl (fun _ q => q)
theorem s81 (h : mH) (l0 : Nat) (l1 : Int32) : Seg 81 (0, [.ref l0, .int l1], []) h (f81 h l0 l1) (fun (q : Int32) (res : Option Value × mH) => res = (some (.int q), h)) := by
  unfold f81
  refine Seg.blk0 (f' := (if (l1 : Int32) = 0 then 40 else if (l1 : Int32) = 1 then 45 else if (l1 : Int32) = 2 then 50 else if (l1 : Int32) = 3 then 55 else if (l1 : Int32) = 4 then 60 else if (l1 : Int32) = 5 then 73 else 90, [.ref l0, .int l1], [])) (h' := h) rfl rfl ?_
  refine Seg.ite (fun _ => ?_) (fun _ => ?_)
  · exact Seg.ret (f1 := (44, [.ref l0, .int l1], [.int (mI h l0 4)])) (h1 := h) rfl rfl rfl rfl (fun _ q => q)
  refine Seg.ite (fun _ => ?_) (fun _ => ?_)
  · exact Seg.ret (f1 := (49, [.ref l0, .int l1], [.int (mI h l0 1)])) (h1 := h) rfl rfl rfl rfl (fun _ q => q)
  refine Seg.ite (fun _ => ?_) (fun _ => ?_)
  · exact Seg.ret (f1 := (54, [.ref l0, .int l1], [.int (mI h l0 5)])) (h1 := h) rfl rfl rfl rfl (fun _ q => q)
  refine Seg.ite (fun _ => ?_) (fun _ => ?_)
  · exact Seg.ret (f1 := (59, [.ref l0, .int l1], [.int (mI h l0 6)])) (h1 := h) rfl rfl rfl rfl (fun _ q => q)
  refine Seg.ite (fun _ => ?_) (fun _ => ?_)
  · refine Seg.blk (f' := (if ((mI h l0 7) : Int32) = 0 then 71 else 67, [.ref l0, .int l1], [])) (h' := h) rfl rfl ?_
    refine Seg.ite (fun _ => ?_) (fun _ => ?_)
    · refine Seg.blk0 (f' := (72, [.ref l0, .int l1], [.int 0])) (h' := h) rfl rfl ?_
      exact Seg.w (mLw.u (mLw.u mLw.nil)) (s81_72 h 0)
    · refine Seg.blk0 (f' := (72, [.ref l0, .int l1], [.int 1])) (h' := h) rfl rfl ?_
      exact Seg.w (mLw.u (mLw.u mLw.nil)) (s81_72 h 1)
  refine Seg.ite (fun _ => ?_) (fun _ => ?_)
  · refine Seg.callP (f1 := (86, [.ref l0, .int l1], [.int ((mI h l0 1) ||| (mI h l0 5)), .ref ((mR h l0 3).getD 0)])) (h1 := h) (cv := fun r => some (.int r)) rfl rfl rfl rfl (s70 h ((mR h l0 3).getD 0) ((mI h l0 1) ||| (mI h l0 5))) (fun r1 => ?_)
    exact Seg.ret (f1 := (89, [.ref l0, .int l1], [.int r1])) (h1 := h) rfl rfl rfl rfl (fun _ q => q)
  · refine Seg.callP (f1 := (92, [.ref l0, .int l1], [.int l1, .ref l0])) (h1 := h) (cv := fun r => some (.int r)) rfl rfl rfl rfl (s82 h l0 l1) (fun r2 => ?_)
    exact Seg.ret (f1 := (95, [.ref l0, .int l1], [.int r2])) (h1 := h) rfl rfl rfl rfl (fun _ q => q)
theorem s80_43 (h : mH) : Seg 80 (43, [.retAddr 0, .retAddr 0, .retAddr 0, .retAddr 0, .retAddr 0, .retAddr 0, .retAddr 0], []) h (f80_43 h) (fun (q : Int32 × mH) (res : Option Value × mH) => res = (some (.int q.1), q.2)) := by
  unfold f80_43
  exact Seg.ret (f1 := (45, [.retAddr 0, .retAddr 0, .retAddr 0, .retAddr 0, .retAddr 0, .retAddr 0, .retAddr 0], [.int (-2)])) (h1 := h) rfl rfl rfl rfl (fun _ q => q)
theorem s80_76 (h : mH) (q0 : Int32) : Seg 80 (76, [.retAddr 0, .retAddr 0, .retAddr 0, .retAddr 0, .retAddr 0, .retAddr 0, .retAddr 0], [.int q0]) h (f80_76 h q0) (fun (q : Int32 × mH) (res : Option Value × mH) => res = (some (.int q.1), q.2)) := by
  unfold f80_76
  exact Seg.ret (f1 := (76, [.retAddr 0, .retAddr 0, .retAddr 0, .retAddr 0, .retAddr 0, .retAddr 0, .retAddr 0], [.int q0])) (h1 := h) rfl rfl rfl rfl (fun _ q => q)
theorem s80 (h : mH) (l0 : Nat) (l1 : Int32) (l2 : Int32) (l3 : Int32) (l4 : Int32) : Seg 80 (0, [.ref l0, .int l1, .int l2, .int l3, .int l4, .retAddr 0, .retAddr 0], []) h (f80 h l0 l1 l2 l3 l4) (fun (q : Int32 × mH) (res : Option Value × mH) => res = (some (.int q.1), q.2)) := by
  unfold f80
  refine Seg.callP (f1 := (5, [.ref l0, .int l1, .int l2, .int l3, .int l4, .retAddr 0, .retAddr 0], [.int l1, .ref ((mR h l0 0).getD 0)])) (h1 := h) (cv := fun r => some (va_rf r)) rfl rfl rfl rfl (s53 h ((mR h l0 0).getD 0) l1) (fun r1 => ?_)
  cases r1 with
  | none =>
    refine Seg.callP (f1 := (15, [.ref l0, .int l1, .int l2, .int l3, .int l4, .null, .retAddr 0], [.int l2, .ref ((mR h l0 0).getD 0)])) (h1 := h) (cv := fun r => some (va_rf r)) rfl rfl rfl rfl (s59 h ((mR h l0 0).getD 0) l2) (fun r2 => ?_)
    cases r2 with
    | none =>
      refine Seg.blk0 (f' := (43, [.ref l0, .int l1, .int l2, .int l3, .int l4, .null, .null], [])) (h' := h) rfl rfl ?_
      exact Seg.w (mLw.u (mLw.u (mLw.u (mLw.u (mLw.u (mLw.u (mLw.u mLw.nil))))))) (s80_43 h)
    | some a2 =>
      refine Seg.blk0 (f' := (43, [.ref l0, .int l1, .int l2, .int l3, .int l4, .null, .ref a2], [])) (h' := h) rfl rfl ?_
      exact Seg.w (mLw.u (mLw.u (mLw.u (mLw.u (mLw.u (mLw.u (mLw.u mLw.nil))))))) (s80_43 h)
  | some a1 =>
    refine Seg.callP (f1 := (15, [.ref l0, .int l1, .int l2, .int l3, .int l4, .ref a1, .retAddr 0], [.int l2, .ref ((mR h l0 0).getD 0)])) (h1 := h) (cv := fun r => some (va_rf r)) rfl rfl rfl rfl (s59 h ((mR h l0 0).getD 0) l2) (fun r3 => ?_)
    cases r3 with
    | none =>
      refine Seg.blk0 (f' := (25, [.ref l0, .int l1, .int l2, .int l3, .int l4, .ref a1, .null], [])) (h' := h) rfl rfl ?_
      refine Seg.blk0 (f' := (43, [.ref l0, .int l1, .int l2, .int l3, .int l4, .ref a1, .null], [])) (h' := h) rfl rfl ?_
      exact Seg.w (mLw.u (mLw.u (mLw.u (mLw.u (mLw.u (mLw.u (mLw.u mLw.nil))))))) (s80_43 h)
    | some a3 =>
      refine Seg.blk0 (f' := (25, [.ref l0, .int l1, .int l2, .int l3, .int l4, .ref a1, .ref a3], [])) (h' := h) rfl rfl ?_
      refine Seg.blk0 (f' := (30, [.ref l0, .int l1, .int l2, .int l3, .int l4, .ref a1, .ref a3], [])) (h' := h) rfl rfl ?_
      refine Seg.callP (f1 := (37, [.ref l0, .int l1, .int l2, .int l3, .int l4, .ref a1, .ref a3], [.int (mI h a3 3), .int 0, .int l3])) (h1 := h) (cv := fun r => some (.int r)) rfl rfl rfl rfl (s17 h l3 0 (mI h a3 3)) (fun r4 => ?_)
      refine Seg.blk0 (f' := (if (r4 : Int32) = 0 then 43 else 46, [.ref l0, .int l1, .int l2, .int l3, .int l4, .ref a1, .ref a3], [])) (h' := h) rfl rfl ?_
      refine Seg.ite (fun _ => ?_) (fun _ => ?_)
      · exact Seg.w (mLw.u (mLw.u (mLw.u (mLw.u (mLw.u (mLw.u (mLw.u mLw.nil))))))) (s80_43 h)
      · refine Seg.call (f1 := (55, [.ref l0, .int l1, .int l2, .int l3, .int l4, .ref a1, .ref a3], [.int l3, .ref a3, .ref a1, .ref ((mR h l0 4).getD 0)])) (h1 := h) (cv := fun r => some (.int r)) rfl rfl rfl rfl (s62 h ((mR h l0 4).getD 0) a1 a3 l3) (fun r5 => ?_)
        refine Seg.blk0 (f' := (if (l3 : Int32) ≤ r5.1 then 67 else 62, [.ref l0, .int l1, .int l2, .int l3, .int l4, .ref a1, .ref a3], [])) (h' := r5.2) rfl rfl ?_
        refine Seg.ite (fun _ => ?_) (fun _ => ?_)
        · refine Seg.callP (f1 := (73, [.ref l0, .int l1, .int l2, .int l3, .int l4, .ref a1, .ref a3], [.int l4, .ref ((mR r5.2 l0 4).getD 0)])) (h1 := r5.2) (cv := fun r => some (.int r)) rfl rfl rfl rfl (s81 r5.2 ((mR r5.2 l0 4).getD 0) l4) (fun r6 => ?_)
          exact Seg.w (mLw.u (mLw.u (mLw.u (mLw.u (mLw.u (mLw.u (mLw.u mLw.nil))))))) (s80_76 r5.2 r6)
        · refine Seg.blk0 (f' := (76, [.ref l0, .int l1, .int l2, .int l3, .int l4, .ref a1, .ref a3], [.int (-2)])) (h' := r5.2) rfl rfl ?_
          exact Seg.w (mLw.u (mLw.u (mLw.u (mLw.u (mLw.u (mLw.u (mLw.u mLw.nil))))))) (s80_76 r5.2 (-2))
theorem s87_66 (h : mH) (q0 : Int32) : Seg 87 (66, [.retAddr 0, .retAddr 0, .retAddr 0, .retAddr 0, .retAddr 0, .retAddr 0], [.int q0]) h (f87_66 h q0) (fun (q : Int32) (res : Option Value × mH) => res = (some (.int q), h)) := by
  unfold f87_66
  exact Seg.ret (f1 := (66, [.retAddr 0, .retAddr 0, .retAddr 0, .retAddr 0, .retAddr 0, .retAddr 0], [.int q0])) (h1 := h) rfl rfl rfl rfl (fun _ q => q)
theorem s87_61 (h : mH) : Seg 87 (61, [.retAddr 0, .retAddr 0, .retAddr 0, .retAddr 0, .retAddr 0, .retAddr 0], []) h (f87_61 h) (fun (q : Int32) (res : Option Value × mH) => res = (some (.int q), h)) := by
  unfold f87_61
  refine Seg.blk0 (f' := (66, [.retAddr 0, .retAddr 0, .retAddr 0, .retAddr 0, .retAddr 0, .retAddr 0], [.int 1])) (h' := h) rfl rfl ?_
  exact Seg.w (mLw.k (mLw.k (mLw.k (mLw.k (mLw.k (mLw.k mLw.nil)))))) (s87_66 h 1)
theorem s87_65 (h : mH) : Seg 87 (65, [.retAddr 0, .retAddr 0, .retAddr 0, .retAddr 0, .retAddr 0, .retAddr 0], []) h (f87_65 h) (fun (q : Int32) (res : Option Value × mH) => res = (some (.int q), h)) := by
  unfold f87_65
  refine Seg.blk0 (f' := (66, [.retAddr 0, .retAddr 0, .retAddr 0, .retAddr 0, .retAddr 0, .retAddr 0], [.int 0])) (h' := h) rfl rfl ?_
  exact Seg.w (mLw.k (mLw.k (mLw.k (mLw.k (mLw.k (mLw.k mLw.nil)))))) (s87_66 h 0)
theorem s87_32 (h : mH) (l1 : Nat) (l2 : Int32) (l3 : Int32) (l4 : Int32) (l5 : Int32) : Seg 87 (32, [.retAddr 0, .ref l1, .int l2, .int l3, .int l4, .int l5], []) h (f87_32 h l1 l2 l3 l4 l5) (fun (q : Int32) (res : Option Value × mH) => res = (some (.int q), h)) := by
  unfold f87_32
  refine Seg.blk0 (f' := (if (l5 : Int32) < l4 then 61 else 39, [.retAddr 0, .ref l1, .int l2, .int l3, .int l4, .int l5], [])) (h' := h) rfl rfl ?_
  refine Seg.ite (fun _ => ?_) (fun _ => ?_)
  · exact Seg.w (mLw.k (mLw.u (mLw.u (mLw.u (mLw.u (mLw.u mLw.nil)))))) (s87_61 h)
  · refine Seg.blk0 (f' := (if (l4 : Int32) = l5 then 46 else 65, [.retAddr 0, .ref l1, .int l2, .int l3, .int l4, .int l5], [])) (h' := h) rfl rfl ?_
    refine Seg.ite (fun _ => ?_) (fun _ => ?_)
    · refine Seg.blk (f' := (if ((mI h ((mR h l1 0).getD 0) (Int32.toNatClampNeg l3)) : Int32) ≤ (mI h ((mR h l1 0).getD 0) (Int32.toNatClampNeg l2)) then 65 else 61, [.retAddr 0, .ref l1, .int l2, .int l3, .int l4, .int l5], [])) (h' := h) rfl rfl ?_
      refine Seg.ite (fun _ => ?_) (fun _ => ?_)
      · exact Seg.w (mLw.k (mLw.u (mLw.u (mLw.u (mLw.u (mLw.u mLw.nil)))))) (s87_65 h)
      · exact Seg.w (mLw.k (mLw.u (mLw.u (mLw.u (mLw.u (mLw.u mLw.nil)))))) (s87_61 h)
    · exact Seg.w (mLw.k (mLw.u (mLw.u (mLw.u (mLw.u (mLw.u mLw.nil)))))) (s87_65 h)
theorem s87_16 (h : mH) (l0 : Nat) (l1 : Nat) (l2 : Int32) (l3 : Int32) (l4 : Int32) : Seg 87 (16, [.ref l0, .ref l1, .int l2, .int l3, .int l4, .retAddr 0], []) h (f87_16 h l0 l1 l2 l3 l4) (fun (q : Int32) (res : Option Value × mH) => res = (some (.int q), h)) := by
  unfold f87_16
  refine Seg.blk (f' := (32, [.ref l0, .ref l1, .int l2, .int l3, .int l4, .int (mI h ((mR h ((mR h l0 4).getD 0) 0).getD 0) (Int32.toNatClampNeg (mI h ((mR h l1 1).getD 0) (Int32.toNatClampNeg l3))))], [])) (h' := h) rfl rfl ?_
  exact Seg.w (mLw.u (mLw.k (mLw.k (mLw.k (mLw.k (mLw.k mLw.nil)))))) (s87_32 h l1 l2 l3 l4 (mI h ((mR h ((mR h l0 4).getD 0) 0).getD 0) (Int32.toNatClampNeg (mI h ((mR h l1 1).getD 0) (Int32.toNatClampNeg l3)))))
theorem s87 (h : mH) (l0 : Nat) (l1 : Nat) (l2 : Int32) (l3 : Int32) : Seg 87 (0, [.ref l0, .ref l1, .int l2, .int l3, .retAddr 0, .retAddr 0], []) h (f87 h l0 l1 l2 l3) (fun (q : Int32) (res : Option Value × mH) => res = (some (.int q), h)) := by
  unfold f87
  refine Seg.blk (f' := (16, [.ref l0, .ref l1, .int l2, .int l3, .int (mI h ((mR h ((mR h l0 4).getD 0) 0).getD 0) (Int32.toNatClampNeg (mI h ((mR h l1 1).getD 0) (Int32.toNatClampNeg l2)))), .retAddr 0], [])) (h' := h) rfl rfl ?_
  exact Seg.w (mLw.k (mLw.k (mLw.k (mLw.k (mLw.k (mLw.k mLw.nil)))))) (s87_16 h l0 l1 l2 l3 (mI h ((mR h ((mR h l0 4).getD 0) 0).getD 0) (Int32.toNatClampNeg (mI h ((mR h l1 1).getD 0) (Int32.toNatClampNeg l2)))))
theorem s86_50 (h : mH) (l0 : Nat) (l1 : Nat) (l2 : Int32) (l3 : Int32) (l4 : Int32) : Seg 86 (50, [.ref l0, .ref l1, .int l2, .int l3, .int l4], []) h (f86_50 h l0 l1 l2 l3 l4) (Sum.elim (fun s : (Int32 × Int32) => Ev 86 (13, [.ref l0, .ref l1, .int l2, .int s.1, .int s.2], []) h) (fun (q : Int32) (res : Option Value × mH) => res = (some (.int q), h))) := by
  unfold f86_50
  refine Seg.blk0 (f' := (13, [.ref l0, .ref l1, .int l2, .int l3, .int (l4 + 1)], [])) (h' := h) rfl rfl ?_
  exact Seg.cont (fun _ q => Ev.w (mLw.k (mLw.k (mLw.k (mLw.k (mLw.k mLw.nil))))) q)
theorem s86_47 (h : mH) (l0 : Nat) (l1 : Nat) (l2 : Int32) (l4 : Int32) : Seg 86 (47, [.ref l0, .ref l1, .int l2, .retAddr 0, .int l4], []) h (f86_47 h l0 l1 l2 l4) (Sum.elim (fun s : (Int32 × Int32) => Ev 86 (13, [.ref l0, .ref l1, .int l2, .int s.1, .int s.2], []) h) (fun (q : Int32) (res : Option Value × mH) => res = (some (.int q), h))) := by
  unfold f86_47
  refine Seg.blk0 (f' := (50, [.ref l0, .ref l1, .int l2, .int l4, .int l4], [])) (h' := h) rfl rfl ?_
  exact Seg.w (mLw.k (mLw.k (mLw.k (mLw.k (mLw.k mLw.nil))))) (s86_50 h l0 l1 l2 l4 l4)
theorem s86_13 (h : mH) (l0 : Nat) (l1 : Nat) (l2 : Int32) : ∀ (n : Nat) (s : (Int32 × Int32)), Seg 86 (13, [.ref l0, .ref l1, .int l2, .int s.1, .int s.2], []) h (mLoop (f86_13 h l0 l1 l2) n s) (fun (q : Int32) (res : Option Value × mH) => res = (some (.int q), h)) := by
  refine Seg.loop (F := fun s : (Int32 × Int32) => (13, [.ref l0, .ref l1, .int l2, .int s.1, .int s.2], [])) (H := fun s : (Int32 × Int32) => h) (fun s => ?_)
  show Seg 86 (13, [.ref l0, .ref l1, .int l2, .int s.1, .int s.2], []) h _ (Sum.elim (fun s : (Int32 × Int32) => Ev 86 (13, [.ref l0, .ref l1, .int l2, .int s.1, .int s.2], []) h) (fun (q : Int32) (res : Option Value × mH) => res = (some (.int q), h)))
  unfold f86_13
  refine Seg.blk (f' := (if ((mI h l1 6) : Int32) ≤ s.2 then 56 else 22, [.ref l0, .ref l1, .int l2, .int s.1, .int s.2], [])) (h' := h) rfl rfl ?_
  refine Seg.ite (fun _ => ?_) (fun _ => ?_)
  · refine Seg.x ?_
    exact Seg.ret (f1 := (57, [.ref l0, .ref l1, .int l2, .int s.1, .int s.2], [.int s.1])) (h1 := h) rfl rfl rfl rfl (fun _ q => q)
  · refine Seg.callP (f1 := (25, [.ref l0, .ref l1, .int l2, .int s.1, .int s.2], [.int s.2, .int l2])) (h1 := h) (cv := fun r => some (.int r)) rfl rfl rfl rfl (s71 h l2 s.2) (fun r2 => ?_)
    refine Seg.blk0 (f' := (if (r2 : Int32) = 0 then 50 else 31, [.ref l0, .ref l1, .int l2, .int s.1, .int s.2], [])) (h' := h) rfl rfl ?_
    refine Seg.ite (fun _ => ?_) (fun _ => ?_)
    · exact Seg.w (mLw.k (mLw.k (mLw.k (mLw.k (mLw.k mLw.nil))))) (s86_50 h l0 l1 l2 s.1 s.2)
    · refine Seg.blk0 (f' := (if (s.1 : Int32) = (-1) then 47 else 36, [.ref l0, .ref l1, .int l2, .int s.1, .int s.2], [])) (h' := h) rfl rfl ?_
      refine Seg.ite (fun _ => ?_) (fun _ => ?_)
      · exact Seg.w (mLw.k (mLw.k (mLw.k (mLw.u (mLw.k mLw.nil))))) (s86_47 h l0 l1 l2 s.2)
      · refine Seg.callP (f1 := (41, [.ref l0, .ref l1, .int l2, .int s.1, .int s.2], [.int s.1, .int s.2, .ref l1, .ref l0])) (h1 := h) (cv := fun r => some (.int r)) rfl rfl rfl rfl (s87 h l0 l1 s.2 s.1) (fun r3 => ?_)
        refine Seg.blk0 (f' := (if (r3 : Int32) = 0 then 50 else 47, [.ref l0, .ref l1, .int l2, .int s.1, .int s.2], [])) (h' := h) rfl rfl ?_
        refine Seg.ite (fun _ => ?_) (fun _ => ?_)
        · exact Seg.w (mLw.k (mLw.k (mLw.k (mLw.k (mLw.k mLw.nil))))) (s86_50 h l0 l1 l2 s.1 s.2)
        · exact Seg.w (mLw.k (mLw.k (mLw.k (mLw.u (mLw.k mLw.nil))))) (s86_47 h l0 l1 l2 s.2)
theorem s86 (h : mH) (l0 : Nat) (l1 : Nat) : Seg 86 (0, [.ref l0, .ref l1, .retAddr 0, .retAddr 0, .retAddr 0], []) h (f86 h l0 l1) (fun (q : Int32) (res : Option Value × mH) => res = (some (.int q), h)) := by
  unfold f86
  refine Seg.callP (f1 := (4, [.ref l0, .ref l1, .retAddr 0, .retAddr 0, .retAddr 0], [.ref ((mR h l0 4).getD 0)])) (h1 := h) (cv := fun r => some (.int r)) rfl rfl rfl rfl (s69 h ((mR h l0 4).getD 0)) (fun r1 => ?_)
  refine Seg.blk0 (f' := (13, [.ref l0, .ref l1, .int r1, .int (-1), .int 0], [])) (h' := h) rfl rfl ?_
  exact Seg.w (mLw.k (mLw.k (mLw.k (mLw.k (mLw.k mLw.nil))))) (s86_13 h l0 l1 r1 mFuel ((-1), 0))
theorem s85_96 (h : mH) (q0 : Int32) : Seg 85 (96, [.retAddr 0, .retAddr 0, .retAddr 0, .retAddr 0, .retAddr 0], [.int q0]) h (f85_96 h q0) (fun (q : Int32 × mH) (res : Option Value × mH) => res = (some (.int q.1), q.2)) := by
  unfold f85_96
  exact Seg.ret (f1 := (96, [.retAddr 0, .retAddr 0, .retAddr 0, .retAddr 0, .retAddr 0], [.int q0])) (h1 := h) rfl rfl rfl rfl (fun _ q => q)
theorem s85_76 (h : mH) (l0 : Nat) (l2 : Int32) : Seg 85 (76, [.ref l0, .retAddr 0, .int l2, .retAddr 0, .retAddr 0], []) h (f85_76 h l0 l2) (fun (q : Int32 × mH) (res : Option Value × mH) => res = (some (.int q.1), q.2)) := by
  unfold f85_76
  refine Seg.call (f1 := (80, [.ref l0, .retAddr 0, .int l2, .retAddr 0, .retAddr 0], [.ref ((mR h l0 4).getD 0)])) (h1 := h) (cv := fun _ => none) rfl rfl rfl rfl (s79 h ((mR h l0 4).getD 0)) (fun r2 => ?_)
  refine Seg.blk (f' := (if ((mI r2.2 l0 3) : Int32) ≤ l2 then 95 else 91, [.ref l0, .retAddr 0, .int l2, .retAddr 0, .retAddr 0], [])) (h' := r2.2) rfl rfl ?_
  refine Seg.ite (fun _ => ?_) (fun _ => ?_)
  · refine Seg.blk0 (f' := (96, [.ref l0, .retAddr 0, .int l2, .retAddr 0, .retAddr 0], [.int 0])) (h' := r2.2) rfl rfl ?_
    exact Seg.w (mLw.u (mLw.k (mLw.u (mLw.k (mLw.k mLw.nil))))) (s85_96 r2.2 0)
  · refine Seg.blk0 (f' := (96, [.ref l0, .retAddr 0, .int l2, .retAddr 0, .retAddr 0], [.int 1])) (h' := r2.2) rfl rfl ?_
    exact Seg.w (mLw.u (mLw.k (mLw.u (mLw.k (mLw.k mLw.nil))))) (s85_96 r2.2 1)
theorem s85_64 (h : mH) (l0 : Nat) (l1 : Nat) (l2 : Int32) (l4 : Int32) : Seg 85 (64, [.ref l0, .ref l1, .int l2, .retAddr 0, .int l4], []) h (f85_64 h l0 l1 l2 l4) (Sum.elim (fun s : (Int32 × Int32 × mH) => Ev 85 (14, [.ref l0, .ref l1, .int l2, .int s.1, .int s.2.1], []) s.2.2) (fun (q : Int32 × mH) (res : Option Value × mH) => res = (some (.int q.1), q.2))) := by
  unfold f85_64
  refine Seg.callP (f1 := (66, [.ref l0, .ref l1, .int l2, .retAddr 0, .int l4], [.ref l1, .ref l0])) (h1 := h) (cv := fun r => some (.int r)) rfl rfl rfl rfl (s86 h l0 l1) (fun r4 => ?_)
  refine Seg.blk0 (f' := (14, [.ref l0, .ref l1, .int l2, .int r4, .int (l4 + 1)], [])) (h' := h) rfl rfl ?_
  exact Seg.cont (fun _ q => Ev.w (mLw.k (mLw.k (mLw.k (mLw.k (mLw.k mLw.nil))))) q)
theorem s85_14 (l0 : Nat) (l1 : Nat) (l2 : Int32) : ∀ (n : Nat) (s : (Int32 × Int32 × mH)), Seg 85 (14, [.ref l0, .ref l1, .int l2, .int s.1, .int s.2.1], []) s.2.2 (mLoop (f85_14 l0 l1 l2) n s) (fun (q : Int32 × mH) (res : Option Value × mH) => res = (some (.int q.1), q.2)) := by
  refine Seg.loop (F := fun s : (Int32 × Int32 × mH) => (14, [.ref l0, .ref l1, .int l2, .int s.1, .int s.2.1], [])) (H := fun s : (Int32 × Int32 × mH) => s.2.2) (fun s => ?_)
  show Seg 85 (14, [.ref l0, .ref l1, .int l2, .int s.1, .int s.2.1], []) s.2.2 _ (Sum.elim (fun s : (Int32 × Int32 × mH) => Ev 85 (14, [.ref l0, .ref l1, .int l2, .int s.1, .int s.2.1], []) s.2.2) (fun (q : Int32 × mH) (res : Option Value × mH) => res = (some (.int q.1), q.2)))
  unfold f85_14
  refine Seg.blk0 (f' := (if (8 : Int32) ≤ s.2.1 then 76 else 21, [.ref l0, .ref l1, .int l2, .int s.1, .int s.2.1], [])) (h' := s.2.2) rfl rfl ?_
  refine Seg.ite (fun _ => ?_) (fun _ => ?_)
  · refine Seg.x ?_
    exact Seg.w (mLw.k (mLw.u (mLw.k (mLw.u (mLw.u mLw.nil))))) (s85_76 s.2.2 l0 l2)
  · refine Seg.blk0 (f' := (if (s.1 : Int32) = (-1) then 76 else 26, [.ref l0, .ref l1, .int l2, .int s.1, .int s.2.1], [])) (h' := s.2.2) rfl rfl ?_
    refine Seg.ite (fun _ => ?_) (fun _ => ?_)
    · refine Seg.x ?_
      exact Seg.w (mLw.k (mLw.u (mLw.k (mLw.u (mLw.u mLw.nil))))) (s85_76 s.2.2 l0 l2)
    · refine Seg.blk (f' := (if (8 : Int32) ≤ (mI s.2.2 l0 3) then 76 else 35, [.ref l0, .ref l1, .int l2, .int s.1, .int s.2.1], [])) (h' := s.2.2) rfl rfl ?_
      refine Seg.ite (fun _ => ?_) (fun _ => ?_)
      · refine Seg.x ?_
        exact Seg.w (mLw.k (mLw.u (mLw.k (mLw.u (mLw.u mLw.nil))))) (s85_76 s.2.2 l0 l2)
      · refine Seg.call (f1 := (40, [.ref l0, .ref l1, .int l2, .int s.1, .int s.2.1], [.int s.1, .ref ((mR s.2.2 l0 4).getD 0)])) (h1 := s.2.2) (cv := fun r => some (.int r)) rfl rfl rfl rfl (s68 s.2.2 ((mR s.2.2 l0 4).getD 0) s.1) (fun r3 => ?_)
        refine Seg.blk (f' := (54, [.ref l0, .ref l1, .int l2, .int s.1, .int s.2.1], [])) (h' := (mSI r3.2 ((mR r3.2 l0 0).getD 0) (Int32.toNatClampNeg (mI r3.2 l0 3)) s.1)) rfl rfl ?_
        refine Seg.blk (f' := (64, [.ref l0, .ref l1, .int l2, .int s.1, .int s.2.1], [])) (h' := (mSI (mSI r3.2 ((mR r3.2 l0 0).getD 0) (Int32.toNatClampNeg (mI r3.2 l0 3)) s.1) l0 3 ((mI (mSI r3.2 ((mR r3.2 l0 0).getD 0) (Int32.toNatClampNeg (mI r3.2 l0 3)) s.1) l0 3) + 1))) rfl rfl ?_
        exact Seg.w (mLw.k (mLw.k (mLw.k (mLw.u (mLw.k mLw.nil))))) (s85_64 (mSI (mSI r3.2 ((mR r3.2 l0 0).getD 0) (Int32.toNatClampNeg (mI r3.2 l0 3)) s.1) l0 3 ((mI (mSI r3.2 ((mR r3.2 l0 0).getD 0) (Int32.toNatClampNeg (mI r3.2 l0 3)) s.1) l0 3) + 1)) l0 l1 l2 s.2.1)
theorem s85 (h : mH) (l0 : Nat) (l1 : Nat) : Seg 85 (0, [.ref l0, .ref l1, .retAddr 0, .retAddr 0, .retAddr 0], []) h (f85 h l0 l1) (fun (q : Int32 × mH) (res : Option Value × mH) => res = (some (.int q.1), q.2)) := by
  unfold f85
  refine Seg.callP (f1 := (7, [.ref l0, .ref l1, .int (mI h l0 3), .retAddr 0, .retAddr 0], [.ref l1, .ref l0])) (h1 := h) (cv := fun r => some (.int r)) rfl rfl rfl rfl (s86 h l0 l1) (fun r1 => ?_)
  refine Seg.blk0 (f' := (14, [.ref l0, .ref l1, .int (mI h l0 3), .int r1, .int 0], [])) (h' := h) rfl rfl ?_
  exact Seg.w (mLw.k (mLw.k (mLw.k (mLw.k (mLw.k mLw.nil))))) (s85_14 l0 l1 (mI h l0 3) mFuel (r1, 0, h))
theorem s84_95 (h : mH) : Seg 84 (95, [.retAddr 0, .retAddr 0, .retAddr 0, .retAddr 0, .retAddr 0, .retAddr 0], []) h (f84_95 h) (fun (q : Unit × mH) (res : Option Value × mH) => res = (none, q.2)) := by
  unfold f84_95
  exact Seg.ret (f1 := (95, [.retAddr 0, .retAddr 0, .retAddr 0, .retAddr 0, .retAddr 0, .retAddr 0], [])) (h1 := h) rfl rfl rfl rfl (fun _ q => q)
theorem s84_89 (h : mH) (l0 : Nat) (l1 : Nat) (l2 : Int32) (l4 : Int32) (l5 : Int32) : Seg 84 (89, [.ref l0, .ref l1, .int l2, .retAddr 0, .int l4, .int l5], []) h (f84_89 h l0 l1 l2 l4 l5) (Sum.elim (fun s : (Int32 × Int32 × mH) => Ev 84 (60, [.ref l0, .ref l1, .int l2, .retAddr 0, .int s.1, .int s.2.1], []) s.2.2) (fun (q : Unit × mH) (res : Option Value × mH) => res = (none, q.2))) := by
  unfold f84_89
  refine Seg.blk0 (f' := (60, [.ref l0, .ref l1, .int l2, .retAddr 0, .int l4, .int (l5 + 1)], [])) (h' := h) rfl rfl ?_
  exact Seg.cont (fun _ q => Ev.w (mLw.k (mLw.k (mLw.k (mLw.k (mLw.k (mLw.k mLw.nil)))))) q)
theorem s84_60 (l0 : Nat) (l1 : Nat) (l2 : Int32) : ∀ (n : Nat) (s : (Int32 × Int32 × mH)), Seg 84 (60, [.ref l0, .ref l1, .int l2, .retAddr 0, .int s.1, .int s.2.1], []) s.2.2 (mLoop (f84_60 l0 l1 l2) n s) (fun (q : Unit × mH) (res : Option Value × mH) => res = (none, q.2)) := by
  refine Seg.loop (F := fun s : (Int32 × Int32 × mH) => (60, [.ref l0, .ref l1, .int l2, .retAddr 0, .int s.1, .int s.2.1], [])) (H := fun s : (Int32 × Int32 × mH) => s.2.2) (fun s => ?_)
  show Seg 84 (60, [.ref l0, .ref l1, .int l2, .retAddr 0, .int s.1, .int s.2.1], []) s.2.2 _ (Sum.elim (fun s : (Int32 × Int32 × mH) => Ev 84 (60, [.ref l0, .ref l1, .int l2, .retAddr 0, .int s.1, .int s.2.1], []) s.2.2) (fun (q : Unit × mH) (res : Option Value × mH) => res = (none, q.2)))
  unfold f84_60
  refine Seg.blk0 (f' := (if (l2 : Int32) < s.2.1 then 95 else 66, [.ref l0, .ref l1, .int l2, .retAddr 0, .int s.1, .int s.2.1], [])) (h' := s.2.2) rfl rfl ?_
  refine Seg.ite (fun _ => ?_) (fun _ => ?_)
  · refine Seg.x ?_
    exact Seg.w (mLw.u (mLw.u (mLw.u (mLw.k (mLw.u (mLw.u mLw.nil)))))) (s84_95 s.2.2)
  · refine Seg.blk0 (f' := (if (s.1 : Int32) = 0 then 95 else 71, [.ref l0, .ref l1, .int l2, .retAddr 0, .int s.1, .int s.2.1], [])) (h' := s.2.2) rfl rfl ?_
    refine Seg.ite (fun _ => ?_) (fun _ => ?_)
    · refine Seg.x ?_
      exact Seg.w (mLw.u (mLw.u (mLw.u (mLw.k (mLw.u (mLw.u mLw.nil)))))) (s84_95 s.2.2)
    · refine Seg.call (f1 := (73, [.ref l0, .ref l1, .int l2, .retAddr 0, .int s.1, .int s.2.1], [.ref l1, .ref l0])) (h1 := s.2.2) (cv := fun r => some (.int r)) rfl rfl rfl rfl (s85 s.2.2 l0 l1) (fun r2 => ?_)
      refine Seg.blk0 (f' := (if (r2.1 : Int32) = 0 then 89 else 83, [.ref l0, .ref l1, .int l2, .retAddr 0, .int r2.1, .int s.2.1], [])) (h' := r2.2) rfl rfl ?_
      refine Seg.ite (fun _ => ?_) (fun _ => ?_)
      · exact Seg.w (mLw.k (mLw.k (mLw.k (mLw.k (mLw.k (mLw.k mLw.nil)))))) (s84_89 r2.2 l0 l1 l2 r2.1 s.2.1)
      · refine Seg.blk (f' := (89, [.ref l0, .ref l1, .int l2, .retAddr 0, .int r2.1, .int s.2.1], [])) (h' := (mSI r2.2 l0 5 s.2.1)) rfl rfl ?_
        exact Seg.w (mLw.k (mLw.k (mLw.k (mLw.k (mLw.k (mLw.k mLw.nil)))))) (s84_89 (mSI r2.2 l0 5 s.2.1) l0 l1 l2 r2.1 s.2.1)
theorem s84_44 (h : mH) (l0 : Nat) (l1 : Nat) (l2 : Int32) : Seg 84 (44, [.ref l0, .ref l1, .int l2, .retAddr 0, .retAddr 0, .retAddr 0], []) h (f84_44 h l0 l1 l2) (fun (q : Unit × mH) (res : Option Value × mH) => res = (none, q.2)) := by
  unfold f84_44
  refine Seg.blk (f' := (49, [.ref l0, .ref l1, .int l2, .retAddr 0, .retAddr 0, .retAddr 0], [])) (h' := (mSI h l0 3 0)) rfl rfl ?_
  refine Seg.blk (f' := (54, [.ref l0, .ref l1, .int l2, .retAddr 0, .retAddr 0, .retAddr 0], [])) (h' := (mSI (mSI h l0 3 0) l0 5 0)) rfl rfl ?_
  refine Seg.blk0 (f' := (60, [.ref l0, .ref l1, .int l2, .retAddr 0, .int 1, .int 1], [])) (h' := (mSI (mSI h l0 3 0) l0 5 0)) rfl rfl ?_
  exact Seg.w (mLw.k (mLw.k (mLw.k (mLw.k (mLw.k (mLw.k mLw.nil)))))) (s84_60 l0 l1 l2 mFuel (1, 1, (mSI (mSI h l0 3 0) l0 5 0)))
theorem s84_11 (l0 : Nat) (l1 : Nat) (l2 : Int32) (l3 : Int32) : ∀ (n : Nat) (s : (Int32 × mH)), Seg 84 (11, [.ref l0, .ref l1, .int l2, .int l3, .int s.1, .retAddr 0], []) s.2 (mLoop (f84_11 l0 l1 l2 l3) n s) (fun (q : Unit × mH) (res : Option Value × mH) => res = (none, q.2)) := by
  refine Seg.loop (F := fun s : (Int32 × mH) => (11, [.ref l0, .ref l1, .int l2, .int l3, .int s.1, .retAddr 0], [])) (H := fun s : (Int32 × mH) => s.2) (fun s => ?_)
  show Seg 84 (11, [.ref l0, .ref l1, .int l2, .int l3, .int s.1, .retAddr 0], []) s.2 _ (Sum.elim (fun s : (Int32 × mH) => Ev 84 (11, [.ref l0, .ref l1, .int l2, .int l3, .int s.1, .retAddr 0], []) s.2) (fun (q : Unit × mH) (res : Option Value × mH) => res = (none, q.2)))
  unfold f84_11
  refine Seg.blk0 (f' := (if (l3 : Int32) ≤ s.1 then 44 else 17, [.ref l0, .ref l1, .int l2, .int l3, .int s.1, .retAddr 0], [])) (h' := s.2) rfl rfl ?_
  refine Seg.ite (fun _ => ?_) (fun _ => ?_)
  · refine Seg.x ?_
    exact Seg.w (mLw.k (mLw.k (mLw.k (mLw.u (mLw.u (mLw.k mLw.nil)))))) (s84_44 s.2 l0 l1 l2)
  · refine Seg.blk0 (f' := (if (4 : Int32) ≤ s.1 then 44 else 23, [.ref l0, .ref l1, .int l2, .int l3, .int s.1, .retAddr 0], [])) (h' := s.2) rfl rfl ?_
    refine Seg.ite (fun _ => ?_) (fun _ => ?_)
    · refine Seg.x ?_
      exact Seg.w (mLw.k (mLw.k (mLw.k (mLw.u (mLw.u (mLw.k mLw.nil)))))) (s84_44 s.2 l0 l1 l2)
    · refine Seg.call (f1 := (34, [.ref l0, .ref l1, .int l2, .int l3, .int s.1, .retAddr 0], [.int (mI s.2 ((mR s.2 l0 1).getD 0) (Int32.toNatClampNeg s.1)), .ref ((mR s.2 l0 4).getD 0)])) (h1 := s.2) (cv := fun r => some (.int r)) rfl rfl rfl rfl (s73 s.2 ((mR s.2 l0 4).getD 0) (mI s.2 ((mR s.2 l0 1).getD 0) (Int32.toNatClampNeg s.1))) (fun r3 => ?_)
      refine Seg.blk0 (f' := (11, [.ref l0, .ref l1, .int l2, .int l3, .int (s.1 + 1), .retAddr 0], [])) (h' := r3.2) rfl rfl ?_
      exact Seg.cont (fun _ q => Ev.w (mLw.k (mLw.k (mLw.k (mLw.k (mLw.k (mLw.k mLw.nil)))))) q)
theorem s84 (h : mH) (l0 : Nat) (l1 : Nat) (l2 : Int32) (l3 : Int32) : Seg 84 (0, [.ref l0, .ref l1, .int l2, .int l3, .retAddr 0, .retAddr 0], []) h (f84 h l0 l1 l2 l3) (fun (q : Unit × mH) (res : Option Value × mH) => res = (none, q.2)) := by
  unfold f84
  refine Seg.call (f1 := (5, [.ref l0, .ref l1, .int l2, .int l3, .retAddr 0, .retAddr 0], [.ref l1, .ref ((mR h l0 4).getD 0)])) (h1 := h) (cv := fun _ => none) rfl rfl rfl rfl (s63 h ((mR h l0 4).getD 0) l1) (fun r1 => ?_)
  refine Seg.blk0 (f' := (11, [.ref l0, .ref l1, .int l2, .int l3, .int 0, .retAddr 0], [])) (h' := r1.2) rfl rfl ?_
  exact Seg.w (mLw.k (mLw.k (mLw.k (mLw.k (mLw.k (mLw.k mLw.nil)))))) (s84_11 l0 l1 l2 l3 mFuel (0, r1.2))
theorem s88_29 (h : mH) (q0 : Int32) : Seg 88 (29, [.retAddr 0, .retAddr 0, .retAddr 0], [.int q0]) h (f88_29 h q0) (fun (q : Int32) (res : Option Value × mH) => res = (some (.int q), h)) := by
  unfold f88_29
  exact Seg.ret (f1 := (29, [.retAddr 0, .retAddr 0, .retAddr 0], [.int q0])) (h1 := h) rfl rfl rfl rfl (fun _ q => q)
theorem s88_28 (h : mH) : Seg 88 (28, [.retAddr 0, .retAddr 0, .retAddr 0], []) h (f88_28 h) (fun (q : Int32) (res : Option Value × mH) => res = (some (.int q), h)) := by
  unfold f88_28
  refine Seg.blk0 (f' := (29, [.retAddr 0, .retAddr 0, .retAddr 0], [.int (-1)])) (h' := h) rfl rfl ?_
  exact Seg.w (mLw.k (mLw.k (mLw.k mLw.nil))) (s88_29 h (-1))
theorem s88 (h : mH) (l0 : Nat) (l1 : Int32) (l2 : Int32) : Seg 88 (0, [.ref l0, .int l1, .int l2], []) h (f88 h l0 l1 l2) (fun (q : Int32) (res : Option Value × mH) => res = (some (.int q), h)) := by
  unfold f88
  refine Seg.blk0 (f' := (if (l2 : Int32) = (-1) then 5 else 7, [.ref l0, .int l1, .int l2], [])) (h' := h) rfl rfl ?_
  refine Seg.ite (fun _ => ?_) (fun _ => ?_)
  · exact Seg.ret (f1 := (6, [.ref l0, .int l1, .int l2], [.int l1])) (h1 := h) rfl rfl rfl rfl (fun _ q => q)
  · refine Seg.blk0 (f' := (if (l2 : Int32) < 0 then 28 else 11, [.ref l0, .int l1, .int l2], [])) (h' := h) rfl rfl ?_
    refine Seg.ite (fun _ => ?_) (fun _ => ?_)
    · exact Seg.w (mLw.u (mLw.u (mLw.u mLw.nil))) (s88_28 h)
    · refine Seg.blk0 (f' := (if (l1 : Int32) ≤ l2 then 28 else 16, [.ref l0, .int l1, .int l2], [])) (h' := h) rfl rfl ?_
      refine Seg.ite (fun _ => ?_) (fun _ => ?_)
      · exact Seg.w (mLw.u (mLw.u (mLw.u mLw.nil))) (s88_28 h)
      · refine Seg.blk (f' := (if ((Int32.ofNat (mK h l0).2) : Int32) ≤ l2 then 28 else 22, [.ref l0, .int l1, .int l2], [])) (h' := h) rfl rfl ?_
        refine Seg.ite (fun _ => ?_) (fun _ => ?_)
        · exact Seg.w (mLw.u (mLw.u (mLw.u mLw.nil))) (s88_28 h)
        · refine Seg.blk (f' := (29, [.ref l0, .int l1, .int l2], [.int (mI h l0 (Int32.toNatClampNeg l2))])) (h' := h) rfl rfl ?_
          exact Seg.w (mLw.u (mLw.u (mLw.u mLw.nil))) (s88_29 h (mI h l0 (Int32.toNatClampNeg l2)))
