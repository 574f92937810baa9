/-! The small machine runs the programs; printed by a program of ours. -/
theorem s4_5 (l0 : Nat) (l1 : Int32) (l3 : Int32) : ∀ (n : Nat) (s : (Int32 × mH)), Seg 4 (5, [.ref l0, .int l1, .int s.1, .int l3], []) s.2 (mLoop (f4_5 l0 l1 l3) n s) (fun (q : Unit × mH) (res : Option Value × mH) => res = (none, q.2)) := by
  refine Seg.loop (F := fun s : (Int32 × mH) => (5, [.ref l0, .int l1, .int s.1, .int l3], [])) (H := fun s : (Int32 × mH) => s.2) (fun s => ?_)
  show Seg 4 (5, [.ref l0, .int l1, .int s.1, .int l3], []) s.2 _ (Sum.elim (fun s : (Int32 × mH) => Ev 4 (5, [.ref l0, .int l1, .int s.1, .int l3], []) s.2) (fun (q : Unit × mH) (res : Option Value × mH) => res = (none, q.2)))
  unfold f4_5
  refine Seg.blk0 (f' := (if (l3 : Int32) ≤ s.1 then 20 else 10, [.ref l0, .int l1, .int s.1, .int l3], [])) (h' := s.2) rfl rfl ?_
  refine Seg.ite (fun _ => ?_) (fun _ => ?_)
  · refine Seg.x ?_
    exact Seg.ret (f1 := (20, [.ref l0, .int l1, .int s.1, .int l3], [])) (h1 := s.2) rfl rfl rfl rfl (fun _ q => q)
  · refine Seg.blk (f' := (14, [.ref l0, .int l1, .int s.1, .int l3], [])) (h' := (mSI s.2 l0 (Int32.toNatClampNeg s.1) l1)) rfl rfl ?_
    refine Seg.blk0 (f' := (5, [.ref l0, .int l1, .int (s.1 + 1), .int l3], [])) (h' := (mSI s.2 l0 (Int32.toNatClampNeg s.1) l1)) rfl rfl ?_
    exact Seg.cont (fun _ q => Ev.w (mLw.k (mLw.k (mLw.k (mLw.k mLw.nil)))) q)
theorem s4 (h : mH) (l0 : Nat) (l1 : Int32) : Seg 4 (0, [.ref l0, .int l1, .retAddr 0, .retAddr 0], []) h (f4 h l0 l1) (fun (q : Unit × mH) (res : Option Value × mH) => res = (none, q.2)) := by
  unfold f4
  refine Seg.blk (f' := (5, [.ref l0, .int l1, .int 0, .int (Int32.ofNat (mK h l0).2)], [])) (h' := h) rfl rfl ?_
  exact Seg.w (mLw.k (mLw.k (mLw.k (mLw.k mLw.nil)))) (s4_5 l0 l1 (Int32.ofNat (mK h l0).2) mFuel (0, h))
theorem s3 (h : mH) (l0 : Nat) : Seg 3 (0, [.ref l0], []) h (f3 h l0) (fun (q : Unit × mH) (res : Option Value × mH) => res = (none, q.2)) := by
  unfold f3
  refine Seg.call (f1 := (5, [.ref l0], [.int 0, .ref ((mR h l0 0).getD 0)])) (h1 := h) (cv := fun _ => none) rfl rfl rfl rfl (s4 h ((mR h l0 0).getD 0) 0) (fun r1 => ?_)
  refine Seg.call (f1 := (13, [.ref l0], [.int 0, .ref ((mR r1.2 l0 1).getD 0)])) (h1 := r1.2) (cv := fun _ => none) rfl rfl rfl rfl (s4 r1.2 ((mR r1.2 l0 1).getD 0) 0) (fun r2 => ?_)
  refine Seg.call (f1 := (21, [.ref l0], [.int 0, .ref ((mR r2.2 l0 2).getD 0)])) (h1 := r2.2) (cv := fun _ => none) rfl rfl rfl rfl (s4 r2.2 ((mR r2.2 l0 2).getD 0) 0) (fun r3 => ?_)
  refine Seg.call (f1 := (29, [.ref l0], [.int 5, .ref ((mR r3.2 l0 3).getD 0)])) (h1 := r3.2) (cv := fun _ => none) rfl rfl rfl rfl (s4 r3.2 ((mR r3.2 l0 3).getD 0) 5) (fun r4 => ?_)
  refine Seg.call (f1 := (37, [.ref l0], [.int 0, .ref ((mR r4.2 l0 4).getD 0)])) (h1 := r4.2) (cv := fun _ => none) rfl rfl rfl rfl (s4 r4.2 ((mR r4.2 l0 4).getD 0) 0) (fun r5 => ?_)
  refine Seg.call (f1 := (45, [.ref l0], [.int 0, .ref ((mR r5.2 l0 5).getD 0)])) (h1 := r5.2) (cv := fun _ => none) rfl rfl rfl rfl (s4 r5.2 ((mR r5.2 l0 5).getD 0) 0) (fun r6 => ?_)
  refine Seg.blk (f' := (53, [.ref l0], [])) (h' := (mSI r6.2 l0 6 0)) rfl rfl ?_
  refine Seg.blk (f' := (58, [.ref l0], [])) (h' := (mSI (mSI r6.2 l0 6 0) l0 7 0)) rfl rfl ?_
  refine Seg.blk (f' := (64, [.ref l0], [])) (h' := (mSI (mSI (mSI r6.2 l0 6 0) l0 7 0) l0 8 6)) rfl rfl ?_
  exact Seg.ret (f1 := (64, [.ref l0], [])) (h1 := (mSI (mSI (mSI r6.2 l0 6 0) l0 7 0) l0 8 6)) rfl rfl rfl rfl (fun _ q => q)
theorem s15_49 (h : mH) : Seg 15 (49, [.retAddr 0, .retAddr 0, .retAddr 0], []) h (f15_49 h) (fun (q : Unit × mH) (res : Option Value × mH) => res = (none, q.2)) := by
  unfold f15_49
  exact Seg.ret (f1 := (49, [.retAddr 0, .retAddr 0, .retAddr 0], [])) (h1 := h) rfl rfl rfl rfl (fun _ q => q)
theorem s15_33 (h : mH) (l0 : Nat) (l1 : Int32) (l2 : Int32) : Seg 15 (33, [.ref l0, .int l1, .int l2], []) h (f15_33 h l0 l1 l2) (Sum.elim (fun s : (Int32 × mH) => Ev 15 (3, [.ref l0, .int l1, .int s.1], []) s.2) (fun (q : Unit × mH) (res : Option Value × mH) => res = (none, q.2))) := by
  unfold f15_33
  refine Seg.blk (f' := (43, [.ref l0, .int l1, .int l2], [])) (h' := (mSI h l0 5 ((mI h l0 5) + 1))) rfl rfl ?_
  refine Seg.blk0 (f' := (3, [.ref l0, .int l1, .int (l2 + (-8))], [])) (h' := (mSI h l0 5 ((mI h l0 5) + 1))) rfl rfl ?_
  exact Seg.cont (fun _ q => Ev.w (mLw.k (mLw.k (mLw.k mLw.nil))) q)
theorem s15_3 (l0 : Nat) (l1 : Int32) : ∀ (n : Nat) (s : (Int32 × mH)), Seg 15 (3, [.ref l0, .int l1, .int s.1], []) s.2 (mLoop (f15_3 l0 l1) n s) (fun (q : Unit × mH) (res : Option Value × mH) => res = (none, q.2)) := by
  refine Seg.loop (F := fun s : (Int32 × mH) => (3, [.ref l0, .int l1, .int s.1], [])) (H := fun s : (Int32 × mH) => s.2) (fun s => ?_)
  show Seg 15 (3, [.ref l0, .int l1, .int s.1], []) s.2 _ (Sum.elim (fun s : (Int32 × mH) => Ev 15 (3, [.ref l0, .int l1, .int s.1], []) s.2) (fun (q : Unit × mH) (res : Option Value × mH) => res = (none, q.2)))
  unfold f15_3
  refine Seg.blk0 (f' := (if (s.1 : Int32) < 0 then 49 else 7, [.ref l0, .int l1, .int s.1], [])) (h' := s.2) rfl rfl ?_
  refine Seg.ite (fun _ => ?_) (fun _ => ?_)
  · refine Seg.x ?_
    exact Seg.w (mLw.u (mLw.u (mLw.u mLw.nil))) (s15_49 s.2)
  · refine Seg.blk (f' := (if (600 : Int32) ≤ (mI s.2 l0 5) then 49 else 17, [.ref l0, .int l1, .int s.1], [])) (h' := s.2) rfl rfl ?_
    refine Seg.ite (fun _ => ?_) (fun _ => ?_)
    · refine Seg.x ?_
      exact Seg.w (mLw.u (mLw.u (mLw.u mLw.nil))) (s15_49 s.2)
    · refine Seg.blk (f' := (33, [.ref l0, .int l1, .int s.1], [])) (h' := (mSI s.2 ((mR s.2 l0 0).getD 0) (Int32.toNatClampNeg (mI s.2 l0 5)) (((Int32.toUInt32 l1 >>> (Int32.toUInt32 s.1 &&& Int32.toUInt32 31)).toInt32) &&& 255))) rfl rfl ?_
      exact Seg.w (mLw.k (mLw.k (mLw.k mLw.nil))) (s15_33 (mSI s.2 ((mR s.2 l0 0).getD 0) (Int32.toNatClampNeg (mI s.2 l0 5)) (((Int32.toUInt32 l1 >>> (Int32.toUInt32 s.1 &&& Int32.toUInt32 31)).toInt32) &&& 255)) l0 l1 s.1)
theorem s15 (h : mH) (l0 : Nat) (l1 : Int32) : Seg 15 (0, [.ref l0, .int l1, .retAddr 0], []) h (f15 h l0 l1) (fun (q : Unit × mH) (res : Option Value × mH) => res = (none, q.2)) := by
  unfold f15
  refine Seg.blk0 (f' := (3, [.ref l0, .int l1, .int 24], [])) (h' := h) rfl rfl ?_
  exact Seg.w (mLw.k (mLw.k (mLw.k mLw.nil))) (s15_3 l0 l1 mFuel (24, h))
theorem s14 (h : mH) (l0 : Nat) (l1 : Int32) (l2 : Int32) (l3 : Int32) (l4 : Int32) (l5 : Int32) : Seg 14 (0, [.ref l0, .int l1, .int l2, .int l3, .int l4, .int l5], []) h (f14 h l0 l1 l2 l3 l4 l5) (fun (q : Int32 × mH) (res : Option Value × mH) => res = (some (.int q.1), q.2)) := by
  unfold f14
  refine Seg.blk (f' := (if ((mI h ((mR h l0 0).getD 0) 5) : Int32) ≤ 580 then 15 else 13, [.ref l0, .int l1, .int l2, .int l3, .int l4, .int l5], [])) (h' := h) rfl rfl ?_
  refine Seg.ite (fun _ => ?_) (fun _ => ?_)
  · refine Seg.call (f1 := (20, [.ref l0, .int l1, .int l2, .int l3, .int l4, .int l5], [.int l1, .ref ((mR h l0 0).getD 0)])) (h1 := h) (cv := fun _ => none) rfl rfl rfl rfl (s15 h ((mR h l0 0).getD 0) l1) (fun r1 => ?_)
    refine Seg.call (f1 := (28, [.ref l0, .int l1, .int l2, .int l3, .int l4, .int l5], [.int l2, .ref ((mR r1.2 l0 0).getD 0)])) (h1 := r1.2) (cv := fun _ => none) rfl rfl rfl rfl (s15 r1.2 ((mR r1.2 l0 0).getD 0) l2) (fun r2 => ?_)
    refine Seg.call (f1 := (36, [.ref l0, .int l1, .int l2, .int l3, .int l4, .int l5], [.int l3, .ref ((mR r2.2 l0 0).getD 0)])) (h1 := r2.2) (cv := fun _ => none) rfl rfl rfl rfl (s15 r2.2 ((mR r2.2 l0 0).getD 0) l3) (fun r3 => ?_)
    refine Seg.call (f1 := (45, [.ref l0, .int l1, .int l2, .int l3, .int l4, .int l5], [.int l4, .ref ((mR r3.2 l0 0).getD 0)])) (h1 := r3.2) (cv := fun _ => none) rfl rfl rfl rfl (s15 r3.2 ((mR r3.2 l0 0).getD 0) l4) (fun r4 => ?_)
    refine Seg.call (f1 := (54, [.ref l0, .int l1, .int l2, .int l3, .int l4, .int l5], [.int l5, .ref ((mR r4.2 l0 0).getD 0)])) (h1 := r4.2) (cv := fun _ => none) rfl rfl rfl rfl (s15 r4.2 ((mR r4.2 l0 0).getD 0) l5) (fun r5 => ?_)
    exact Seg.ret (f1 := (64, [.ref l0, .int l1, .int l2, .int l3, .int l4, .int l5], [.int (mI r5.2 ((mR r5.2 l0 0).getD 0) 5)])) (h1 := r5.2) rfl rfl rfl rfl (fun _ q => q)
  · exact Seg.ret (f1 := (14, [.ref l0, .int l1, .int l2, .int l3, .int l4, .int l5], [.int (-1)])) (h1 := h) rfl rfl rfl rfl (fun _ q => q)
theorem s17_15 (h : mH) (q0 : Int32) : Seg 17 (15, [.retAddr 0, .retAddr 0, .retAddr 0], [.int q0]) h (f17_15 h q0) (fun (q : Int32) (res : Option Value × mH) => res = (some (.int q), h)) := by
  unfold f17_15
  exact Seg.ret (f1 := (15, [.retAddr 0, .retAddr 0, .retAddr 0], [.int q0])) (h1 := h) rfl rfl rfl rfl (fun _ q => q)
theorem s17_14 (h : mH) : Seg 17 (14, [.retAddr 0, .retAddr 0, .retAddr 0], []) h (f17_14 h) (fun (q : Int32) (res : Option Value × mH) => res = (some (.int q), h)) := by
  unfold f17_14
  refine Seg.blk0 (f' := (15, [.retAddr 0, .retAddr 0, .retAddr 0], [.int 0])) (h' := h) rfl rfl ?_
  exact Seg.w (mLw.k (mLw.k (mLw.k mLw.nil))) (s17_15 h 0)
theorem s17 (h : mH) (l0 : Int32) (l1 : Int32) (l2 : Int32) : Seg 17 (0, [.int l0, .int l1, .int l2], []) h (f17 h l0 l1 l2) (fun (q : Int32) (res : Option Value × mH) => res = (some (.int q), h)) := by
  unfold f17
  refine Seg.blk0 (f' := (if (l0 : Int32) < l1 then 14 else 5, [.int l0, .int l1, .int l2], [])) (h' := h) rfl rfl ?_
  refine Seg.ite (fun _ => ?_) (fun _ => ?_)
  · exact Seg.w (mLw.u (mLw.u (mLw.u mLw.nil))) (s17_14 h)
  · refine Seg.blk0 (f' := (if (l2 : Int32) < l0 then 14 else 10, [.int l0, .int l1, .int l2], [])) (h' := h) rfl rfl ?_
    refine Seg.ite (fun _ => ?_) (fun _ => ?_)
    · exact Seg.w (mLw.u (mLw.u (mLw.u mLw.nil))) (s17_14 h)
    · refine Seg.blk0 (f' := (15, [.int l0, .int l1, .int l2], [.int 1])) (h' := h) rfl rfl ?_
      exact Seg.w (mLw.u (mLw.u (mLw.u mLw.nil))) (s17_15 h 1)
theorem s16 (h : mH) (l0 : Nat) (l1 : Int32) : Seg 16 (0, [.ref l0, .int l1], []) h (f16 h l0 l1) (fun (q : Int32 × mH) (res : Option Value × mH) => res = (some (.int q.1), q.2)) := by
  unfold f16
  refine Seg.callP (f1 := (9, [.ref l0, .int l1], [.int (mI h ((mR h l0 0).getD 0) 5), .int 0, .int l1])) (h1 := h) (cv := fun r => some (.int r)) rfl rfl rfl rfl (s17 h l1 0 (mI h ((mR h l0 0).getD 0) 5)) (fun r1 => ?_)
  refine Seg.blk0 (f' := (if (r1 : Int32) = 0 then 15 else 17, [.ref l0, .int l1], [])) (h' := h) rfl rfl ?_
  refine Seg.ite (fun _ => ?_) (fun _ => ?_)
  · exact Seg.ret (f1 := (16, [.ref l0, .int l1], [.int (-1)])) (h1 := h) rfl rfl rfl rfl (fun _ q => q)
  · refine Seg.blk (f' := (25, [.ref l0, .int l1], [])) (h' := (mSI h ((mR h l0 0).getD 0) 5 l1)) rfl rfl ?_
    exact Seg.ret (f1 := (26, [.ref l0, .int l1], [.int l1])) (h1 := (mSI h ((mR h l0 0).getD 0) 5 l1)) rfl rfl rfl rfl (fun _ q => q)
theorem s22_17 (h : mH) (q0 : Int32) : Seg 22 (17, [.retAddr 0], [.int q0]) h (f22_17 h q0) (fun (q : Int32) (res : Option Value × mH) => res = (some (.int q), h)) := by
  unfold f22_17
  exact Seg.ret (f1 := (17, [.retAddr 0], [.int q0])) (h1 := h) rfl rfl rfl rfl (fun _ q => q)
theorem s22_16 (h : mH) : Seg 22 (16, [.retAddr 0], []) h (f22_16 h) (fun (q : Int32) (res : Option Value × mH) => res = (some (.int q), h)) := by
  unfold f22_16
  refine Seg.blk0 (f' := (17, [.retAddr 0], [.int 0])) (h' := h) rfl rfl ?_
  exact Seg.w (mLw.k mLw.nil) (s22_17 h 0)
theorem s22 (h : mH) (l0 : Int32) : Seg 22 (0, [.int l0], []) h (f22 h l0) (fun (q : Int32) (res : Option Value × mH) => res = (some (.int q), h)) := by
  unfold f22
  refine Seg.blk0 (f' := (if (l0 : Int32) < 97 then 16 else 6, [.int l0], [])) (h' := h) rfl rfl ?_
  refine Seg.ite (fun _ => ?_) (fun _ => ?_)
  · exact Seg.w (mLw.u mLw.nil) (s22_16 h)
  · refine Seg.blk0 (f' := (if (122 : Int32) < l0 then 16 else 12, [.int l0], [])) (h' := h) rfl rfl ?_
    refine Seg.ite (fun _ => ?_) (fun _ => ?_)
    · exact Seg.w (mLw.u mLw.nil) (s22_16 h)
    · refine Seg.blk0 (f' := (17, [.int l0], [.int 1])) (h' := h) rfl rfl ?_
      exact Seg.w (mLw.u mLw.nil) (s22_17 h 1)
theorem s23_39 (h : mH) (l0 : Nat) : Seg 23 (39, [.ref l0], []) h (f23_39 h l0) (fun (q : Unit × mH) (res : Option Value × mH) => res = (none, q.2)) := by
  unfold f23_39
  refine Seg.blk (f' := (44, [.ref l0], [])) (h' := (mSI h l0 3 1)) rfl rfl ?_
  exact Seg.ret (f1 := (44, [.ref l0], [])) (h1 := (mSI h l0 3 1)) rfl rfl rfl rfl (fun _ q => q)
theorem s23_0 (l0 : Nat) : ∀ (n : Nat) (s : (mH)), Seg 23 (0, [.ref l0], []) s (mLoop (f23_0 l0) n s) (fun (q : Unit × mH) (res : Option Value × mH) => res = (none, q.2)) := by
  refine Seg.loop (F := fun s : (mH) => (0, [.ref l0], [])) (H := fun s : (mH) => s) (fun s => ?_)
  show Seg 23 (0, [.ref l0], []) s _ (Sum.elim (fun s : (mH) => Ev 23 (0, [.ref l0], []) s) (fun (q : Unit × mH) (res : Option Value × mH) => res = (none, q.2)))
  unfold f23_0
  refine Seg.blk (f' := (if ((mI s l0 1) : Int32) ≤ (mI s l0 2) then 39 else 11, [.ref l0], [])) (h' := s) rfl rfl ?_
  refine Seg.ite (fun _ => ?_) (fun _ => ?_)
  · refine Seg.x ?_
    exact Seg.w (mLw.k mLw.nil) (s23_39 s l0)
  · refine Seg.callP (f1 := (20, [.ref l0], [.int (mI s ((mR s l0 0).getD 0) (Int32.toNatClampNeg (mI s l0 2)))])) (h1 := s) (cv := fun r => some (.int r)) rfl rfl rfl rfl (s22 s (mI s ((mR s l0 0).getD 0) (Int32.toNatClampNeg (mI s l0 2)))) (fun r1 => ?_)
    refine Seg.blk0 (f' := (if (r1 : Int32) = 0 then 39 else 26, [.ref l0], [])) (h' := s) rfl rfl ?_
    refine Seg.ite (fun _ => ?_) (fun _ => ?_)
    · refine Seg.x ?_
      exact Seg.w (mLw.k mLw.nil) (s23_39 s l0)
    · refine Seg.blk (f' := (36, [.ref l0], [])) (h' := (mSI s l0 2 ((mI s l0 2) + 1))) rfl rfl ?_
      refine Seg.blk0 (f' := (0, [.ref l0], [])) (h' := (mSI s l0 2 ((mI s l0 2) + 1))) rfl rfl ?_
      exact Seg.cont (fun _ q => Ev.w (mLw.k mLw.nil) q)
theorem s23 (h : mH) (l0 : Nat) : Seg 23 (0, [.ref l0], []) h (f23 h l0) (fun (q : Unit × mH) (res : Option Value × mH) => res = (none, q.2)) := by
  unfold f23
  exact Seg.w (mLw.k mLw.nil) (s23_0 l0 mFuel (h))
theorem s24_17 (h : mH) (q0 : Int32) : Seg 24 (17, [.retAddr 0], [.int q0]) h (f24_17 h q0) (fun (q : Int32) (res : Option Value × mH) => res = (some (.int q), h)) := by
  unfold f24_17
  exact Seg.ret (f1 := (17, [.retAddr 0], [.int q0])) (h1 := h) rfl rfl rfl rfl (fun _ q => q)
theorem s24_16 (h : mH) : Seg 24 (16, [.retAddr 0], []) h (f24_16 h) (fun (q : Int32) (res : Option Value × mH) => res = (some (.int q), h)) := by
  unfold f24_16
  refine Seg.blk0 (f' := (17, [.retAddr 0], [.int 0])) (h' := h) rfl rfl ?_
  exact Seg.w (mLw.k mLw.nil) (s24_17 h 0)
theorem s24 (h : mH) (l0 : Int32) : Seg 24 (0, [.int l0], []) h (f24 h l0) (fun (q : Int32) (res : Option Value × mH) => res = (some (.int q), h)) := by
  unfold f24
  refine Seg.blk0 (f' := (if (l0 : Int32) < 48 then 16 else 6, [.int l0], [])) (h' := h) rfl rfl ?_
  refine Seg.ite (fun _ => ?_) (fun _ => ?_)
  · exact Seg.w (mLw.u mLw.nil) (s24_16 h)
  · refine Seg.blk0 (f' := (if (57 : Int32) < l0 then 16 else 12, [.int l0], [])) (h' := h) rfl rfl ?_
    refine Seg.ite (fun _ => ?_) (fun _ => ?_)
    · exact Seg.w (mLw.u mLw.nil) (s24_16 h)
    · refine Seg.blk0 (f' := (17, [.int l0], [.int 1])) (h' := h) rfl rfl ?_
      exact Seg.w (mLw.u mLw.nil) (s24_17 h 1)
theorem s25_88 (h : mH) (l0 : Nat) : Seg 25 (88, [.ref l0], []) h (f25_88 h l0) (fun (q : Unit × mH) (res : Option Value × mH) => res = (none, q.2)) := by
  unfold f25_88
  refine Seg.blk (f' := (if (2 : Int32) < ((mI h l0 2) - (mI h l0 4)) then 106 else 102, [.ref l0], [.ref l0])) (h' := h) rfl rfl ?_
  refine Seg.ite (fun _ => ?_) (fun _ => ?_)
  · refine Seg.blk0 (f' := (107, [.ref l0], [.int 4, .ref l0])) (h' := h) rfl rfl ?_
    refine Seg.blk (f' := (110, [.ref l0], [])) (h' := (mSI h l0 3 4)) rfl rfl ?_
    exact Seg.ret (f1 := (110, [.ref l0], [])) (h1 := (mSI h l0 3 4)) rfl rfl rfl rfl (fun _ q => q)
  · refine Seg.blk0 (f' := (107, [.ref l0], [.int 2, .ref l0])) (h' := h) rfl rfl ?_
    refine Seg.blk (f' := (110, [.ref l0], [])) (h' := (mSI h l0 3 2)) rfl rfl ?_
    exact Seg.ret (f1 := (110, [.ref l0], [])) (h1 := (mSI h l0 3 2)) rfl rfl rfl rfl (fun _ q => q)
theorem s25_85 (h : mH) (l0 : Nat) : Seg 25 (85, [.ref l0], []) h (f25_85 h l0) (Sum.elim (fun s : (mH) => Ev 25 (5, [.ref l0], []) s) (fun (q : Unit × mH) (res : Option Value × mH) => res = (none, q.2))) := by
  unfold f25_85
  refine Seg.blk0 (f' := (5, [.ref l0], [])) (h' := h) rfl rfl ?_
  exact Seg.cont (fun _ q => Ev.w (mLw.k mLw.nil) q)
theorem s25_5 (l0 : Nat) : ∀ (n : Nat) (s : (mH)), Seg 25 (5, [.ref l0], []) s (mLoop (f25_5 l0) n s) (fun (q : Unit × mH) (res : Option Value × mH) => res = (none, q.2)) := by
  refine Seg.loop (F := fun s : (mH) => (5, [.ref l0], [])) (H := fun s : (mH) => s) (fun s => ?_)
  show Seg 25 (5, [.ref l0], []) s _ (Sum.elim (fun s : (mH) => Ev 25 (5, [.ref l0], []) s) (fun (q : Unit × mH) (res : Option Value × mH) => res = (none, q.2)))
  unfold f25_5
  refine Seg.blk (f' := (if ((mI s l0 1) : Int32) ≤ (mI s l0 2) then 88 else 16, [.ref l0], [])) (h' := s) rfl rfl ?_
  refine Seg.ite (fun _ => ?_) (fun _ => ?_)
  · refine Seg.x ?_
    exact Seg.w (mLw.k mLw.nil) (s25_88 s l0)
  · refine Seg.callP (f1 := (25, [.ref l0], [.int (mI s ((mR s l0 0).getD 0) (Int32.toNatClampNeg (mI s l0 2)))])) (h1 := s) (cv := fun r => some (.int r)) rfl rfl rfl rfl (s24 s (mI s ((mR s l0 0).getD 0) (Int32.toNatClampNeg (mI s l0 2)))) (fun r1 => ?_)
    refine Seg.blk0 (f' := (if (r1 : Int32) = 0 then 88 else 31, [.ref l0], [])) (h' := s) rfl rfl ?_
    refine Seg.ite (fun _ => ?_) (fun _ => ?_)
    · refine Seg.x ?_
      exact Seg.w (mLw.k mLw.nil) (s25_88 s l0)
    · refine Seg.blk (f' := (if (2 : Int32) ≤ ((mI s l0 2) - (mI s l0 4)) then 68 else 45, [.ref l0], [.ref l0])) (h' := s) rfl rfl ?_
      refine Seg.ite (fun _ => ?_) (fun _ => ?_)
      · refine Seg.blk (f' := (72, [.ref l0], [.int (mI s l0 5), .ref l0])) (h' := s) rfl rfl ?_
        refine Seg.blk (f' := (75, [.ref l0], [])) (h' := (mSI s l0 5 (mI s l0 5))) rfl rfl ?_
        refine Seg.blk (f' := (85, [.ref l0], [])) (h' := (mSI (mSI s l0 5 (mI s l0 5)) l0 2 ((mI (mSI s l0 5 (mI s l0 5)) l0 2) + 1))) rfl rfl ?_
        refine Seg.blk0 (f' := (5, [.ref l0], [])) (h' := (mSI (mSI s l0 5 (mI s l0 5)) l0 2 ((mI (mSI s l0 5 (mI s l0 5)) l0 2) + 1))) rfl rfl ?_
        exact Seg.cont (fun _ q => Ev.w (mLw.k mLw.nil) q)
      · refine Seg.blk (f' := (72, [.ref l0], [.int (((10 * (mI s l0 5)) + (mI s ((mR s l0 0).getD 0) (Int32.toNatClampNeg (mI s l0 2)))) - 48), .ref l0])) (h' := s) rfl rfl ?_
        refine Seg.blk (f' := (75, [.ref l0], [])) (h' := (mSI s l0 5 (((10 * (mI s l0 5)) + (mI s ((mR s l0 0).getD 0) (Int32.toNatClampNeg (mI s l0 2)))) - 48))) rfl rfl ?_
        refine Seg.blk (f' := (85, [.ref l0], [])) (h' := (mSI (mSI s l0 5 (((10 * (mI s l0 5)) + (mI s ((mR s l0 0).getD 0) (Int32.toNatClampNeg (mI s l0 2)))) - 48)) l0 2 ((mI (mSI s l0 5 (((10 * (mI s l0 5)) + (mI s ((mR s l0 0).getD 0) (Int32.toNatClampNeg (mI s l0 2)))) - 48)) l0 2) + 1))) rfl rfl ?_
        exact Seg.w (mLw.k mLw.nil) (s25_85 (mSI (mSI s l0 5 (((10 * (mI s l0 5)) + (mI s ((mR s l0 0).getD 0) (Int32.toNatClampNeg (mI s l0 2)))) - 48)) l0 2 ((mI (mSI s l0 5 (((10 * (mI s l0 5)) + (mI s ((mR s l0 0).getD 0) (Int32.toNatClampNeg (mI s l0 2)))) - 48)) l0 2) + 1)) l0)
theorem s25 (h : mH) (l0 : Nat) : Seg 25 (0, [.ref l0], []) h (f25 h l0) (fun (q : Unit × mH) (res : Option Value × mH) => res = (none, q.2)) := by
  unfold f25
  refine Seg.blk (f' := (5, [.ref l0], [])) (h' := (mSI h l0 5 0)) rfl rfl ?_
  exact Seg.w (mLw.k mLw.nil) (s25_5 l0 mFuel ((mSI h l0 5 0)))
theorem s21_156 (h : mH) : Seg 21 (156, [.retAddr 0], []) h (f21_156 h) (fun (q : Unit × mH) (res : Option Value × mH) => res = (none, q.2)) := by
  unfold f21_156
  exact Seg.ret (f1 := (156, [.retAddr 0], [])) (h1 := h) rfl rfl rfl rfl (fun _ q => q)
theorem s21_52 (h : mH) (l0 : Nat) : Seg 21 (52, [.ref l0], []) h (f21_52 h l0) (fun (q : Unit × mH) (res : Option Value × mH) => res = (none, q.2)) := by
  unfold f21_52
  refine Seg.blk (f' := (60, [.ref l0], [])) (h' := (mSI h l0 4 (mI h l0 2))) rfl rfl ?_
  refine Seg.blk (f' := (if ((mI (mSI h l0 4 (mI h l0 2)) l0 2) : Int32) < (mI (mSI h l0 4 (mI h l0 2)) l0 1) then 79 else 71, [.ref l0], [])) (h' := (mSI h l0 4 (mI h l0 2))) rfl rfl ?_
  refine Seg.ite (fun _ => ?_) (fun _ => ?_)
  · refine Seg.callP (f1 := (88, [.ref l0], [.int (mI (mSI h l0 4 (mI h l0 2)) ((mR h l0 0).getD 0) (Int32.toNatClampNeg (mI (mSI h l0 4 (mI h l0 2)) l0 2)))])) (h1 := (mSI h l0 4 (mI h l0 2))) (cv := fun r => some (.int r)) rfl rfl rfl rfl (s22 (mSI h l0 4 (mI h l0 2)) (mI (mSI h l0 4 (mI h l0 2)) ((mR h l0 0).getD 0) (Int32.toNatClampNeg (mI (mSI h l0 4 (mI h l0 2)) l0 2)))) (fun r1 => ?_)
    refine Seg.blk0 (f' := (if (r1 : Int32) = 0 then 101 else 94, [.ref l0], [])) (h' := (mSI h l0 4 (mI h l0 2))) rfl rfl ?_
    refine Seg.ite (fun _ => ?_) (fun _ => ?_)
    · refine Seg.callP (f1 := (110, [.ref l0], [.int (mI (mSI h l0 4 (mI h l0 2)) ((mR h l0 0).getD 0) (Int32.toNatClampNeg (mI (mSI h l0 4 (mI h l0 2)) l0 2)))])) (h1 := (mSI h l0 4 (mI h l0 2))) (cv := fun r => some (.int r)) rfl rfl rfl rfl (s24 (mSI h l0 4 (mI h l0 2)) (mI (mSI h l0 4 (mI h l0 2)) ((mR h l0 0).getD 0) (Int32.toNatClampNeg (mI (mSI h l0 4 (mI h l0 2)) l0 2)))) (fun r2 => ?_)
      refine Seg.blk0 (f' := (if (r2 : Int32) = 0 then 123 else 116, [.ref l0], [])) (h' := (mSI h l0 4 (mI h l0 2))) rfl rfl ?_
      refine Seg.ite (fun _ => ?_) (fun _ => ?_)
      · refine Seg.blk (f' := (if ((mI (mSI h l0 4 (mI h l0 2)) ((mR h l0 0).getD 0) (Int32.toNatClampNeg (mI (mSI h l0 4 (mI h l0 2)) l0 2))) : Int32) = 59 then 138 else 142, [.ref l0], [.ref l0])) (h' := (mSI h l0 4 (mI h l0 2))) rfl rfl ?_
        refine Seg.ite (fun _ => ?_) (fun _ => ?_)
        · refine Seg.blk0 (f' := (143, [.ref l0], [.int 3, .ref l0])) (h' := (mSI h l0 4 (mI h l0 2))) rfl rfl ?_
          refine Seg.blk (f' := (146, [.ref l0], [])) (h' := (mSI (mSI h l0 4 (mI h l0 2)) l0 3 3)) rfl rfl ?_
          refine Seg.blk (f' := (156, [.ref l0], [])) (h' := (mSI (mSI (mSI h l0 4 (mI h l0 2)) l0 3 3) l0 2 ((mI (mSI (mSI h l0 4 (mI h l0 2)) l0 3 3) l0 2) + 1))) rfl rfl ?_
          exact Seg.w (mLw.u mLw.nil) (s21_156 (mSI (mSI (mSI h l0 4 (mI h l0 2)) l0 3 3) l0 2 ((mI (mSI (mSI h l0 4 (mI h l0 2)) l0 3 3) l0 2) + 1)))
        · refine Seg.blk0 (f' := (143, [.ref l0], [.int 4, .ref l0])) (h' := (mSI h l0 4 (mI h l0 2))) rfl rfl ?_
          refine Seg.blk (f' := (146, [.ref l0], [])) (h' := (mSI (mSI h l0 4 (mI h l0 2)) l0 3 4)) rfl rfl ?_
          refine Seg.blk (f' := (156, [.ref l0], [])) (h' := (mSI (mSI (mSI h l0 4 (mI h l0 2)) l0 3 4) l0 2 ((mI (mSI (mSI h l0 4 (mI h l0 2)) l0 3 4) l0 2) + 1))) rfl rfl ?_
          exact Seg.w (mLw.u mLw.nil) (s21_156 (mSI (mSI (mSI h l0 4 (mI h l0 2)) l0 3 4) l0 2 ((mI (mSI (mSI h l0 4 (mI h l0 2)) l0 3 4) l0 2) + 1)))
      · refine Seg.call (f1 := (117, [.ref l0], [.ref l0])) (h1 := (mSI h l0 4 (mI h l0 2))) (cv := fun _ => none) rfl rfl rfl rfl (s25 (mSI h l0 4 (mI h l0 2)) l0) (fun r3 => ?_)
        refine Seg.blk0 (f' := (156, [.ref l0], [])) (h' := r3.2) rfl rfl ?_
        exact Seg.w (mLw.u mLw.nil) (s21_156 r3.2)
    · refine Seg.call (f1 := (95, [.ref l0], [.ref l0])) (h1 := (mSI h l0 4 (mI h l0 2))) (cv := fun _ => none) rfl rfl rfl rfl (s23 (mSI h l0 4 (mI h l0 2)) l0) (fun r4 => ?_)
      refine Seg.blk0 (f' := (156, [.ref l0], [])) (h' := r4.2) rfl rfl ?_
      exact Seg.w (mLw.u mLw.nil) (s21_156 r4.2)
  · refine Seg.blk (f' := (76, [.ref l0], [])) (h' := (mSI (mSI h l0 4 (mI h l0 2)) l0 3 0)) rfl rfl ?_
    refine Seg.blk0 (f' := (156, [.ref l0], [])) (h' := (mSI (mSI h l0 4 (mI h l0 2)) l0 3 0)) rfl rfl ?_
    exact Seg.w (mLw.u mLw.nil) (s21_156 (mSI (mSI h l0 4 (mI h l0 2)) l0 3 0))
theorem s21_39 (h : mH) (l0 : Nat) : Seg 21 (39, [.ref l0], []) h (f21_39 h l0) (Sum.elim (fun s : (mH) => Ev 21 (0, [.ref l0], []) s) (fun (q : Unit × mH) (res : Option Value × mH) => res = (none, q.2))) := by
  unfold f21_39
  refine Seg.blk (f' := (49, [.ref l0], [])) (h' := (mSI h l0 2 ((mI h l0 2) + 1))) rfl rfl ?_
  refine Seg.blk0 (f' := (0, [.ref l0], [])) (h' := (mSI h l0 2 ((mI h l0 2) + 1))) rfl rfl ?_
  exact Seg.cont (fun _ q => Ev.w (mLw.k mLw.nil) q)
theorem s21_0 (l0 : Nat) : ∀ (n : Nat) (s : (mH)), Seg 21 (0, [.ref l0], []) s (mLoop (f21_0 l0) n s) (fun (q : Unit × mH) (res : Option Value × mH) => res = (none, q.2)) := by
  refine Seg.loop (F := fun s : (mH) => (0, [.ref l0], [])) (H := fun s : (mH) => s) (fun s => ?_)
  show Seg 21 (0, [.ref l0], []) s _ (Sum.elim (fun s : (mH) => Ev 21 (0, [.ref l0], []) s) (fun (q : Unit × mH) (res : Option Value × mH) => res = (none, q.2)))
  unfold f21_0
  refine Seg.blk (f' := (if ((mI s l0 1) : Int32) ≤ (mI s l0 2) then 52 else 11, [.ref l0], [])) (h' := s) rfl rfl ?_
  refine Seg.ite (fun _ => ?_) (fun _ => ?_)
  · refine Seg.x ?_
    exact Seg.w (mLw.k mLw.nil) (s21_52 s l0)
  · refine Seg.blk (f' := (if ((mI s ((mR s l0 0).getD 0) (Int32.toNatClampNeg (mI s l0 2))) : Int32) = 10 then 39 else 25, [.ref l0], [])) (h' := s) rfl rfl ?_
    refine Seg.ite (fun _ => ?_) (fun _ => ?_)
    · exact Seg.w (mLw.k mLw.nil) (s21_39 s l0)
    · refine Seg.blk (f' := (if ((mI s ((mR s l0 0).getD 0) (Int32.toNatClampNeg (mI s l0 2))) : Int32) = 32 then 39 else 52, [.ref l0], [])) (h' := s) rfl rfl ?_
      refine Seg.ite (fun _ => ?_) (fun _ => ?_)
      · exact Seg.w (mLw.k mLw.nil) (s21_39 s l0)
      · refine Seg.x ?_
        exact Seg.w (mLw.k mLw.nil) (s21_52 s l0)
theorem s21 (h : mH) (l0 : Nat) : Seg 21 (0, [.ref l0], []) h (f21 h l0) (fun (q : Unit × mH) (res : Option Value × mH) => res = (none, q.2)) := by
  unfold f21
  exact Seg.w (mLw.k mLw.nil) (s21_0 l0 mFuel (h))
theorem s20 (h : mH) (l0 : Nat) (l1 : Nat) (l2 : Int32) : Seg 20 (0, [.ref l0, .ref l1, .int l2], []) h (f20 h l0 l1 l2) (fun (q : Unit × mH) (res : Option Value × mH) => res = (none, q.2)) := by
  unfold f20
  refine Seg.blk (f' := (5, [.ref l0, .ref l1, .int l2], [])) (h' := (mSR h l0 0 (some l1))) rfl rfl ?_
  refine Seg.blk (f' := (15, [.ref l0, .ref l1, .int l2], [])) (h' := (mSI (mSR h l0 0 (some l1)) l0 1 (if ((Int32.ofNat (mK h l1).2) : Int32) < l2 then (Int32.ofNat (mK h l1).2) else l2))) rfl rfl ?_
  refine Seg.blk (f' := (20, [.ref l0, .ref l1, .int l2], [])) (h' := (mSI (mSI (mSR h l0 0 (some l1)) l0 1 (if ((Int32.ofNat (mK h l1).2) : Int32) < l2 then (Int32.ofNat (mK h l1).2) else l2)) l0 2 0)) rfl rfl ?_
  refine Seg.call (f1 := (21, [.ref l0, .ref l1, .int l2], [.ref l0])) (h1 := (mSI (mSI (mSR h l0 0 (some l1)) l0 1 (if ((Int32.ofNat (mK h l1).2) : Int32) < l2 then (Int32.ofNat (mK h l1).2) else l2)) l0 2 0)) (cv := fun _ => none) rfl rfl rfl rfl (s21 (mSI (mSI (mSR h l0 0 (some l1)) l0 1 (if ((Int32.ofNat (mK h l1).2) : Int32) < l2 then (Int32.ofNat (mK h l1).2) else l2)) l0 2 0) l0) (fun r1 => ?_)
  exact Seg.ret (f1 := (24, [.ref l0, .ref l1, .int l2], [])) (h1 := r1.2) rfl rfl rfl rfl (fun _ q => q)
theorem s29_28 (h : mH) (l0 : Nat) (l1 : Nat) : ∀ (n : Nat) (s : (Int32)), Seg 29 (28, [.ref l0, .ref l1, .int s], []) h (mLoop (f29_28 h l0 l1) n s) (fun (q : Int32) (res : Option Value × mH) => res = (some (.int q), h)) := by
  refine Seg.loop (F := fun s : (Int32) => (28, [.ref l0, .ref l1, .int s], [])) (H := fun s : (Int32) => h) (fun s => ?_)
  show Seg 29 (28, [.ref l0, .ref l1, .int s], []) h _ (Sum.elim (fun s : (Int32) => Ev 29 (28, [.ref l0, .ref l1, .int s], []) h) (fun (q : Int32) (res : Option Value × mH) => res = (some (.int q), h)))
  unfold f29_28
  refine Seg.blk (f' := (if ((Int32.ofNat (mStr.getD (l1 - 1000000) []).length) : Int32) ≤ s then 63 else 36, [.ref l0, .ref l1, .int s], [])) (h' := h) rfl rfl ?_
  refine Seg.ite (fun _ => ?_) (fun _ => ?_)
  · refine Seg.x ?_
    exact Seg.ret (f1 := (64, [.ref l0, .ref l1, .int s], [.int 1])) (h1 := h) rfl rfl rfl rfl (fun _ q => q)
  · refine Seg.blk (f' := (if ((mI h ((mR h l0 0).getD 0) (Int32.toNatClampNeg ((mI h l0 4) + s))) : Int32) = ((mStr.getD (l1 - 1000000) []).getD (Int32.toNatClampNeg s) 0) then 57 else 55, [.ref l0, .ref l1, .int s], [])) (h' := h) rfl rfl ?_
    refine Seg.ite (fun _ => ?_) (fun _ => ?_)
    · refine Seg.blk0 (f' := (28, [.ref l0, .ref l1, .int (s + 1)], [])) (h' := h) rfl rfl ?_
      exact Seg.cont (fun _ q => Ev.w (mLw.k (mLw.k (mLw.k mLw.nil))) q)
    · refine Seg.x ?_
      exact Seg.ret (f1 := (56, [.ref l0, .ref l1, .int s], [.int 0])) (h1 := h) rfl rfl rfl rfl (fun _ q => q)
theorem s29_24 (h : mH) : Seg 29 (24, [.retAddr 0, .retAddr 0, .retAddr 0], []) h (f29_24 h) (fun (q : Int32) (res : Option Value × mH) => res = (some (.int q), h)) := by
  unfold f29_24
  exact Seg.ret (f1 := (25, [.retAddr 0, .retAddr 0, .retAddr 0], [.int 0])) (h1 := h) rfl rfl rfl rfl (fun _ q => q)
theorem s29 (h : mH) (l0 : Nat) (l1 : Nat) : Seg 29 (0, [.ref l0, .ref l1, .retAddr 0], []) h (f29 h l0 l1) (fun (q : Int32) (res : Option Value × mH) => res = (some (.int q), h)) := by
  unfold f29
  refine Seg.blk (f' := (if ((mI h l0 3) : Int32) = 1 then 8 else 24, [.ref l0, .ref l1, .retAddr 0], [])) (h' := h) rfl rfl ?_
  refine Seg.ite (fun _ => ?_) (fun _ => ?_)
  · refine Seg.blk (f' := (if (((mI h l0 2) - (mI h l0 4)) : Int32) = (Int32.ofNat (mStr.getD (l1 - 1000000) []).length) then 26 else 24, [.ref l0, .ref l1, .retAddr 0], [])) (h' := h) rfl rfl ?_
    refine Seg.ite (fun _ => ?_) (fun _ => ?_)
    · refine Seg.blk0 (f' := (28, [.ref l0, .ref l1, .int 0], [])) (h' := h) rfl rfl ?_
      exact Seg.w (mLw.k (mLw.k (mLw.k mLw.nil))) (s29_28 h l0 l1 mFuel (0))
    · exact Seg.w (mLw.u (mLw.u (mLw.k mLw.nil))) (s29_24 h)
  · exact Seg.w (mLw.u (mLw.u (mLw.k mLw.nil))) (s29_24 h)
theorem s28_93 (h : mH) (q0 : Int32) : Seg 28 (93, [.retAddr 0], [.int q0]) h (f28_93 h q0) (fun (q : Int32) (res : Option Value × mH) => res = (some (.int q), h)) := by
  unfold f28_93
  exact Seg.ret (f1 := (93, [.retAddr 0], [.int q0])) (h1 := h) rfl rfl rfl rfl (fun _ q => q)
theorem s28 (h : mH) (l0 : Nat) : Seg 28 (0, [.ref l0], []) h (f28 h l0) (fun (q : Int32) (res : Option Value × mH) => res = (some (.int q), h)) := by
  unfold f28
  refine Seg.callP (f1 := (6, [.ref l0], [.ref 1000000, .ref ((mR h l0 5).getD 0)])) (h1 := h) (cv := fun r => some (.int r)) rfl rfl rfl rfl (s29 h ((mR h l0 5).getD 0) 1000000) (fun r1 => ?_)
  refine Seg.blk0 (f' := (if (r1 : Int32) = 0 then 15 else 12, [.ref l0], [])) (h' := h) rfl rfl ?_
  refine Seg.ite (fun _ => ?_) (fun _ => ?_)
  · refine Seg.callP (f1 := (21, [.ref l0], [.ref 1000001, .ref ((mR h l0 5).getD 0)])) (h1 := h) (cv := fun r => some (.int r)) rfl rfl rfl rfl (s29 h ((mR h l0 5).getD 0) 1000001) (fun r2 => ?_)
    refine Seg.blk0 (f' := (if (r2 : Int32) = 0 then 30 else 27, [.ref l0], [])) (h' := h) rfl rfl ?_
    refine Seg.ite (fun _ => ?_) (fun _ => ?_)
    · refine Seg.callP (f1 := (36, [.ref l0], [.ref 1000002, .ref ((mR h l0 5).getD 0)])) (h1 := h) (cv := fun r => some (.int r)) rfl rfl rfl rfl (s29 h ((mR h l0 5).getD 0) 1000002) (fun r3 => ?_)
      refine Seg.blk0 (f' := (if (r3 : Int32) = 0 then 45 else 42, [.ref l0], [])) (h' := h) rfl rfl ?_
      refine Seg.ite (fun _ => ?_) (fun _ => ?_)
      · refine Seg.callP (f1 := (51, [.ref l0], [.ref 1000003, .ref ((mR h l0 5).getD 0)])) (h1 := h) (cv := fun r => some (.int r)) rfl rfl rfl rfl (s29 h ((mR h l0 5).getD 0) 1000003) (fun r4 => ?_)
        refine Seg.blk0 (f' := (if (r4 : Int32) = 0 then 60 else 57, [.ref l0], [])) (h' := h) rfl rfl ?_
        refine Seg.ite (fun _ => ?_) (fun _ => ?_)
        · refine Seg.callP (f1 := (66, [.ref l0], [.ref 1000004, .ref ((mR h l0 5).getD 0)])) (h1 := h) (cv := fun r => some (.int r)) rfl rfl rfl rfl (s29 h ((mR h l0 5).getD 0) 1000004) (fun r5 => ?_)
          refine Seg.blk0 (f' := (if (r5 : Int32) = 0 then 75 else 72, [.ref l0], [])) (h' := h) rfl rfl ?_
          refine Seg.ite (fun _ => ?_) (fun _ => ?_)
          · refine Seg.callP (f1 := (81, [.ref l0], [.ref 1000005, .ref ((mR h l0 5).getD 0)])) (h1 := h) (cv := fun r => some (.int r)) rfl rfl rfl rfl (s29 h ((mR h l0 5).getD 0) 1000005) (fun r6 => ?_)
            refine Seg.blk0 (f' := (if (r6 : Int32) = 0 then 92 else 87, [.ref l0], [])) (h' := h) rfl rfl ?_
            refine Seg.ite (fun _ => ?_) (fun _ => ?_)
            · refine Seg.blk0 (f' := (93, [.ref l0], [.int (-1)])) (h' := h) rfl rfl ?_
              exact Seg.w (mLw.u mLw.nil) (s28_93 h (-1))
            · refine Seg.blk0 (f' := (93, [.ref l0], [.int 11])) (h' := h) rfl rfl ?_
              exact Seg.w (mLw.u mLw.nil) (s28_93 h 11)
          · exact Seg.ret (f1 := (74, [.ref l0], [.int 10])) (h1 := h) rfl rfl rfl rfl (fun _ q => q)
        · exact Seg.ret (f1 := (59, [.ref l0], [.int 9])) (h1 := h) rfl rfl rfl rfl (fun _ q => q)
      · exact Seg.ret (f1 := (44, [.ref l0], [.int 8])) (h1 := h) rfl rfl rfl rfl (fun _ q => q)
    · exact Seg.ret (f1 := (29, [.ref l0], [.int 7])) (h1 := h) rfl rfl rfl rfl (fun _ q => q)
  · exact Seg.ret (f1 := (14, [.ref l0], [.int 6])) (h1 := h) rfl rfl rfl rfl (fun _ q => q)
theorem s30_87 (h : mH) (q0 : Int32) : Seg 30 (87, [.retAddr 0], [.int q0]) h (f30_87 h q0) (fun (q : Int32) (res : Option Value × mH) => res = (some (.int q), h)) := by
  unfold f30_87
  exact Seg.ret (f1 := (87, [.retAddr 0], [.int q0])) (h1 := h) rfl rfl rfl rfl (fun _ q => q)
theorem s30 (h : mH) (l0 : Nat) : Seg 30 (0, [.ref l0], []) h (f30 h l0) (fun (q : Int32) (res : Option Value × mH) => res = (some (.int q), h)) := by
  unfold f30
  refine Seg.callP (f1 := (6, [.ref l0], [.ref 1000006, .ref ((mR h l0 5).getD 0)])) (h1 := h) (cv := fun r => some (.int r)) rfl rfl rfl rfl (s29 h ((mR h l0 5).getD 0) 1000006) (fun r1 => ?_)
  refine Seg.blk0 (f' := (if (r1 : Int32) = 0 then 14 else 12, [.ref l0], [])) (h' := h) rfl rfl ?_
  refine Seg.ite (fun _ => ?_) (fun _ => ?_)
  · refine Seg.callP (f1 := (20, [.ref l0], [.ref 1000007, .ref ((mR h l0 5).getD 0)])) (h1 := h) (cv := fun r => some (.int r)) rfl rfl rfl rfl (s29 h ((mR h l0 5).getD 0) 1000007) (fun r2 => ?_)
    refine Seg.blk0 (f' := (if (r2 : Int32) = 0 then 28 else 26, [.ref l0], [])) (h' := h) rfl rfl ?_
    refine Seg.ite (fun _ => ?_) (fun _ => ?_)
    · refine Seg.callP (f1 := (34, [.ref l0], [.ref 1000008, .ref ((mR h l0 5).getD 0)])) (h1 := h) (cv := fun r => some (.int r)) rfl rfl rfl rfl (s29 h ((mR h l0 5).getD 0) 1000008) (fun r3 => ?_)
      refine Seg.blk0 (f' := (if (r3 : Int32) = 0 then 42 else 40, [.ref l0], [])) (h' := h) rfl rfl ?_
      refine Seg.ite (fun _ => ?_) (fun _ => ?_)
      · refine Seg.callP (f1 := (48, [.ref l0], [.ref 1000009, .ref ((mR h l0 5).getD 0)])) (h1 := h) (cv := fun r => some (.int r)) rfl rfl rfl rfl (s29 h ((mR h l0 5).getD 0) 1000009) (fun r4 => ?_)
        refine Seg.blk0 (f' := (if (r4 : Int32) = 0 then 56 else 54, [.ref l0], [])) (h' := h) rfl rfl ?_
        refine Seg.ite (fun _ => ?_) (fun _ => ?_)
        · refine Seg.callP (f1 := (62, [.ref l0], [.ref 1000010, .ref ((mR h l0 5).getD 0)])) (h1 := h) (cv := fun r => some (.int r)) rfl rfl rfl rfl (s29 h ((mR h l0 5).getD 0) 1000010) (fun r5 => ?_)
          refine Seg.blk0 (f' := (if (r5 : Int32) = 0 then 70 else 68, [.ref l0], [])) (h' := h) rfl rfl ?_
          refine Seg.ite (fun _ => ?_) (fun _ => ?_)
          · refine Seg.callP (f1 := (76, [.ref l0], [.ref 1000011, .ref ((mR h l0 5).getD 0)])) (h1 := h) (cv := fun r => some (.int r)) rfl rfl rfl rfl (s29 h ((mR h l0 5).getD 0) 1000011) (fun r6 => ?_)
            refine Seg.blk0 (f' := (if (r6 : Int32) = 0 then 86 else 82, [.ref l0], [])) (h' := h) rfl rfl ?_
            refine Seg.ite (fun _ => ?_) (fun _ => ?_)
            · refine Seg.blk0 (f' := (87, [.ref l0], [.int (-1)])) (h' := h) rfl rfl ?_
              exact Seg.w (mLw.u mLw.nil) (s30_87 h (-1))
            · refine Seg.blk0 (f' := (87, [.ref l0], [.int 5])) (h' := h) rfl rfl ?_
              exact Seg.w (mLw.u mLw.nil) (s30_87 h 5)
          · exact Seg.ret (f1 := (69, [.ref l0], [.int 4])) (h1 := h) rfl rfl rfl rfl (fun _ q => q)
        · exact Seg.ret (f1 := (55, [.ref l0], [.int 3])) (h1 := h) rfl rfl rfl rfl (fun _ q => q)
      · exact Seg.ret (f1 := (41, [.ref l0], [.int 2])) (h1 := h) rfl rfl rfl rfl (fun _ q => q)
    · exact Seg.ret (f1 := (27, [.ref l0], [.int 1])) (h1 := h) rfl rfl rfl rfl (fun _ q => q)
  · exact Seg.ret (f1 := (13, [.ref l0], [.int 0])) (h1 := h) rfl rfl rfl rfl (fun _ q => q)
theorem s27_73 (h : mH) (q0 : Int32) : Seg 27 (73, [.retAddr 0, .retAddr 0], [.int q0]) h (f27_73 h q0) (fun (q : Int32) (res : Option Value × mH) => res = (some (.int q), h)) := by
  unfold f27_73
  exact Seg.ret (f1 := (73, [.retAddr 0, .retAddr 0], [.int q0])) (h1 := h) rfl rfl rfl rfl (fun _ q => q)
theorem s27 (h : mH) (l0 : Nat) (l1 : Int32) : Seg 27 (0, [.ref l0, .int l1], []) h (f27 h l0 l1) (fun (q : Int32) (res : Option Value × mH) => res = (some (.int q), h)) := by
  unfold f27
  refine Seg.blk0 (f' := (if (l1 : Int32) = 0 then 28 else if (l1 : Int32) = 1 then 33 else if (l1 : Int32) = 2 then 38 else 74, [.ref l0, .int l1], [])) (h' := h) rfl rfl ?_
  refine Seg.ite (fun _ => ?_) (fun _ => ?_)
  · refine Seg.callP (f1 := (29, [.ref l0, .int l1], [.ref l0])) (h1 := h) (cv := fun r => some (.int r)) rfl rfl rfl rfl (s28 h l0) (fun r1 => ?_)
    exact Seg.ret (f1 := (32, [.ref l0, .int l1], [.int r1])) (h1 := h) rfl rfl rfl rfl (fun _ q => q)
  refine Seg.ite (fun _ => ?_) (fun _ => ?_)
  · refine Seg.callP (f1 := (34, [.ref l0, .int l1], [.ref l0])) (h1 := h) (cv := fun r => some (.int r)) rfl rfl rfl rfl (s30 h l0) (fun r2 => ?_)
    exact Seg.ret (f1 := (37, [.ref l0, .int l1], [.int r2])) (h1 := h) rfl rfl rfl rfl (fun _ q => q)
  refine Seg.ite (fun _ => ?_) (fun _ => ?_)
  · refine Seg.callP (f1 := (44, [.ref l0, .int l1], [.ref 1000012, .ref ((mR h l0 5).getD 0)])) (h1 := h) (cv := fun r => some (.int r)) rfl rfl rfl rfl (s29 h ((mR h l0 5).getD 0) 1000012) (fun r3 => ?_)
    refine Seg.blk0 (f' := (if (r3 : Int32) = 0 then 55 else 50, [.ref l0, .int l1], [])) (h' := h) rfl rfl ?_
    refine Seg.ite (fun _ => ?_) (fun _ => ?_)
    · refine Seg.callP (f1 := (61, [.ref l0, .int l1], [.ref 1000013, .ref ((mR h l0 5).getD 0)])) (h1 := h) (cv := fun r => some (.int r)) rfl rfl rfl rfl (s29 h ((mR h l0 5).getD 0) 1000013) (fun r4 => ?_)
      refine Seg.blk0 (f' := (if (r4 : Int32) = 0 then 72 else 67, [.ref l0, .int l1], [])) (h' := h) rfl rfl ?_
      refine Seg.ite (fun _ => ?_) (fun _ => ?_)
      · refine Seg.blk0 (f' := (73, [.ref l0, .int l1], [.int (-1)])) (h' := h) rfl rfl ?_
        exact Seg.w (mLw.u (mLw.u mLw.nil)) (s27_73 h (-1))
      · refine Seg.blk0 (f' := (73, [.ref l0, .int l1], [.int 13])) (h' := h) rfl rfl ?_
        exact Seg.w (mLw.u (mLw.u mLw.nil)) (s27_73 h 13)
    · refine Seg.blk0 (f' := (73, [.ref l0, .int l1], [.int 12])) (h' := h) rfl rfl ?_
      exact Seg.w (mLw.u (mLw.u mLw.nil)) (s27_73 h 12)
  · exact Seg.ret (f1 := (75, [.ref l0, .int l1], [.int (-1)])) (h1 := h) rfl rfl rfl rfl (fun _ q => q)
theorem s31 (h : mH) (l0 : Nat) : Seg 31 (0, [.ref l0], []) h (f31 h l0) (fun (q : Unit × mH) (res : Option Value × mH) => res = (none, q.2)) := by
  unfold f31
  refine Seg.blk (f' := (5, [.ref l0], [])) (h' := (mSI h l0 3 1)) rfl rfl ?_
  refine Seg.blk (f' := (16, [.ref l0], [])) (h' := (mSI (mSI h l0 3 1) l0 4 (mI (mSI h l0 3 1) ((mR h l0 5).getD 0) 4))) rfl rfl ?_
  exact Seg.ret (f1 := (16, [.ref l0], [])) (h1 := (mSI (mSI h l0 3 1) l0 4 (mI (mSI h l0 3 1) ((mR h l0 5).getD 0) 4))) rfl rfl rfl rfl (fun _ q => q)
theorem s32_52 (h : mH) : Seg 32 (52, [.retAddr 0], []) h (f32_52 h) (fun (q : Int32) (res : Option Value × mH) => res = (some (.int q), h)) := by
  unfold f32_52
  exact Seg.ret (f1 := (53, [.retAddr 0], [.int 2])) (h1 := h) rfl rfl rfl rfl (fun _ q => q)
theorem s32_54 (h : mH) : Seg 32 (54, [.retAddr 0], []) h (f32_54 h) (fun (q : Int32) (res : Option Value × mH) => res = (some (.int q), h)) := by
  unfold f32_54
  exact Seg.ret (f1 := (55, [.retAddr 0], [.int 0])) (h1 := h) rfl rfl rfl rfl (fun _ q => q)
theorem s32_56 (h : mH) : Seg 32 (56, [.retAddr 0], []) h (f32_56 h) (fun (q : Int32) (res : Option Value × mH) => res = (some (.int q), h)) := by
  unfold f32_56
  exact Seg.ret (f1 := (57, [.retAddr 0], [.int 1])) (h1 := h) rfl rfl rfl rfl (fun _ q => q)
theorem s32 (h : mH) (l0 : Int32) : Seg 32 (0, [.int l0], []) h (f32 h l0) (fun (q : Int32) (res : Option Value × mH) => res = (some (.int q), h)) := by
  unfold f32
  refine Seg.blk0 (f' := (if (l0 : Int32) = 3 then 52 else if (l0 : Int32) = 4 then 54 else if (l0 : Int32) = 5 then 54 else if (l0 : Int32) = 6 then 52 else if (l0 : Int32) = 7 then 52 else if (l0 : Int32) = 8 then 52 else if (l0 : Int32) = 9 then 56 else if (l0 : Int32) = 10 then 56 else if (l0 : Int32) = 11 then 52 else 56, [.int l0], [])) (h' := h) rfl rfl ?_
  refine Seg.ite (fun _ => ?_) (fun _ => ?_)
  · exact Seg.w (mLw.u mLw.nil) (s32_52 h)
  refine Seg.ite (fun _ => ?_) (fun _ => ?_)
  · exact Seg.w (mLw.u mLw.nil) (s32_54 h)
  refine Seg.ite (fun _ => ?_) (fun _ => ?_)
  · exact Seg.w (mLw.u mLw.nil) (s32_54 h)
  refine Seg.ite (fun _ => ?_) (fun _ => ?_)
  · exact Seg.w (mLw.u mLw.nil) (s32_52 h)
  refine Seg.ite (fun _ => ?_) (fun _ => ?_)
  · exact Seg.w (mLw.u mLw.nil) (s32_52 h)
  refine Seg.ite (fun _ => ?_) (fun _ => ?_)
  · exact Seg.w (mLw.u mLw.nil) (s32_52 h)
  refine Seg.ite (fun _ => ?_) (fun _ => ?_)
  · exact Seg.w (mLw.u mLw.nil) (s32_56 h)
  refine Seg.ite (fun _ => ?_) (fun _ => ?_)
  · exact Seg.w (mLw.u mLw.nil) (s32_56 h)
  refine Seg.ite (fun _ => ?_) (fun _ => ?_)
  · exact Seg.w (mLw.u mLw.nil) (s32_52 h)
  · exact Seg.w (mLw.u mLw.nil) (s32_56 h)
theorem s36_17 (h : mH) : Seg 36 (17, [.retAddr 0, .retAddr 0, .retAddr 0], []) h (f36_17 h) (fun (q : Unit × mH) (res : Option Value × mH) => res = (none, q.2)) := by
  unfold f36_17
  exact Seg.ret (f1 := (17, [.retAddr 0, .retAddr 0, .retAddr 0], [])) (h1 := h) rfl rfl rfl rfl (fun _ q => q)
theorem s36 (h : mH) (l0 : Nat) (l1 : Int32) (l2 : Int32) : Seg 36 (0, [.ref l0, .int l1, .int l2], []) h (f36 h l0 l1 l2) (fun (q : Unit × mH) (res : Option Value × mH) => res = (none, q.2)) := by
  unfold f36
  refine Seg.blk (f' := (if ((mI h l0 3) : Int32) = 0 then 7 else 17, [.ref l0, .int l1, .int l2], [])) (h' := h) rfl rfl ?_
  refine Seg.ite (fun _ => ?_) (fun _ => ?_)
  · refine Seg.blk (f' := (12, [.ref l0, .int l1, .int l2], [])) (h' := (mSI h l0 3 l1)) rfl rfl ?_
    refine Seg.blk (f' := (17, [.ref l0, .int l1, .int l2], [])) (h' := (mSI (mSI h l0 3 l1) l0 4 l2)) rfl rfl ?_
    exact Seg.w (mLw.u (mLw.u (mLw.u mLw.nil))) (s36_17 (mSI (mSI h l0 3 l1) l0 4 l2))
  · exact Seg.w (mLw.u (mLw.u (mLw.u mLw.nil))) (s36_17 h)
theorem s35_14 (h : mH) : Seg 35 (14, [.retAddr 0, .retAddr 0, .retAddr 0], []) h (f35_14 h) (fun (q : Unit × mH) (res : Option Value × mH) => res = (none, q.2)) := by
  unfold f35_14
  exact Seg.ret (f1 := (14, [.retAddr 0, .retAddr 0, .retAddr 0], [])) (h1 := h) rfl rfl rfl rfl (fun _ q => q)
theorem s35 (h : mH) (l0 : Nat) (l1 : Int32) (l2 : Int32) : Seg 35 (0, [.ref l0, .int l1, .int l2], []) h (f35 h l0 l1 l2) (fun (q : Unit × mH) (res : Option Value × mH) => res = (none, q.2)) := by
  unfold f35
  refine Seg.blk0 (f' := (if (l1 : Int32) < l2 then 14 else 5, [.ref l0, .int l1, .int l2], [])) (h' := h) rfl rfl ?_
  refine Seg.ite (fun _ => ?_) (fun _ => ?_)
  · exact Seg.w (mLw.u (mLw.u (mLw.u mLw.nil))) (s35_14 h)
  · refine Seg.call (f1 := (11, [.ref l0, .int l1, .int l2], [.int (mI h l0 8), .int 3, .ref l0])) (h1 := h) (cv := fun _ => none) rfl rfl rfl rfl (s36 h l0 3 (mI h l0 8)) (fun r1 => ?_)
    exact Seg.w (mLw.u (mLw.u (mLw.u mLw.nil))) (s35_14 r1.2)
theorem s37_25 (h : mH) : Seg 37 (25, [.retAddr 0, .retAddr 0, .retAddr 0, .retAddr 0], []) h (f37_25 h) (fun (q : Unit × mH) (res : Option Value × mH) => res = (none, q.2)) := by
  unfold f37_25
  exact Seg.ret (f1 := (25, [.retAddr 0, .retAddr 0, .retAddr 0, .retAddr 0], [])) (h1 := h) rfl rfl rfl rfl (fun _ q => q)
theorem s37 (h : mH) (l0 : Nat) (l1 : Int32) (l2 : Int32) (l3 : Int32) : Seg 37 (0, [.ref l0, .int l1, .int l2, .int l3], []) h (f37 h l0 l1 l2 l3) (fun (q : Unit × mH) (res : Option Value × mH) => res = (none, q.2)) := by
  unfold f37
  refine Seg.callP (f1 := (8, [.ref l0, .int l1, .int l2, .int l3], [.int l3, .int l2, .int (mI h ((mR h l0 6).getD 0) (Int32.toNatClampNeg l1))])) (h1 := h) (cv := fun r => some (.int r)) rfl rfl rfl rfl (s17 h (mI h ((mR h l0 6).getD 0) (Int32.toNatClampNeg l1)) l2 l3) (fun r1 => ?_)
  refine Seg.blk0 (f' := (if (r1 : Int32) = 0 then 14 else 25, [.ref l0, .int l1, .int l2, .int l3], [])) (h' := h) rfl rfl ?_
  refine Seg.ite (fun _ => ?_) (fun _ => ?_)
  · refine Seg.call (f1 := (22, [.ref l0, .int l1, .int l2, .int l3], [.int (mI h ((mR h l0 7).getD 0) (Int32.toNatClampNeg l1)), .int 2, .ref l0])) (h1 := h) (cv := fun _ => none) rfl rfl rfl rfl (s36 h l0 2 (mI h ((mR h l0 7).getD 0) (Int32.toNatClampNeg l1))) (fun r2 => ?_)
    exact Seg.w (mLw.u (mLw.u (mLw.u (mLw.u mLw.nil)))) (s37_25 r2.2)
  · exact Seg.w (mLw.u (mLw.u (mLw.u (mLw.u mLw.nil)))) (s37_25 h)
theorem s34_90 (h : mH) : Seg 34 (90, [.retAddr 0], []) h (f34_90 h) (fun (q : Unit × mH) (res : Option Value × mH) => res = (none, q.2)) := by
  unfold f34_90
  exact Seg.ret (f1 := (90, [.retAddr 0], [])) (h1 := h) rfl rfl rfl rfl (fun _ q => q)
theorem s34_56 (h : mH) (l0 : Nat) : Seg 34 (56, [.ref l0], []) h (f34_56 h l0) (fun (q : Unit × mH) (res : Option Value × mH) => res = (none, q.2)) := by
  unfold f34_56
  refine Seg.blk (f' := (77, [.ref l0], [])) (h' := (mSI h ((mR h ((mR h l0 0).getD 0) 1).getD 0) (Int32.toNatClampNeg (mI h ((mR h l0 0).getD 0) 6)) (mI h ((mR h l0 6).getD 0) (Int32.toNatClampNeg 1)))) rfl rfl ?_
  refine Seg.blk (f' := (90, [.ref l0], [])) (h' := (mSI (mSI h ((mR h ((mR h l0 0).getD 0) 1).getD 0) (Int32.toNatClampNeg (mI h ((mR h l0 0).getD 0) 6)) (mI h ((mR h l0 6).getD 0) (Int32.toNatClampNeg 1))) ((mR h l0 0).getD 0) 6 ((mI (mSI h ((mR h ((mR h l0 0).getD 0) 1).getD 0) (Int32.toNatClampNeg (mI h ((mR h l0 0).getD 0) 6)) (mI h ((mR h l0 6).getD 0) (Int32.toNatClampNeg 1))) ((mR h l0 0).getD 0) 6) + 1))) rfl rfl ?_
  exact Seg.w (mLw.u mLw.nil) (s34_90 (mSI (mSI h ((mR h ((mR h l0 0).getD 0) 1).getD 0) (Int32.toNatClampNeg (mI h ((mR h l0 0).getD 0) 6)) (mI h ((mR h l0 6).getD 0) (Int32.toNatClampNeg 1))) ((mR h l0 0).getD 0) 6 ((mI (mSI h ((mR h ((mR h l0 0).getD 0) 1).getD 0) (Int32.toNatClampNeg (mI h ((mR h l0 0).getD 0) 6)) (mI h ((mR h l0 6).getD 0) (Int32.toNatClampNeg 1))) ((mR h l0 0).getD 0) 6) + 1)))
theorem s34 (h : mH) (l0 : Nat) : Seg 34 (0, [.ref l0], []) h (f34 h l0) (fun (q : Unit × mH) (res : Option Value × mH) => res = (none, q.2)) := by
  unfold f34
  refine Seg.call (f1 := (10, [.ref l0], [.int 8, .int (mI h ((mR h l0 0).getD 0) 6), .ref l0])) (h1 := h) (cv := fun _ => none) rfl rfl rfl rfl (s35 h l0 (mI h ((mR h l0 0).getD 0) 6) 8) (fun r1 => ?_)
  refine Seg.call (f1 := (18, [.ref l0], [.int 9, .int 1, .int 0, .ref l0])) (h1 := r1.2) (cv := fun _ => none) rfl rfl rfl rfl (s37 r1.2 l0 0 1 9) (fun r2 => ?_)
  refine Seg.call (f1 := (25, [.ref l0], [.int 5, .int 0, .int 1, .ref l0])) (h1 := r2.2) (cv := fun _ => none) rfl rfl rfl rfl (s37 r2.2 l0 1 0 5) (fun r3 => ?_)
  refine Seg.blk (f' := (if ((mI r3.2 l0 3) : Int32) = 0 then 35 else 90, [.ref l0], [])) (h' := r3.2) rfl rfl ?_
  refine Seg.ite (fun _ => ?_) (fun _ => ?_)
  · refine Seg.blk (f' := (56, [.ref l0], [])) (h' := (mSI r3.2 ((mR r3.2 ((mR r3.2 l0 0).getD 0) 0).getD 0) (Int32.toNatClampNeg (mI r3.2 ((mR r3.2 l0 0).getD 0) 6)) (mI r3.2 ((mR r3.2 l0 6).getD 0) (Int32.toNatClampNeg 0)))) rfl rfl ?_
    exact Seg.w (mLw.k mLw.nil) (s34_56 (mSI r3.2 ((mR r3.2 ((mR r3.2 l0 0).getD 0) 0).getD 0) (Int32.toNatClampNeg (mI r3.2 ((mR r3.2 l0 0).getD 0) 6)) (mI r3.2 ((mR r3.2 l0 6).getD 0) (Int32.toNatClampNeg 0))) l0)
  · exact Seg.w (mLw.u mLw.nil) (s34_90 r3.2)
theorem s38_73 (h : mH) : Seg 38 (73, [.retAddr 0], []) h (f38_73 h) (fun (q : Unit × mH) (res : Option Value × mH) => res = (none, q.2)) := by
  unfold f38_73
  exact Seg.ret (f1 := (73, [.retAddr 0], [])) (h1 := h) rfl rfl rfl rfl (fun _ q => q)
theorem s38_54 (h : mH) (l0 : Nat) : Seg 38 (54, [.ref l0], []) h (f38_54 h l0) (fun (q : Unit × mH) (res : Option Value × mH) => res = (none, q.2)) := by
  unfold f38_54
  refine Seg.blk (f' := (73, [.ref l0], [])) (h' := (mSI h l0 9 (if ((mI h l0 9) : Int32) < ((mI h ((mR h l0 6).getD 0) (Int32.toNatClampNeg 0)) + 1) then ((mI h ((mR h l0 6).getD 0) (Int32.toNatClampNeg 0)) + 1) else (mI h l0 9)))) rfl rfl ?_
  exact Seg.w (mLw.u mLw.nil) (s38_73 (mSI h l0 9 (if ((mI h l0 9) : Int32) < ((mI h ((mR h l0 6).getD 0) (Int32.toNatClampNeg 0)) + 1) then ((mI h ((mR h l0 6).getD 0) (Int32.toNatClampNeg 0)) + 1) else (mI h l0 9))))
theorem s38 (h : mH) (l0 : Nat) : Seg 38 (0, [.ref l0], []) h (f38 h l0) (fun (q : Unit × mH) (res : Option Value × mH) => res = (none, q.2)) := by
  unfold f38
  refine Seg.call (f1 := (5, [.ref l0], [.int 7, .int 0, .int 0, .ref l0])) (h1 := h) (cv := fun _ => none) rfl rfl rfl rfl (s37 h l0 0 0 7) (fun r1 => ?_)
  refine Seg.call (f1 := (19, [.ref l0], [.int ((mI r1.2 ((mR r1.2 l0 6).getD 0) (Int32.toNatClampNeg 0)) - 1), .int 0, .int 1, .ref l0])) (h1 := r1.2) (cv := fun _ => none) rfl rfl rfl rfl (s37 r1.2 l0 1 0 ((mI r1.2 ((mR r1.2 l0 6).getD 0) (Int32.toNatClampNeg 0)) - 1)) (fun r2 => ?_)
  refine Seg.blk (f' := (if ((mI r2.2 l0 3) : Int32) = 0 then 29 else 73, [.ref l0], [])) (h' := r2.2) rfl rfl ?_
  refine Seg.ite (fun _ => ?_) (fun _ => ?_)
  · refine Seg.blk (f' := (54, [.ref l0], [])) (h' := (mSI r2.2 ((mR r2.2 ((mR r2.2 l0 0).getD 0) 2).getD 0) (Int32.toNatClampNeg (mI r2.2 ((mR r2.2 l0 6).getD 0) (Int32.toNatClampNeg 0))) ((mI r2.2 ((mR r2.2 ((mR r2.2 l0 0).getD 0) 2).getD 0) (Int32.toNatClampNeg (mI r2.2 ((mR r2.2 l0 6).getD 0) (Int32.toNatClampNeg 0)))) ||| ((1 : Int32) <<< ((mI r2.2 ((mR r2.2 l0 6).getD 0) (Int32.toNatClampNeg 1)) &&& (31 : Int32)))))) rfl rfl ?_
    exact Seg.w (mLw.k mLw.nil) (s38_54 (mSI r2.2 ((mR r2.2 ((mR r2.2 l0 0).getD 0) 2).getD 0) (Int32.toNatClampNeg (mI r2.2 ((mR r2.2 l0 6).getD 0) (Int32.toNatClampNeg 0))) ((mI r2.2 ((mR r2.2 ((mR r2.2 l0 0).getD 0) 2).getD 0) (Int32.toNatClampNeg (mI r2.2 ((mR r2.2 l0 6).getD 0) (Int32.toNatClampNeg 0)))) ||| ((1 : Int32) <<< ((mI r2.2 ((mR r2.2 l0 6).getD 0) (Int32.toNatClampNeg 1)) &&& (31 : Int32))))) l0)
  · exact Seg.w (mLw.u mLw.nil) (s38_73 r2.2)
theorem s39_42 (h : mH) : Seg 39 (42, [.retAddr 0], []) h (f39_42 h) (fun (q : Unit × mH) (res : Option Value × mH) => res = (none, q.2)) := by
  unfold f39_42
  exact Seg.ret (f1 := (42, [.retAddr 0], [])) (h1 := h) rfl rfl rfl rfl (fun _ q => q)
theorem s39 (h : mH) (l0 : Nat) : Seg 39 (0, [.ref l0], []) h (f39 h l0) (fun (q : Unit × mH) (res : Option Value × mH) => res = (none, q.2)) := by
  unfold f39
  refine Seg.call (f1 := (4, [.ref l0], [.int 5, .int 0, .int 0, .ref l0])) (h1 := h) (cv := fun _ => none) rfl rfl rfl rfl (s37 h l0 0 0 5) (fun r1 => ?_)
  refine Seg.call (f1 := (12, [.ref l0], [.int 9, .int 0, .int 1, .ref l0])) (h1 := r1.2) (cv := fun _ => none) rfl rfl rfl rfl (s37 r1.2 l0 1 0 9) (fun r2 => ?_)
  refine Seg.blk (f' := (if ((mI r2.2 l0 3) : Int32) = 0 then 22 else 42, [.ref l0], [])) (h' := r2.2) rfl rfl ?_
  refine Seg.ite (fun _ => ?_) (fun _ => ?_)
  · refine Seg.blk (f' := (42, [.ref l0], [])) (h' := (mSI r2.2 ((mR r2.2 ((mR r2.2 l0 0).getD 0) 3).getD 0) (Int32.toNatClampNeg (mI r2.2 ((mR r2.2 l0 6).getD 0) (Int32.toNatClampNeg 0))) (mI r2.2 ((mR r2.2 l0 6).getD 0) (Int32.toNatClampNeg 1)))) rfl rfl ?_
    exact Seg.w (mLw.u mLw.nil) (s39_42 (mSI r2.2 ((mR r2.2 ((mR r2.2 l0 0).getD 0) 3).getD 0) (Int32.toNatClampNeg (mI r2.2 ((mR r2.2 l0 6).getD 0) (Int32.toNatClampNeg 0))) (mI r2.2 ((mR r2.2 l0 6).getD 0) (Int32.toNatClampNeg 1))))
  · exact Seg.w (mLw.u mLw.nil) (s39_42 r2.2)
theorem s40_28 (h : mH) : Seg 40 (28, [.retAddr 0], []) h (f40_28 h) (fun (q : Unit × mH) (res : Option Value × mH) => res = (none, q.2)) := by
  unfold f40_28
  exact Seg.ret (f1 := (28, [.retAddr 0], [])) (h1 := h) rfl rfl rfl rfl (fun _ q => q)
theorem s40 (h : mH) (l0 : Nat) : Seg 40 (0, [.ref l0], []) h (f40 h l0) (fun (q : Unit × mH) (res : Option Value × mH) => res = (none, q.2)) := by
  unfold f40
  refine Seg.call (f1 := (5, [.ref l0], [.int 12, .int 1, .int 0, .ref l0])) (h1 := h) (cv := fun _ => none) rfl rfl rfl rfl (s37 h l0 0 1 12) (fun r1 => ?_)
  refine Seg.blk (f' := (if ((mI r1.2 l0 3) : Int32) = 0 then 15 else 28, [.ref l0], [])) (h' := r1.2) rfl rfl ?_
  refine Seg.ite (fun _ => ?_) (fun _ => ?_)
  · refine Seg.blk (f' := (28, [.ref l0], [])) (h' := (mSI r1.2 ((mR r1.2 l0 0).getD 0) 8 (mI r1.2 ((mR r1.2 l0 6).getD 0) (Int32.toNatClampNeg 0)))) rfl rfl ?_
    exact Seg.w (mLw.u mLw.nil) (s40_28 (mSI r1.2 ((mR r1.2 l0 0).getD 0) 8 (mI r1.2 ((mR r1.2 l0 6).getD 0) (Int32.toNatClampNeg 0))))
  · exact Seg.w (mLw.u mLw.nil) (s40_28 r1.2)
theorem s41_62 (h : mH) : Seg 41 (62, [.retAddr 0], []) h (f41_62 h) (fun (q : Unit × mH) (res : Option Value × mH) => res = (none, q.2)) := by
  unfold f41_62
  exact Seg.ret (f1 := (62, [.retAddr 0], [])) (h1 := h) rfl rfl rfl rfl (fun _ q => q)
theorem s41_49 (h : mH) (l0 : Nat) : Seg 41 (49, [.ref l0], []) h (f41_49 h l0) (fun (q : Unit × mH) (res : Option Value × mH) => res = (none, q.2)) := by
  unfold f41_49
  refine Seg.blk (f' := (62, [.ref l0], [])) (h' := (mSI h ((mR h l0 0).getD 0) 7 ((mI h ((mR h l0 0).getD 0) 7) + 1))) rfl rfl ?_
  exact Seg.w (mLw.u mLw.nil) (s41_62 (mSI h ((mR h l0 0).getD 0) 7 ((mI h ((mR h l0 0).getD 0) 7) + 1)))
theorem s41 (h : mH) (l0 : Nat) : Seg 41 (0, [.ref l0], []) h (f41 h l0) (fun (q : Unit × mH) (res : Option Value × mH) => res = (none, q.2)) := by
  unfold f41
  refine Seg.call (f1 := (10, [.ref l0], [.int 6, .int (mI h ((mR h l0 0).getD 0) 7), .ref l0])) (h1 := h) (cv := fun _ => none) rfl rfl rfl rfl (s35 h l0 (mI h ((mR h l0 0).getD 0) 7) 6) (fun r1 => ?_)
  refine Seg.call (f1 := (18, [.ref l0], [.int 9, .int 1, .int 0, .ref l0])) (h1 := r1.2) (cv := fun _ => none) rfl rfl rfl rfl (s37 r1.2 l0 0 1 9) (fun r2 => ?_)
  refine Seg.blk (f' := (if ((mI r2.2 l0 3) : Int32) = 0 then 28 else 62, [.ref l0], [])) (h' := r2.2) rfl rfl ?_
  refine Seg.ite (fun _ => ?_) (fun _ => ?_)
  · refine Seg.blk (f' := (49, [.ref l0], [])) (h' := (mSI r2.2 ((mR r2.2 ((mR r2.2 l0 0).getD 0) 4).getD 0) (Int32.toNatClampNeg (mI r2.2 ((mR r2.2 l0 0).getD 0) 7)) (mI r2.2 ((mR r2.2 l0 6).getD 0) (Int32.toNatClampNeg 0)))) rfl rfl ?_
    exact Seg.w (mLw.k mLw.nil) (s41_49 (mSI r2.2 ((mR r2.2 ((mR r2.2 l0 0).getD 0) 4).getD 0) (Int32.toNatClampNeg (mI r2.2 ((mR r2.2 l0 0).getD 0) 7)) (mI r2.2 ((mR r2.2 l0 6).getD 0) (Int32.toNatClampNeg 0))) l0)
  · exact Seg.w (mLw.u mLw.nil) (s41_62 r2.2)
theorem s42_100 (h : mH) : Seg 42 (100, [.retAddr 0], []) h (f42_100 h) (fun (q : Unit × mH) (res : Option Value × mH) => res = (none, q.2)) := by
  unfold f42_100
  exact Seg.ret (f1 := (100, [.retAddr 0], [])) (h1 := h) rfl rfl rfl rfl (fun _ q => q)
theorem s42_72 (h : mH) (l0 : Nat) : Seg 42 (72, [.ref l0], []) h (f42_72 h l0) (fun (q : Unit × mH) (res : Option Value × mH) => res = (none, q.2)) := by
  unfold f42_72
  refine Seg.blk (f' := (100, [.ref l0], [])) (h' := (mSI h l0 10 (if ((mI h l0 10) : Int32) < ((if ((mI h ((mR h l0 6).getD 0) (Int32.toNatClampNeg 0)) : Int32) < (mI h ((mR h l0 6).getD 0) (Int32.toNatClampNeg 1)) then (mI h ((mR h l0 6).getD 0) (Int32.toNatClampNeg 1)) else (mI h ((mR h l0 6).getD 0) (Int32.toNatClampNeg 0))) + 1) then ((if ((mI h ((mR h l0 6).getD 0) (Int32.toNatClampNeg 0)) : Int32) < (mI h ((mR h l0 6).getD 0) (Int32.toNatClampNeg 1)) then (mI h ((mR h l0 6).getD 0) (Int32.toNatClampNeg 1)) else (mI h ((mR h l0 6).getD 0) (Int32.toNatClampNeg 0))) + 1) else (mI h l0 10)))) rfl rfl ?_
  exact Seg.w (mLw.u mLw.nil) (s42_100 (mSI h l0 10 (if ((mI h l0 10) : Int32) < ((if ((mI h ((mR h l0 6).getD 0) (Int32.toNatClampNeg 0)) : Int32) < (mI h ((mR h l0 6).getD 0) (Int32.toNatClampNeg 1)) then (mI h ((mR h l0 6).getD 0) (Int32.toNatClampNeg 1)) else (mI h ((mR h l0 6).getD 0) (Int32.toNatClampNeg 0))) + 1) then ((if ((mI h ((mR h l0 6).getD 0) (Int32.toNatClampNeg 0)) : Int32) < (mI h ((mR h l0 6).getD 0) (Int32.toNatClampNeg 1)) then (mI h ((mR h l0 6).getD 0) (Int32.toNatClampNeg 1)) else (mI h ((mR h l0 6).getD 0) (Int32.toNatClampNeg 0))) + 1) else (mI h l0 10))))
theorem s42_40 (h : mH) (l0 : Nat) : Seg 42 (40, [.ref l0], []) h (f42_40 h l0) (fun (q : Unit × mH) (res : Option Value × mH) => res = (none, q.2)) := by
  unfold f42_40
  refine Seg.blk (f' := (if ((mI h l0 3) : Int32) = 0 then 47 else 100, [.ref l0], [])) (h' := h) rfl rfl ?_
  refine Seg.ite (fun _ => ?_) (fun _ => ?_)
  · refine Seg.blk (f' := (72, [.ref l0], [])) (h' := (mSI h ((mR h ((mR h l0 0).getD 0) 5).getD 0) (Int32.toNatClampNeg (mI h ((mR h l0 6).getD 0) (Int32.toNatClampNeg 0))) ((mI h ((mR h ((mR h l0 0).getD 0) 5).getD 0) (Int32.toNatClampNeg (mI h ((mR h l0 6).getD 0) (Int32.toNatClampNeg 0)))) ||| ((1 : Int32) <<< ((mI h ((mR h l0 6).getD 0) (Int32.toNatClampNeg 1)) &&& (31 : Int32)))))) rfl rfl ?_
    exact Seg.w (mLw.k mLw.nil) (s42_72 (mSI h ((mR h ((mR h l0 0).getD 0) 5).getD 0) (Int32.toNatClampNeg (mI h ((mR h l0 6).getD 0) (Int32.toNatClampNeg 0))) ((mI h ((mR h ((mR h l0 0).getD 0) 5).getD 0) (Int32.toNatClampNeg (mI h ((mR h l0 6).getD 0) (Int32.toNatClampNeg 0)))) ||| ((1 : Int32) <<< ((mI h ((mR h l0 6).getD 0) (Int32.toNatClampNeg 1)) &&& (31 : Int32))))) l0)
  · exact Seg.w (mLw.u mLw.nil) (s42_100 h)
theorem s42 (h : mH) (l0 : Nat) : Seg 42 (0, [.ref l0], []) h (f42 h l0) (fun (q : Unit × mH) (res : Option Value × mH) => res = (none, q.2)) := by
  unfold f42
  refine Seg.call (f1 := (4, [.ref l0], [.int 5, .int 0, .int 0, .ref l0])) (h1 := h) (cv := fun _ => none) rfl rfl rfl rfl (s37 h l0 0 0 5) (fun r1 => ?_)
  refine Seg.call (f1 := (11, [.ref l0], [.int 5, .int 0, .int 1, .ref l0])) (h1 := r1.2) (cv := fun _ => none) rfl rfl rfl rfl (s37 r1.2 l0 1 0 5) (fun r2 => ?_)
  refine Seg.blk (f' := (if ((mI r2.2 ((mR r2.2 l0 6).getD 0) (Int32.toNatClampNeg 0)) : Int32) = (mI r2.2 ((mR r2.2 l0 6).getD 0) (Int32.toNatClampNeg 1)) then 29 else 40, [.ref l0], [])) (h' := r2.2) rfl rfl ?_
  refine Seg.ite (fun _ => ?_) (fun _ => ?_)
  · refine Seg.call (f1 := (37, [.ref l0], [.int (mI r2.2 ((mR r2.2 l0 7).getD 0) (Int32.toNatClampNeg 1)), .int 2, .ref l0])) (h1 := r2.2) (cv := fun _ => none) rfl rfl rfl rfl (s36 r2.2 l0 2 (mI r2.2 ((mR r2.2 l0 7).getD 0) (Int32.toNatClampNeg 1))) (fun r3 => ?_)
    exact Seg.w (mLw.k mLw.nil) (s42_40 r3.2 l0)
  · exact Seg.w (mLw.k mLw.nil) (s42_40 r2.2 l0)
theorem s44_30 (h : mH) (l0 : Nat) : Seg 44 (30, [.ref l0, .retAddr 0, .retAddr 0], []) h (f44_30 h l0) (fun (q : Unit × mH) (res : Option Value × mH) => res = (none, q.2)) := by
  unfold f44_30
  refine Seg.blk (f' := (40, [.ref l0, .retAddr 0, .retAddr 0], [])) (h' := (mSI h l0 2 ((mI h l0 2) + 1))) rfl rfl ?_
  exact Seg.ret (f1 := (40, [.ref l0, .retAddr 0, .retAddr 0], [])) (h1 := (mSI h l0 2 ((mI h l0 2) + 1))) rfl rfl rfl rfl (fun _ q => q)
theorem s44 (h : mH) (l0 : Nat) (l1 : Int32) (l2 : Int32) : Seg 44 (0, [.ref l0, .int l1, .int l2], []) h (f44 h l0 l1 l2) (fun (q : Unit × mH) (res : Option Value × mH) => res = (none, q.2)) := by
  unfold f44
  refine Seg.blk (f' := (if ((mI h l0 2) : Int32) < 8 then 10 else 9, [.ref l0, .int l1, .int l2], [])) (h' := h) rfl rfl ?_
  refine Seg.ite (fun _ => ?_) (fun _ => ?_)
  · refine Seg.blk (f' := (20, [.ref l0, .int l1, .int l2], [])) (h' := (mSI h ((mR h l0 0).getD 0) (Int32.toNatClampNeg (mI h l0 2)) l1)) rfl rfl ?_
    refine Seg.blk (f' := (30, [.ref l0, .int l1, .int l2], [])) (h' := (mSI (mSI h ((mR h l0 0).getD 0) (Int32.toNatClampNeg (mI h l0 2)) l1) ((mR h l0 1).getD 0) (Int32.toNatClampNeg (mI (mSI h ((mR h l0 0).getD 0) (Int32.toNatClampNeg (mI h l0 2)) l1) l0 2)) l2)) rfl rfl ?_
    exact Seg.w (mLw.k (mLw.u (mLw.u mLw.nil))) (s44_30 (mSI (mSI h ((mR h l0 0).getD 0) (Int32.toNatClampNeg (mI h l0 2)) l1) ((mR h l0 1).getD 0) (Int32.toNatClampNeg (mI (mSI h ((mR h l0 0).getD 0) (Int32.toNatClampNeg (mI h l0 2)) l1) l0 2)) l2) l0)
  · exact Seg.ret (f1 := (9, [.ref l0, .int l1, .int l2], [])) (h1 := h) rfl rfl rfl rfl (fun _ q => q)
theorem s43_41 (h : mH) : Seg 43 (41, [.retAddr 0, .retAddr 0], []) h (f43_41 h) (fun (q : Unit × mH) (res : Option Value × mH) => res = (none, q.2)) := by
  unfold f43_41
  exact Seg.ret (f1 := (41, [.retAddr 0, .retAddr 0], [])) (h1 := h) rfl rfl rfl rfl (fun _ q => q)
theorem s43 (h : mH) (l0 : Nat) (l1 : Int32) : Seg 43 (0, [.ref l0, .int l1], []) h (f43 h l0 l1) (fun (q : Unit × mH) (res : Option Value × mH) => res = (none, q.2)) := by
  unfold f43
  refine Seg.call (f1 := (10, [.ref l0, .int l1], [.int 8, .int (mI h ((mR h l0 2).getD 0) 2), .ref l0])) (h1 := h) (cv := fun _ => none) rfl rfl rfl rfl (s35 h l0 (mI h ((mR h l0 2).getD 0) 2) 8) (fun r1 => ?_)
  refine Seg.call (f1 := (17, [.ref l0, .int l1], [.int 5, .int 0, .int 0, .ref l0])) (h1 := r1.2) (cv := fun _ => none) rfl rfl rfl rfl (s37 r1.2 l0 0 0 5) (fun r2 => ?_)
  refine Seg.blk (f' := (if ((mI r2.2 l0 3) : Int32) = 0 then 27 else 41, [.ref l0, .int l1], [])) (h' := r2.2) rfl rfl ?_
  refine Seg.ite (fun _ => ?_) (fun _ => ?_)
  · refine Seg.call (f1 := (38, [.ref l0, .int l1], [.int (mI r2.2 ((mR r2.2 l0 6).getD 0) (Int32.toNatClampNeg 0)), .int l1, .ref ((mR r2.2 l0 2).getD 0)])) (h1 := r2.2) (cv := fun _ => none) rfl rfl rfl rfl (s44 r2.2 ((mR r2.2 l0 2).getD 0) l1 (mI r2.2 ((mR r2.2 l0 6).getD 0) (Int32.toNatClampNeg 0))) (fun r3 => ?_)
    exact Seg.w (mLw.u (mLw.u mLw.nil)) (s43_41 r3.2)
  · exact Seg.w (mLw.u (mLw.u mLw.nil)) (s43_41 r2.2)
theorem s46_50 (h : mH) : Seg 46 (50, [.retAddr 0, .retAddr 0, .retAddr 0, .retAddr 0], []) h (f46_50 h) (fun (q : Unit × mH) (res : Option Value × mH) => res = (none, q.2)) := by
  unfold f46_50
  exact Seg.ret (f1 := (50, [.retAddr 0, .retAddr 0, .retAddr 0, .retAddr 0], [])) (h1 := h) rfl rfl rfl rfl (fun _ q => q)
theorem s46_30 (h : mH) (l0 : Nat) (l3 : Int32) : Seg 46 (30, [.ref l0, .retAddr 0, .retAddr 0, .int l3], []) h (f46_30 h l0 l3) (fun (q : Unit × mH) (res : Option Value × mH) => res = (none, q.2)) := by
  unfold f46_30
  refine Seg.blk (f' := (40, [.ref l0, .retAddr 0, .retAddr 0, .int l3], [])) (h' := (mSI h ((mR h l0 2).getD 0) (Int32.toNatClampNeg (mI h l0 3)) l3)) rfl rfl ?_
  refine Seg.blk (f' := (50, [.ref l0, .retAddr 0, .retAddr 0, .int l3], [])) (h' := (mSI (mSI h ((mR h l0 2).getD 0) (Int32.toNatClampNeg (mI h l0 3)) l3) l0 3 ((mI (mSI h ((mR h l0 2).getD 0) (Int32.toNatClampNeg (mI h l0 3)) l3) l0 3) + 1))) rfl rfl ?_
  exact Seg.w (mLw.u (mLw.k (mLw.k (mLw.u mLw.nil)))) (s46_50 (mSI (mSI h ((mR h l0 2).getD 0) (Int32.toNatClampNeg (mI h l0 3)) l3) l0 3 ((mI (mSI h ((mR h l0 2).getD 0) (Int32.toNatClampNeg (mI h l0 3)) l3) l0 3) + 1)))
theorem s46 (h : mH) (l0 : Nat) (l1 : Int32) (l2 : Int32) (l3 : Int32) : Seg 46 (0, [.ref l0, .int l1, .int l2, .int l3], []) h (f46 h l0 l1 l2 l3) (fun (q : Unit × mH) (res : Option Value × mH) => res = (none, q.2)) := by
  unfold f46
  refine Seg.blk (f' := (if ((mI h l0 3) : Int32) < 40 then 10 else 9, [.ref l0, .int l1, .int l2, .int l3], [])) (h' := h) rfl rfl ?_
  refine Seg.ite (fun _ => ?_) (fun _ => ?_)
  · refine Seg.blk (f' := (20, [.ref l0, .int l1, .int l2, .int l3], [])) (h' := (mSI h ((mR h l0 0).getD 0) (Int32.toNatClampNeg (mI h l0 3)) l1)) rfl rfl ?_
    refine Seg.blk (f' := (30, [.ref l0, .int l1, .int l2, .int l3], [])) (h' := (mSI (mSI h ((mR h l0 0).getD 0) (Int32.toNatClampNeg (mI h l0 3)) l1) ((mR h l0 1).getD 0) (Int32.toNatClampNeg (mI (mSI h ((mR h l0 0).getD 0) (Int32.toNatClampNeg (mI h l0 3)) l1) l0 3)) l2)) rfl rfl ?_
    exact Seg.w (mLw.k (mLw.u (mLw.u (mLw.k mLw.nil)))) (s46_30 (mSI (mSI h ((mR h l0 0).getD 0) (Int32.toNatClampNeg (mI h l0 3)) l1) ((mR h l0 1).getD 0) (Int32.toNatClampNeg (mI (mSI h ((mR h l0 0).getD 0) (Int32.toNatClampNeg (mI h l0 3)) l1) l0 3)) l2) l0 l3)
  · exact Seg.ret (f1 := (9, [.ref l0, .int l1, .int l2, .int l3], [])) (h1 := h) rfl rfl rfl rfl (fun _ q => q)
theorem s45_89 (h : mH) : Seg 45 (89, [.retAddr 0, .retAddr 0], []) h (f45_89 h) (fun (q : Unit × mH) (res : Option Value × mH) => res = (none, q.2)) := by
  unfold f45_89
  exact Seg.ret (f1 := (89, [.retAddr 0, .retAddr 0], [])) (h1 := h) rfl rfl rfl rfl (fun _ q => q)
theorem s45_62 (h : mH) (l0 : Nat) (l1 : Int32) : Seg 45 (62, [.ref l0, .int l1], []) h (f45_62 h l0 l1) (fun (q : Unit × mH) (res : Option Value × mH) => res = (none, q.2)) := by
  unfold f45_62
  refine Seg.blk (f' := (if ((mI h l0 3) : Int32) = 0 then 69 else 89, [.ref l0, .int l1], [])) (h' := h) rfl rfl ?_
  refine Seg.ite (fun _ => ?_) (fun _ => ?_)
  · refine Seg.call (f1 := (86, [.ref l0, .int l1], [.int (mI h ((mR h l0 6).getD 0) (Int32.toNatClampNeg 1)), .int (mI h ((mR h l0 6).getD 0) (Int32.toNatClampNeg 0)), .int l1, .ref ((mR h l0 1).getD 0)])) (h1 := h) (cv := fun _ => none) rfl rfl rfl rfl (s46 h ((mR h l0 1).getD 0) l1 (mI h ((mR h l0 6).getD 0) (Int32.toNatClampNeg 0)) (mI h ((mR h l0 6).getD 0) (Int32.toNatClampNeg 1))) (fun r4 => ?_)
    exact Seg.w (mLw.u (mLw.u mLw.nil)) (s45_89 r4.2)
  · exact Seg.w (mLw.u (mLw.u mLw.nil)) (s45_89 h)
theorem s45_50 (h : mH) (l0 : Nat) (l1 : Int32) : Seg 45 (50, [.ref l0, .int l1], []) h (f45_50 h l0 l1) (fun (q : Unit × mH) (res : Option Value × mH) => res = (none, q.2)) := by
  unfold f45_50
  refine Seg.blk0 (f' := (if (l1 : Int32) = 3 then 55 else 62, [.ref l0, .int l1], [])) (h' := h) rfl rfl ?_
  refine Seg.ite (fun _ => ?_) (fun _ => ?_)
  · refine Seg.call (f1 := (59, [.ref l0, .int l1], [.int 5, .int 0, .int 1, .ref l0])) (h1 := h) (cv := fun _ => none) rfl rfl rfl rfl (s37 h l0 1 0 5) (fun r3 => ?_)
    exact Seg.w (mLw.k (mLw.k mLw.nil)) (s45_62 r3.2 l0 l1)
  · exact Seg.w (mLw.k (mLw.k mLw.nil)) (s45_62 h l0 l1)
theorem s45_42 (h : mH) (l0 : Nat) (l1 : Int32) : Seg 45 (42, [.ref l0, .int l1], []) h (f45_42 h l0 l1) (fun (q : Unit × mH) (res : Option Value × mH) => res = (none, q.2)) := by
  unfold f45_42
  refine Seg.call (f1 := (47, [.ref l0, .int l1], [.int 7, .int 0, .int 0, .ref l0])) (h1 := h) (cv := fun _ => none) rfl rfl rfl rfl (s37 h l0 0 0 7) (fun r5 => ?_)
  exact Seg.w (mLw.k (mLw.k mLw.nil)) (s45_50 r5.2 l0 l1)
theorem s45 (h : mH) (l0 : Nat) (l1 : Int32) : Seg 45 (0, [.ref l0, .int l1], []) h (f45 h l0 l1) (fun (q : Unit × mH) (res : Option Value × mH) => res = (none, q.2)) := by
  unfold f45
  refine Seg.call (f1 := (10, [.ref l0, .int l1], [.int 40, .int (mI h ((mR h l0 1).getD 0) 3), .ref l0])) (h1 := h) (cv := fun _ => none) rfl rfl rfl rfl (s35 h l0 (mI h ((mR h l0 1).getD 0) 3) 40) (fun r1 => ?_)
  refine Seg.blk0 (f' := (if (l1 : Int32) = 2 then 18 else 28, [.ref l0, .int l1], [])) (h' := r1.2) rfl rfl ?_
  refine Seg.ite (fun _ => ?_) (fun _ => ?_)
  · refine Seg.call (f1 := (22, [.ref l0, .int l1], [.int 5, .int 0, .int 0, .ref l0])) (h1 := r1.2) (cv := fun _ => none) rfl rfl rfl rfl (s37 r1.2 l0 0 0 5) (fun r2 => ?_)
    refine Seg.blk0 (f' := (50, [.ref l0, .int l1], [])) (h' := r2.2) rfl rfl ?_
    exact Seg.w (mLw.k (mLw.k mLw.nil)) (s45_50 r2.2 l0 l1)
  · refine Seg.blk0 (f' := (if (l1 : Int32) = 0 then 42 else 32, [.ref l0, .int l1], [])) (h' := r1.2) rfl rfl ?_
    refine Seg.ite (fun _ => ?_) (fun _ => ?_)
    · exact Seg.w (mLw.k (mLw.k mLw.nil)) (s45_42 r1.2 l0 l1)
    · refine Seg.blk0 (f' := (if (l1 : Int32) = 1 then 42 else 37, [.ref l0, .int l1], [])) (h' := r1.2) rfl rfl ?_
      refine Seg.ite (fun _ => ?_) (fun _ => ?_)
      · exact Seg.w (mLw.k (mLw.k mLw.nil)) (s45_42 r1.2 l0 l1)
      · refine Seg.blk0 (f' := (if (l1 : Int32) = 3 then 42 else 50, [.ref l0, .int l1], [])) (h' := r1.2) rfl rfl ?_
        refine Seg.ite (fun _ => ?_) (fun _ => ?_)
        · exact Seg.w (mLw.k (mLw.k mLw.nil)) (s45_42 r1.2 l0 l1)
        · exact Seg.w (mLw.k (mLw.k mLw.nil)) (s45_50 r1.2 l0 l1)
theorem s33_103 (h : mH) : Seg 33 (103, [.retAddr 0, .retAddr 0], []) h (f33_103 h) (fun (q : Unit × mH) (res : Option Value × mH) => res = (none, q.2)) := by
  unfold f33_103
  exact Seg.ret (f1 := (103, [.retAddr 0, .retAddr 0], [])) (h1 := h) rfl rfl rfl rfl (fun _ q => q)
theorem s33_90 (h : mH) (l0 : Nat) (l1 : Int32) : Seg 33 (90, [.ref l0, .int l1], []) h (f33_90 h l0 l1) (fun (q : Unit × mH) (res : Option Value × mH) => res = (none, q.2)) := by
  unfold f33_90
  refine Seg.call (f1 := (92, [.ref l0, .int l1], [.int l1, .ref l0])) (h1 := h) (cv := fun _ => none) rfl rfl rfl rfl (s43 h l0 l1) (fun r7 => ?_)
  refine Seg.blk0 (f' := (103, [.ref l0, .int l1], [])) (h' := r7.2) rfl rfl ?_
  exact Seg.w (mLw.u (mLw.u mLw.nil)) (s33_103 r7.2)
theorem s33 (h : mH) (l0 : Nat) (l1 : Int32) : Seg 33 (0, [.ref l0, .int l1], []) h (f33 h l0 l1) (fun (q : Unit × mH) (res : Option Value × mH) => res = (none, q.2)) := by
  unfold f33
  refine Seg.blk0 (f' := (if (l1 : Int32) = 6 then 48 else if (l1 : Int32) = 7 then 55 else if (l1 : Int32) = 8 then 62 else if (l1 : Int32) = 9 then 69 else if (l1 : Int32) = 10 then 76 else if (l1 : Int32) = 11 then 83 else if (l1 : Int32) = 12 then 90 else if (l1 : Int32) = 13 then 90 else 98, [.ref l0, .int l1], [])) (h' := h) rfl rfl ?_
  refine Seg.ite (fun _ => ?_) (fun _ => ?_)
  · refine Seg.call (f1 := (49, [.ref l0, .int l1], [.ref l0])) (h1 := h) (cv := fun _ => none) rfl rfl rfl rfl (s34 h l0) (fun r1 => ?_)
    refine Seg.blk0 (f' := (103, [.ref l0, .int l1], [])) (h' := r1.2) rfl rfl ?_
    exact Seg.w (mLw.u (mLw.u mLw.nil)) (s33_103 r1.2)
  refine Seg.ite (fun _ => ?_) (fun _ => ?_)
  · refine Seg.call (f1 := (56, [.ref l0, .int l1], [.ref l0])) (h1 := h) (cv := fun _ => none) rfl rfl rfl rfl (s38 h l0) (fun r2 => ?_)
    refine Seg.blk0 (f' := (103, [.ref l0, .int l1], [])) (h' := r2.2) rfl rfl ?_
    exact Seg.w (mLw.u (mLw.u mLw.nil)) (s33_103 r2.2)
  refine Seg.ite (fun _ => ?_) (fun _ => ?_)
  · refine Seg.call (f1 := (63, [.ref l0, .int l1], [.ref l0])) (h1 := h) (cv := fun _ => none) rfl rfl rfl rfl (s39 h l0) (fun r3 => ?_)
    refine Seg.blk0 (f' := (103, [.ref l0, .int l1], [])) (h' := r3.2) rfl rfl ?_
    exact Seg.w (mLw.u (mLw.u mLw.nil)) (s33_103 r3.2)
  refine Seg.ite (fun _ => ?_) (fun _ => ?_)
  · refine Seg.call (f1 := (70, [.ref l0, .int l1], [.ref l0])) (h1 := h) (cv := fun _ => none) rfl rfl rfl rfl (s40 h l0) (fun r4 => ?_)
    refine Seg.blk0 (f' := (103, [.ref l0, .int l1], [])) (h' := r4.2) rfl rfl ?_
    exact Seg.w (mLw.u (mLw.u mLw.nil)) (s33_103 r4.2)
  refine Seg.ite (fun _ => ?_) (fun _ => ?_)
  · refine Seg.call (f1 := (77, [.ref l0, .int l1], [.ref l0])) (h1 := h) (cv := fun _ => none) rfl rfl rfl rfl (s41 h l0) (fun r5 => ?_)
    refine Seg.blk0 (f' := (103, [.ref l0, .int l1], [])) (h' := r5.2) rfl rfl ?_
    exact Seg.w (mLw.u (mLw.u mLw.nil)) (s33_103 r5.2)
  refine Seg.ite (fun _ => ?_) (fun _ => ?_)
  · refine Seg.call (f1 := (84, [.ref l0, .int l1], [.ref l0])) (h1 := h) (cv := fun _ => none) rfl rfl rfl rfl (s42 h l0) (fun r6 => ?_)
    refine Seg.blk0 (f' := (103, [.ref l0, .int l1], [])) (h' := r6.2) rfl rfl ?_
    exact Seg.w (mLw.u (mLw.u mLw.nil)) (s33_103 r6.2)
  refine Seg.ite (fun _ => ?_) (fun _ => ?_)
  · exact Seg.w (mLw.k (mLw.k mLw.nil)) (s33_90 h l0 l1)
  refine Seg.ite (fun _ => ?_) (fun _ => ?_)
  · exact Seg.w (mLw.k (mLw.k mLw.nil)) (s33_90 h l0 l1)
  · refine Seg.call (f1 := (100, [.ref l0, .int l1], [.int l1, .ref l0])) (h1 := h) (cv := fun _ => none) rfl rfl rfl rfl (s45 h l0 l1) (fun r8 => ?_)
    exact Seg.w (mLw.u (mLw.u mLw.nil)) (s33_103 r8.2)
