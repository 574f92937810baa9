/-! The small machine runs the programs; printed by a program of ours. -/
theorem s26_106 (h : mH) (l0 : Nat) (l2 : Int32) (l3 : Int32) (l4 : Int32) : Seg 26 (106, [.ref l0, .retAddr 0, .int l2, .int l3, .int l4], []) h (f26_106 h l0 l2 l3 l4) (Sum.elim (fun s : (Int32 × mH) => Ev 26 (35, [.ref l0, .retAddr 0, .int l2, .int l3, .int s.1], []) s.2) (fun (q : Unit × mH) (res : Option Value × mH) => res = (none, q.2))) := by
  unfold f26_106
  refine Seg.blk0 (f' := (35, [.ref l0, .retAddr 0, .int l2, .int l3, .int (l4 + 1)], [])) (h' := h) rfl rfl ?_
  exact Seg.cont (fun _ q => Ev.w (mLw.k (mLw.k (mLw.k (mLw.k (mLw.k mLw.nil))))) q)
theorem s26_35 (l0 : Nat) (l2 : Int32) (l3 : Int32) : ∀ (n : Nat) (s : (Int32 × mH)), Seg 26 (35, [.ref l0, .retAddr 0, .int l2, .int l3, .int s.1], []) s.2 (mLoop (f26_35 l0 l2 l3) n s) (fun (q : Unit × mH) (res : Option Value × mH) => res = (none, q.2)) := by
  refine Seg.loop (F := fun s : (Int32 × mH) => (35, [.ref l0, .retAddr 0, .int l2, .int l3, .int s.1], [])) (H := fun s : (Int32 × mH) => s.2) (fun s => ?_)
  show Seg 26 (35, [.ref l0, .retAddr 0, .int l2, .int l3, .int s.1], []) s.2 _ (Sum.elim (fun s : (Int32 × mH) => Ev 26 (35, [.ref l0, .retAddr 0, .int l2, .int l3, .int s.1], []) s.2) (fun (q : Unit × mH) (res : Option Value × mH) => res = (none, q.2)))
  unfold f26_35
  refine Seg.blk0 (f' := (if (2 : Int32) ≤ s.1 then 112 else 41, [.ref l0, .retAddr 0, .int l2, .int l3, .int s.1], [])) (h' := s.2) rfl rfl ?_
  refine Seg.ite (fun _ => ?_) (fun _ => ?_)
  · refine Seg.x ?_
    refine Seg.call (f1 := (116, [.ref l0, .retAddr 0, .int l2, .int l3, .int s.1], [.ref ((mR s.2 l0 5).getD 0)])) (h1 := s.2) (cv := fun _ => none) rfl rfl rfl rfl (s21 s.2 ((mR s.2 l0 5).getD 0)) (fun r4 => ?_)
    refine Seg.blk (f' := (if ((mI r4.2 ((mR r4.2 l0 5).getD 0) 3) : Int32) = 3 then 135 else 130, [.ref l0, .retAddr 0, .int l2, .int l3, .int s.1], [])) (h' := r4.2) rfl rfl ?_
    refine Seg.ite (fun _ => ?_) (fun _ => ?_)
    · refine Seg.call (f1 := (137, [.ref l0, .retAddr 0, .int l2, .int l3, .int s.1], [.int l2, .ref l0])) (h1 := r4.2) (cv := fun _ => none) rfl rfl rfl rfl (s33 r4.2 l0 l2) (fun r5 => ?_)
      refine Seg.call (f1 := (144, [.ref l0, .retAddr 0, .int l2, .int l3, .int s.1], [.ref ((mR r5.2 l0 5).getD 0)])) (h1 := r5.2) (cv := fun _ => none) rfl rfl rfl rfl (s21 r5.2 ((mR r5.2 l0 5).getD 0)) (fun r6 => ?_)
      exact Seg.ret (f1 := (147, [.ref l0, .retAddr 0, .int l2, .int l3, .int s.1], [])) (h1 := r6.2) rfl rfl rfl rfl (fun _ q => q)
    · refine Seg.call (f1 := (131, [.ref l0, .retAddr 0, .int l2, .int l3, .int s.1], [.ref l0])) (h1 := r4.2) (cv := fun _ => none) rfl rfl rfl rfl (s31 r4.2 l0) (fun r7 => ?_)
      exact Seg.ret (f1 := (134, [.ref l0, .retAddr 0, .int l2, .int l3, .int s.1], [])) (h1 := r7.2) rfl rfl rfl rfl (fun _ q => q)
  · refine Seg.blk (f' := (49, [.ref l0, .retAddr 0, .int l2, .int l3, .int s.1], [])) (h' := (mSI s.2 ((mR s.2 l0 6).getD 0) (Int32.toNatClampNeg s.1) (-1))) rfl rfl ?_
    refine Seg.blk0 (f' := (if (l3 : Int32) ≤ s.1 then 106 else 55, [.ref l0, .retAddr 0, .int l2, .int l3, .int s.1], [])) (h' := (mSI s.2 ((mR s.2 l0 6).getD 0) (Int32.toNatClampNeg s.1) (-1))) rfl rfl ?_
    refine Seg.ite (fun _ => ?_) (fun _ => ?_)
    · exact Seg.w (mLw.k (mLw.k (mLw.k (mLw.k (mLw.k mLw.nil))))) (s26_106 (mSI s.2 ((mR s.2 l0 6).getD 0) (Int32.toNatClampNeg s.1) (-1)) l0 l2 l3 s.1)
    · refine Seg.call (f1 := (59, [.ref l0, .retAddr 0, .int l2, .int l3, .int s.1], [.ref ((mR s.2 l0 5).getD 0)])) (h1 := (mSI s.2 ((mR s.2 l0 6).getD 0) (Int32.toNatClampNeg s.1) (-1))) (cv := fun _ => none) rfl rfl rfl rfl (s21 (mSI s.2 ((mR s.2 l0 6).getD 0) (Int32.toNatClampNeg s.1) (-1)) ((mR s.2 l0 5).getD 0)) (fun r8 => ?_)
      refine Seg.blk (f' := (if ((mI r8.2 ((mR r8.2 l0 5).getD 0) 3) : Int32) = 2 then 78 else 73, [.ref l0, .retAddr 0, .int l2, .int l3, .int s.1], [])) (h' := r8.2) rfl rfl ?_
      refine Seg.ite (fun _ => ?_) (fun _ => ?_)
      · refine Seg.blk (f' := (92, [.ref l0, .retAddr 0, .int l2, .int l3, .int s.1], [])) (h' := (mSI r8.2 ((mR r8.2 l0 6).getD 0) (Int32.toNatClampNeg s.1) (mI r8.2 ((mR r8.2 l0 5).getD 0) 5))) rfl rfl ?_
        refine Seg.blk (f' := (106, [.ref l0, .retAddr 0, .int l2, .int l3, .int s.1], [])) (h' := (mSI (mSI r8.2 ((mR r8.2 l0 6).getD 0) (Int32.toNatClampNeg s.1) (mI r8.2 ((mR r8.2 l0 5).getD 0) 5)) ((mR r8.2 l0 7).getD 0) (Int32.toNatClampNeg s.1) (mI (mSI r8.2 ((mR r8.2 l0 6).getD 0) (Int32.toNatClampNeg s.1) (mI r8.2 ((mR r8.2 l0 5).getD 0) 5)) ((mR r8.2 l0 5).getD 0) 4))) rfl rfl ?_
        exact Seg.w (mLw.k (mLw.k (mLw.k (mLw.k (mLw.k mLw.nil))))) (s26_106 (mSI (mSI r8.2 ((mR r8.2 l0 6).getD 0) (Int32.toNatClampNeg s.1) (mI r8.2 ((mR r8.2 l0 5).getD 0) 5)) ((mR r8.2 l0 7).getD 0) (Int32.toNatClampNeg s.1) (mI (mSI r8.2 ((mR r8.2 l0 6).getD 0) (Int32.toNatClampNeg s.1) (mI r8.2 ((mR r8.2 l0 5).getD 0) 5)) ((mR r8.2 l0 5).getD 0) 4)) l0 l2 l3 s.1)
      · refine Seg.x ?_
        refine Seg.call (f1 := (74, [.ref l0, .retAddr 0, .int l2, .int l3, .int s.1], [.ref l0])) (h1 := r8.2) (cv := fun _ => none) rfl rfl rfl rfl (s31 r8.2 l0) (fun r9 => ?_)
        exact Seg.ret (f1 := (77, [.ref l0, .retAddr 0, .int l2, .int l3, .int s.1], [])) (h1 := r9.2) rfl rfl rfl rfl (fun _ q => q)
theorem s26 (h : mH) (l0 : Nat) (l1 : Int32) : Seg 26 (0, [.ref l0, .int l1, .retAddr 0, .retAddr 0, .retAddr 0], []) h (f26 h l0 l1) (fun (q : Unit × mH) (res : Option Value × mH) => res = (none, q.2)) := by
  unfold f26
  refine Seg.callP (f1 := (2, [.ref l0, .int l1, .retAddr 0, .retAddr 0, .retAddr 0], [.int l1, .ref l0])) (h1 := h) (cv := fun r => some (.int r)) rfl rfl rfl rfl (s27 h l0 l1) (fun r1 => ?_)
  refine Seg.blk (f' := (17, [.ref l0, .int l1, .int r1, .retAddr 0, .retAddr 0], [])) (h' := (mSI h l0 8 (mI h ((mR h l0 5).getD 0) 4))) rfl rfl ?_
  refine Seg.blk0 (f' := (if (r1 : Int32) = (-1) then 22 else 27, [.ref l0, .int l1, .int r1, .retAddr 0, .retAddr 0], [])) (h' := (mSI h l0 8 (mI h ((mR h l0 5).getD 0) 4))) rfl rfl ?_
  refine Seg.ite (fun _ => ?_) (fun _ => ?_)
  · refine Seg.call (f1 := (23, [.ref l0, .int l1, .int r1, .retAddr 0, .retAddr 0], [.ref l0])) (h1 := (mSI h l0 8 (mI h ((mR h l0 5).getD 0) 4))) (cv := fun _ => none) rfl rfl rfl rfl (s31 (mSI h l0 8 (mI h ((mR h l0 5).getD 0) 4)) l0) (fun r2 => ?_)
    exact Seg.ret (f1 := (26, [.ref l0, .int l1, .int r1, .retAddr 0, .retAddr 0], [])) (h1 := r2.2) rfl rfl rfl rfl (fun _ q => q)
  · refine Seg.callP (f1 := (28, [.ref l0, .int l1, .int r1, .retAddr 0, .retAddr 0], [.int r1])) (h1 := (mSI h l0 8 (mI h ((mR h l0 5).getD 0) 4))) (cv := fun r => some (.int r)) rfl rfl rfl rfl (s32 (mSI h l0 8 (mI h ((mR h l0 5).getD 0) 4)) r1) (fun r3 => ?_)
    refine Seg.blk0 (f' := (35, [.ref l0, .int l1, .int r1, .int r3, .int 0], [])) (h' := (mSI h l0 8 (mI h ((mR h l0 5).getD 0) 4))) rfl rfl ?_
    exact Seg.w (mLw.k (mLw.u (mLw.k (mLw.k (mLw.k mLw.nil))))) (s26_35 l0 r1 r3 mFuel (0, (mSI h l0 8 (mI h ((mR h l0 5).getD 0) 4))))
theorem s19_127 (h : mH) : Seg 19 (127, [.retAddr 0, .retAddr 0, .retAddr 0, .retAddr 0, .retAddr 0], []) h (f19_127 h) (fun (q : Unit × mH) (res : Option Value × mH) => res = (none, q.2)) := by
  unfold f19_127
  exact Seg.ret (f1 := (127, [.retAddr 0, .retAddr 0, .retAddr 0, .retAddr 0, .retAddr 0], [])) (h1 := h) rfl rfl rfl rfl (fun _ q => q)
theorem s19_121 (h : mH) (l0 : Nat) (l3 : Int32) : Seg 19 (121, [.ref l0, .retAddr 0, .retAddr 0, .int l3, .retAddr 0], []) h (f19_121 h l0 l3) (fun (q : Unit × mH) (res : Option Value × mH) => res = (none, q.2)) := by
  unfold f19_121
  refine Seg.call (f1 := (124, [.ref l0, .retAddr 0, .retAddr 0, .int l3, .retAddr 0], [.int l3, .int 4, .ref l0])) (h1 := h) (cv := fun _ => none) rfl rfl rfl rfl (s36 h l0 4 l3) (fun r3 => ?_)
  exact Seg.w (mLw.u (mLw.k (mLw.k (mLw.u (mLw.k mLw.nil))))) (s19_127 r3.2)
theorem s19_93 (h : mH) (l0 : Nat) (l3 : Int32) : Seg 19 (93, [.ref l0, .retAddr 0, .retAddr 0, .int l3, .retAddr 0], []) h (f19_93 h l0 l3) (fun (q : Unit × mH) (res : Option Value × mH) => res = (none, q.2)) := by
  unfold f19_93
  refine Seg.blk (f' := (if ((mI h ((mR h l0 0).getD 0) 6) : Int32) < (mI h l0 9) then 121 else 107, [.ref l0, .retAddr 0, .retAddr 0, .int l3, .retAddr 0], [])) (h' := h) rfl rfl ?_
  refine Seg.ite (fun _ => ?_) (fun _ => ?_)
  · exact Seg.w (mLw.k (mLw.k (mLw.k (mLw.k (mLw.k mLw.nil))))) (s19_121 h l0 l3)
  · refine Seg.blk (f' := (if ((mI h l0 10) : Int32) ≤ (mI h ((mR h l0 0).getD 0) 7) then 127 else 121, [.ref l0, .retAddr 0, .retAddr 0, .int l3, .retAddr 0], [])) (h' := h) rfl rfl ?_
    refine Seg.ite (fun _ => ?_) (fun _ => ?_)
    · exact Seg.w (mLw.u (mLw.k (mLw.k (mLw.u (mLw.k mLw.nil))))) (s19_127 h)
    · exact Seg.w (mLw.k (mLw.k (mLw.k (mLw.k (mLw.k mLw.nil))))) (s19_121 h l0 l3)
theorem s19_55 (l0 : Nat) (l1 : Int32) (l3 : Int32) : ∀ (n : Nat) (s : (Int32 × mH)), Seg 19 (55, [.ref l0, .int l1, .retAddr 0, .int l3, .int s.1], []) s.2 (mLoop (f19_55 l0 l1 l3) n s) (fun (q : Unit × mH) (res : Option Value × mH) => res = (none, q.2)) := by
  refine Seg.loop (F := fun s : (Int32 × mH) => (55, [.ref l0, .int l1, .retAddr 0, .int l3, .int s.1], [])) (H := fun s : (Int32 × mH) => s.2) (fun s => ?_)
  show Seg 19 (55, [.ref l0, .int l1, .retAddr 0, .int l3, .int s.1], []) s.2 _ (Sum.elim (fun s : (Int32 × mH) => Ev 19 (55, [.ref l0, .int l1, .retAddr 0, .int l3, .int s.1], []) s.2) (fun (q : Unit × mH) (res : Option Value × mH) => res = (none, q.2)))
  unfold f19_55
  refine Seg.blk0 (f' := (if (600 : Int32) ≤ s.1 then 93 else 63, [.ref l0, .int l1, .retAddr 0, .int l3, .int s.1], [])) (h' := s.2) rfl rfl ?_
  refine Seg.ite (fun _ => ?_) (fun _ => ?_)
  · refine Seg.x ?_
    exact Seg.w (mLw.k (mLw.u (mLw.k (mLw.k (mLw.u mLw.nil))))) (s19_93 s.2 l0 l3)
  · refine Seg.blk (f' := (if ((mI s.2 ((mR s.2 l0 5).getD 0) 3) : Int32) = 0 then 93 else 73, [.ref l0, .int l1, .retAddr 0, .int l3, .int s.1], [])) (h' := s.2) rfl rfl ?_
    refine Seg.ite (fun _ => ?_) (fun _ => ?_)
    · refine Seg.x ?_
      exact Seg.w (mLw.k (mLw.u (mLw.k (mLw.k (mLw.u mLw.nil))))) (s19_93 s.2 l0 l3)
    · refine Seg.call (f1 := (75, [.ref l0, .int l1, .retAddr 0, .int l3, .int s.1], [.int l1, .ref l0])) (h1 := s.2) (cv := fun _ => none) rfl rfl rfl rfl (s26 s.2 l0 l1) (fun r4 => ?_)
      refine Seg.blk (f' := (if ((mI r4.2 l0 3) : Int32) = 1 then 86 else 87, [.ref l0, .int l1, .retAddr 0, .int l3, .int s.1], [])) (h' := r4.2) rfl rfl ?_
      refine Seg.ite (fun _ => ?_) (fun _ => ?_)
      · refine Seg.x ?_
        exact Seg.ret (f1 := (86, [.ref l0, .int l1, .retAddr 0, .int l3, .int s.1], [])) (h1 := r4.2) rfl rfl rfl rfl (fun _ q => q)
      · refine Seg.blk0 (f' := (55, [.ref l0, .int l1, .retAddr 0, .int l3, .int (s.1 + 1)], [])) (h' := r4.2) rfl rfl ?_
        exact Seg.cont (fun _ q => Ev.w (mLw.k (mLw.k (mLw.k (mLw.k (mLw.k mLw.nil))))) q)
theorem s19 (h : mH) (l0 : Nat) (l1 : Int32) (l2 : Nat) (l3 : Int32) : Seg 19 (0, [.ref l0, .int l1, .ref l2, .int l3, .retAddr 0], []) h (f19 h l0 l1 l2 l3) (fun (q : Unit × mH) (res : Option Value × mH) => res = (none, q.2)) := by
  unfold f19
  refine Seg.call (f1 := (4, [.ref l0, .int l1, .ref l2, .int l3, .retAddr 0], [.ref ((mR h l0 0).getD 0)])) (h1 := h) (cv := fun _ => none) rfl rfl rfl rfl (s3 h ((mR h l0 0).getD 0)) (fun r1 => ?_)
  refine Seg.blk (f' := (15, [.ref l0, .int l1, .ref l2, .int l3, .retAddr 0], [])) (h' := (mSI r1.2 ((mR r1.2 l0 1).getD 0) 3 0)) rfl rfl ?_
  refine Seg.blk (f' := (23, [.ref l0, .int l1, .ref l2, .int l3, .retAddr 0], [])) (h' := (mSI (mSI r1.2 ((mR r1.2 l0 1).getD 0) 3 0) ((mR r1.2 l0 2).getD 0) 2 0)) rfl rfl ?_
  refine Seg.blk (f' := (28, [.ref l0, .int l1, .ref l2, .int l3, .retAddr 0], [])) (h' := (mSI (mSI (mSI r1.2 ((mR r1.2 l0 1).getD 0) 3 0) ((mR r1.2 l0 2).getD 0) 2 0) l0 9 0)) rfl rfl ?_
  refine Seg.blk (f' := (33, [.ref l0, .int l1, .ref l2, .int l3, .retAddr 0], [])) (h' := (mSI (mSI (mSI (mSI r1.2 ((mR r1.2 l0 1).getD 0) 3 0) ((mR r1.2 l0 2).getD 0) 2 0) l0 9 0) l0 10 0)) rfl rfl ?_
  refine Seg.blk (f' := (38, [.ref l0, .int l1, .ref l2, .int l3, .retAddr 0], [])) (h' := (mSI (mSI (mSI (mSI (mSI r1.2 ((mR r1.2 l0 1).getD 0) 3 0) ((mR r1.2 l0 2).getD 0) 2 0) l0 9 0) l0 10 0) l0 3 0)) rfl rfl ?_
  refine Seg.blk (f' := (43, [.ref l0, .int l1, .ref l2, .int l3, .retAddr 0], [])) (h' := (mSI (mSI (mSI (mSI (mSI (mSI r1.2 ((mR r1.2 l0 1).getD 0) 3 0) ((mR r1.2 l0 2).getD 0) 2 0) l0 9 0) l0 10 0) l0 3 0) l0 4 (-1))) rfl rfl ?_
  refine Seg.call (f1 := (49, [.ref l0, .int l1, .ref l2, .int l3, .retAddr 0], [.int l3, .ref l2, .ref ((mR r1.2 l0 5).getD 0)])) (h1 := (mSI (mSI (mSI (mSI (mSI (mSI r1.2 ((mR r1.2 l0 1).getD 0) 3 0) ((mR r1.2 l0 2).getD 0) 2 0) l0 9 0) l0 10 0) l0 3 0) l0 4 (-1))) (cv := fun _ => none) rfl rfl rfl rfl (s20 (mSI (mSI (mSI (mSI (mSI (mSI r1.2 ((mR r1.2 l0 1).getD 0) 3 0) ((mR r1.2 l0 2).getD 0) 2 0) l0 9 0) l0 10 0) l0 3 0) l0 4 (-1)) ((mR r1.2 l0 5).getD 0) l2 l3) (fun r2 => ?_)
  refine Seg.blk0 (f' := (55, [.ref l0, .int l1, .ref l2, .int l3, .int 0], [])) (h' := r2.2) rfl rfl ?_
  exact Seg.w (mLw.k (mLw.k (mLw.u (mLw.k (mLw.k mLw.nil))))) (s19_55 l0 l1 l3 mFuel (0, r2.2))
theorem s48_114 (h : mH) : Seg 48 (114, [.retAddr 0, .retAddr 0], []) h (f48_114 h) (fun (q : Unit × mH) (res : Option Value × mH) => res = (none, q.2)) := by
  unfold f48_114
  exact Seg.ret (f1 := (114, [.retAddr 0, .retAddr 0], [])) (h1 := h) rfl rfl rfl rfl (fun _ q => q)
theorem s48_90 (h : mH) (l0 : Nat) (l1 : Nat) : Seg 48 (90, [.ref l0, .ref l1], []) h (f48_90 h l0 l1) (fun (q : Unit × mH) (res : Option Value × mH) => res = (none, q.2)) := by
  unfold f48_90
  refine Seg.blk (f' := (98, [.ref l0, .ref l1], [])) (h' := (mSI h l0 6 (mI h l1 6))) rfl rfl ?_
  refine Seg.blk (f' := (106, [.ref l0, .ref l1], [])) (h' := (mSI (mSI h l0 6 (mI h l1 6)) l0 7 (mI (mSI h l0 6 (mI h l1 6)) l1 7))) rfl rfl ?_
  refine Seg.blk (f' := (114, [.ref l0, .ref l1], [])) (h' := (mSI (mSI (mSI h l0 6 (mI h l1 6)) l0 7 (mI (mSI h l0 6 (mI h l1 6)) l1 7)) l0 8 (mI (mSI (mSI h l0 6 (mI h l1 6)) l0 7 (mI (mSI h l0 6 (mI h l1 6)) l1 7)) l1 8))) rfl rfl ?_
  exact Seg.w (mLw.u (mLw.u mLw.nil)) (s48_114 (mSI (mSI (mSI h l0 6 (mI h l1 6)) l0 7 (mI (mSI h l0 6 (mI h l1 6)) l1 7)) l0 8 (mI (mSI (mSI h l0 6 (mI h l1 6)) l0 7 (mI (mSI h l0 6 (mI h l1 6)) l1 7)) l1 8)))
theorem s48_60 (h : mH) (l0 : Nat) (l1 : Nat) : Seg 48 (60, [.ref l0, .ref l1], []) h (f48_60 h l0 l1) (fun (q : Unit × mH) (res : Option Value × mH) => res = (none, q.2)) := by
  unfold f48_60
  refine Seg.blk (f' := (75, [.ref l0, .ref l1], [])) (h' := (mCp h ((mR h l1 4).getD 0) (Int32.toNatClampNeg 0) ((mR h l0 4).getD 0) (Int32.toNatClampNeg 0) (Int32.toNatClampNeg 6))) rfl rfl ?_
  refine Seg.blk (f' := (90, [.ref l0, .ref l1], [])) (h' := (mCp (mCp h ((mR h l1 4).getD 0) (Int32.toNatClampNeg 0) ((mR h l0 4).getD 0) (Int32.toNatClampNeg 0) (Int32.toNatClampNeg 6)) ((mR h l1 5).getD 0) (Int32.toNatClampNeg 0) ((mR h l0 5).getD 0) (Int32.toNatClampNeg 0) (Int32.toNatClampNeg 6))) rfl rfl ?_
  exact Seg.w (mLw.k (mLw.k mLw.nil)) (s48_90 (mCp (mCp h ((mR h l1 4).getD 0) (Int32.toNatClampNeg 0) ((mR h l0 4).getD 0) (Int32.toNatClampNeg 0) (Int32.toNatClampNeg 6)) ((mR h l1 5).getD 0) (Int32.toNatClampNeg 0) ((mR h l0 5).getD 0) (Int32.toNatClampNeg 0) (Int32.toNatClampNeg 6)) l0 l1)
theorem s48_30 (h : mH) (l0 : Nat) (l1 : Nat) : Seg 48 (30, [.ref l0, .ref l1], []) h (f48_30 h l0 l1) (fun (q : Unit × mH) (res : Option Value × mH) => res = (none, q.2)) := by
  unfold f48_30
  refine Seg.blk (f' := (45, [.ref l0, .ref l1], [])) (h' := (mCp h ((mR h l1 2).getD 0) (Int32.toNatClampNeg 0) ((mR h l0 2).getD 0) (Int32.toNatClampNeg 0) (Int32.toNatClampNeg 8))) rfl rfl ?_
  refine Seg.blk (f' := (60, [.ref l0, .ref l1], [])) (h' := (mCp (mCp h ((mR h l1 2).getD 0) (Int32.toNatClampNeg 0) ((mR h l0 2).getD 0) (Int32.toNatClampNeg 0) (Int32.toNatClampNeg 8)) ((mR h l1 3).getD 0) (Int32.toNatClampNeg 0) ((mR h l0 3).getD 0) (Int32.toNatClampNeg 0) (Int32.toNatClampNeg 6))) rfl rfl ?_
  exact Seg.w (mLw.k (mLw.k mLw.nil)) (s48_60 (mCp (mCp h ((mR h l1 2).getD 0) (Int32.toNatClampNeg 0) ((mR h l0 2).getD 0) (Int32.toNatClampNeg 0) (Int32.toNatClampNeg 8)) ((mR h l1 3).getD 0) (Int32.toNatClampNeg 0) ((mR h l0 3).getD 0) (Int32.toNatClampNeg 0) (Int32.toNatClampNeg 6)) l0 l1)
theorem s48 (h : mH) (l0 : Nat) (l1 : Nat) : Seg 48 (0, [.ref l0, .ref l1], []) h (f48 h l0 l1) (fun (q : Unit × mH) (res : Option Value × mH) => res = (none, q.2)) := by
  unfold f48
  refine Seg.blk (f' := (15, [.ref l0, .ref l1], [])) (h' := (mCp h ((mR h l1 0).getD 0) (Int32.toNatClampNeg 0) ((mR h l0 0).getD 0) (Int32.toNatClampNeg 0) (Int32.toNatClampNeg 8))) rfl rfl ?_
  refine Seg.blk (f' := (30, [.ref l0, .ref l1], [])) (h' := (mCp (mCp h ((mR h l1 0).getD 0) (Int32.toNatClampNeg 0) ((mR h l0 0).getD 0) (Int32.toNatClampNeg 0) (Int32.toNatClampNeg 8)) ((mR h l1 1).getD 0) (Int32.toNatClampNeg 0) ((mR h l0 1).getD 0) (Int32.toNatClampNeg 0) (Int32.toNatClampNeg 8))) rfl rfl ?_
  exact Seg.w (mLw.k (mLw.k mLw.nil)) (s48_30 (mCp (mCp h ((mR h l1 0).getD 0) (Int32.toNatClampNeg 0) ((mR h l0 0).getD 0) (Int32.toNatClampNeg 0) (Int32.toNatClampNeg 8)) ((mR h l1 1).getD 0) (Int32.toNatClampNeg 0) ((mR h l0 1).getD 0) (Int32.toNatClampNeg 0) (Int32.toNatClampNeg 8)) l0 l1)
theorem s49_53 (h : mH) : Seg 49 (53, [.retAddr 0, .retAddr 0], []) h (f49_53 h) (fun (q : Unit × mH) (res : Option Value × mH) => res = (none, q.2)) := by
  unfold f49_53
  exact Seg.ret (f1 := (53, [.retAddr 0, .retAddr 0], [])) (h1 := h) rfl rfl rfl rfl (fun _ q => q)
theorem s49_30 (h : mH) (l0 : Nat) (l1 : Nat) : Seg 49 (30, [.ref l0, .ref l1], []) h (f49_30 h l0 l1) (fun (q : Unit × mH) (res : Option Value × mH) => res = (none, q.2)) := by
  unfold f49_30
  refine Seg.blk (f' := (45, [.ref l0, .ref l1], [])) (h' := (mCp h ((mR h l1 2).getD 0) (Int32.toNatClampNeg 0) ((mR h l0 2).getD 0) (Int32.toNatClampNeg 0) (Int32.toNatClampNeg 40))) rfl rfl ?_
  refine Seg.blk (f' := (53, [.ref l0, .ref l1], [])) (h' := (mSI (mCp h ((mR h l1 2).getD 0) (Int32.toNatClampNeg 0) ((mR h l0 2).getD 0) (Int32.toNatClampNeg 0) (Int32.toNatClampNeg 40)) l0 3 (mI (mCp h ((mR h l1 2).getD 0) (Int32.toNatClampNeg 0) ((mR h l0 2).getD 0) (Int32.toNatClampNeg 0) (Int32.toNatClampNeg 40)) l1 3))) rfl rfl ?_
  exact Seg.w (mLw.u (mLw.u mLw.nil)) (s49_53 (mSI (mCp h ((mR h l1 2).getD 0) (Int32.toNatClampNeg 0) ((mR h l0 2).getD 0) (Int32.toNatClampNeg 0) (Int32.toNatClampNeg 40)) l0 3 (mI (mCp h ((mR h l1 2).getD 0) (Int32.toNatClampNeg 0) ((mR h l0 2).getD 0) (Int32.toNatClampNeg 0) (Int32.toNatClampNeg 40)) l1 3)))
theorem s49 (h : mH) (l0 : Nat) (l1 : Nat) : Seg 49 (0, [.ref l0, .ref l1], []) h (f49 h l0 l1) (fun (q : Unit × mH) (res : Option Value × mH) => res = (none, q.2)) := by
  unfold f49
  refine Seg.blk (f' := (15, [.ref l0, .ref l1], [])) (h' := (mCp h ((mR h l1 0).getD 0) (Int32.toNatClampNeg 0) ((mR h l0 0).getD 0) (Int32.toNatClampNeg 0) (Int32.toNatClampNeg 40))) rfl rfl ?_
  refine Seg.blk (f' := (30, [.ref l0, .ref l1], [])) (h' := (mCp (mCp h ((mR h l1 0).getD 0) (Int32.toNatClampNeg 0) ((mR h l0 0).getD 0) (Int32.toNatClampNeg 0) (Int32.toNatClampNeg 40)) ((mR h l1 1).getD 0) (Int32.toNatClampNeg 0) ((mR h l0 1).getD 0) (Int32.toNatClampNeg 0) (Int32.toNatClampNeg 40))) rfl rfl ?_
  exact Seg.w (mLw.k (mLw.k mLw.nil)) (s49_30 (mCp (mCp h ((mR h l1 0).getD 0) (Int32.toNatClampNeg 0) ((mR h l0 0).getD 0) (Int32.toNatClampNeg 0) (Int32.toNatClampNeg 40)) ((mR h l1 1).getD 0) (Int32.toNatClampNeg 0) ((mR h l0 1).getD 0) (Int32.toNatClampNeg 0) (Int32.toNatClampNeg 40)) l0 l1)
theorem s50_30 (h : mH) (l0 : Nat) (l1 : Nat) : Seg 50 (30, [.ref l0, .ref l1], []) h (f50_30 h l0 l1) (fun (q : Unit × mH) (res : Option Value × mH) => res = (none, q.2)) := by
  unfold f50_30
  refine Seg.blk (f' := (38, [.ref l0, .ref l1], [])) (h' := (mSI h l0 2 (mI h l1 2))) rfl rfl ?_
  exact Seg.ret (f1 := (38, [.ref l0, .ref l1], [])) (h1 := (mSI h l0 2 (mI h l1 2))) rfl rfl rfl rfl (fun _ q => q)
theorem s50 (h : mH) (l0 : Nat) (l1 : Nat) : Seg 50 (0, [.ref l0, .ref l1], []) h (f50 h l0 l1) (fun (q : Unit × mH) (res : Option Value × mH) => res = (none, q.2)) := by
  unfold f50
  refine Seg.blk (f' := (15, [.ref l0, .ref l1], [])) (h' := (mCp h ((mR h l1 0).getD 0) (Int32.toNatClampNeg 0) ((mR h l0 0).getD 0) (Int32.toNatClampNeg 0) (Int32.toNatClampNeg 8))) rfl rfl ?_
  refine Seg.blk (f' := (30, [.ref l0, .ref l1], [])) (h' := (mCp (mCp h ((mR h l1 0).getD 0) (Int32.toNatClampNeg 0) ((mR h l0 0).getD 0) (Int32.toNatClampNeg 0) (Int32.toNatClampNeg 8)) ((mR h l1 1).getD 0) (Int32.toNatClampNeg 0) ((mR h l0 1).getD 0) (Int32.toNatClampNeg 0) (Int32.toNatClampNeg 8))) rfl rfl ?_
  exact Seg.w (mLw.k (mLw.k mLw.nil)) (s50_30 (mCp (mCp h ((mR h l1 0).getD 0) (Int32.toNatClampNeg 0) ((mR h l0 0).getD 0) (Int32.toNatClampNeg 0) (Int32.toNatClampNeg 8)) ((mR h l1 1).getD 0) (Int32.toNatClampNeg 0) ((mR h l0 1).getD 0) (Int32.toNatClampNeg 0) (Int32.toNatClampNeg 8)) l0 l1)
theorem s47_18 (h : mH) : Seg 47 (18, [.retAddr 0, .retAddr 0, .retAddr 0, .retAddr 0], []) h (f47_18 h) (fun (q : Unit × mH) (res : Option Value × mH) => res = (none, q.2)) := by
  unfold f47_18
  exact Seg.ret (f1 := (18, [.retAddr 0, .retAddr 0, .retAddr 0, .retAddr 0], [])) (h1 := h) rfl rfl rfl rfl (fun _ q => q)
theorem s47_91 (h : mH) : Seg 47 (91, [.retAddr 0, .retAddr 0, .retAddr 0, .retAddr 0], []) h (f47_91 h) (fun (q : Unit × mH) (res : Option Value × mH) => res = (none, q.2)) := by
  unfold f47_91
  exact Seg.ret (f1 := (91, [.retAddr 0, .retAddr 0, .retAddr 0, .retAddr 0], [])) (h1 := h) rfl rfl rfl rfl (fun _ q => q)
theorem s47_73 (h : mH) (l0 : Nat) (l1 : Int32) (l2 : Int32) : Seg 47 (73, [.ref l0, .int l1, .int l2, .retAddr 0], []) h (f47_73 h l0 l1 l2) (fun (q : Unit × mH) (res : Option Value × mH) => res = (none, q.2)) := by
  unfold f47_73
  refine Seg.blk (f' := (91, [.ref l0, .int l1, .int l2, .retAddr 0], [])) (h' := (mSI h ((mR h l0 1).getD 0) (Int32.toNatClampNeg l1) (if ((mI h ((mR h l0 1).getD 0) (Int32.toNatClampNeg l1)) : Int32) < (l2 + 1) then (l2 + 1) else (mI h ((mR h l0 1).getD 0) (Int32.toNatClampNeg l1))))) rfl rfl ?_
  exact Seg.w (mLw.u (mLw.u (mLw.u (mLw.k mLw.nil)))) (s47_91 (mSI h ((mR h l0 1).getD 0) (Int32.toNatClampNeg l1) (if ((mI h ((mR h l0 1).getD 0) (Int32.toNatClampNeg l1)) : Int32) < (l2 + 1) then (l2 + 1) else (mI h ((mR h l0 1).getD 0) (Int32.toNatClampNeg l1)))))
theorem s47 (h : mH) (l0 : Nat) (l1 : Int32) (l2 : Int32) (l3 : Nat) : Seg 47 (0, [.ref l0, .int l1, .int l2, .ref l3], []) h (f47 h l0 l1 l2 l3) (fun (q : Unit × mH) (res : Option Value × mH) => res = (none, q.2)) := by
  unfold f47
  refine Seg.callP (f1 := (3, [.ref l0, .int l1, .int l2, .ref l3], [.int 1, .int 0, .int l2])) (h1 := h) (cv := fun r => some (.int r)) rfl rfl rfl rfl (s17 h l2 0 1) (fun r1 => ?_)
  refine Seg.blk0 (f' := (if (r1 : Int32) = 0 then 18 else 9, [.ref l0, .int l1, .int l2, .ref l3], [])) (h' := h) rfl rfl ?_
  refine Seg.ite (fun _ => ?_) (fun _ => ?_)
  · exact Seg.w (mLw.u (mLw.u (mLw.u (mLw.u mLw.nil)))) (s47_18 h)
  · refine Seg.callP (f1 := (12, [.ref l0, .int l1, .int l2, .ref l3], [.int 2, .int 0, .int l1])) (h1 := h) (cv := fun r => some (.int r)) rfl rfl rfl rfl (s17 h l1 0 2) (fun r2 => ?_)
    refine Seg.blk0 (f' := (if (r2 : Int32) = 0 then 18 else 19, [.ref l0, .int l1, .int l2, .ref l3], [])) (h' := h) rfl rfl ?_
    refine Seg.ite (fun _ => ?_) (fun _ => ?_)
    · exact Seg.w (mLw.u (mLw.u (mLw.u (mLw.u mLw.nil)))) (s47_18 h)
    · refine Seg.blk0 (f' := (if (l1 : Int32) = 0 then 23 else 39, [.ref l0, .int l1, .int l2, .ref l3], [])) (h' := h) rfl rfl ?_
      refine Seg.ite (fun _ => ?_) (fun _ => ?_)
      · refine Seg.call (f1 := (33, [.ref l0, .int l1, .int l2, .ref l3], [.ref ((mR h l3 0).getD 0), .ref ((mR h ((mR h l0 2).getD 0) (Int32.toNatClampNeg l2)).getD 0)])) (h1 := h) (cv := fun _ => none) rfl rfl rfl rfl (s48 h ((mR h ((mR h l0 2).getD 0) (Int32.toNatClampNeg l2)).getD 0) ((mR h l3 0).getD 0)) (fun r3 => ?_)
        refine Seg.blk0 (f' := (73, [.ref l0, .int l1, .int l2, .ref l3], [])) (h' := r3.2) rfl rfl ?_
        exact Seg.w (mLw.k (mLw.k (mLw.k (mLw.u mLw.nil)))) (s47_73 r3.2 l0 l1 l2)
      · refine Seg.blk0 (f' := (if (l1 : Int32) = 1 then 44 else 60, [.ref l0, .int l1, .int l2, .ref l3], [])) (h' := h) rfl rfl ?_
        refine Seg.ite (fun _ => ?_) (fun _ => ?_)
        · refine Seg.call (f1 := (54, [.ref l0, .int l1, .int l2, .ref l3], [.ref ((mR h l3 1).getD 0), .ref ((mR h ((mR h l0 3).getD 0) (Int32.toNatClampNeg l2)).getD 0)])) (h1 := h) (cv := fun _ => none) rfl rfl rfl rfl (s49 h ((mR h ((mR h l0 3).getD 0) (Int32.toNatClampNeg l2)).getD 0) ((mR h l3 1).getD 0)) (fun r4 => ?_)
          refine Seg.blk0 (f' := (73, [.ref l0, .int l1, .int l2, .ref l3], [])) (h' := r4.2) rfl rfl ?_
          exact Seg.w (mLw.k (mLw.k (mLw.k (mLw.u mLw.nil)))) (s47_73 r4.2 l0 l1 l2)
        · refine Seg.call (f1 := (70, [.ref l0, .int l1, .int l2, .ref l3], [.ref ((mR h l3 2).getD 0), .ref ((mR h ((mR h l0 4).getD 0) (Int32.toNatClampNeg l2)).getD 0)])) (h1 := h) (cv := fun _ => none) rfl rfl rfl rfl (s50 h ((mR h ((mR h l0 4).getD 0) (Int32.toNatClampNeg l2)).getD 0) ((mR h l3 2).getD 0)) (fun r5 => ?_)
          exact Seg.w (mLw.k (mLw.k (mLw.k (mLw.u mLw.nil)))) (s47_73 r5.2 l0 l1 l2)
theorem s18_144 (h : mH) (l0 : Nat) (l1 : Int32) (l4 : Int32) : Seg 18 (144, [.ref l0, .int l1, .retAddr 0, .retAddr 0, .int l4, .retAddr 0], []) h (f18_144 h l0 l1 l4) (fun (q : Int32 × mH) (res : Option Value × mH) => res = (some (.int q.1), q.2)) := by
  unfold f18_144
  refine Seg.blk (f' := (if ((mI h ((mR h l0 0).getD 0) 6) : Int32) = 0 then 156 else 154, [.ref l0, .int l1, .retAddr 0, .retAddr 0, .int l4, .retAddr 0], [])) (h' := h) rfl rfl ?_
  refine Seg.ite (fun _ => ?_) (fun _ => ?_)
  · refine Seg.call (f1 := (167, [.ref l0, .int l1, .retAddr 0, .retAddr 0, .int l4, .retAddr 0], [.ref ((mR h l0 3).getD 0), .int l4, .int l1, .ref ((mR h l0 0).getD 0)])) (h1 := h) (cv := fun _ => none) rfl rfl rfl rfl (s47 h ((mR h l0 0).getD 0) l1 l4 ((mR h l0 3).getD 0)) (fun r4 => ?_)
    exact Seg.ret (f1 := (172, [.ref l0, .int l1, .retAddr 0, .retAddr 0, .int l4, .retAddr 0], [.int l4])) (h1 := r4.2) rfl rfl rfl rfl (fun _ q => q)
  · exact Seg.ret (f1 := (155, [.ref l0, .int l1, .retAddr 0, .retAddr 0, .int l4, .retAddr 0], [.int (-1)])) (h1 := h) rfl rfl rfl rfl (fun _ q => q)
theorem s18_84 (h : mH) (l0 : Nat) (l1 : Int32) (l3 : Int32) (l4 : Int32) (q0 : Int32) : Seg 18 (84, [.ref l0, .int l1, .retAddr 0, .int l3, .int l4, .retAddr 0], [.int q0]) h (f18_84 h l0 l1 l3 l4 q0) (fun (q : Int32 × mH) (res : Option Value × mH) => res = (some (.int q.1), q.2)) := by
  unfold f18_84
  refine Seg.callP (f1 := (91, [.ref l0, .int l1, .retAddr 0, .int l3, .int l4, .int q0], [.int q0, .int 0, .int l4])) (h1 := h) (cv := fun r => some (.int r)) rfl rfl rfl rfl (s17 h l4 0 q0) (fun r2 => ?_)
  refine Seg.blk0 (f' := (if (r2 : Int32) = 0 then 97 else 100, [.ref l0, .int l1, .retAddr 0, .int l3, .int l4, .int q0], [])) (h' := h) rfl rfl ?_
  refine Seg.ite (fun _ => ?_) (fun _ => ?_)
  · exact Seg.ret (f1 := (99, [.ref l0, .int l1, .retAddr 0, .int l3, .int l4, .int q0], [.int (-2)])) (h1 := h) rfl rfl rfl rfl (fun _ q => q)
  · refine Seg.call (f1 := (113, [.ref l0, .int l1, .retAddr 0, .int l3, .int l4, .int q0], [.int l3, .ref ((mR h ((mR h l0 0).getD 0) 0).getD 0), .int l1, .ref ((mR h l0 3).getD 0)])) (h1 := h) (cv := fun _ => none) rfl rfl rfl rfl (s19 h ((mR h l0 3).getD 0) l1 ((mR h ((mR h l0 0).getD 0) 0).getD 0) l3) (fun r3 => ?_)
    refine Seg.blk (f' := (130, [.ref l0, .int l1, .retAddr 0, .int l3, .int l4, .int q0], [])) (h' := (mSI r3.2 ((mR r3.2 l0 0).getD 0) 6 (mI r3.2 ((mR r3.2 l0 3).getD 0) 3))) rfl rfl ?_
    refine Seg.blk (f' := (144, [.ref l0, .int l1, .retAddr 0, .int l3, .int l4, .int q0], [])) (h' := (mSI (mSI r3.2 ((mR r3.2 l0 0).getD 0) 6 (mI r3.2 ((mR r3.2 l0 3).getD 0) 3)) ((mR r3.2 l0 0).getD 0) 7 (mI (mSI r3.2 ((mR r3.2 l0 0).getD 0) 6 (mI r3.2 ((mR r3.2 l0 3).getD 0) 3)) ((mR r3.2 l0 3).getD 0) 4))) rfl rfl ?_
    exact Seg.w (mLw.k (mLw.k (mLw.k (mLw.u (mLw.k (mLw.u mLw.nil)))))) (s18_144 (mSI (mSI r3.2 ((mR r3.2 l0 0).getD 0) 6 (mI r3.2 ((mR r3.2 l0 3).getD 0) 3)) ((mR r3.2 l0 0).getD 0) 7 (mI (mSI r3.2 ((mR r3.2 l0 0).getD 0) 6 (mI r3.2 ((mR r3.2 l0 3).getD 0) 3)) ((mR r3.2 l0 3).getD 0) 4)) l0 l1 l4)
theorem s18_62 (h : mH) (l0 : Nat) (l1 : Int32) (l2 : Int32) (l3 : Int32) (q0 : Int32) : Seg 18 (62, [.ref l0, .int l1, .int l2, .int l3, .retAddr 0, .retAddr 0], [.int q0]) h (f18_62 h l0 l1 l2 l3 q0) (fun (q : Int32 × mH) (res : Option Value × mH) => res = (some (.int q.1), q.2)) := by
  unfold f18_62
  refine Seg.blk0 (f' := (if (l2 : Int32) = (-1) then 69 else 73, [.ref l0, .int l1, .int l2, .int l3, .int q0, .retAddr 0], [])) (h' := h) rfl rfl ?_
  refine Seg.ite (fun _ => ?_) (fun _ => ?_)
  · refine Seg.blk0 (f' := (84, [.ref l0, .int l1, .int l2, .int l3, .int q0, .retAddr 0], [.int 1])) (h' := h) rfl rfl ?_
    exact Seg.w (mLw.k (mLw.k (mLw.u (mLw.k (mLw.k (mLw.k mLw.nil)))))) (s18_84 h l0 l1 l3 q0 1)
  · refine Seg.blk (f' := (84, [.ref l0, .int l1, .int l2, .int l3, .int q0, .retAddr 0], [.int ((mI h ((mR h ((mR h l0 0).getD 0) 1).getD 0) (Int32.toNatClampNeg l1)) - 1)])) (h' := h) rfl rfl ?_
    exact Seg.w (mLw.k (mLw.k (mLw.u (mLw.k (mLw.k (mLw.k mLw.nil)))))) (s18_84 h l0 l1 l3 q0 ((mI h ((mR h ((mR h l0 0).getD 0) 1).getD 0) (Int32.toNatClampNeg l1)) - 1))
theorem s18 (h : mH) (l0 : Nat) (l1 : Int32) (l2 : Int32) : Seg 18 (0, [.ref l0, .int l1, .int l2, .retAddr 0, .retAddr 0, .retAddr 0], []) h (f18 h l0 l1 l2) (fun (q : Int32 × mH) (res : Option Value × mH) => res = (some (.int q.1), q.2)) := by
  unfold f18
  refine Seg.blk (f' := (16, [.ref l0, .int l1, .int l2, .int (mI h ((mR h l0 0).getD 0) 5), .retAddr 0, .retAddr 0], [])) (h' := (mSI h ((mR h l0 0).getD 0) 5 0)) rfl rfl ?_
  refine Seg.blk (f' := (24, [.ref l0, .int l1, .int l2, .int (mI h ((mR h l0 0).getD 0) 5), .retAddr 0, .retAddr 0], [])) (h' := (mSI (mSI h ((mR h l0 0).getD 0) 5 0) ((mR h l0 0).getD 0) 6 0)) rfl rfl ?_
  refine Seg.blk (f' := (32, [.ref l0, .int l1, .int l2, .int (mI h ((mR h l0 0).getD 0) 5), .retAddr 0, .retAddr 0], [])) (h' := (mSI (mSI (mSI h ((mR h l0 0).getD 0) 5 0) ((mR h l0 0).getD 0) 6 0) ((mR h l0 0).getD 0) 7 (-1))) rfl rfl ?_
  refine Seg.callP (f1 := (35, [.ref l0, .int l1, .int l2, .int (mI h ((mR h l0 0).getD 0) 5), .retAddr 0, .retAddr 0], [.int 2, .int 0, .int l1])) (h1 := (mSI (mSI (mSI h ((mR h l0 0).getD 0) 5 0) ((mR h l0 0).getD 0) 6 0) ((mR h l0 0).getD 0) 7 (-1))) (cv := fun r => some (.int r)) rfl rfl rfl rfl (s17 (mSI (mSI (mSI h ((mR h l0 0).getD 0) 5 0) ((mR h l0 0).getD 0) 6 0) ((mR h l0 0).getD 0) 7 (-1)) l1 0 2) (fun r1 => ?_)
  refine Seg.blk0 (f' := (if (r1 : Int32) = 0 then 41 else 44, [.ref l0, .int l1, .int l2, .int (mI h ((mR h l0 0).getD 0) 5), .retAddr 0, .retAddr 0], [])) (h' := (mSI (mSI (mSI h ((mR h l0 0).getD 0) 5 0) ((mR h l0 0).getD 0) 6 0) ((mR h l0 0).getD 0) 7 (-1))) rfl rfl ?_
  refine Seg.ite (fun _ => ?_) (fun _ => ?_)
  · exact Seg.ret (f1 := (43, [.ref l0, .int l1, .int l2, .int (mI h ((mR h l0 0).getD 0) 5), .retAddr 0, .retAddr 0], [.int (-2)])) (h1 := (mSI (mSI (mSI h ((mR h l0 0).getD 0) 5 0) ((mR h l0 0).getD 0) 6 0) ((mR h l0 0).getD 0) 7 (-1))) rfl rfl rfl rfl (fun _ q => q)
  · refine Seg.blk0 (f' := (if (l2 : Int32) = (-1) then 49 else 61, [.ref l0, .int l1, .int l2, .int (mI h ((mR h l0 0).getD 0) 5), .retAddr 0, .retAddr 0], [])) (h' := (mSI (mSI (mSI h ((mR h l0 0).getD 0) 5 0) ((mR h l0 0).getD 0) 6 0) ((mR h l0 0).getD 0) 7 (-1))) rfl rfl ?_
    refine Seg.ite (fun _ => ?_) (fun _ => ?_)
    · refine Seg.blk (f' := (62, [.ref l0, .int l1, .int l2, .int (mI h ((mR h l0 0).getD 0) 5), .retAddr 0, .retAddr 0], [.int (mI (mSI (mSI (mSI h ((mR h l0 0).getD 0) 5 0) ((mR h l0 0).getD 0) 6 0) ((mR h l0 0).getD 0) 7 (-1)) ((mR h ((mR h l0 0).getD 0) 1).getD 0) (Int32.toNatClampNeg l1))])) (h' := (mSI (mSI (mSI h ((mR h l0 0).getD 0) 5 0) ((mR h l0 0).getD 0) 6 0) ((mR h l0 0).getD 0) 7 (-1))) rfl rfl ?_
      exact Seg.w (mLw.k (mLw.k (mLw.k (mLw.k (mLw.k (mLw.k mLw.nil)))))) (s18_62 (mSI (mSI (mSI h ((mR h l0 0).getD 0) 5 0) ((mR h l0 0).getD 0) 6 0) ((mR h l0 0).getD 0) 7 (-1)) l0 l1 l2 (mI h ((mR h l0 0).getD 0) 5) (mI (mSI (mSI (mSI h ((mR h l0 0).getD 0) 5 0) ((mR h l0 0).getD 0) 6 0) ((mR h l0 0).getD 0) 7 (-1)) ((mR h ((mR h l0 0).getD 0) 1).getD 0) (Int32.toNatClampNeg l1)))
    · refine Seg.blk0 (f' := (62, [.ref l0, .int l1, .int l2, .int (mI h ((mR h l0 0).getD 0) 5), .retAddr 0, .retAddr 0], [.int l2])) (h' := (mSI (mSI (mSI h ((mR h l0 0).getD 0) 5 0) ((mR h l0 0).getD 0) 6 0) ((mR h l0 0).getD 0) 7 (-1))) rfl rfl ?_
      exact Seg.w (mLw.k (mLw.k (mLw.k (mLw.k (mLw.k (mLw.k mLw.nil)))))) (s18_62 (mSI (mSI (mSI h ((mR h l0 0).getD 0) 5 0) ((mR h l0 0).getD 0) 6 0) ((mR h l0 0).getD 0) 7 (-1)) l0 l1 l2 (mI h ((mR h l0 0).getD 0) 5) l2)
theorem s51 (h : mH) (l0 : Nat) (l1 : Int32) : Seg 51 (0, [.ref l0, .int l1], []) h (f51 h l0 l1) (fun (q : Int32) (res : Option Value × mH) => res = (some (.int q), h)) := by
  unfold f51
  refine Seg.blk0 (f' := (if (l1 : Int32) = 0 then 28 else if (l1 : Int32) = 1 then 36 else 44, [.ref l0, .int l1], [])) (h' := h) rfl rfl ?_
  refine Seg.ite (fun _ => ?_) (fun _ => ?_)
  · exact Seg.ret (f1 := (35, [.ref l0, .int l1], [.int (mI h ((mR h l0 0).getD 0) 6)])) (h1 := h) rfl rfl rfl rfl (fun _ q => q)
  refine Seg.ite (fun _ => ?_) (fun _ => ?_)
  · exact Seg.ret (f1 := (43, [.ref l0, .int l1], [.int (mI h ((mR h l0 0).getD 0) 7)])) (h1 := h) rfl rfl rfl rfl (fun _ q => q)
  · exact Seg.ret (f1 := (45, [.ref l0, .int l1], [.int (-1)])) (h1 := h) rfl rfl rfl rfl (fun _ q => q)
theorem s53 (h : mH) (l0 : Nat) (l1 : Int32) : Seg 53 (0, [.ref l0, .int l1], []) h (f53 h l0 l1) (fun (q : Option Nat) (res : Option Value × mH) => res = (some (va_rf q), h)) := by
  unfold f53
  refine Seg.callP (f1 := (10, [.ref l0, .int l1], [.int ((mI h ((mR h l0 1).getD 0) (Int32.toNatClampNeg 0)) - 1), .int 0, .int l1])) (h1 := h) (cv := fun r => some (.int r)) rfl rfl rfl rfl (s17 h l1 0 ((mI h ((mR h l0 1).getD 0) (Int32.toNatClampNeg 0)) - 1)) (fun r1 => ?_)
  refine Seg.blk0 (f' := (if (r1 : Int32) = 0 then 25 else 16, [.ref l0, .int l1], [])) (h' := h) rfl rfl ?_
  refine Seg.ite (fun _ => ?_) (fun _ => ?_)
  · refine Seg.blk0 (f' := (26, [.ref l0, .int l1], [.null])) (h' := h) rfl rfl ?_
    exact Seg.ret (f1 := (26, [.ref l0, .int l1], [.null])) (h1 := h) rfl rfl rfl rfl (fun _ q => q)
  · refine Seg.blk (f' := (26, [.ref l0, .int l1], [.ref ((mR h ((mR h l0 2).getD 0) (Int32.toNatClampNeg l1)).getD 0)])) (h' := h) rfl rfl ?_
    exact Seg.ret (f1 := (26, [.ref l0, .int l1], [.ref ((mR h ((mR h l0 2).getD 0) (Int32.toNatClampNeg l1)).getD 0)])) (h1 := h) rfl rfl rfl rfl (fun _ q => q)
theorem s55 (h : mH) (l0 : Nat) (l1 : Int32) : Seg 55 (0, [.ref l0, .int l1], []) h (f55 h l0 l1) (fun (q : Int32) (res : Option Value × mH) => res = (some (.int q), h)) := by
  unfold f55
  refine Seg.blk0 (f' := (if (l1 : Int32) = 0 then 28 else if (l1 : Int32) = 1 then 33 else if (l1 : Int32) = 2 then 38 else 43, [.ref l0, .int l1], [])) (h' := h) rfl rfl ?_
  refine Seg.ite (fun _ => ?_) (fun _ => ?_)
  · exact Seg.ret (f1 := (32, [.ref l0, .int l1], [.int (mI h l0 6)])) (h1 := h) rfl rfl rfl rfl (fun _ q => q)
  refine Seg.ite (fun _ => ?_) (fun _ => ?_)
  · exact Seg.ret (f1 := (37, [.ref l0, .int l1], [.int (mI h l0 7)])) (h1 := h) rfl rfl rfl rfl (fun _ q => q)
  refine Seg.ite (fun _ => ?_) (fun _ => ?_)
  · exact Seg.ret (f1 := (42, [.ref l0, .int l1], [.int (mI h l0 8)])) (h1 := h) rfl rfl rfl rfl (fun _ q => q)
  · exact Seg.ret (f1 := (44, [.ref l0, .int l1], [.int (-1)])) (h1 := h) rfl rfl rfl rfl (fun _ q => q)
theorem s56_17 (h : mH) (q0 : Int32) : Seg 56 (17, [.retAddr 0, .retAddr 0], [.int q0]) h (f56_17 h q0) (fun (q : Int32) (res : Option Value × mH) => res = (some (.int q), h)) := by
  unfold f56_17
  exact Seg.ret (f1 := (17, [.retAddr 0, .retAddr 0], [.int q0])) (h1 := h) rfl rfl rfl rfl (fun _ q => q)
theorem s56_16 (h : mH) : Seg 56 (16, [.retAddr 0, .retAddr 0], []) h (f56_16 h) (fun (q : Int32) (res : Option Value × mH) => res = (some (.int q), h)) := by
  unfold f56_16
  refine Seg.blk0 (f' := (17, [.retAddr 0, .retAddr 0], [.int 0])) (h' := h) rfl rfl ?_
  exact Seg.w (mLw.k (mLw.k mLw.nil)) (s56_17 h 0)
theorem s56 (h : mH) (l0 : Nat) (l1 : Int32) : Seg 56 (0, [.ref l0, .int l1], []) h (f56 h l0 l1) (fun (q : Int32) (res : Option Value × mH) => res = (some (.int q), h)) := by
  unfold f56
  refine Seg.blk0 (f' := (if (l1 : Int32) < 0 then 16 else 4, [.ref l0, .int l1], [])) (h' := h) rfl rfl ?_
  refine Seg.ite (fun _ => ?_) (fun _ => ?_)
  · exact Seg.w (mLw.u (mLw.u mLw.nil)) (s56_16 h)
  · refine Seg.blk (f' := (if ((mI h l0 6) : Int32) ≤ l1 then 16 else 12, [.ref l0, .int l1], [])) (h' := h) rfl rfl ?_
    refine Seg.ite (fun _ => ?_) (fun _ => ?_)
    · exact Seg.w (mLw.u (mLw.u mLw.nil)) (s56_16 h)
    · refine Seg.blk0 (f' := (17, [.ref l0, .int l1], [.int 1])) (h' := h) rfl rfl ?_
      exact Seg.w (mLw.u (mLw.u mLw.nil)) (s56_17 h 1)
theorem s57_17 (h : mH) (q0 : Int32) : Seg 57 (17, [.retAddr 0, .retAddr 0], [.int q0]) h (f57_17 h q0) (fun (q : Int32) (res : Option Value × mH) => res = (some (.int q), h)) := by
  unfold f57_17
  exact Seg.ret (f1 := (17, [.retAddr 0, .retAddr 0], [.int q0])) (h1 := h) rfl rfl rfl rfl (fun _ q => q)
theorem s57_16 (h : mH) : Seg 57 (16, [.retAddr 0, .retAddr 0], []) h (f57_16 h) (fun (q : Int32) (res : Option Value × mH) => res = (some (.int q), h)) := by
  unfold f57_16
  refine Seg.blk0 (f' := (17, [.retAddr 0, .retAddr 0], [.int 0])) (h' := h) rfl rfl ?_
  exact Seg.w (mLw.k (mLw.k mLw.nil)) (s57_17 h 0)
theorem s57 (h : mH) (l0 : Nat) (l1 : Int32) : Seg 57 (0, [.ref l0, .int l1], []) h (f57 h l0 l1) (fun (q : Int32) (res : Option Value × mH) => res = (some (.int q), h)) := by
  unfold f57
  refine Seg.blk0 (f' := (if (l1 : Int32) < 0 then 16 else 4, [.ref l0, .int l1], [])) (h' := h) rfl rfl ?_
  refine Seg.ite (fun _ => ?_) (fun _ => ?_)
  · exact Seg.w (mLw.u (mLw.u mLw.nil)) (s57_16 h)
  · refine Seg.blk (f' := (if ((mI h l0 7) : Int32) ≤ l1 then 16 else 12, [.ref l0, .int l1], [])) (h' := h) rfl rfl ?_
    refine Seg.ite (fun _ => ?_) (fun _ => ?_)
    · exact Seg.w (mLw.u (mLw.u mLw.nil)) (s57_16 h)
    · refine Seg.blk0 (f' := (17, [.ref l0, .int l1], [.int 1])) (h' := h) rfl rfl ?_
      exact Seg.w (mLw.u (mLw.u mLw.nil)) (s57_17 h 1)
theorem s54_92 (h : mH) (q0 : Int32) : Seg 54 (92, [.retAddr 0, .retAddr 0, .retAddr 0], [.int q0]) h (f54_92 h q0) (fun (q : Int32) (res : Option Value × mH) => res = (some (.int q), h)) := by
  unfold f54_92
  exact Seg.ret (f1 := (92, [.retAddr 0, .retAddr 0, .retAddr 0], [.int q0])) (h1 := h) rfl rfl rfl rfl (fun _ q => q)
theorem s54_111 (h : mH) (q0 : Int32) : Seg 54 (111, [.retAddr 0, .retAddr 0, .retAddr 0], [.int q0]) h (f54_111 h q0) (fun (q : Int32) (res : Option Value × mH) => res = (some (.int q), h)) := by
  unfold f54_111
  exact Seg.ret (f1 := (111, [.retAddr 0, .retAddr 0, .retAddr 0], [.int q0])) (h1 := h) rfl rfl rfl rfl (fun _ q => q)
theorem s54_130 (h : mH) (q0 : Int32) : Seg 54 (130, [.retAddr 0, .retAddr 0, .retAddr 0], [.int q0]) h (f54_130 h q0) (fun (q : Int32) (res : Option Value × mH) => res = (some (.int q), h)) := by
  unfold f54_130
  exact Seg.ret (f1 := (130, [.retAddr 0, .retAddr 0, .retAddr 0], [.int q0])) (h1 := h) rfl rfl rfl rfl (fun _ q => q)
theorem s54_150 (h : mH) (q0 : Int32) : Seg 54 (150, [.retAddr 0, .retAddr 0, .retAddr 0], [.int q0]) h (f54_150 h q0) (fun (q : Int32) (res : Option Value × mH) => res = (some (.int q), h)) := by
  unfold f54_150
  exact Seg.ret (f1 := (150, [.retAddr 0, .retAddr 0, .retAddr 0], [.int q0])) (h1 := h) rfl rfl rfl rfl (fun _ q => q)
theorem s54_169 (h : mH) (q0 : Int32) : Seg 54 (169, [.retAddr 0, .retAddr 0, .retAddr 0], [.int q0]) h (f54_169 h q0) (fun (q : Int32) (res : Option Value × mH) => res = (some (.int q), h)) := by
  unfold f54_169
  exact Seg.ret (f1 := (169, [.retAddr 0, .retAddr 0, .retAddr 0], [.int q0])) (h1 := h) rfl rfl rfl rfl (fun _ q => q)
theorem s54_188 (h : mH) (q0 : Int32) : Seg 54 (188, [.retAddr 0, .retAddr 0, .retAddr 0], [.int q0]) h (f54_188 h q0) (fun (q : Int32) (res : Option Value × mH) => res = (some (.int q), h)) := by
  unfold f54_188
  exact Seg.ret (f1 := (188, [.retAddr 0, .retAddr 0, .retAddr 0], [.int q0])) (h1 := h) rfl rfl rfl rfl (fun _ q => q)
theorem s54_25 (h : mH) (l0 : Nat) (l2 : Int32) (q0 : Int32) : Seg 54 (25, [.ref l0, .retAddr 0, .int l2], [.int q0]) h (f54_25 h l0 l2 q0) (fun (q : Int32) (res : Option Value × mH) => res = (some (.int q), h)) := by
  unfold f54_25
  refine Seg.blk0 (f' := (if (q0 : Int32) = 0 then 68 else if (q0 : Int32) = 1 then 74 else if (q0 : Int32) = 2 then 93 else if (q0 : Int32) = 3 then 112 else if (q0 : Int32) = 4 then 131 else if (q0 : Int32) = 5 then 151 else if (q0 : Int32) = 6 then 170 else 189, [.ref l0, .retAddr 0, .int l2], [])) (h' := h) rfl rfl ?_
  refine Seg.ite (fun _ => ?_) (fun _ => ?_)
  · refine Seg.callP (f1 := (70, [.ref l0, .retAddr 0, .int l2], [.int l2, .ref l0])) (h1 := h) (cv := fun r => some (.int r)) rfl rfl rfl rfl (s55 h l0 l2) (fun r1 => ?_)
    exact Seg.ret (f1 := (73, [.ref l0, .retAddr 0, .int l2], [.int r1])) (h1 := h) rfl rfl rfl rfl (fun _ q => q)
  refine Seg.ite (fun _ => ?_) (fun _ => ?_)
  · refine Seg.callP (f1 := (76, [.ref l0, .retAddr 0, .int l2], [.int l2, .ref l0])) (h1 := h) (cv := fun r => some (.int r)) rfl rfl rfl rfl (s56 h l0 l2) (fun r2 => ?_)
    refine Seg.blk0 (f' := (if (r2 : Int32) = 0 then 91 else 82, [.ref l0, .retAddr 0, .int l2], [])) (h' := h) rfl rfl ?_
    refine Seg.ite (fun _ => ?_) (fun _ => ?_)
    · refine Seg.blk0 (f' := (92, [.ref l0, .retAddr 0, .int l2], [.int (-1)])) (h' := h) rfl rfl ?_
      exact Seg.w (mLw.u (mLw.k (mLw.u mLw.nil))) (s54_92 h (-1))
    · refine Seg.blk (f' := (92, [.ref l0, .retAddr 0, .int l2], [.int (mI h ((mR h l0 0).getD 0) (Int32.toNatClampNeg l2))])) (h' := h) rfl rfl ?_
      exact Seg.w (mLw.u (mLw.k (mLw.u mLw.nil))) (s54_92 h (mI h ((mR h l0 0).getD 0) (Int32.toNatClampNeg l2)))
  refine Seg.ite (fun _ => ?_) (fun _ => ?_)
  · refine Seg.callP (f1 := (95, [.ref l0, .retAddr 0, .int l2], [.int l2, .ref l0])) (h1 := h) (cv := fun r => some (.int r)) rfl rfl rfl rfl (s56 h l0 l2) (fun r3 => ?_)
    refine Seg.blk0 (f' := (if (r3 : Int32) = 0 then 110 else 101, [.ref l0, .retAddr 0, .int l2], [])) (h' := h) rfl rfl ?_
    refine Seg.ite (fun _ => ?_) (fun _ => ?_)
    · refine Seg.blk0 (f' := (111, [.ref l0, .retAddr 0, .int l2], [.int (-1)])) (h' := h) rfl rfl ?_
      exact Seg.w (mLw.u (mLw.k (mLw.u mLw.nil))) (s54_111 h (-1))
    · refine Seg.blk (f' := (111, [.ref l0, .retAddr 0, .int l2], [.int (mI h ((mR h l0 1).getD 0) (Int32.toNatClampNeg l2))])) (h' := h) rfl rfl ?_
      exact Seg.w (mLw.u (mLw.k (mLw.u mLw.nil))) (s54_111 h (mI h ((mR h l0 1).getD 0) (Int32.toNatClampNeg l2)))
  refine Seg.ite (fun _ => ?_) (fun _ => ?_)
  · refine Seg.callP (f1 := (114, [.ref l0, .retAddr 0, .int l2], [.int l2, .ref l0])) (h1 := h) (cv := fun r => some (.int r)) rfl rfl rfl rfl (s56 h l0 l2) (fun r4 => ?_)
    refine Seg.blk0 (f' := (if (r4 : Int32) = 0 then 129 else 120, [.ref l0, .retAddr 0, .int l2], [])) (h' := h) rfl rfl ?_
    refine Seg.ite (fun _ => ?_) (fun _ => ?_)
    · refine Seg.blk0 (f' := (130, [.ref l0, .retAddr 0, .int l2], [.int (-1)])) (h' := h) rfl rfl ?_
      exact Seg.w (mLw.u (mLw.k (mLw.u mLw.nil))) (s54_130 h (-1))
    · refine Seg.blk (f' := (130, [.ref l0, .retAddr 0, .int l2], [.int (mI h ((mR h l0 2).getD 0) (Int32.toNatClampNeg l2))])) (h' := h) rfl rfl ?_
      exact Seg.w (mLw.u (mLw.k (mLw.u mLw.nil))) (s54_130 h (mI h ((mR h l0 2).getD 0) (Int32.toNatClampNeg l2)))
  refine Seg.ite (fun _ => ?_) (fun _ => ?_)
  · refine Seg.callP (f1 := (134, [.ref l0, .retAddr 0, .int l2], [.int 5, .int 0, .int l2])) (h1 := h) (cv := fun r => some (.int r)) rfl rfl rfl rfl (s17 h l2 0 5) (fun r5 => ?_)
    refine Seg.blk0 (f' := (if (r5 : Int32) = 0 then 149 else 140, [.ref l0, .retAddr 0, .int l2], [])) (h' := h) rfl rfl ?_
    refine Seg.ite (fun _ => ?_) (fun _ => ?_)
    · refine Seg.blk0 (f' := (150, [.ref l0, .retAddr 0, .int l2], [.int (-1)])) (h' := h) rfl rfl ?_
      exact Seg.w (mLw.u (mLw.k (mLw.u mLw.nil))) (s54_150 h (-1))
    · refine Seg.blk (f' := (150, [.ref l0, .retAddr 0, .int l2], [.int (mI h ((mR h l0 3).getD 0) (Int32.toNatClampNeg l2))])) (h' := h) rfl rfl ?_
      exact Seg.w (mLw.u (mLw.k (mLw.u mLw.nil))) (s54_150 h (mI h ((mR h l0 3).getD 0) (Int32.toNatClampNeg l2)))
  refine Seg.ite (fun _ => ?_) (fun _ => ?_)
  · refine Seg.callP (f1 := (153, [.ref l0, .retAddr 0, .int l2], [.int l2, .ref l0])) (h1 := h) (cv := fun r => some (.int r)) rfl rfl rfl rfl (s57 h l0 l2) (fun r6 => ?_)
    refine Seg.blk0 (f' := (if (r6 : Int32) = 0 then 168 else 159, [.ref l0, .retAddr 0, .int l2], [])) (h' := h) rfl rfl ?_
    refine Seg.ite (fun _ => ?_) (fun _ => ?_)
    · refine Seg.blk0 (f' := (169, [.ref l0, .retAddr 0, .int l2], [.int (-1)])) (h' := h) rfl rfl ?_
      exact Seg.w (mLw.u (mLw.k (mLw.u mLw.nil))) (s54_169 h (-1))
    · refine Seg.blk (f' := (169, [.ref l0, .retAddr 0, .int l2], [.int (mI h ((mR h l0 4).getD 0) (Int32.toNatClampNeg l2))])) (h' := h) rfl rfl ?_
      exact Seg.w (mLw.u (mLw.k (mLw.u mLw.nil))) (s54_169 h (mI h ((mR h l0 4).getD 0) (Int32.toNatClampNeg l2)))
  refine Seg.ite (fun _ => ?_) (fun _ => ?_)
  · refine Seg.callP (f1 := (172, [.ref l0, .retAddr 0, .int l2], [.int l2, .ref l0])) (h1 := h) (cv := fun r => some (.int r)) rfl rfl rfl rfl (s57 h l0 l2) (fun r7 => ?_)
    refine Seg.blk0 (f' := (if (r7 : Int32) = 0 then 187 else 178, [.ref l0, .retAddr 0, .int l2], [])) (h' := h) rfl rfl ?_
    refine Seg.ite (fun _ => ?_) (fun _ => ?_)
    · refine Seg.blk0 (f' := (188, [.ref l0, .retAddr 0, .int l2], [.int (-1)])) (h' := h) rfl rfl ?_
      exact Seg.w (mLw.u (mLw.k (mLw.u mLw.nil))) (s54_188 h (-1))
    · refine Seg.blk (f' := (188, [.ref l0, .retAddr 0, .int l2], [.int (mI h ((mR h l0 5).getD 0) (Int32.toNatClampNeg l2))])) (h' := h) rfl rfl ?_
      exact Seg.w (mLw.u (mLw.k (mLw.u mLw.nil))) (s54_188 h (mI h ((mR h l0 5).getD 0) (Int32.toNatClampNeg l2)))
  · exact Seg.ret (f1 := (190, [.ref l0, .retAddr 0, .int l2], [.int (-1)])) (h1 := h) rfl rfl rfl rfl (fun _ q => q)
theorem s54_12 (h : mH) (l0 : Nat) (l1 : Int32) (q0 : Int32) : Seg 54 (12, [.ref l0, .int l1, .retAddr 0], [.int q0]) h (f54_12 h l0 l1 q0) (fun (q : Int32) (res : Option Value × mH) => res = (some (.int q), h)) := by
  unfold f54_12
  refine Seg.blk0 (f' := (if (0 : Int32) ≤ l1 then 21 else 17, [.ref l0, .int l1, .int q0], [])) (h' := h) rfl rfl ?_
  refine Seg.ite (fun _ => ?_) (fun _ => ?_)
  · refine Seg.blk (f' := (25, [.ref l0, .int l1, .int q0], [.int (l1 / 10)])) (h' := h) rfl rfl ?_
    exact Seg.w (mLw.k (mLw.u (mLw.k mLw.nil))) (s54_25 h l0 q0 (l1 / 10))
  · refine Seg.blk0 (f' := (25, [.ref l0, .int l1, .int q0], [.int (-1)])) (h' := h) rfl rfl ?_
    exact Seg.w (mLw.k (mLw.u (mLw.k mLw.nil))) (s54_25 h l0 q0 (-1))
theorem s54 (h : mH) (l0 : Nat) (l1 : Int32) : Seg 54 (0, [.ref l0, .int l1, .retAddr 0], []) h (f54 h l0 l1) (fun (q : Int32) (res : Option Value × mH) => res = (some (.int q), h)) := by
  unfold f54
  refine Seg.blk0 (f' := (if (0 : Int32) ≤ l1 then 8 else 4, [.ref l0, .int l1, .retAddr 0], [])) (h' := h) rfl rfl ?_
  refine Seg.ite (fun _ => ?_) (fun _ => ?_)
  · refine Seg.blk (f' := (12, [.ref l0, .int l1, .retAddr 0], [.int (l1 - l1 / 10 * 10)])) (h' := h) rfl rfl ?_
    exact Seg.w (mLw.k (mLw.k (mLw.k mLw.nil))) (s54_12 h l0 l1 (l1 - l1 / 10 * 10))
  · refine Seg.blk0 (f' := (12, [.ref l0, .int l1, .retAddr 0], [.int (-1)])) (h' := h) rfl rfl ?_
    exact Seg.w (mLw.k (mLw.k (mLw.k mLw.nil))) (s54_12 h l0 l1 (-1))
theorem s52_22 (h : mH) (q0 : Int32) : Seg 52 (22, [.retAddr 0, .retAddr 0, .retAddr 0, .retAddr 0], [.int q0]) h (f52_22 h q0) (fun (q : Int32) (res : Option Value × mH) => res = (some (.int q), h)) := by
  unfold f52_22
  exact Seg.ret (f1 := (22, [.retAddr 0, .retAddr 0, .retAddr 0, .retAddr 0], [.int q0])) (h1 := h) rfl rfl rfl rfl (fun _ q => q)
theorem s52 (h : mH) (l0 : Nat) (l1 : Int32) (l2 : Int32) : Seg 52 (0, [.ref l0, .int l1, .int l2, .retAddr 0], []) h (f52 h l0 l1 l2) (fun (q : Int32) (res : Option Value × mH) => res = (some (.int q), h)) := by
  unfold f52
  refine Seg.callP (f1 := (5, [.ref l0, .int l1, .int l2, .retAddr 0], [.int l1, .ref ((mR h l0 0).getD 0)])) (h1 := h) (cv := fun r => some (va_rf r)) rfl rfl rfl rfl (s53 h ((mR h l0 0).getD 0) l1) (fun r1 => ?_)
  cases r1 with
  | none =>
    refine Seg.blk0 (f' := (13, [.ref l0, .int l1, .int l2, .null], [])) (h' := h) rfl rfl ?_
    refine Seg.blk0 (f' := (22, [.ref l0, .int l1, .int l2, .null], [.int (-1)])) (h' := h) rfl rfl ?_
    exact Seg.w (mLw.u (mLw.u (mLw.u (mLw.u mLw.nil)))) (s52_22 h (-1))
  | some a1 =>
    refine Seg.blk0 (f' := (17, [.ref l0, .int l1, .int l2, .ref a1], [])) (h' := h) rfl rfl ?_
    refine Seg.callP (f1 := (19, [.ref l0, .int l1, .int l2, .ref a1], [.int l2, .ref a1])) (h1 := h) (cv := fun r => some (.int r)) rfl rfl rfl rfl (s54 h a1 l2) (fun r2 => ?_)
    exact Seg.w (mLw.u (mLw.u (mLw.u (mLw.u mLw.nil)))) (s52_22 h r2)
theorem s59 (h : mH) (l0 : Nat) (l1 : Int32) : Seg 59 (0, [.ref l0, .int l1], []) h (f59 h l0 l1) (fun (q : Option Nat) (res : Option Value × mH) => res = (some (va_rf q), h)) := by
  unfold f59
  refine Seg.callP (f1 := (10, [.ref l0, .int l1], [.int ((mI h ((mR h l0 1).getD 0) (Int32.toNatClampNeg 1)) - 1), .int 0, .int l1])) (h1 := h) (cv := fun r => some (.int r)) rfl rfl rfl rfl (s17 h l1 0 ((mI h ((mR h l0 1).getD 0) (Int32.toNatClampNeg 1)) - 1)) (fun r1 => ?_)
  refine Seg.blk0 (f' := (if (r1 : Int32) = 0 then 25 else 16, [.ref l0, .int l1], [])) (h' := h) rfl rfl ?_
  refine Seg.ite (fun _ => ?_) (fun _ => ?_)
  · refine Seg.blk0 (f' := (26, [.ref l0, .int l1], [.null])) (h' := h) rfl rfl ?_
    exact Seg.ret (f1 := (26, [.ref l0, .int l1], [.null])) (h1 := h) rfl rfl rfl rfl (fun _ q => q)
  · refine Seg.blk (f' := (26, [.ref l0, .int l1], [.ref ((mR h ((mR h l0 3).getD 0) (Int32.toNatClampNeg l1)).getD 0)])) (h' := h) rfl rfl ?_
    exact Seg.ret (f1 := (26, [.ref l0, .int l1], [.ref ((mR h ((mR h l0 3).getD 0) (Int32.toNatClampNeg l1)).getD 0)])) (h1 := h) rfl rfl rfl rfl (fun _ q => q)
theorem s60_14 (h : mH) (l0 : Nat) (l1 : Int32) (l2 : Int32) : Seg 60 (14, [.ref l0, .int l1, .int l2], []) h (f60_14 h l0 l1 l2) (fun (q : Int32) (res : Option Value × mH) => res = (some (.int q), h)) := by
  unfold f60_14
  refine Seg.callP (f1 := (22, [.ref l0, .int l1, .int l2], [.int ((mI h l0 3) - 1), .int 0, .int l1])) (h1 := h) (cv := fun r => some (.int r)) rfl rfl rfl rfl (s17 h l1 0 ((mI h l0 3) - 1)) (fun r1 => ?_)
  refine Seg.blk0 (f' := (if (r1 : Int32) = 0 then 28 else 31, [.ref l0, .int l1, .int l2], [])) (h' := h) rfl rfl ?_
  refine Seg.ite (fun _ => ?_) (fun _ => ?_)
  · exact Seg.ret (f1 := (30, [.ref l0, .int l1, .int l2], [.int (-2)])) (h1 := h) rfl rfl rfl rfl (fun _ q => q)
  · refine Seg.blk0 (f' := (if (l2 : Int32) = 0 then 60 else if (l2 : Int32) = 1 then 67 else if (l2 : Int32) = 2 then 74 else 81, [.ref l0, .int l1, .int l2], [])) (h' := h) rfl rfl ?_
    refine Seg.ite (fun _ => ?_) (fun _ => ?_)
    · exact Seg.ret (f1 := (66, [.ref l0, .int l1, .int l2], [.int (mI h ((mR h l0 0).getD 0) (Int32.toNatClampNeg l1))])) (h1 := h) rfl rfl rfl rfl (fun _ q => q)
    refine Seg.ite (fun _ => ?_) (fun _ => ?_)
    · exact Seg.ret (f1 := (73, [.ref l0, .int l1, .int l2], [.int (mI h ((mR h l0 1).getD 0) (Int32.toNatClampNeg l1))])) (h1 := h) rfl rfl rfl rfl (fun _ q => q)
    refine Seg.ite (fun _ => ?_) (fun _ => ?_)
    · exact Seg.ret (f1 := (80, [.ref l0, .int l1, .int l2], [.int (mI h ((mR h l0 2).getD 0) (Int32.toNatClampNeg l1))])) (h1 := h) rfl rfl rfl rfl (fun _ q => q)
    · exact Seg.ret (f1 := (83, [.ref l0, .int l1, .int l2], [.int (-2)])) (h1 := h) rfl rfl rfl rfl (fun _ q => q)
theorem s60 (h : mH) (l0 : Nat) (l1 : Int32) (l2 : Int32) : Seg 60 (0, [.ref l0, .int l1, .int l2], []) h (f60 h l0 l1 l2) (fun (q : Int32) (res : Option Value × mH) => res = (some (.int q), h)) := by
  unfold f60
  refine Seg.blk0 (f' := (if (l1 : Int32) = (-1) then 5 else 14, [.ref l0, .int l1, .int l2], [])) (h' := h) rfl rfl ?_
  refine Seg.ite (fun _ => ?_) (fun _ => ?_)
  · refine Seg.blk0 (f' := (if (l2 : Int32) = 0 then 9 else 14, [.ref l0, .int l1, .int l2], [])) (h' := h) rfl rfl ?_
    refine Seg.ite (fun _ => ?_) (fun _ => ?_)
    · exact Seg.ret (f1 := (13, [.ref l0, .int l1, .int l2], [.int (mI h l0 3)])) (h1 := h) rfl rfl rfl rfl (fun _ q => q)
    · exact Seg.w (mLw.k (mLw.k (mLw.k mLw.nil))) (s60_14 h l0 l1 l2)
  · exact Seg.w (mLw.k (mLw.k (mLw.k mLw.nil))) (s60_14 h l0 l1 l2)
theorem s58_27 (h : mH) (q0 : Int32) : Seg 58 (27, [.retAddr 0, .retAddr 0, .retAddr 0, .retAddr 0, .retAddr 0], [.int q0]) h (f58_27 h q0) (fun (q : Int32) (res : Option Value × mH) => res = (some (.int q), h)) := by
  unfold f58_27
  exact Seg.ret (f1 := (27, [.retAddr 0, .retAddr 0, .retAddr 0, .retAddr 0, .retAddr 0], [.int q0])) (h1 := h) rfl rfl rfl rfl (fun _ q => q)
theorem s58 (h : mH) (l0 : Nat) (l1 : Int32) (l2 : Int32) (l3 : Int32) : Seg 58 (0, [.ref l0, .int l1, .int l2, .int l3, .retAddr 0], []) h (f58 h l0 l1 l2 l3) (fun (q : Int32) (res : Option Value × mH) => res = (some (.int q), h)) := by
  unfold f58
  refine Seg.callP (f1 := (5, [.ref l0, .int l1, .int l2, .int l3, .retAddr 0], [.int l1, .ref ((mR h l0 0).getD 0)])) (h1 := h) (cv := fun r => some (va_rf r)) rfl rfl rfl rfl (s59 h ((mR h l0 0).getD 0) l1) (fun r1 => ?_)
  cases r1 with
  | none =>
    refine Seg.blk0 (f' := (15, [.ref l0, .int l1, .int l2, .int l3, .null], [])) (h' := h) rfl rfl ?_
    refine Seg.blk0 (f' := (27, [.ref l0, .int l1, .int l2, .int l3, .null], [.int (-2)])) (h' := h) rfl rfl ?_
    exact Seg.w (mLw.u (mLw.u (mLw.u (mLw.u (mLw.u mLw.nil))))) (s58_27 h (-2))
  | some a1 =>
    refine Seg.blk0 (f' := (20, [.ref l0, .int l1, .int l2, .int l3, .ref a1], [])) (h' := h) rfl rfl ?_
    refine Seg.callP (f1 := (24, [.ref l0, .int l1, .int l2, .int l3, .ref a1], [.int l3, .int l2, .ref a1])) (h1 := h) (cv := fun r => some (.int r)) rfl rfl rfl rfl (s60 h a1 l2 l3) (fun r2 => ?_)
    exact Seg.w (mLw.u (mLw.u (mLw.u (mLw.u (mLw.u mLw.nil))))) (s58_27 h r2)
theorem s63_71 (h : mH) (l0 : Nat) : Seg 63 (71, [.ref l0, .retAddr 0], []) h (f63_71 h l0) (fun (q : Unit × mH) (res : Option Value × mH) => res = (none, q.2)) := by
  unfold f63_71
  refine Seg.blk (f' := (76, [.ref l0, .retAddr 0], [])) (h' := (mSI h l0 11 0)) rfl rfl ?_
  refine Seg.blk (f' := (81, [.ref l0, .retAddr 0], [])) (h' := (mSI (mSI h l0 11 0) l0 12 (-1))) rfl rfl ?_
  refine Seg.blk (f' := (86, [.ref l0, .retAddr 0], [])) (h' := (mSI (mSI (mSI h l0 11 0) l0 12 (-1)) l0 13 0)) rfl rfl ?_
  exact Seg.ret (f1 := (86, [.ref l0, .retAddr 0], [])) (h1 := (mSI (mSI (mSI h l0 11 0) l0 12 (-1)) l0 13 0)) rfl rfl rfl rfl (fun _ q => q)
theorem s63_20 (h : mH) (l0 : Nat) (l1 : Nat) : Seg 63 (20, [.ref l0, .ref l1], []) h (f63_20 h l0 l1) (fun (q : Unit × mH) (res : Option Value × mH) => res = (none, q.2)) := by
  unfold f63_20
  refine Seg.call (f1 := (25, [.ref l0, .ref l1], [.int (-1), .ref ((mR h l0 2).getD 0)])) (h1 := h) (cv := fun _ => none) rfl rfl rfl rfl (s4 h ((mR h l0 2).getD 0) (-1)) (fun r1 => ?_)
  refine Seg.blk (f' := (33, [.ref l0, .ref l1], [])) (h' := (mSI r1.2 l0 4 0)) rfl rfl ?_
  refine Seg.blk (f' := (38, [.ref l0, .ref l1], [])) (h' := (mSI (mSI r1.2 l0 4 0) l0 1 0)) rfl rfl ?_
  refine Seg.blk (f' := (43, [.ref l0, .ref l1], [])) (h' := (mSI (mSI (mSI r1.2 l0 4 0) l0 1 0) l0 5 0)) rfl rfl ?_
  refine Seg.blk (f' := (51, [.ref l0, .ref l1], [])) (h' := (mSI (mSI (mSI (mSI r1.2 l0 4 0) l0 1 0) l0 5 0) l0 6 (mI (mSI (mSI (mSI r1.2 l0 4 0) l0 1 0) l0 5 0) l1 8))) rfl rfl ?_
  refine Seg.blk (f' := (56, [.ref l0, .ref l1], [])) (h' := (mSI (mSI (mSI (mSI (mSI r1.2 l0 4 0) l0 1 0) l0 5 0) l0 6 (mI (mSI (mSI (mSI r1.2 l0 4 0) l0 1 0) l0 5 0) l1 8)) l0 7 0)) rfl rfl ?_
  refine Seg.blk (f' := (61, [.ref l0, .ref l1], [])) (h' := (mSI (mSI (mSI (mSI (mSI (mSI r1.2 l0 4 0) l0 1 0) l0 5 0) l0 6 (mI (mSI (mSI (mSI r1.2 l0 4 0) l0 1 0) l0 5 0) l1 8)) l0 7 0) l0 8 0)) rfl rfl ?_
  refine Seg.blk (f' := (66, [.ref l0, .ref l1], [])) (h' := (mSI (mSI (mSI (mSI (mSI (mSI (mSI r1.2 l0 4 0) l0 1 0) l0 5 0) l0 6 (mI (mSI (mSI (mSI r1.2 l0 4 0) l0 1 0) l0 5 0) l1 8)) l0 7 0) l0 8 0) l0 9 0)) rfl rfl ?_
  refine Seg.blk (f' := (71, [.ref l0, .ref l1], [])) (h' := (mSI (mSI (mSI (mSI (mSI (mSI (mSI (mSI r1.2 l0 4 0) l0 1 0) l0 5 0) l0 6 (mI (mSI (mSI (mSI r1.2 l0 4 0) l0 1 0) l0 5 0) l1 8)) l0 7 0) l0 8 0) l0 9 0) l0 10 (-1))) rfl rfl ?_
  exact Seg.w (mLw.k (mLw.u mLw.nil)) (s63_71 (mSI (mSI (mSI (mSI (mSI (mSI (mSI (mSI r1.2 l0 4 0) l0 1 0) l0 5 0) l0 6 (mI (mSI (mSI (mSI r1.2 l0 4 0) l0 1 0) l0 5 0) l1 8)) l0 7 0) l0 8 0) l0 9 0) l0 10 (-1)) l0)
theorem s63 (h : mH) (l0 : Nat) (l1 : Nat) : Seg 63 (0, [.ref l0, .ref l1], []) h (f63 h l0 l1) (fun (q : Unit × mH) (res : Option Value × mH) => res = (none, q.2)) := by
  unfold f63
  refine Seg.blk (f' := (5, [.ref l0, .ref l1], [])) (h' := (mSR h l0 3 (some l1))) rfl rfl ?_
  refine Seg.blk (f' := (20, [.ref l0, .ref l1], [])) (h' := (mCp (mSR h l0 3 (some l1)) ((mR (mSR h l0 3 (some l1)) l1 3).getD 0) (Int32.toNatClampNeg 0) ((mR (mSR h l0 3 (some l1)) l0 0).getD 0) (Int32.toNatClampNeg 0) (Int32.toNatClampNeg 6))) rfl rfl ?_
  exact Seg.w (mLw.k (mLw.k mLw.nil)) (s63_20 (mCp (mSR h l0 3 (some l1)) ((mR (mSR h l0 3 (some l1)) l1 3).getD 0) (Int32.toNatClampNeg 0) ((mR (mSR h l0 3 (some l1)) l0 0).getD 0) (Int32.toNatClampNeg 0) (Int32.toNatClampNeg 6)) l0 l1)
theorem s65_36 (h : mH) (l0 : Nat) (l1 : Int32) (l2 : Int32) (l3 : Int32) : Seg 65 (36, [.ref l0, .int l1, .int l2, .int l3], []) h (f65_36 h l0 l1 l2 l3) (Sum.elim (fun s : (Int32 × Int32) => Ev 65 (4, [.ref l0, .int l1, .int s.1, .int s.2], []) h) (fun (q : Int32) (res : Option Value × mH) => res = (some (.int q), h))) := by
  unfold f65_36
  refine Seg.blk0 (f' := (4, [.ref l0, .int l1, .int l2, .int (l3 + 1)], [])) (h' := h) rfl rfl ?_
  exact Seg.cont (fun _ q => Ev.w (mLw.k (mLw.k (mLw.k (mLw.k mLw.nil)))) q)
theorem s65_4 (h : mH) (l0 : Nat) (l1 : Int32) : ∀ (n : Nat) (s : (Int32 × Int32)), Seg 65 (4, [.ref l0, .int l1, .int s.1, .int s.2], []) h (mLoop (f65_4 h l0 l1) n s) (fun (q : Int32) (res : Option Value × mH) => res = (some (.int q), h)) := by
  refine Seg.loop (F := fun s : (Int32 × Int32) => (4, [.ref l0, .int l1, .int s.1, .int s.2], [])) (H := fun s : (Int32 × Int32) => h) (fun s => ?_)
  show Seg 65 (4, [.ref l0, .int l1, .int s.1, .int s.2], []) h _ (Sum.elim (fun s : (Int32 × Int32) => Ev 65 (4, [.ref l0, .int l1, .int s.1, .int s.2], []) h) (fun (q : Int32) (res : Option Value × mH) => res = (some (.int q), h)))
  unfold f65_4
  refine Seg.blk (f' := (if ((mI h ((mR h l0 3).getD 0) 6) : Int32) ≤ s.2 then 42 else 15, [.ref l0, .int l1, .int s.1, .int s.2], [])) (h' := h) rfl rfl ?_
  refine Seg.ite (fun _ => ?_) (fun _ => ?_)
  · refine Seg.x ?_
    exact Seg.ret (f1 := (43, [.ref l0, .int l1, .int s.1, .int s.2], [.int s.1])) (h1 := h) rfl rfl rfl rfl (fun _ q => q)
  · refine Seg.blk (f' := (if ((mI h ((mR h l0 2).getD 0) (Int32.toNatClampNeg ((l1 * 8) + s.2))) : Int32) = (-1) then 36 else 30, [.ref l0, .int l1, .int s.1, .int s.2], [])) (h' := h) rfl rfl ?_
    refine Seg.ite (fun _ => ?_) (fun _ => ?_)
    · exact Seg.w (mLw.k (mLw.k (mLw.k (mLw.k mLw.nil)))) (s65_36 h l0 l1 s.1 s.2)
    · refine Seg.blk0 (f' := (36, [.ref l0, .int l1, .int (s.1 ||| ((1 : Int32) <<< (s.2 &&& (31 : Int32)))), .int s.2], [])) (h' := h) rfl rfl ?_
      exact Seg.w (mLw.k (mLw.k (mLw.k (mLw.k mLw.nil)))) (s65_36 h l0 l1 (s.1 ||| ((1 : Int32) <<< (s.2 &&& (31 : Int32)))) s.2)
theorem s65 (h : mH) (l0 : Nat) (l1 : Int32) : Seg 65 (0, [.ref l0, .int l1, .retAddr 0, .retAddr 0], []) h (f65 h l0 l1) (fun (q : Int32) (res : Option Value × mH) => res = (some (.int q), h)) := by
  unfold f65
  refine Seg.blk0 (f' := (4, [.ref l0, .int l1, .int 0, .int 0], [])) (h' := h) rfl rfl ?_
  exact Seg.w (mLw.k (mLw.k (mLw.k (mLw.k mLw.nil)))) (s65_4 h l0 l1 mFuel (0, 0))
theorem s66_48 (h : mH) (l0 : Int32) : Seg 66 (48, [.int l0], []) h (f66_48 h l0) (fun (q : Int32) (res : Option Value × mH) => res = (some (.int q), h)) := by
  unfold f66_48
  exact Seg.ret (f1 := (52, [.int l0], [.int (l0 &&& 63)])) (h1 := h) rfl rfl rfl rfl (fun _ q => q)
theorem s66_41 (h : mH) (l0 : Int32) : Seg 66 (41, [.int l0], []) h (f66_41 h l0) (fun (q : Int32) (res : Option Value × mH) => res = (some (.int q), h)) := by
  unfold f66_41
  refine Seg.blk0 (f' := (48, [.int (l0 + ((Int32.toUInt32 l0 >>> (Int32.toUInt32 16 &&& Int32.toUInt32 31)).toInt32))], [])) (h' := h) rfl rfl ?_
  exact Seg.w (mLw.k mLw.nil) (s66_48 h (l0 + ((Int32.toUInt32 l0 >>> (Int32.toUInt32 16 &&& Int32.toUInt32 31)).toInt32)))
theorem s66_34 (h : mH) (l0 : Int32) : Seg 66 (34, [.int l0], []) h (f66_34 h l0) (fun (q : Int32) (res : Option Value × mH) => res = (some (.int q), h)) := by
  unfold f66_34
  refine Seg.blk0 (f' := (41, [.int (l0 + ((Int32.toUInt32 l0 >>> (Int32.toUInt32 8 &&& Int32.toUInt32 31)).toInt32))], [])) (h' := h) rfl rfl ?_
  exact Seg.w (mLw.k mLw.nil) (s66_41 h (l0 + ((Int32.toUInt32 l0 >>> (Int32.toUInt32 8 &&& Int32.toUInt32 31)).toInt32)))
theorem s66_24 (h : mH) (l0 : Int32) : Seg 66 (24, [.int l0], []) h (f66_24 h l0) (fun (q : Int32) (res : Option Value × mH) => res = (some (.int q), h)) := by
  unfold f66_24
  refine Seg.blk0 (f' := (34, [.int ((l0 + ((Int32.toUInt32 l0 >>> (Int32.toUInt32 4 &&& Int32.toUInt32 31)).toInt32)) &&& 252645135)], [])) (h' := h) rfl rfl ?_
  exact Seg.w (mLw.k mLw.nil) (s66_34 h ((l0 + ((Int32.toUInt32 l0 >>> (Int32.toUInt32 4 &&& Int32.toUInt32 31)).toInt32)) &&& 252645135))
theorem s66_10 (h : mH) (l0 : Int32) : Seg 66 (10, [.int l0], []) h (f66_10 h l0) (fun (q : Int32) (res : Option Value × mH) => res = (some (.int q), h)) := by
  unfold f66_10
  refine Seg.blk0 (f' := (24, [.int ((l0 &&& 858993459) + (((Int32.toUInt32 l0 >>> (Int32.toUInt32 2 &&& Int32.toUInt32 31)).toInt32) &&& 858993459))], [])) (h' := h) rfl rfl ?_
  exact Seg.w (mLw.k mLw.nil) (s66_24 h ((l0 &&& 858993459) + (((Int32.toUInt32 l0 >>> (Int32.toUInt32 2 &&& Int32.toUInt32 31)).toInt32) &&& 858993459)))
theorem s66 (h : mH) (l0 : Int32) : Seg 66 (0, [.int l0], []) h (f66 h l0) (fun (q : Int32) (res : Option Value × mH) => res = (some (.int q), h)) := by
  unfold f66
  refine Seg.blk0 (f' := (10, [.int (l0 - (((Int32.toUInt32 l0 >>> (Int32.toUInt32 1 &&& Int32.toUInt32 31)).toInt32) &&& 1431655765))], [])) (h' := h) rfl rfl ?_
  exact Seg.w (mLw.k mLw.nil) (s66_10 h (l0 - (((Int32.toUInt32 l0 >>> (Int32.toUInt32 1 &&& Int32.toUInt32 31)).toInt32) &&& 1431655765)))
theorem s64_75 (h : mH) (l0 : Nat) (l1 : Int32) : Seg 64 (75, [.ref l0, .int l1, .retAddr 0], []) h (f64_75 h l0 l1) (Sum.elim (fun s : (Int32 × mH) => Ev 64 (37, [.ref l0, .int s.1, .retAddr 0], []) s.2) (fun (q : Unit × mH) (res : Option Value × mH) => res = (none, q.2))) := by
  unfold f64_75
  refine Seg.blk0 (f' := (37, [.ref l0, .int (l1 + 1), .retAddr 0], [])) (h' := h) rfl rfl ?_
  exact Seg.cont (fun _ q => Ev.w (mLw.k (mLw.k (mLw.k mLw.nil))) q)
theorem s64_37 (l0 : Nat) : ∀ (n : Nat) (s : (Int32 × mH)), Seg 64 (37, [.ref l0, .int s.1, .retAddr 0], []) s.2 (mLoop (f64_37 l0) n s) (fun (q : Unit × mH) (res : Option Value × mH) => res = (none, q.2)) := by
  refine Seg.loop (F := fun s : (Int32 × mH) => (37, [.ref l0, .int s.1, .retAddr 0], [])) (H := fun s : (Int32 × mH) => s.2) (fun s => ?_)
  show Seg 64 (37, [.ref l0, .int s.1, .retAddr 0], []) s.2 _ (Sum.elim (fun s : (Int32 × mH) => Ev 64 (37, [.ref l0, .int s.1, .retAddr 0], []) s.2) (fun (q : Unit × mH) (res : Option Value × mH) => res = (none, q.2)))
  unfold f64_37
  refine Seg.blk (f' := (if ((mI s.2 ((mR s.2 l0 3).getD 0) 7) : Int32) ≤ s.1 then 81 else 48, [.ref l0, .int s.1, .retAddr 0], [])) (h' := s.2) rfl rfl ?_
  refine Seg.ite (fun _ => ?_) (fun _ => ?_)
  · refine Seg.x ?_
    exact Seg.ret (f1 := (81, [.ref l0, .int s.1, .retAddr 0], [])) (h1 := s.2) rfl rfl rfl rfl (fun _ q => q)
  · refine Seg.callP (f1 := (50, [.ref l0, .int s.1, .retAddr 0], [.int s.1, .ref l0])) (h1 := s.2) (cv := fun r => some (.int r)) rfl rfl rfl rfl (s65 s.2 l0 s.1) (fun r1 => ?_)
    refine Seg.callP (f1 := (53, [.ref l0, .int s.1, .retAddr 0], [.int r1])) (h1 := s.2) (cv := fun r => some (.int r)) rfl rfl rfl rfl (s66 s.2 r1) (fun r2 => ?_)
    refine Seg.blk (f' := (if (r2 : Int32) ≤ (mI s.2 l0 11) then 75 else 65, [.ref l0, .int s.1, .int r2], [])) (h' := s.2) rfl rfl ?_
    refine Seg.ite (fun _ => ?_) (fun _ => ?_)
    · exact Seg.w (mLw.k (mLw.k (mLw.u mLw.nil))) (s64_75 s.2 l0 s.1)
    · refine Seg.blk (f' := (70, [.ref l0, .int s.1, .int r2], [])) (h' := (mSI s.2 l0 11 r2)) rfl rfl ?_
      refine Seg.blk (f' := (75, [.ref l0, .int s.1, .int r2], [])) (h' := (mSI (mSI s.2 l0 11 r2) l0 10 s.1)) rfl rfl ?_
      exact Seg.w (mLw.k (mLw.k (mLw.u mLw.nil))) (s64_75 (mSI (mSI s.2 l0 11 r2) l0 10 s.1) l0 s.1)
theorem s64_29 (h : mH) (l0 : Nat) (l1 : Int32) : Seg 64 (29, [.ref l0, .int l1, .retAddr 0], []) h (f64_29 h l0 l1) (Sum.elim (fun s : (Int32 × mH) => Ev 64 (2, [.ref l0, .int s.1, .retAddr 0], []) s.2) (fun (q : Unit × mH) (res : Option Value × mH) => res = (none, q.2))) := by
  unfold f64_29
  refine Seg.blk0 (f' := (2, [.ref l0, .int (l1 + 1), .retAddr 0], [])) (h' := h) rfl rfl ?_
  exact Seg.cont (fun _ q => Ev.w (mLw.k (mLw.k (mLw.k mLw.nil))) q)
theorem s64_2 (l0 : Nat) : ∀ (n : Nat) (s : (Int32 × mH)), Seg 64 (2, [.ref l0, .int s.1, .retAddr 0], []) s.2 (mLoop (f64_2 l0) n s) (fun (q : Unit × mH) (res : Option Value × mH) => res = (none, q.2)) := by
  refine Seg.loop (F := fun s : (Int32 × mH) => (2, [.ref l0, .int s.1, .retAddr 0], [])) (H := fun s : (Int32 × mH) => s.2) (fun s => ?_)
  show Seg 64 (2, [.ref l0, .int s.1, .retAddr 0], []) s.2 _ (Sum.elim (fun s : (Int32 × mH) => Ev 64 (2, [.ref l0, .int s.1, .retAddr 0], []) s.2) (fun (q : Unit × mH) (res : Option Value × mH) => res = (none, q.2)))
  unfold f64_2
  refine Seg.blk0 (f' := (if (6 : Int32) ≤ s.1 then 35 else 8, [.ref l0, .int s.1, .retAddr 0], [])) (h' := s.2) rfl rfl ?_
  refine Seg.ite (fun _ => ?_) (fun _ => ?_)
  · refine Seg.x ?_
    refine Seg.blk0 (f' := (37, [.ref l0, .int 0, .retAddr 0], [])) (h' := s.2) rfl rfl ?_
    exact Seg.w (mLw.k (mLw.k (mLw.k mLw.nil))) (s64_37 l0 mFuel (0, s.2))
  · refine Seg.blk (f' := (if ((mI s.2 ((mR s.2 l0 0).getD 0) (Int32.toNatClampNeg s.1)) : Int32) = 0 then 17 else 29, [.ref l0, .int s.1, .retAddr 0], [])) (h' := s.2) rfl rfl ?_
    refine Seg.ite (fun _ => ?_) (fun _ => ?_)
    · refine Seg.blk (f' := (29, [.ref l0, .int s.1, .retAddr 0], [])) (h' := (mSI s.2 l0 13 ((mI s.2 l0 13) ||| ((1 : Int32) <<< (s.1 &&& (31 : Int32)))))) rfl rfl ?_
      exact Seg.w (mLw.k (mLw.k (mLw.k mLw.nil))) (s64_29 (mSI s.2 l0 13 ((mI s.2 l0 13) ||| ((1 : Int32) <<< (s.1 &&& (31 : Int32))))) l0 s.1)
    · exact Seg.w (mLw.k (mLw.k (mLw.k mLw.nil))) (s64_29 s.2 l0 s.1)
theorem s64 (h : mH) (l0 : Nat) : Seg 64 (0, [.ref l0, .retAddr 0, .retAddr 0], []) h (f64 h l0) (fun (q : Unit × mH) (res : Option Value × mH) => res = (none, q.2)) := by
  unfold f64
  refine Seg.blk0 (f' := (2, [.ref l0, .int 0, .retAddr 0], [])) (h' := h) rfl rfl ?_
  exact Seg.w (mLw.k (mLw.k (mLw.k mLw.nil))) (s64_2 l0 mFuel (0, h))
theorem s70_39 (h : mH) (l0 : Nat) (l1 : Int32) (l2 : Int32) (l3 : Int32) : Seg 70 (39, [.ref l0, .int l1, .int l2, .int l3], []) h (f70_39 h l0 l1 l2 l3) (Sum.elim (fun s : (Int32 × Int32) => Ev 70 (4, [.ref l0, .int l1, .int s.1, .int s.2], []) h) (fun (q : Int32) (res : Option Value × mH) => res = (some (.int q), h))) := by
  unfold f70_39
  refine Seg.blk0 (f' := (4, [.ref l0, .int l1, .int l2, .int (l3 + 1)], [])) (h' := h) rfl rfl ?_
  exact Seg.cont (fun _ q => Ev.w (mLw.k (mLw.k (mLw.k (mLw.k mLw.nil)))) q)
theorem s70_4 (h : mH) (l0 : Nat) (l1 : Int32) : ∀ (n : Nat) (s : (Int32 × Int32)), Seg 70 (4, [.ref l0, .int l1, .int s.1, .int s.2], []) h (mLoop (f70_4 h l0 l1) n s) (fun (q : Int32) (res : Option Value × mH) => res = (some (.int q), h)) := by
  refine Seg.loop (F := fun s : (Int32 × Int32) => (4, [.ref l0, .int l1, .int s.1, .int s.2], [])) (H := fun s : (Int32 × Int32) => h) (fun s => ?_)
  show Seg 70 (4, [.ref l0, .int l1, .int s.1, .int s.2], []) h _ (Sum.elim (fun s : (Int32 × Int32) => Ev 70 (4, [.ref l0, .int l1, .int s.1, .int s.2], []) h) (fun (q : Int32) (res : Option Value × mH) => res = (some (.int q), h)))
  unfold f70_4
  refine Seg.blk (f' := (if ((mI h l0 6) : Int32) ≤ s.2 then 45 else 12, [.ref l0, .int l1, .int s.1, .int s.2], [])) (h' := h) rfl rfl ?_
  refine Seg.ite (fun _ => ?_) (fun _ => ?_)
  · refine Seg.x ?_
    exact Seg.ret (f1 := (46, [.ref l0, .int l1, .int s.1, .int s.2], [.int s.1])) (h1 := h) rfl rfl rfl rfl (fun _ q => q)
  · refine Seg.blk0 (f' := (if (((l1 >>> (s.2 &&& (31 : Int32))) &&& 1) : Int32) = 0 then 20 else 39, [.ref l0, .int l1, .int s.1, .int s.2], [])) (h' := h) rfl rfl ?_
    refine Seg.ite (fun _ => ?_) (fun _ => ?_)
    · refine Seg.blk (f' := (if (((mI h ((mR h l0 2).getD 0) (Int32.toNatClampNeg s.2)) &&& (l1 ^^^ (-1))) : Int32) = 0 then 33 else 39, [.ref l0, .int l1, .int s.1, .int s.2], [])) (h' := h) rfl rfl ?_
      refine Seg.ite (fun _ => ?_) (fun _ => ?_)
      · refine Seg.blk0 (f' := (39, [.ref l0, .int l1, .int (s.1 ||| ((1 : Int32) <<< (s.2 &&& (31 : Int32)))), .int s.2], [])) (h' := h) rfl rfl ?_
        exact Seg.w (mLw.k (mLw.k (mLw.k (mLw.k mLw.nil)))) (s70_39 h l0 l1 (s.1 ||| ((1 : Int32) <<< (s.2 &&& (31 : Int32)))) s.2)
      · exact Seg.w (mLw.k (mLw.k (mLw.k (mLw.k mLw.nil)))) (s70_39 h l0 l1 s.1 s.2)
    · exact Seg.w (mLw.k (mLw.k (mLw.k (mLw.k mLw.nil)))) (s70_39 h l0 l1 s.1 s.2)
theorem s70 (h : mH) (l0 : Nat) (l1 : Int32) : Seg 70 (0, [.ref l0, .int l1, .retAddr 0, .retAddr 0], []) h (f70 h l0 l1) (fun (q : Int32) (res : Option Value × mH) => res = (some (.int q), h)) := by
  unfold f70
  refine Seg.blk0 (f' := (4, [.ref l0, .int l1, .int 0, .int 0], [])) (h' := h) rfl rfl ?_
  exact Seg.w (mLw.k (mLw.k (mLw.k (mLw.k mLw.nil)))) (s70_4 h l0 l1 mFuel (0, 0))
