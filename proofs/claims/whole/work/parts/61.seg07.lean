/-! The small machine runs the programs; printed by a program of ours. -/
theorem s174_18 (h : mH) : Seg 174 (18, [.retAddr 0, .retAddr 0], []) h (f174_18 h) (fun (q : Int32 × mH) (res : Option Value × mH) => res = (some (.int q.1), q.2)) := by
  unfold f174_18
  exact Seg.ret (f1 := (19, [.retAddr 0, .retAddr 0], [.int 0])) (h1 := h) rfl rfl rfl rfl (fun _ q => q)
theorem s174 (h : mH) (l0 : Nat) (l1 : Int32) : Seg 174 (0, [.ref l0, .int l1], []) h (f174 h l0 l1) (fun (q : Int32 × mH) (res : Option Value × mH) => res = (some (.int q.1), q.2)) := by
  unfold f174
  refine Seg.callP (f1 := (3, [.ref l0, .int l1], [.int 2, .int 0, .int l1])) (h1 := h) (cv := fun r => some (.int r)) rfl rfl rfl rfl (s17 h l1 0 2) (fun r1 => ?_)
  refine Seg.blk0 (f' := (if (r1 : Int32) = 0 then 18 else 9, [.ref l0, .int l1], [])) (h' := h) rfl rfl ?_
  refine Seg.ite (fun _ => ?_) (fun _ => ?_)
  · exact Seg.w (mLw.u (mLw.u mLw.nil)) (s174_18 h)
  · refine Seg.blk (f' := (if ((mI h ((mR h l0 2).getD 0) (Int32.toNatClampNeg l1)) : Int32) = 0 then 18 else 20, [.ref l0, .int l1], [])) (h' := h) rfl rfl ?_
    refine Seg.ite (fun _ => ?_) (fun _ => ?_)
    · exact Seg.w (mLw.u (mLw.u mLw.nil)) (s174_18 h)
    · refine Seg.call (f1 := (30, [.ref l0, .int l1], [.ref ((mR h ((mR h l0 1).getD 0) (Int32.toNatClampNeg l1)).getD 0), .ref ((mR h l0 0).getD 0)])) (h1 := h) (cv := fun _ => none) rfl rfl rfl rfl (s173 h ((mR h l0 0).getD 0) ((mR h ((mR h l0 1).getD 0) (Int32.toNatClampNeg l1)).getD 0)) (fun r2 => ?_)
      exact Seg.ret (f1 := (34, [.ref l0, .int l1], [.int 1])) (h1 := r2.2) rfl rfl rfl rfl (fun _ q => q)
theorem s177_22 (h : mH) (l0 : Nat) (l1 : Int32) (l2 : Int32) : Seg 177 (22, [.ref l0, .int l1, .int l2], []) h (f177_22 h l0 l1 l2) (Sum.elim (fun s : (Int32 × mH) => Ev 177 (3, [.ref l0, .int l1, .int s.1], []) s.2) (fun (q : Unit × mH) (res : Option Value × mH) => res = (none, q.2))) := by
  unfold f177_22
  refine Seg.blk (f' := (32, [.ref l0, .int l1, .int l2], [])) (h' := (mSI h ((mR h l0 2).getD 0) (Int32.toNatClampNeg 0) ((mI h ((mR h l0 2).getD 0) (Int32.toNatClampNeg 0)) + 1))) rfl rfl ?_
  refine Seg.blk0 (f' := (3, [.ref l0, .int l1, .int (l2 + (-8))], [])) (h' := (mSI h ((mR h l0 2).getD 0) (Int32.toNatClampNeg 0) ((mI h ((mR h l0 2).getD 0) (Int32.toNatClampNeg 0)) + 1))) rfl rfl ?_
  exact Seg.cont (fun _ q => Ev.w (mLw.k (mLw.k (mLw.k mLw.nil))) q)
theorem s177_3 (l0 : Nat) (l1 : Int32) : ∀ (n : Nat) (s : (Int32 × mH)), Seg 177 (3, [.ref l0, .int l1, .int s.1], []) s.2 (mLoop (f177_3 l0 l1) n s) (fun (q : Unit × mH) (res : Option Value × mH) => res = (none, q.2)) := by
  refine Seg.loop (F := fun s : (Int32 × mH) => (3, [.ref l0, .int l1, .int s.1], [])) (H := fun s : (Int32 × mH) => s.2) (fun s => ?_)
  show Seg 177 (3, [.ref l0, .int l1, .int s.1], []) s.2 _ (Sum.elim (fun s : (Int32 × mH) => Ev 177 (3, [.ref l0, .int l1, .int s.1], []) s.2) (fun (q : Unit × mH) (res : Option Value × mH) => res = (none, q.2)))
  unfold f177_3
  refine Seg.blk0 (f' := (if (s.1 : Int32) < 0 then 38 else 7, [.ref l0, .int l1, .int s.1], [])) (h' := s.2) rfl rfl ?_
  refine Seg.ite (fun _ => ?_) (fun _ => ?_)
  · refine Seg.x ?_
    exact Seg.ret (f1 := (38, [.ref l0, .int l1, .int s.1], [])) (h1 := s.2) rfl rfl rfl rfl (fun _ q => q)
  · refine Seg.blk (f' := (22, [.ref l0, .int l1, .int s.1], [])) (h' := (mSI s.2 ((mR s.2 l0 1).getD 0) (Int32.toNatClampNeg (mI s.2 ((mR s.2 l0 2).getD 0) (Int32.toNatClampNeg 0))) ((Int32.toInt8 ((Int32.toInt8 (l1 >>> (s.1 &&& (31 : Int32)))).toInt32)).toInt32))) rfl rfl ?_
    exact Seg.w (mLw.k (mLw.k (mLw.k mLw.nil))) (s177_22 (mSI s.2 ((mR s.2 l0 1).getD 0) (Int32.toNatClampNeg (mI s.2 ((mR s.2 l0 2).getD 0) (Int32.toNatClampNeg 0))) ((Int32.toInt8 ((Int32.toInt8 (l1 >>> (s.1 &&& (31 : Int32)))).toInt32)).toInt32)) l0 l1 s.1)
theorem s177 (h : mH) (l0 : Nat) (l1 : Int32) : Seg 177 (0, [.ref l0, .int l1, .retAddr 0], []) h (f177 h l0 l1) (fun (q : Unit × mH) (res : Option Value × mH) => res = (none, q.2)) := by
  unfold f177
  refine Seg.blk0 (f' := (3, [.ref l0, .int l1, .int 24], [])) (h' := h) rfl rfl ?_
  exact Seg.w (mLw.k (mLw.k (mLw.k mLw.nil))) (s177_3 l0 l1 mFuel (24, h))
theorem s176 (h : mH) (l0 : Nat) (l1 : Int32) (l2 : Int32) (l3 : Int32) (l4 : Int32) (l5 : Int32) : Seg 176 (0, [.ref l0, .int l1, .int l2, .int l3, .int l4, .int l5], []) h (f176 h l0 l1 l2 l3 l4 l5) (fun (q : Int32 × mH) (res : Option Value × mH) => res = (some (.int q.1), q.2)) := by
  unfold f176
  refine Seg.blk (f' := (5, [.ref l0, .int l1, .int l2, .int l3, .int l4, .int l5], [])) (h' := (mSI h l0 0 0)) rfl rfl ?_
  refine Seg.blk (f' := (if (((mI (mSI h l0 0 0) ((mR h l0 2).getD 0) (Int32.toNatClampNeg 0)) + 20) : Int32) ≤ 600 then 22 else 20, [.ref l0, .int l1, .int l2, .int l3, .int l4, .int l5], [])) (h' := (mSI h l0 0 0)) rfl rfl ?_
  refine Seg.ite (fun _ => ?_) (fun _ => ?_)
  · refine Seg.call (f1 := (24, [.ref l0, .int l1, .int l2, .int l3, .int l4, .int l5], [.int l1, .ref l0])) (h1 := (mSI h l0 0 0)) (cv := fun _ => none) rfl rfl rfl rfl (s177 (mSI h l0 0 0) l0 l1) (fun r1 => ?_)
    refine Seg.call (f1 := (29, [.ref l0, .int l1, .int l2, .int l3, .int l4, .int l5], [.int l2, .ref l0])) (h1 := r1.2) (cv := fun _ => none) rfl rfl rfl rfl (s177 r1.2 l0 l2) (fun r2 => ?_)
    refine Seg.call (f1 := (34, [.ref l0, .int l1, .int l2, .int l3, .int l4, .int l5], [.int l3, .ref l0])) (h1 := r2.2) (cv := fun _ => none) rfl rfl rfl rfl (s177 r2.2 l0 l3) (fun r3 => ?_)
    refine Seg.call (f1 := (40, [.ref l0, .int l1, .int l2, .int l3, .int l4, .int l5], [.int l4, .ref l0])) (h1 := r3.2) (cv := fun _ => none) rfl rfl rfl rfl (s177 r3.2 l0 l4) (fun r4 => ?_)
    refine Seg.call (f1 := (46, [.ref l0, .int l1, .int l2, .int l3, .int l4, .int l5], [.int l5, .ref l0])) (h1 := r4.2) (cv := fun _ => none) rfl rfl rfl rfl (s177 r4.2 l0 l5) (fun r5 => ?_)
    exact Seg.ret (f1 := (55, [.ref l0, .int l1, .int l2, .int l3, .int l4, .int l5], [.int (mI r5.2 ((mR r5.2 l0 2).getD 0) (Int32.toNatClampNeg 0))])) (h1 := r5.2) rfl rfl rfl rfl (fun _ q => q)
  · exact Seg.ret (f1 := (21, [.ref l0, .int l1, .int l2, .int l3, .int l4, .int l5], [.int (-1)])) (h1 := (mSI h l0 0 0)) rfl rfl rfl rfl (fun _ q => q)
theorem s179_15 (h : mH) (q0 : Int32) : Seg 179 (15, [.retAddr 0, .retAddr 0, .retAddr 0], [.int q0]) h (f179_15 h q0) (fun (q : Int32) (res : Option Value × mH) => res = (some (.int q), h)) := by
  unfold f179_15
  exact Seg.ret (f1 := (15, [.retAddr 0, .retAddr 0, .retAddr 0], [.int q0])) (h1 := h) rfl rfl rfl rfl (fun _ q => q)
theorem s179_14 (h : mH) : Seg 179 (14, [.retAddr 0, .retAddr 0, .retAddr 0], []) h (f179_14 h) (fun (q : Int32) (res : Option Value × mH) => res = (some (.int q), h)) := by
  unfold f179_14
  refine Seg.blk0 (f' := (15, [.retAddr 0, .retAddr 0, .retAddr 0], [.int 0])) (h' := h) rfl rfl ?_
  exact Seg.w (mLw.k (mLw.k (mLw.k mLw.nil))) (s179_15 h 0)
theorem s179 (h : mH) (l0 : Int32) (l1 : Int32) (l2 : Int32) : Seg 179 (0, [.int l0, .int l1, .int l2], []) h (f179 h l0 l1 l2) (fun (q : Int32) (res : Option Value × mH) => res = (some (.int q), h)) := by
  unfold f179
  refine Seg.blk0 (f' := (if (l0 : Int32) < l1 then 14 else 5, [.int l0, .int l1, .int l2], [])) (h' := h) rfl rfl ?_
  refine Seg.ite (fun _ => ?_) (fun _ => ?_)
  · exact Seg.w (mLw.u (mLw.u (mLw.u mLw.nil))) (s179_14 h)
  · refine Seg.blk0 (f' := (if (l2 : Int32) < l0 then 14 else 10, [.int l0, .int l1, .int l2], [])) (h' := h) rfl rfl ?_
    refine Seg.ite (fun _ => ?_) (fun _ => ?_)
    · exact Seg.w (mLw.u (mLw.u (mLw.u mLw.nil))) (s179_14 h)
    · refine Seg.blk0 (f' := (15, [.int l0, .int l1, .int l2], [.int 1])) (h' := h) rfl rfl ?_
      exact Seg.w (mLw.u (mLw.u (mLw.u mLw.nil))) (s179_15 h 1)
theorem s178 (h : mH) (l0 : Nat) (l1 : Int32) : Seg 178 (0, [.ref l0, .int l1], []) h (f178 h l0 l1) (fun (q : Int32 × mH) (res : Option Value × mH) => res = (some (.int q.1), q.2)) := by
  unfold f178
  refine Seg.blk (f' := (5, [.ref l0, .int l1], [])) (h' := (mSI h l0 0 0)) rfl rfl ?_
  refine Seg.callP (f1 := (13, [.ref l0, .int l1], [.int (mI (mSI h l0 0 0) ((mR h l0 2).getD 0) (Int32.toNatClampNeg 0)), .int 0, .int l1])) (h1 := (mSI h l0 0 0)) (cv := fun r => some (.int r)) rfl rfl rfl rfl (s179 (mSI h l0 0 0) l1 0 (mI (mSI h l0 0 0) ((mR h l0 2).getD 0) (Int32.toNatClampNeg 0))) (fun r1 => ?_)
  refine Seg.blk0 (f' := (if (r1 : Int32) = 0 then 19 else 21, [.ref l0, .int l1], [])) (h' := (mSI h l0 0 0)) rfl rfl ?_
  refine Seg.ite (fun _ => ?_) (fun _ => ?_)
  · exact Seg.ret (f1 := (20, [.ref l0, .int l1], [.int (-1)])) (h1 := (mSI h l0 0 0)) rfl rfl rfl rfl (fun _ q => q)
  · refine Seg.blk (f' := (28, [.ref l0, .int l1], [])) (h' := (mSI (mSI h l0 0 0) ((mR h l0 2).getD 0) (Int32.toNatClampNeg 0) l1)) rfl rfl ?_
    exact Seg.ret (f1 := (29, [.ref l0, .int l1], [.int l1])) (h1 := (mSI (mSI h l0 0 0) ((mR h l0 2).getD 0) (Int32.toNatClampNeg 0) l1)) rfl rfl rfl rfl (fun _ q => q)
theorem s181 (h : mH) (l0 : Nat) (l1 : Int32) (l2 : Int32) : Seg 181 (0, [.ref l0, .int l1, .int l2], []) h (f181 h l0 l1 l2) (fun (q : Int32) (res : Option Value × mH) => res = (some (.int q), h)) := by
  unfold f181
  refine Seg.callP (f1 := (10, [.ref l0, .int l1, .int l2], [.int ((mI h ((mR h l0 5).getD 0) (Int32.toNatClampNeg l1)) - 1), .int 0, .int l2])) (h1 := h) (cv := fun r => some (.int r)) rfl rfl rfl rfl (s179 h l2 0 ((mI h ((mR h l0 5).getD 0) (Int32.toNatClampNeg l1)) - 1)) (fun r1 => ?_)
  exact Seg.ret (f1 := (13, [.ref l0, .int l1, .int l2], [.int r1])) (h1 := h) rfl rfl rfl rfl (fun _ q => q)
theorem s184_28 (h : mH) (q0 : Int32) : Seg 184 (28, [.retAddr 0], [.int q0]) h (f184_28 h q0) (fun (q : Int32) (res : Option Value × mH) => res = (some (.int q), h)) := by
  unfold f184_28
  exact Seg.ret (f1 := (28, [.retAddr 0], [.int q0])) (h1 := h) rfl rfl rfl rfl (fun _ q => q)
theorem s184 (h : mH) (l0 : Nat) : Seg 184 (0, [.ref l0], []) h (f184 h l0) (fun (q : Int32) (res : Option Value × mH) => res = (some (.int q), h)) := by
  unfold f184
  refine Seg.blk (f' := (if ((mI h l0 10) : Int32) ≤ (mI h l0 9) then 27 else 11, [.ref l0], [])) (h' := h) rfl rfl ?_
  refine Seg.ite (fun _ => ?_) (fun _ => ?_)
  · refine Seg.blk0 (f' := (28, [.ref l0], [.int (-1)])) (h' := h) rfl rfl ?_
    exact Seg.w (mLw.u mLw.nil) (s184_28 h (-1))
  · refine Seg.blk (f' := (28, [.ref l0], [.int ((mI h ((mR h l0 1).getD 0) (Int32.toNatClampNeg (mI h l0 9))) &&& 255)])) (h' := h) rfl rfl ?_
    exact Seg.w (mLw.u mLw.nil) (s184_28 h ((mI h ((mR h l0 1).getD 0) (Int32.toNatClampNeg (mI h l0 9))) &&& 255))
theorem s183_18 (h : mH) (l0 : Nat) : Seg 183 (18, [.ref l0, .retAddr 0, .retAddr 0], []) h (f183_18 h l0) (Sum.elim (fun s : (mH) => Ev 183 (0, [.ref l0, .retAddr 0, .retAddr 0], []) s) (fun (q : Unit × mH) (res : Option Value × mH) => res = (none, q.2))) := by
  unfold f183_18
  refine Seg.blk (f' := (28, [.ref l0, .retAddr 0, .retAddr 0], [])) (h' := (mSI h l0 9 ((mI h l0 9) + 1))) rfl rfl ?_
  refine Seg.blk0 (f' := (0, [.ref l0, .retAddr 0, .retAddr 0], [])) (h' := (mSI h l0 9 ((mI h l0 9) + 1))) rfl rfl ?_
  exact Seg.cont (fun _ q => Ev.w (mLw.k (mLw.k (mLw.k mLw.nil))) q)
theorem s183_266 (h : mH) : Seg 183 (266, [.retAddr 0, .retAddr 0, .retAddr 0], []) h (f183_266 h) (fun (q : Unit × mH) (res : Option Value × mH) => res = (none, q.2)) := by
  unfold f183_266
  exact Seg.ret (f1 := (266, [.retAddr 0, .retAddr 0, .retAddr 0], [])) (h1 := h) rfl rfl rfl rfl (fun _ q => q)
theorem s183_163 (l0 : Nat) : ∀ (n : Nat) (s : (Int32 × mH)), Seg 183 (163, [.ref l0, .retAddr 0, .int s.1], []) s.2 (mLoop (f183_163 l0) n s) (fun (q : Unit × mH) (res : Option Value × mH) => res = (none, q.2)) := by
  refine Seg.loop (F := fun s : (Int32 × mH) => (163, [.ref l0, .retAddr 0, .int s.1], [])) (H := fun s : (Int32 × mH) => s.2) (fun s => ?_)
  show Seg 183 (163, [.ref l0, .retAddr 0, .int s.1], []) s.2 _ (Sum.elim (fun s : (Int32 × mH) => Ev 183 (163, [.ref l0, .retAddr 0, .int s.1], []) s.2) (fun (q : Unit × mH) (res : Option Value × mH) => res = (none, q.2)))
  unfold f183_163
  refine Seg.callP (f1 := (164, [.ref l0, .retAddr 0, .int s.1], [.ref l0])) (h1 := s.2) (cv := fun r => some (.int r)) rfl rfl rfl rfl (s184 s.2 l0) (fun r6 => ?_)
  refine Seg.callP (f1 := (171, [.ref l0, .retAddr 0, .int s.1], [.int 57, .int 48, .int r6])) (h1 := s.2) (cv := fun r => some (.int r)) rfl rfl rfl rfl (s179 s.2 r6 48 57) (fun r7 => ?_)
  refine Seg.blk0 (f' := (if (r7 : Int32) = 0 then 224 else 177, [.ref l0, .retAddr 0, .int s.1], [])) (h' := s.2) rfl rfl ?_
  refine Seg.ite (fun _ => ?_) (fun _ => ?_)
  · refine Seg.x ?_
    refine Seg.blk0 (f' := (if (s.1 : Int32) ≤ 2 then 234 else 230, [.ref l0, .retAddr 0, .int s.1], [.ref l0])) (h' := s.2) rfl rfl ?_
    refine Seg.ite (fun _ => ?_) (fun _ => ?_)
    · refine Seg.blk0 (f' := (235, [.ref l0, .retAddr 0, .int s.1], [.int 3, .ref l0])) (h' := s.2) rfl rfl ?_
      refine Seg.blk (f' := (238, [.ref l0, .retAddr 0, .int s.1], [])) (h' := (mSI s.2 l0 12 3)) rfl rfl ?_
      refine Seg.blk0 (f' := (266, [.ref l0, .retAddr 0, .int s.1], [])) (h' := (mSI s.2 l0 12 3)) rfl rfl ?_
      exact Seg.w (mLw.u (mLw.k (mLw.u mLw.nil))) (s183_266 (mSI s.2 l0 12 3))
    · refine Seg.blk0 (f' := (235, [.ref l0, .retAddr 0, .int s.1], [.int 1, .ref l0])) (h' := s.2) rfl rfl ?_
      refine Seg.blk (f' := (238, [.ref l0, .retAddr 0, .int s.1], [])) (h' := (mSI s.2 l0 12 1)) rfl rfl ?_
      refine Seg.blk0 (f' := (266, [.ref l0, .retAddr 0, .int s.1], [])) (h' := (mSI s.2 l0 12 1)) rfl rfl ?_
      exact Seg.w (mLw.u (mLw.k (mLw.u mLw.nil))) (s183_266 (mSI s.2 l0 12 1))
  · refine Seg.blk0 (f' := (if (2 : Int32) ≤ s.1 then 201 else 183, [.ref l0, .retAddr 0, .int s.1], [.ref l0])) (h' := s.2) rfl rfl ?_
    refine Seg.ite (fun _ => ?_) (fun _ => ?_)
    · refine Seg.blk (f' := (205, [.ref l0, .retAddr 0, .int s.1], [.int (mI s.2 l0 13), .ref l0])) (h' := s.2) rfl rfl ?_
      refine Seg.blk (f' := (208, [.ref l0, .retAddr 0, .int s.1], [])) (h' := (mSI s.2 l0 13 (mI s.2 l0 13))) rfl rfl ?_
      refine Seg.blk (f' := (218, [.ref l0, .retAddr 0, .int s.1], [])) (h' := (mSI (mSI s.2 l0 13 (mI s.2 l0 13)) l0 9 ((mI (mSI s.2 l0 13 (mI s.2 l0 13)) l0 9) + 1))) rfl rfl ?_
      refine Seg.blk0 (f' := (163, [.ref l0, .retAddr 0, .int (s.1 + 1)], [])) (h' := (mSI (mSI s.2 l0 13 (mI s.2 l0 13)) l0 9 ((mI (mSI s.2 l0 13 (mI s.2 l0 13)) l0 9) + 1))) rfl rfl ?_
      exact Seg.cont (fun _ q => Ev.w (mLw.k (mLw.k (mLw.k mLw.nil))) q)
    · refine Seg.callP (f1 := (191, [.ref l0, .retAddr 0, .int s.1], [.ref l0, .int (10 * (mI s.2 l0 13)), .ref l0])) (h1 := s.2) (cv := fun r => some (.int r)) rfl rfl rfl rfl (s184 s.2 l0) (fun r8 => ?_)
      refine Seg.blk0 (f' := (205, [.ref l0, .retAddr 0, .int s.1], [.int (((10 * (mI s.2 l0 13)) + r8) - 48), .ref l0])) (h' := s.2) rfl rfl ?_
      refine Seg.blk (f' := (208, [.ref l0, .retAddr 0, .int s.1], [])) (h' := (mSI s.2 l0 13 (((10 * (mI s.2 l0 13)) + r8) - 48))) rfl rfl ?_
      refine Seg.blk (f' := (218, [.ref l0, .retAddr 0, .int s.1], [])) (h' := (mSI (mSI s.2 l0 13 (((10 * (mI s.2 l0 13)) + r8) - 48)) l0 9 ((mI (mSI s.2 l0 13 (((10 * (mI s.2 l0 13)) + r8) - 48)) l0 9) + 1))) rfl rfl ?_
      refine Seg.blk0 (f' := (163, [.ref l0, .retAddr 0, .int (s.1 + 1)], [])) (h' := (mSI (mSI s.2 l0 13 (((10 * (mI s.2 l0 13)) + r8) - 48)) l0 9 ((mI (mSI s.2 l0 13 (((10 * (mI s.2 l0 13)) + r8) - 48)) l0 9) + 1))) rfl rfl ?_
      exact Seg.cont (fun _ q => Ev.w (mLw.k (mLw.k (mLw.k mLw.nil))) q)
theorem s183_74 (l0 : Nat) : ∀ (n : Nat) (s : (Int32 × mH)), Seg 183 (74, [.ref l0, .retAddr 0, .int s.1], []) s.2 (mLoop (f183_74 l0) n s) (fun (q : Unit × mH) (res : Option Value × mH) => res = (none, q.2)) := by
  refine Seg.loop (F := fun s : (Int32 × mH) => (74, [.ref l0, .retAddr 0, .int s.1], [])) (H := fun s : (Int32 × mH) => s.2) (fun s => ?_)
  show Seg 183 (74, [.ref l0, .retAddr 0, .int s.1], []) s.2 _ (Sum.elim (fun s : (Int32 × mH) => Ev 183 (74, [.ref l0, .retAddr 0, .int s.1], []) s.2) (fun (q : Unit × mH) (res : Option Value × mH) => res = (none, q.2)))
  unfold f183_74
  refine Seg.callP (f1 := (75, [.ref l0, .retAddr 0, .int s.1], [.ref l0])) (h1 := s.2) (cv := fun r => some (.int r)) rfl rfl rfl rfl (s184 s.2 l0) (fun r9 => ?_)
  refine Seg.callP (f1 := (82, [.ref l0, .retAddr 0, .int s.1], [.int 122, .int 97, .int r9])) (h1 := s.2) (cv := fun r => some (.int r)) rfl rfl rfl rfl (s179 s.2 r9 97 122) (fun r10 => ?_)
  refine Seg.blk0 (f' := (if (r10 : Int32) = 0 then 121 else 88, [.ref l0, .retAddr 0, .int s.1], [])) (h' := s.2) rfl rfl ?_
  refine Seg.ite (fun _ => ?_) (fun _ => ?_)
  · refine Seg.x ?_
    refine Seg.blk0 (f' := (if (s.1 : Int32) ≤ 8 then 132 else 128, [.ref l0, .retAddr 0, .int s.1], [.ref l0])) (h' := s.2) rfl rfl ?_
    refine Seg.ite (fun _ => ?_) (fun _ => ?_)
    · refine Seg.blk (f' := (136, [.ref l0, .retAddr 0, .int s.1], [.long (mL s.2 l0 14), .ref l0])) (h' := s.2) rfl rfl ?_
      refine Seg.blk (f' := (139, [.ref l0, .retAddr 0, .int s.1], [])) (h' := (mSL s.2 l0 14 (mL s.2 l0 14))) rfl rfl ?_
      refine Seg.blk (f' := (144, [.ref l0, .retAddr 0, .int s.1], [])) (h' := (mSI (mSL s.2 l0 14 (mL s.2 l0 14)) l0 12 2)) rfl rfl ?_
      refine Seg.blk0 (f' := (266, [.ref l0, .retAddr 0, .int s.1], [])) (h' := (mSI (mSL s.2 l0 14 (mL s.2 l0 14)) l0 12 2)) rfl rfl ?_
      exact Seg.w (mLw.u (mLw.k (mLw.u mLw.nil))) (s183_266 (mSI (mSL s.2 l0 14 (mL s.2 l0 14)) l0 12 2))
    · refine Seg.blk0 (f' := (136, [.ref l0, .retAddr 0, .int s.1], [.long 0, .ref l0])) (h' := s.2) rfl rfl ?_
      refine Seg.blk (f' := (139, [.ref l0, .retAddr 0, .int s.1], [])) (h' := (mSL s.2 l0 14 0)) rfl rfl ?_
      refine Seg.blk (f' := (144, [.ref l0, .retAddr 0, .int s.1], [])) (h' := (mSI (mSL s.2 l0 14 0) l0 12 2)) rfl rfl ?_
      refine Seg.blk0 (f' := (266, [.ref l0, .retAddr 0, .int s.1], [])) (h' := (mSI (mSL s.2 l0 14 0) l0 12 2)) rfl rfl ?_
      exact Seg.w (mLw.u (mLw.k (mLw.u mLw.nil))) (s183_266 (mSI (mSL s.2 l0 14 0) l0 12 2))
  · refine Seg.callP (f1 := (97, [.ref l0, .retAddr 0, .int s.1], [.ref l0, .long ((mL s.2 l0 14) <<< (Int32.toInt64 8 &&& (63 : Int64))), .ref l0])) (h1 := s.2) (cv := fun r => some (.int r)) rfl rfl rfl rfl (s184 s.2 l0) (fun r11 => ?_)
    refine Seg.blk (f' := (105, [.ref l0, .retAddr 0, .int s.1], [])) (h' := (mSL s.2 l0 14 (((mL s.2 l0 14) <<< (Int32.toInt64 8 &&& (63 : Int64))) ||| (Int32.toInt64 r11)))) rfl rfl ?_
    refine Seg.blk (f' := (115, [.ref l0, .retAddr 0, .int s.1], [])) (h' := (mSI (mSL s.2 l0 14 (((mL s.2 l0 14) <<< (Int32.toInt64 8 &&& (63 : Int64))) ||| (Int32.toInt64 r11))) l0 9 ((mI s.2 l0 9) + 1))) rfl rfl ?_
    refine Seg.blk0 (f' := (74, [.ref l0, .retAddr 0, .int (s.1 + 1)], [])) (h' := (mSI (mSL s.2 l0 14 (((mL s.2 l0 14) <<< (Int32.toInt64 8 &&& (63 : Int64))) ||| (Int32.toInt64 r11))) l0 9 ((mI s.2 l0 9) + 1))) rfl rfl ?_
    exact Seg.cont (fun _ q => Ev.w (mLw.k (mLw.k (mLw.k mLw.nil))) q)
theorem s183_0 (l0 : Nat) : ∀ (n : Nat) (s : (mH)), Seg 183 (0, [.ref l0, .retAddr 0, .retAddr 0], []) s (mLoop (f183_0 l0) n s) (fun (q : Unit × mH) (res : Option Value × mH) => res = (none, q.2)) := by
  refine Seg.loop (F := fun s : (mH) => (0, [.ref l0, .retAddr 0, .retAddr 0], [])) (H := fun s : (mH) => s) (fun s => ?_)
  show Seg 183 (0, [.ref l0, .retAddr 0, .retAddr 0], []) s _ (Sum.elim (fun s : (mH) => Ev 183 (0, [.ref l0, .retAddr 0, .retAddr 0], []) s) (fun (q : Unit × mH) (res : Option Value × mH) => res = (none, q.2)))
  unfold f183_0
  refine Seg.callP (f1 := (1, [.ref l0, .retAddr 0, .retAddr 0], [.ref l0])) (h1 := s) (cv := fun r => some (.int r)) rfl rfl rfl rfl (s184 s l0) (fun r1 => ?_)
  refine Seg.blk0 (f' := (if (r1 : Int32) = 10 then 18 else 9, [.ref l0, .retAddr 0, .retAddr 0], [])) (h' := s) rfl rfl ?_
  refine Seg.ite (fun _ => ?_) (fun _ => ?_)
  · exact Seg.w (mLw.k (mLw.k (mLw.k mLw.nil))) (s183_18 s l0)
  · refine Seg.callP (f1 := (10, [.ref l0, .retAddr 0, .retAddr 0], [.ref l0])) (h1 := s) (cv := fun r => some (.int r)) rfl rfl rfl rfl (s184 s l0) (fun r2 => ?_)
    refine Seg.blk0 (f' := (if (r2 : Int32) = 32 then 18 else 31, [.ref l0, .retAddr 0, .retAddr 0], [])) (h' := s) rfl rfl ?_
    refine Seg.ite (fun _ => ?_) (fun _ => ?_)
    · exact Seg.w (mLw.k (mLw.k (mLw.k mLw.nil))) (s183_18 s l0)
    · refine Seg.x ?_
      refine Seg.blk (f' := (39, [.ref l0, .retAddr 0, .retAddr 0], [])) (h' := (mSI s l0 11 (mI s l0 9))) rfl rfl ?_
      refine Seg.callP (f1 := (40, [.ref l0, .retAddr 0, .retAddr 0], [.ref l0])) (h1 := (mSI s l0 11 (mI s l0 9))) (cv := fun r => some (.int r)) rfl rfl rfl rfl (s184 (mSI s l0 11 (mI s l0 9)) l0) (fun r3 => ?_)
      refine Seg.blk (f' := (49, [.ref l0, .int r3, .retAddr 0], [])) (h' := (mSL (mSI s l0 11 (mI s l0 9)) l0 14 0)) rfl rfl ?_
      refine Seg.blk0 (f' := (if (0 : Int32) ≤ r3 then 63 else 55, [.ref l0, .int r3, .int 0], [])) (h' := (mSL (mSI s l0 11 (mI s l0 9)) l0 14 0)) rfl rfl ?_
      refine Seg.ite (fun _ => ?_) (fun _ => ?_)
      · refine Seg.callP (f1 := (68, [.ref l0, .int r3, .int 0], [.int 122, .int 97, .int r3])) (h1 := (mSL (mSI s l0 11 (mI s l0 9)) l0 14 0)) (cv := fun r => some (.int r)) rfl rfl rfl rfl (s179 (mSL (mSI s l0 11 (mI s l0 9)) l0 14 0) r3 97 122) (fun r4 => ?_)
        refine Seg.blk0 (f' := (if (r4 : Int32) = 0 then 147 else 74, [.ref l0, .int r3, .int 0], [])) (h' := (mSL (mSI s l0 11 (mI s l0 9)) l0 14 0)) rfl rfl ?_
        refine Seg.ite (fun _ => ?_) (fun _ => ?_)
        · refine Seg.callP (f1 := (152, [.ref l0, .int r3, .int 0], [.int 57, .int 48, .int r3])) (h1 := (mSL (mSI s l0 11 (mI s l0 9)) l0 14 0)) (cv := fun r => some (.int r)) rfl rfl rfl rfl (s179 (mSL (mSI s l0 11 (mI s l0 9)) l0 14 0) r3 48 57) (fun r5 => ?_)
          refine Seg.blk0 (f' := (if (r5 : Int32) = 0 then 241 else 158, [.ref l0, .int r3, .int 0], [])) (h' := (mSL (mSI s l0 11 (mI s l0 9)) l0 14 0)) rfl rfl ?_
          refine Seg.ite (fun _ => ?_) (fun _ => ?_)
          · refine Seg.blk (f' := (251, [.ref l0, .int r3, .int 0], [])) (h' := (mSI (mSL (mSI s l0 11 (mI s l0 9)) l0 14 0) l0 9 ((mI (mSI s l0 11 (mI s l0 9)) l0 9) + 1))) rfl rfl ?_
            refine Seg.blk0 (f' := (if (r3 : Int32) = 59 then 258 else 262, [.ref l0, .int r3, .int 0], [.ref l0])) (h' := (mSI (mSL (mSI s l0 11 (mI s l0 9)) l0 14 0) l0 9 ((mI (mSI s l0 11 (mI s l0 9)) l0 9) + 1))) rfl rfl ?_
            refine Seg.ite (fun _ => ?_) (fun _ => ?_)
            · refine Seg.blk0 (f' := (263, [.ref l0, .int r3, .int 0], [.int 4, .ref l0])) (h' := (mSI (mSL (mSI s l0 11 (mI s l0 9)) l0 14 0) l0 9 ((mI (mSI s l0 11 (mI s l0 9)) l0 9) + 1))) rfl rfl ?_
              refine Seg.blk (f' := (266, [.ref l0, .int r3, .int 0], [])) (h' := (mSI (mSI (mSL (mSI s l0 11 (mI s l0 9)) l0 14 0) l0 9 ((mI (mSI s l0 11 (mI s l0 9)) l0 9) + 1)) l0 12 4)) rfl rfl ?_
              exact Seg.w (mLw.u (mLw.u (mLw.u mLw.nil))) (s183_266 (mSI (mSI (mSL (mSI s l0 11 (mI s l0 9)) l0 14 0) l0 9 ((mI (mSI s l0 11 (mI s l0 9)) l0 9) + 1)) l0 12 4))
            · refine Seg.blk0 (f' := (263, [.ref l0, .int r3, .int 0], [.int 1, .ref l0])) (h' := (mSI (mSL (mSI s l0 11 (mI s l0 9)) l0 14 0) l0 9 ((mI (mSI s l0 11 (mI s l0 9)) l0 9) + 1))) rfl rfl ?_
              refine Seg.blk (f' := (266, [.ref l0, .int r3, .int 0], [])) (h' := (mSI (mSI (mSL (mSI s l0 11 (mI s l0 9)) l0 14 0) l0 9 ((mI (mSI s l0 11 (mI s l0 9)) l0 9) + 1)) l0 12 1)) rfl rfl ?_
              exact Seg.w (mLw.u (mLw.u (mLw.u mLw.nil))) (s183_266 (mSI (mSI (mSL (mSI s l0 11 (mI s l0 9)) l0 14 0) l0 9 ((mI (mSI s l0 11 (mI s l0 9)) l0 9) + 1)) l0 12 1))
          · refine Seg.blk (f' := (163, [.ref l0, .int r3, .int 0], [])) (h' := (mSI (mSL (mSI s l0 11 (mI s l0 9)) l0 14 0) l0 13 0)) rfl rfl ?_
            exact Seg.w (mLw.k (mLw.u (mLw.k mLw.nil))) (s183_163 l0 mFuel (0, (mSI (mSL (mSI s l0 11 (mI s l0 9)) l0 14 0) l0 13 0)))
        · exact Seg.w (mLw.k (mLw.u (mLw.k mLw.nil))) (s183_74 l0 mFuel (0, (mSL (mSI s l0 11 (mI s l0 9)) l0 14 0)))
      · refine Seg.blk (f' := (60, [.ref l0, .int r3, .int 0], [])) (h' := (mSI (mSL (mSI s l0 11 (mI s l0 9)) l0 14 0) l0 12 0)) rfl rfl ?_
        refine Seg.blk0 (f' := (266, [.ref l0, .int r3, .int 0], [])) (h' := (mSI (mSL (mSI s l0 11 (mI s l0 9)) l0 14 0) l0 12 0)) rfl rfl ?_
        exact Seg.w (mLw.u (mLw.u (mLw.u mLw.nil))) (s183_266 (mSI (mSL (mSI s l0 11 (mI s l0 9)) l0 14 0) l0 12 0))
theorem s183 (h : mH) (l0 : Nat) : Seg 183 (0, [.ref l0, .retAddr 0, .retAddr 0], []) h (f183 h l0) (fun (q : Unit × mH) (res : Option Value × mH) => res = (none, q.2)) := by
  unfold f183
  exact Seg.w (mLw.k (mLw.k (mLw.k mLw.nil))) (s183_0 l0 mFuel (h))
theorem s188_41 (h : mH) : Seg 188 (41, [.retAddr 0, .retAddr 0, .retAddr 0], []) h (f188_41 h) (fun (q : Unit × mH) (res : Option Value × mH) => res = (none, q.2)) := by
  unfold f188_41
  exact Seg.ret (f1 := (41, [.retAddr 0, .retAddr 0, .retAddr 0], [])) (h1 := h) rfl rfl rfl rfl (fun _ q => q)
theorem s188_31 (h : mH) (l0 : Nat) (l1 : Int32) (l2 : Int32) : Seg 188 (31, [.ref l0, .int l1, .int l2], []) h (f188_31 h l0 l1 l2) (fun (q : Unit × mH) (res : Option Value × mH) => res = (none, q.2)) := by
  unfold f188_31
  refine Seg.blk (f' := (36, [.ref l0, .int l1, .int l2], [])) (h' := (mSI h l0 16 l1)) rfl rfl ?_
  refine Seg.blk (f' := (41, [.ref l0, .int l1, .int l2], [])) (h' := (mSI (mSI h l0 16 l1) l0 17 l2)) rfl rfl ?_
  exact Seg.w (mLw.u (mLw.u (mLw.u mLw.nil))) (s188_41 (mSI (mSI h l0 16 l1) l0 17 l2))
theorem s188 (h : mH) (l0 : Nat) (l1 : Int32) (l2 : Int32) : Seg 188 (0, [.ref l0, .int l1, .int l2], []) h (f188 h l0 l1 l2) (fun (q : Unit × mH) (res : Option Value × mH) => res = (none, q.2)) := by
  unfold f188
  refine Seg.blk (f' := (if ((mI h l0 16) : Int32) = 0 then 31 else 7, [.ref l0, .int l1, .int l2], [])) (h' := h) rfl rfl ?_
  refine Seg.ite (fun _ => ?_) (fun _ => ?_)
  · exact Seg.w (mLw.k (mLw.k (mLw.k mLw.nil))) (s188_31 h l0 l1 l2)
  · refine Seg.blk (f' := (if (l2 : Int32) < (mI h l0 17) then 31 else 15, [.ref l0, .int l1, .int l2], [])) (h' := h) rfl rfl ?_
    refine Seg.ite (fun _ => ?_) (fun _ => ?_)
    · exact Seg.w (mLw.k (mLw.k (mLw.k mLw.nil))) (s188_31 h l0 l1 l2)
    · refine Seg.blk (f' := (if (l2 : Int32) = (mI h l0 17) then 23 else 41, [.ref l0, .int l1, .int l2], [])) (h' := h) rfl rfl ?_
      refine Seg.ite (fun _ => ?_) (fun _ => ?_)
      · refine Seg.blk (f' := (if ((mI h l0 16) : Int32) ≤ l1 then 41 else 31, [.ref l0, .int l1, .int l2], [])) (h' := h) rfl rfl ?_
        refine Seg.ite (fun _ => ?_) (fun _ => ?_)
        · exact Seg.w (mLw.u (mLw.u (mLw.u mLw.nil))) (s188_41 h)
        · exact Seg.w (mLw.k (mLw.k (mLw.k mLw.nil))) (s188_31 h l0 l1 l2)
      · exact Seg.w (mLw.u (mLw.u (mLw.u mLw.nil))) (s188_41 h)
theorem s187_16 (h : mH) : Seg 187 (16, [.retAddr 0, .retAddr 0, .retAddr 0, .retAddr 0], []) h (f187_16 h) (fun (q : Unit × mH) (res : Option Value × mH) => res = (none, q.2)) := by
  unfold f187_16
  exact Seg.ret (f1 := (16, [.retAddr 0, .retAddr 0, .retAddr 0, .retAddr 0], [])) (h1 := h) rfl rfl rfl rfl (fun _ q => q)
theorem s187 (h : mH) (l0 : Nat) (l1 : Int32) (l2 : Int32) (l3 : Int32) : Seg 187 (0, [.ref l0, .int l1, .int l2, .int l3], []) h (f187 h l0 l1 l2 l3) (fun (q : Unit × mH) (res : Option Value × mH) => res = (none, q.2)) := by
  unfold f187
  refine Seg.blk (f' := (if ((mI h ((mR h l0 18).getD 0) (Int32.toNatClampNeg l1)) : Int32) = l2 then 10 else 16, [.ref l0, .int l1, .int l2, .int l3], [])) (h' := h) rfl rfl ?_
  refine Seg.ite (fun _ => ?_) (fun _ => ?_)
  · refine Seg.call (f1 := (13, [.ref l0, .int l1, .int l2, .int l3], [.int l3, .int 3, .ref l0])) (h1 := h) (cv := fun _ => none) rfl rfl rfl rfl (s188 h l0 3 l3) (fun r1 => ?_)
    exact Seg.w (mLw.u (mLw.u (mLw.u (mLw.u mLw.nil)))) (s187_16 r1.2)
  · exact Seg.w (mLw.u (mLw.u (mLw.u (mLw.u mLw.nil)))) (s187_16 h)
theorem s192 (h : mH) (l0 : Nat) : Seg 192 (0, [.ref l0], []) h (f192 h l0) (fun (q : Int32 × mH) (res : Option Value × mH) => res = (some (.int q.1), q.2)) := by
  unfold f192
  refine Seg.blk (f' := (8, [.ref l0], [])) (h' := (mSI h l0 15 (mI h l0 11))) rfl rfl ?_
  exact Seg.ret (f1 := (9, [.ref l0], [.int 0])) (h1 := (mSI h l0 15 (mI h l0 11))) rfl rfl rfl rfl (fun _ q => q)
theorem s191_58 (h : mH) (l0 : Nat) : Seg 191 (58, [.ref l0, .retAddr 0, .retAddr 0, .retAddr 0, .retAddr 0], []) h (f191_58 h l0) (fun (q : Int32 × mH) (res : Option Value × mH) => res = (some (.int q.1), q.2)) := by
  unfold f191_58
  refine Seg.call (f1 := (59, [.ref l0, .retAddr 0, .retAddr 0, .retAddr 0, .retAddr 0], [.ref l0])) (h1 := h) (cv := fun _ => none) rfl rfl rfl rfl (s183 h l0) (fun r3 => ?_)
  exact Seg.ret (f1 := (63, [.ref l0, .retAddr 0, .retAddr 0, .retAddr 0, .retAddr 0], [.int 1])) (h1 := r3.2) rfl rfl rfl rfl (fun _ q => q)
theorem s191_44 (h : mH) (l0 : Nat) : Seg 191 (44, [.ref l0, .retAddr 0, .retAddr 0, .retAddr 0, .retAddr 0], []) h (f191_44 h l0) (fun (q : Int32 × mH) (res : Option Value × mH) => res = (some (.int q.1), q.2)) := by
  unfold f191_44
  refine Seg.call (f1 := (50, [.ref l0, .retAddr 0, .retAddr 0, .retAddr 0, .retAddr 0], [.int (mI h l0 11), .int 2, .ref l0])) (h1 := h) (cv := fun _ => none) rfl rfl rfl rfl (s188 h l0 2 (mI h l0 11)) (fun r2 => ?_)
  refine Seg.blk (f' := (58, [.ref l0, .retAddr 0, .retAddr 0, .retAddr 0, .retAddr 0], [])) (h' := (mSI r2.2 l0 22 0)) rfl rfl ?_
  exact Seg.w (mLw.k (mLw.k (mLw.k (mLw.k (mLw.k mLw.nil))))) (s191_58 (mSI r2.2 l0 22 0) l0)
theorem s191 (h : mH) (l0 : Nat) (l1 : Int32) (l2 : Int32) (l3 : Int32) (l4 : Int32) : Seg 191 (0, [.ref l0, .int l1, .int l2, .int l3, .int l4], []) h (f191 h l0 l1 l2 l3 l4) (fun (q : Int32 × mH) (res : Option Value × mH) => res = (some (.int q.1), q.2)) := by
  unfold f191
  refine Seg.blk (f' := (if ((mI h l0 12) : Int32) = 3 then 13 else 8, [.ref l0, .int l1, .int l2, .int l3, .int l4], [])) (h' := h) rfl rfl ?_
  refine Seg.ite (fun _ => ?_) (fun _ => ?_)
  · refine Seg.blk (f' := (23, [.ref l0, .int l1, .int l2, .int l3, .int l4], [])) (h' := (mSI h ((mR h l0 19).getD 0) (Int32.toNatClampNeg l1) (mI h l0 13))) rfl rfl ?_
    refine Seg.callP (f1 := (29, [.ref l0, .int l1, .int l2, .int l3, .int l4], [.int l3, .int l2, .int (mI (mSI h ((mR h l0 19).getD 0) (Int32.toNatClampNeg l1) (mI h l0 13)) l0 13)])) (h1 := (mSI h ((mR h l0 19).getD 0) (Int32.toNatClampNeg l1) (mI h l0 13))) (cv := fun r => some (.int r)) rfl rfl rfl rfl (s179 (mSI h ((mR h l0 19).getD 0) (Int32.toNatClampNeg l1) (mI h l0 13)) (mI (mSI h ((mR h l0 19).getD 0) (Int32.toNatClampNeg l1) (mI h l0 13)) l0 13) l2 l3) (fun r1 => ?_)
    refine Seg.blk0 (f' := (if (r1 : Int32) = 0 then 44 else 35, [.ref l0, .int l1, .int l2, .int l3, .int l4], [])) (h' := (mSI h ((mR h l0 19).getD 0) (Int32.toNatClampNeg l1) (mI h l0 13))) rfl rfl ?_
    refine Seg.ite (fun _ => ?_) (fun _ => ?_)
    · exact Seg.w (mLw.k (mLw.u (mLw.u (mLw.u (mLw.u mLw.nil))))) (s191_44 (mSI h ((mR h l0 19).getD 0) (Int32.toNatClampNeg l1) (mI h l0 13)) l0)
    · refine Seg.blk (f' := (if ((mI (mSI h ((mR h l0 19).getD 0) (Int32.toNatClampNeg l1) (mI h l0 13)) l0 13) : Int32) = l4 then 44 else 58, [.ref l0, .int l1, .int l2, .int l3, .int l4], [])) (h' := (mSI h ((mR h l0 19).getD 0) (Int32.toNatClampNeg l1) (mI h l0 13))) rfl rfl ?_
      refine Seg.ite (fun _ => ?_) (fun _ => ?_)
      · exact Seg.w (mLw.k (mLw.u (mLw.u (mLw.u (mLw.u mLw.nil))))) (s191_44 (mSI h ((mR h l0 19).getD 0) (Int32.toNatClampNeg l1) (mI h l0 13)) l0)
      · exact Seg.w (mLw.k (mLw.u (mLw.u (mLw.u (mLw.u mLw.nil))))) (s191_58 (mSI h ((mR h l0 19).getD 0) (Int32.toNatClampNeg l1) (mI h l0 13)) l0)
  · refine Seg.call (f1 := (9, [.ref l0, .int l1, .int l2, .int l3, .int l4], [.ref l0])) (h1 := h) (cv := fun r => some (.int r)) rfl rfl rfl rfl (s192 h l0) (fun r4 => ?_)
    exact Seg.ret (f1 := (12, [.ref l0, .int l1, .int l2, .int l3, .int l4], [.int r4.1])) (h1 := r4.2) rfl rfl rfl rfl (fun _ q => q)
theorem s190 (h : mH) (l0 : Nat) (l1 : Int32) (l2 : Int32) (l3 : Int32) : Seg 190 (0, [.ref l0, .int l1, .int l2, .int l3], []) h (f190 h l0 l1 l2 l3) (fun (q : Int32 × mH) (res : Option Value × mH) => res = (some (.int q.1), q.2)) := by
  unfold f190
  refine Seg.call (f1 := (5, [.ref l0, .int l1, .int l2, .int l3], [.int (-1), .int l3, .int l2, .int l1, .ref l0])) (h1 := h) (cv := fun r => some (.int r)) rfl rfl rfl rfl (s191 h l0 l1 l2 l3 (-1)) (fun r1 => ?_)
  exact Seg.ret (f1 := (8, [.ref l0, .int l1, .int l2, .int l3], [.int r1.1])) (h1 := r1.2) rfl rfl rfl rfl (fun _ q => q)
theorem s189_21 (h : mH) : Seg 189 (21, [.retAddr 0, .retAddr 0], []) h (f189_21 h) (fun (q : Int32 × mH) (res : Option Value × mH) => res = (some (.int q.1), q.2)) := by
  unfold f189_21
  exact Seg.ret (f1 := (22, [.retAddr 0, .retAddr 0], [.int 0])) (h1 := h) rfl rfl rfl rfl (fun _ q => q)
theorem s189_75 (h : mH) : Seg 189 (75, [.retAddr 0, .retAddr 0], []) h (f189_75 h) (fun (q : Int32 × mH) (res : Option Value × mH) => res = (some (.int q.1), q.2)) := by
  unfold f189_75
  exact Seg.ret (f1 := (76, [.retAddr 0, .retAddr 0], [.int 1])) (h1 := h) rfl rfl rfl rfl (fun _ q => q)
theorem s189_50 (h : mH) (l0 : Nat) (l1 : Int32) : Seg 189 (50, [.ref l0, .int l1], []) h (f189_50 h l0 l1) (fun (q : Int32 × mH) (res : Option Value × mH) => res = (some (.int q.1), q.2)) := by
  unfold f189_50
  refine Seg.blk (f' := (65, [.ref l0, .int l1], [])) (h' := (mSI h ((mR h l0 18).getD 0) (Int32.toNatClampNeg (11 + l1)) (mI h ((mR h l0 19).getD 0) (Int32.toNatClampNeg 1)))) rfl rfl ?_
  refine Seg.blk (f' := (75, [.ref l0, .int l1], [])) (h' := (mSI (mSI h ((mR h l0 18).getD 0) (Int32.toNatClampNeg (11 + l1)) (mI h ((mR h l0 19).getD 0) (Int32.toNatClampNeg 1))) ((mR h l0 18).getD 0) (Int32.toNatClampNeg 0) ((mI (mSI h ((mR h l0 18).getD 0) (Int32.toNatClampNeg (11 + l1)) (mI h ((mR h l0 19).getD 0) (Int32.toNatClampNeg 1))) ((mR h l0 18).getD 0) (Int32.toNatClampNeg 0)) + 1))) rfl rfl ?_
  exact Seg.w (mLw.u (mLw.u mLw.nil)) (s189_75 (mSI (mSI h ((mR h l0 18).getD 0) (Int32.toNatClampNeg (11 + l1)) (mI h ((mR h l0 19).getD 0) (Int32.toNatClampNeg 1))) ((mR h l0 18).getD 0) (Int32.toNatClampNeg 0) ((mI (mSI h ((mR h l0 18).getD 0) (Int32.toNatClampNeg (11 + l1)) (mI h ((mR h l0 19).getD 0) (Int32.toNatClampNeg 1))) ((mR h l0 18).getD 0) (Int32.toNatClampNeg 0)) + 1)))
theorem s189 (h : mH) (l0 : Nat) : Seg 189 (0, [.ref l0, .retAddr 0], []) h (f189 h l0) (fun (q : Int32 × mH) (res : Option Value × mH) => res = (some (.int q.1), q.2)) := by
  unfold f189
  refine Seg.call (f1 := (5, [.ref l0, .retAddr 0], [.int 9, .int 1, .int 0, .ref l0])) (h1 := h) (cv := fun r => some (.int r)) rfl rfl rfl rfl (s190 h l0 0 1 9) (fun r1 => ?_)
  refine Seg.blk0 (f' := (if (r1.1 : Int32) = 0 then 21 else 11, [.ref l0, .retAddr 0], [])) (h' := r1.2) rfl rfl ?_
  refine Seg.ite (fun _ => ?_) (fun _ => ?_)
  · exact Seg.w (mLw.u (mLw.k mLw.nil)) (s189_21 r1.2)
  · refine Seg.call (f1 := (15, [.ref l0, .retAddr 0], [.int 5, .int 0, .int 1, .ref l0])) (h1 := r1.2) (cv := fun r => some (.int r)) rfl rfl rfl rfl (s190 r1.2 l0 1 0 5) (fun r2 => ?_)
    refine Seg.blk0 (f' := (if (r2.1 : Int32) = 0 then 21 else 23, [.ref l0, .retAddr 0], [])) (h' := r2.2) rfl rfl ?_
    refine Seg.ite (fun _ => ?_) (fun _ => ?_)
    · exact Seg.w (mLw.u (mLw.k mLw.nil)) (s189_21 r2.2)
    · refine Seg.blk (f' := (if (8 : Int32) ≤ (mI r2.2 ((mR r2.2 l0 18).getD 0) (Int32.toNatClampNeg 0)) then 75 else 36, [.ref l0, .int (mI r2.2 ((mR r2.2 l0 18).getD 0) (Int32.toNatClampNeg 0))], [])) (h' := r2.2) rfl rfl ?_
      refine Seg.ite (fun _ => ?_) (fun _ => ?_)
      · exact Seg.w (mLw.u (mLw.u mLw.nil)) (s189_75 r2.2)
      · refine Seg.blk (f' := (50, [.ref l0, .int (mI r2.2 ((mR r2.2 l0 18).getD 0) (Int32.toNatClampNeg 0))], [])) (h' := (mSI r2.2 ((mR r2.2 l0 18).getD 0) (Int32.toNatClampNeg (3 + (mI r2.2 ((mR r2.2 l0 18).getD 0) (Int32.toNatClampNeg 0)))) (mI r2.2 ((mR r2.2 l0 19).getD 0) (Int32.toNatClampNeg 0)))) rfl rfl ?_
        exact Seg.w (mLw.k (mLw.k mLw.nil)) (s189_50 (mSI r2.2 ((mR r2.2 l0 18).getD 0) (Int32.toNatClampNeg (3 + (mI r2.2 ((mR r2.2 l0 18).getD 0) (Int32.toNatClampNeg 0)))) (mI r2.2 ((mR r2.2 l0 19).getD 0) (Int32.toNatClampNeg 0))) l0 (mI r2.2 ((mR r2.2 l0 18).getD 0) (Int32.toNatClampNeg 0)))
theorem s193_51 (h : mH) : Seg 193 (51, [.retAddr 0, .retAddr 0], []) h (f193_51 h) (fun (q : Int32 × mH) (res : Option Value × mH) => res = (some (.int q.1), q.2)) := by
  unfold f193_51
  exact Seg.ret (f1 := (52, [.retAddr 0, .retAddr 0], [.int 1])) (h1 := h) rfl rfl rfl rfl (fun _ q => q)
theorem s193_41 (h : mH) (l0 : Nat) : Seg 193 (41, [.ref l0, .retAddr 0], []) h (f193_41 h l0) (fun (q : Int32 × mH) (res : Option Value × mH) => res = (some (.int q.1), q.2)) := by
  unfold f193_41
  refine Seg.blk (f' := (51, [.ref l0, .retAddr 0], [])) (h' := (mSI h ((mR h l0 18).getD 0) (Int32.toNatClampNeg 1) ((mI h ((mR h l0 18).getD 0) (Int32.toNatClampNeg 1)) + 1))) rfl rfl ?_
  exact Seg.w (mLw.u (mLw.k mLw.nil)) (s193_51 (mSI h ((mR h l0 18).getD 0) (Int32.toNatClampNeg 1) ((mI h ((mR h l0 18).getD 0) (Int32.toNatClampNeg 1)) + 1)))
theorem s193 (h : mH) (l0 : Nat) : Seg 193 (0, [.ref l0, .retAddr 0], []) h (f193 h l0) (fun (q : Int32 × mH) (res : Option Value × mH) => res = (some (.int q.1), q.2)) := by
  unfold f193
  refine Seg.call (f1 := (5, [.ref l0, .retAddr 0], [.int 9, .int 1, .int 0, .ref l0])) (h1 := h) (cv := fun r => some (.int r)) rfl rfl rfl rfl (s190 h l0 0 1 9) (fun r1 => ?_)
  refine Seg.blk0 (f' := (if (r1.1 : Int32) = 0 then 11 else 13, [.ref l0, .retAddr 0], [])) (h' := r1.2) rfl rfl ?_
  refine Seg.ite (fun _ => ?_) (fun _ => ?_)
  · exact Seg.ret (f1 := (12, [.ref l0, .retAddr 0], [.int 0])) (h1 := r1.2) rfl rfl rfl rfl (fun _ q => q)
  · refine Seg.blk (f' := (if (6 : Int32) ≤ (mI r1.2 ((mR r1.2 l0 18).getD 0) (Int32.toNatClampNeg 1)) then 51 else 26, [.ref l0, .int (mI r1.2 ((mR r1.2 l0 18).getD 0) (Int32.toNatClampNeg 1))], [])) (h' := r1.2) rfl rfl ?_
    refine Seg.ite (fun _ => ?_) (fun _ => ?_)
    · exact Seg.w (mLw.u (mLw.u mLw.nil)) (s193_51 r1.2)
    · refine Seg.blk (f' := (41, [.ref l0, .int (mI r1.2 ((mR r1.2 l0 18).getD 0) (Int32.toNatClampNeg 1))], [])) (h' := (mSI r1.2 ((mR r1.2 l0 18).getD 0) (Int32.toNatClampNeg (33 + (mI r1.2 ((mR r1.2 l0 18).getD 0) (Int32.toNatClampNeg 1)))) (mI r1.2 ((mR r1.2 l0 19).getD 0) (Int32.toNatClampNeg 0)))) rfl rfl ?_
      exact Seg.w (mLw.k (mLw.u mLw.nil)) (s193_41 (mSI r1.2 ((mR r1.2 l0 18).getD 0) (Int32.toNatClampNeg (33 + (mI r1.2 ((mR r1.2 l0 18).getD 0) (Int32.toNatClampNeg 1)))) (mI r1.2 ((mR r1.2 l0 19).getD 0) (Int32.toNatClampNeg 0))) l0)
theorem s195_10 (h : mH) (q0 : Int32) : Seg 195 (10, [.retAddr 0, .retAddr 0], [.int q0]) h (f195_10 h q0) (fun (q : Int32) (res : Option Value × mH) => res = (some (.int q), h)) := by
  unfold f195_10
  exact Seg.ret (f1 := (10, [.retAddr 0, .retAddr 0], [.int q0])) (h1 := h) rfl rfl rfl rfl (fun _ q => q)
theorem s195 (h : mH) (l0 : Int32) (l1 : Int32) : Seg 195 (0, [.int l0, .int l1], []) h (f195 h l0 l1) (fun (q : Int32) (res : Option Value × mH) => res = (some (.int q), h)) := by
  unfold f195
  refine Seg.blk0 (f' := (if (l1 : Int32) ≤ l0 then 9 else 5, [.int l0, .int l1], [])) (h' := h) rfl rfl ?_
  refine Seg.ite (fun _ => ?_) (fun _ => ?_)
  · refine Seg.blk0 (f' := (10, [.int l0, .int l1], [.int l1])) (h' := h) rfl rfl ?_
    exact Seg.w (mLw.u (mLw.u mLw.nil)) (s195_10 h l1)
  · refine Seg.blk0 (f' := (10, [.int l0, .int l1], [.int l0])) (h' := h) rfl rfl ?_
    exact Seg.w (mLw.u (mLw.u mLw.nil)) (s195_10 h l0)
theorem s196_10 (h : mH) (q0 : Int32) : Seg 196 (10, [.retAddr 0, .retAddr 0], [.int q0]) h (f196_10 h q0) (fun (q : Int32) (res : Option Value × mH) => res = (some (.int q), h)) := by
  unfold f196_10
  exact Seg.ret (f1 := (10, [.retAddr 0, .retAddr 0], [.int q0])) (h1 := h) rfl rfl rfl rfl (fun _ q => q)
theorem s196 (h : mH) (l0 : Int32) (l1 : Int32) : Seg 196 (0, [.int l0, .int l1], []) h (f196 h l0 l1) (fun (q : Int32) (res : Option Value × mH) => res = (some (.int q), h)) := by
  unfold f196
  refine Seg.blk0 (f' := (if (l0 : Int32) ≤ l1 then 9 else 5, [.int l0, .int l1], [])) (h' := h) rfl rfl ?_
  refine Seg.ite (fun _ => ?_) (fun _ => ?_)
  · refine Seg.blk0 (f' := (10, [.int l0, .int l1], [.int l1])) (h' := h) rfl rfl ?_
    exact Seg.w (mLw.u (mLw.u mLw.nil)) (s196_10 h l1)
  · refine Seg.blk0 (f' := (10, [.int l0, .int l1], [.int l0])) (h' := h) rfl rfl ?_
    exact Seg.w (mLw.u (mLw.u mLw.nil)) (s196_10 h l0)
theorem s194_33 (h : mH) : Seg 194 (33, [.retAddr 0], []) h (f194_33 h) (fun (q : Int32 × mH) (res : Option Value × mH) => res = (some (.int q.1), q.2)) := by
  unfold f194_33
  exact Seg.ret (f1 := (34, [.retAddr 0], [.int 0])) (h1 := h) rfl rfl rfl rfl (fun _ q => q)
theorem s194_93 (h : mH) : Seg 194 (93, [.retAddr 0], []) h (f194_93 h) (fun (q : Int32 × mH) (res : Option Value × mH) => res = (some (.int q.1), q.2)) := by
  unfold f194_93
  exact Seg.ret (f1 := (94, [.retAddr 0], [.int 1])) (h1 := h) rfl rfl rfl rfl (fun _ q => q)
theorem s194 (h : mH) (l0 : Nat) : Seg 194 (0, [.ref l0], []) h (f194 h l0) (fun (q : Int32 × mH) (res : Option Value × mH) => res = (some (.int q.1), q.2)) := by
  unfold f194
  refine Seg.call (f1 := (5, [.ref l0], [.int 7, .int 0, .int 0, .ref l0])) (h1 := h) (cv := fun r => some (.int r)) rfl rfl rfl rfl (s190 h l0 0 0 7) (fun r1 => ?_)
  refine Seg.blk0 (f' := (if (r1.1 : Int32) = 0 then 33 else 11, [.ref l0], [])) (h' := r1.2) rfl rfl ?_
  refine Seg.ite (fun _ => ?_) (fun _ => ?_)
  · exact Seg.w (mLw.u mLw.nil) (s194_33 r1.2)
  · refine Seg.callP (f1 := (22, [.ref l0], [.int (mI r1.2 ((mR r1.2 l0 19).getD 0) (Int32.toNatClampNeg 0)), .int 8, .int 0, .int 1, .ref l0])) (h1 := r1.2) (cv := fun r => some (.int r)) rfl rfl rfl rfl (s195 r1.2 8 (mI r1.2 ((mR r1.2 l0 19).getD 0) (Int32.toNatClampNeg 0))) (fun r2 => ?_)
    refine Seg.call (f1 := (27, [.ref l0], [.int (r2 - 1), .int 0, .int 1, .ref l0])) (h1 := r1.2) (cv := fun r => some (.int r)) rfl rfl rfl rfl (s190 r1.2 l0 1 0 (r2 - 1)) (fun r3 => ?_)
    refine Seg.blk0 (f' := (if (r3.1 : Int32) = 0 then 33 else 35, [.ref l0], [])) (h' := r3.2) rfl rfl ?_
    refine Seg.ite (fun _ => ?_) (fun _ => ?_)
    · exact Seg.w (mLw.u mLw.nil) (s194_33 r3.2)
    · refine Seg.callP (f1 := (52, [.ref l0], [.int (mI r3.2 ((mR r3.2 l0 19).getD 0) (Int32.toNatClampNeg 1)), .int (mI r3.2 ((mR r3.2 l0 19).getD 0) (Int32.toNatClampNeg 0)), .int (mI r3.2 l0 20), .ref l0])) (h1 := r3.2) (cv := fun r => some (.int r)) rfl rfl rfl rfl (s196 r3.2 (mI r3.2 ((mR r3.2 l0 19).getD 0) (Int32.toNatClampNeg 0)) (mI r3.2 ((mR r3.2 l0 19).getD 0) (Int32.toNatClampNeg 1))) (fun r4 => ?_)
      refine Seg.callP (f1 := (55, [.ref l0], [.int r4, .int (mI r3.2 l0 20), .ref l0])) (h1 := r3.2) (cv := fun r => some (.int r)) rfl rfl rfl rfl (s196 r3.2 (mI r3.2 l0 20) r4) (fun r5 => ?_)
      refine Seg.blk (f' := (61, [.ref l0], [])) (h' := (mSI r3.2 l0 20 r5)) rfl rfl ?_
      refine Seg.blk (f' := (if ((mI (mSI r3.2 l0 20 r5) l0 22) : Int32) = 0 then 93 else 68, [.ref l0], [])) (h' := (mSI r3.2 l0 20 r5)) rfl rfl ?_
      refine Seg.ite (fun _ => ?_) (fun _ => ?_)
      · exact Seg.w (mLw.u mLw.nil) (s194_93 (mSI r3.2 l0 20 r5))
      · refine Seg.blk (f' := (93, [.ref l0], [])) (h' := (mSI (mSI r3.2 l0 20 r5) ((mR r3.2 l0 18).getD 0) (Int32.toNatClampNeg (19 + (mI (mSI r3.2 l0 20 r5) ((mR r3.2 l0 19).getD 0) (Int32.toNatClampNeg 0)))) ((mI (mSI r3.2 l0 20 r5) ((mR r3.2 l0 18).getD 0) (Int32.toNatClampNeg (19 + (mI (mSI r3.2 l0 20 r5) ((mR r3.2 l0 19).getD 0) (Int32.toNatClampNeg 0))))) ||| ((1 : Int32) <<< ((mI (mSI r3.2 l0 20 r5) ((mR r3.2 l0 19).getD 0) (Int32.toNatClampNeg 1)) &&& (31 : Int32)))))) rfl rfl ?_
        exact Seg.w (mLw.u mLw.nil) (s194_93 (mSI (mSI r3.2 l0 20 r5) ((mR r3.2 l0 18).getD 0) (Int32.toNatClampNeg (19 + (mI (mSI r3.2 l0 20 r5) ((mR r3.2 l0 19).getD 0) (Int32.toNatClampNeg 0)))) ((mI (mSI r3.2 l0 20 r5) ((mR r3.2 l0 18).getD 0) (Int32.toNatClampNeg (19 + (mI (mSI r3.2 l0 20 r5) ((mR r3.2 l0 19).getD 0) (Int32.toNatClampNeg 0))))) ||| ((1 : Int32) <<< ((mI (mSI r3.2 l0 20 r5) ((mR r3.2 l0 19).getD 0) (Int32.toNatClampNeg 1)) &&& (31 : Int32))))))
theorem s197_26 (h : mH) : Seg 197 (26, [.retAddr 0], []) h (f197_26 h) (fun (q : Int32 × mH) (res : Option Value × mH) => res = (some (.int q.1), q.2)) := by
  unfold f197_26
  exact Seg.ret (f1 := (27, [.retAddr 0], [.int 0])) (h1 := h) rfl rfl rfl rfl (fun _ q => q)
theorem s197_86 (h : mH) : Seg 197 (86, [.retAddr 0], []) h (f197_86 h) (fun (q : Int32 × mH) (res : Option Value × mH) => res = (some (.int q.1), q.2)) := by
  unfold f197_86
  exact Seg.ret (f1 := (87, [.retAddr 0], [.int 1])) (h1 := h) rfl rfl rfl rfl (fun _ q => q)
theorem s197 (h : mH) (l0 : Nat) : Seg 197 (0, [.ref l0], []) h (f197 h l0) (fun (q : Int32 × mH) (res : Option Value × mH) => res = (some (.int q.1), q.2)) := by
  unfold f197
  refine Seg.call (f1 := (4, [.ref l0], [.int 5, .int 0, .int 0, .ref l0])) (h1 := h) (cv := fun r => some (.int r)) rfl rfl rfl rfl (s190 h l0 0 0 5) (fun r1 => ?_)
  refine Seg.blk0 (f' := (if (r1.1 : Int32) = 0 then 26 else 10, [.ref l0], [])) (h' := r1.2) rfl rfl ?_
  refine Seg.ite (fun _ => ?_) (fun _ => ?_)
  · exact Seg.w (mLw.u mLw.nil) (s197_26 r1.2)
  · refine Seg.call (f1 := (20, [.ref l0], [.int (mI r1.2 ((mR r1.2 l0 19).getD 0) (Int32.toNatClampNeg 0)), .int 5, .int 0, .int 1, .ref l0])) (h1 := r1.2) (cv := fun r => some (.int r)) rfl rfl rfl rfl (s191 r1.2 l0 1 0 5 (mI r1.2 ((mR r1.2 l0 19).getD 0) (Int32.toNatClampNeg 0))) (fun r2 => ?_)
    refine Seg.blk0 (f' := (if (r2.1 : Int32) = 0 then 26 else 28, [.ref l0], [])) (h' := r2.2) rfl rfl ?_
    refine Seg.ite (fun _ => ?_) (fun _ => ?_)
    · exact Seg.w (mLw.u mLw.nil) (s197_26 r2.2)
    · refine Seg.callP (f1 := (45, [.ref l0], [.int (mI r2.2 ((mR r2.2 l0 19).getD 0) (Int32.toNatClampNeg 1)), .int (mI r2.2 ((mR r2.2 l0 19).getD 0) (Int32.toNatClampNeg 0)), .int (mI r2.2 l0 21), .ref l0])) (h1 := r2.2) (cv := fun r => some (.int r)) rfl rfl rfl rfl (s196 r2.2 (mI r2.2 ((mR r2.2 l0 19).getD 0) (Int32.toNatClampNeg 0)) (mI r2.2 ((mR r2.2 l0 19).getD 0) (Int32.toNatClampNeg 1))) (fun r3 => ?_)
      refine Seg.callP (f1 := (48, [.ref l0], [.int r3, .int (mI r2.2 l0 21), .ref l0])) (h1 := r2.2) (cv := fun r => some (.int r)) rfl rfl rfl rfl (s196 r2.2 (mI r2.2 l0 21) r3) (fun r4 => ?_)
      refine Seg.blk (f' := (54, [.ref l0], [])) (h' := (mSI r2.2 l0 21 r4)) rfl rfl ?_
      refine Seg.blk (f' := (if ((mI (mSI r2.2 l0 21 r4) l0 22) : Int32) = 0 then 86 else 61, [.ref l0], [])) (h' := (mSI r2.2 l0 21 r4)) rfl rfl ?_
      refine Seg.ite (fun _ => ?_) (fun _ => ?_)
      · exact Seg.w (mLw.u mLw.nil) (s197_86 (mSI r2.2 l0 21 r4))
      · refine Seg.blk (f' := (86, [.ref l0], [])) (h' := (mSI (mSI r2.2 l0 21 r4) ((mR r2.2 l0 18).getD 0) (Int32.toNatClampNeg (39 + (mI (mSI r2.2 l0 21 r4) ((mR r2.2 l0 19).getD 0) (Int32.toNatClampNeg 0)))) ((mI (mSI r2.2 l0 21 r4) ((mR r2.2 l0 18).getD 0) (Int32.toNatClampNeg (39 + (mI (mSI r2.2 l0 21 r4) ((mR r2.2 l0 19).getD 0) (Int32.toNatClampNeg 0))))) ||| ((1 : Int32) <<< ((mI (mSI r2.2 l0 21 r4) ((mR r2.2 l0 19).getD 0) (Int32.toNatClampNeg 1)) &&& (31 : Int32)))))) rfl rfl ?_
        exact Seg.w (mLw.u mLw.nil) (s197_86 (mSI (mSI r2.2 l0 21 r4) ((mR r2.2 l0 18).getD 0) (Int32.toNatClampNeg (39 + (mI (mSI r2.2 l0 21 r4) ((mR r2.2 l0 19).getD 0) (Int32.toNatClampNeg 0)))) ((mI (mSI r2.2 l0 21 r4) ((mR r2.2 l0 18).getD 0) (Int32.toNatClampNeg (39 + (mI (mSI r2.2 l0 21 r4) ((mR r2.2 l0 19).getD 0) (Int32.toNatClampNeg 0))))) ||| ((1 : Int32) <<< ((mI (mSI r2.2 l0 21 r4) ((mR r2.2 l0 19).getD 0) (Int32.toNatClampNeg 1)) &&& (31 : Int32))))))
theorem s198_14 (h : mH) : Seg 198 (14, [.retAddr 0, .retAddr 0, .retAddr 0], []) h (f198_14 h) (fun (q : Int32 × mH) (res : Option Value × mH) => res = (some (.int q.1), q.2)) := by
  unfold f198_14
  exact Seg.ret (f1 := (15, [.retAddr 0, .retAddr 0, .retAddr 0], [.int 1])) (h1 := h) rfl rfl rfl rfl (fun _ q => q)
theorem s198 (h : mH) (l0 : Nat) (l1 : Int32) (l2 : Int32) : Seg 198 (0, [.ref l0, .int l1, .int l2], []) h (f198 h l0 l1 l2) (fun (q : Int32 × mH) (res : Option Value × mH) => res = (some (.int q.1), q.2)) := by
  unfold f198
  refine Seg.blk (f' := (if ((mI h l0 22) : Int32) = 0 then 14 else 7, [.ref l0, .int l1, .int l2], [])) (h' := h) rfl rfl ?_
  refine Seg.ite (fun _ => ?_) (fun _ => ?_)
  · exact Seg.w (mLw.u (mLw.u (mLw.u mLw.nil))) (s198_14 h)
  · refine Seg.blk (f' := (14, [.ref l0, .int l1, .int l2], [])) (h' := (mSI h ((mR h l0 18).getD 0) (Int32.toNatClampNeg l1) l2)) rfl rfl ?_
    exact Seg.w (mLw.u (mLw.u (mLw.u mLw.nil))) (s198_14 (mSI h ((mR h l0 18).getD 0) (Int32.toNatClampNeg l1) l2))
theorem s186_72 (h : mH) (q0 : Int32) : Seg 186 (72, [.retAddr 0, .retAddr 0, .retAddr 0, .retAddr 0], [.int q0]) h (f186_72 h q0) (fun (q : Int32 × mH) (res : Option Value × mH) => res = (some (.int q.1), q.2)) := by
  unfold f186_72
  exact Seg.ret (f1 := (72, [.retAddr 0, .retAddr 0, .retAddr 0, .retAddr 0], [.int q0])) (h1 := h) rfl rfl rfl rfl (fun _ q => q)
theorem s186_16 (h : mH) (l0 : Nat) (l1 : Int64) (l3 : Int32) : Seg 186 (16, [.ref l0, .long l1, .retAddr 0, .int l3], []) h (f186_16 h l0 l1 l3) (fun (q : Int32 × mH) (res : Option Value × mH) => res = (some (.int q.1), q.2)) := by
  unfold f186_16
  refine Seg.blk0 (f' := (if ((lg_cmp l1 27980790402147698) : Int32) = 0 then 25 else 29, [.ref l0, .long l1, .retAddr 0, .int l3], [.ref l0])) (h' := h) rfl rfl ?_
  refine Seg.ite (fun _ => ?_) (fun _ => ?_)
  · refine Seg.blk0 (f' := (30, [.ref l0, .long l1, .retAddr 0, .int l3], [.int 0, .ref l0])) (h' := h) rfl rfl ?_
    refine Seg.blk0 (f' := (if ((lg_cmp l1 27980790402147698) : Int32) = 0 then 38 else 43, [.ref l0, .long l1, .retAddr 0, .int l3], [.int 0, .ref l0])) (h' := h) rfl rfl ?_
    refine Seg.ite (fun _ => ?_) (fun _ => ?_)
    · refine Seg.blk0 (f' := (45, [.ref l0, .long l1, .retAddr 0, .int l3], [.int 8, .int 0, .ref l0])) (h' := h) rfl rfl ?_
      refine Seg.call (f1 := (46, [.ref l0, .long l1, .retAddr 0, .int l3], [.int l3, .int 8, .int 0, .ref l0])) (h1 := h) (cv := fun _ => none) rfl rfl rfl rfl (s187 h l0 0 8 l3) (fun r1 => ?_)
      refine Seg.call (f1 := (50, [.ref l0, .long l1, .retAddr 0, .int l3], [.ref l0])) (h1 := r1.2) (cv := fun _ => none) rfl rfl rfl rfl (s183 r1.2 l0) (fun r2 => ?_)
      refine Seg.blk0 (f' := (if ((lg_cmp l1 27980790402147698) : Int32) = 0 then 61 else 68, [.ref l0, .long l1, .retAddr 0, .int l3], [])) (h' := r2.2) rfl rfl ?_
      refine Seg.ite (fun _ => ?_) (fun _ => ?_)
      · refine Seg.call (f1 := (62, [.ref l0, .long l1, .retAddr 0, .int l3], [.ref l0])) (h1 := r2.2) (cv := fun r => some (.int r)) rfl rfl rfl rfl (s189 r2.2 l0) (fun r3 => ?_)
        refine Seg.blk0 (f' := (72, [.ref l0, .long l1, .retAddr 0, .int l3], [.int r3.1])) (h' := r3.2) rfl rfl ?_
        exact Seg.w (mLw.u (mLw.u (mLw.k (mLw.u mLw.nil)))) (s186_72 r3.2 r3.1)
      · refine Seg.call (f1 := (69, [.ref l0, .long l1, .retAddr 0, .int l3], [.ref l0])) (h1 := r2.2) (cv := fun r => some (.int r)) rfl rfl rfl rfl (s193 r2.2 l0) (fun r4 => ?_)
        exact Seg.w (mLw.u (mLw.u (mLw.k (mLw.u mLw.nil)))) (s186_72 r4.2 r4.1)
    · refine Seg.blk0 (f' := (45, [.ref l0, .long l1, .retAddr 0, .int l3], [.int 6, .int 0, .ref l0])) (h' := h) rfl rfl ?_
      refine Seg.call (f1 := (46, [.ref l0, .long l1, .retAddr 0, .int l3], [.int l3, .int 6, .int 0, .ref l0])) (h1 := h) (cv := fun _ => none) rfl rfl rfl rfl (s187 h l0 0 6 l3) (fun r5 => ?_)
      refine Seg.call (f1 := (50, [.ref l0, .long l1, .retAddr 0, .int l3], [.ref l0])) (h1 := r5.2) (cv := fun _ => none) rfl rfl rfl rfl (s183 r5.2 l0) (fun r6 => ?_)
      refine Seg.blk0 (f' := (if ((lg_cmp l1 27980790402147698) : Int32) = 0 then 61 else 68, [.ref l0, .long l1, .retAddr 0, .int l3], [])) (h' := r6.2) rfl rfl ?_
      refine Seg.ite (fun _ => ?_) (fun _ => ?_)
      · refine Seg.call (f1 := (62, [.ref l0, .long l1, .retAddr 0, .int l3], [.ref l0])) (h1 := r6.2) (cv := fun r => some (.int r)) rfl rfl rfl rfl (s189 r6.2 l0) (fun r7 => ?_)
        refine Seg.blk0 (f' := (72, [.ref l0, .long l1, .retAddr 0, .int l3], [.int r7.1])) (h' := r7.2) rfl rfl ?_
        exact Seg.w (mLw.u (mLw.u (mLw.k (mLw.u mLw.nil)))) (s186_72 r7.2 r7.1)
      · refine Seg.call (f1 := (69, [.ref l0, .long l1, .retAddr 0, .int l3], [.ref l0])) (h1 := r6.2) (cv := fun r => some (.int r)) rfl rfl rfl rfl (s193 r6.2 l0) (fun r8 => ?_)
        exact Seg.w (mLw.u (mLw.u (mLw.k (mLw.u mLw.nil)))) (s186_72 r8.2 r8.1)
  · refine Seg.blk0 (f' := (30, [.ref l0, .long l1, .retAddr 0, .int l3], [.int 1, .ref l0])) (h' := h) rfl rfl ?_
    refine Seg.blk0 (f' := (if ((lg_cmp l1 27980790402147698) : Int32) = 0 then 38 else 43, [.ref l0, .long l1, .retAddr 0, .int l3], [.int 1, .ref l0])) (h' := h) rfl rfl ?_
    refine Seg.ite (fun _ => ?_) (fun _ => ?_)
    · refine Seg.blk0 (f' := (45, [.ref l0, .long l1, .retAddr 0, .int l3], [.int 8, .int 1, .ref l0])) (h' := h) rfl rfl ?_
      refine Seg.call (f1 := (46, [.ref l0, .long l1, .retAddr 0, .int l3], [.int l3, .int 8, .int 1, .ref l0])) (h1 := h) (cv := fun _ => none) rfl rfl rfl rfl (s187 h l0 1 8 l3) (fun r9 => ?_)
      refine Seg.call (f1 := (50, [.ref l0, .long l1, .retAddr 0, .int l3], [.ref l0])) (h1 := r9.2) (cv := fun _ => none) rfl rfl rfl rfl (s183 r9.2 l0) (fun r10 => ?_)
      refine Seg.blk0 (f' := (if ((lg_cmp l1 27980790402147698) : Int32) = 0 then 61 else 68, [.ref l0, .long l1, .retAddr 0, .int l3], [])) (h' := r10.2) rfl rfl ?_
      refine Seg.ite (fun _ => ?_) (fun _ => ?_)
      · refine Seg.call (f1 := (62, [.ref l0, .long l1, .retAddr 0, .int l3], [.ref l0])) (h1 := r10.2) (cv := fun r => some (.int r)) rfl rfl rfl rfl (s189 r10.2 l0) (fun r11 => ?_)
        refine Seg.blk0 (f' := (72, [.ref l0, .long l1, .retAddr 0, .int l3], [.int r11.1])) (h' := r11.2) rfl rfl ?_
        exact Seg.w (mLw.u (mLw.u (mLw.k (mLw.u mLw.nil)))) (s186_72 r11.2 r11.1)
      · refine Seg.call (f1 := (69, [.ref l0, .long l1, .retAddr 0, .int l3], [.ref l0])) (h1 := r10.2) (cv := fun r => some (.int r)) rfl rfl rfl rfl (s193 r10.2 l0) (fun r12 => ?_)
        exact Seg.w (mLw.u (mLw.u (mLw.k (mLw.u mLw.nil)))) (s186_72 r12.2 r12.1)
    · refine Seg.blk0 (f' := (45, [.ref l0, .long l1, .retAddr 0, .int l3], [.int 6, .int 1, .ref l0])) (h' := h) rfl rfl ?_
      refine Seg.call (f1 := (46, [.ref l0, .long l1, .retAddr 0, .int l3], [.int l3, .int 6, .int 1, .ref l0])) (h1 := h) (cv := fun _ => none) rfl rfl rfl rfl (s187 h l0 1 6 l3) (fun r13 => ?_)
      refine Seg.call (f1 := (50, [.ref l0, .long l1, .retAddr 0, .int l3], [.ref l0])) (h1 := r13.2) (cv := fun _ => none) rfl rfl rfl rfl (s183 r13.2 l0) (fun r14 => ?_)
      refine Seg.blk0 (f' := (if ((lg_cmp l1 27980790402147698) : Int32) = 0 then 61 else 68, [.ref l0, .long l1, .retAddr 0, .int l3], [])) (h' := r14.2) rfl rfl ?_
      refine Seg.ite (fun _ => ?_) (fun _ => ?_)
      · refine Seg.call (f1 := (62, [.ref l0, .long l1, .retAddr 0, .int l3], [.ref l0])) (h1 := r14.2) (cv := fun r => some (.int r)) rfl rfl rfl rfl (s189 r14.2 l0) (fun r15 => ?_)
        refine Seg.blk0 (f' := (72, [.ref l0, .long l1, .retAddr 0, .int l3], [.int r15.1])) (h' := r15.2) rfl rfl ?_
        exact Seg.w (mLw.u (mLw.u (mLw.k (mLw.u mLw.nil)))) (s186_72 r15.2 r15.1)
      · refine Seg.call (f1 := (69, [.ref l0, .long l1, .retAddr 0, .int l3], [.ref l0])) (h1 := r14.2) (cv := fun r => some (.int r)) rfl rfl rfl rfl (s193 r14.2 l0) (fun r16 => ?_)
        exact Seg.w (mLw.u (mLw.u (mLw.k (mLw.u mLw.nil)))) (s186_72 r16.2 r16.1)
theorem s186_178 (h : mH) (q0 : Int32) : Seg 186 (178, [.retAddr 0, .retAddr 0, .retAddr 0, .retAddr 0], [.int q0]) h (f186_178 h q0) (fun (q : Int32 × mH) (res : Option Value × mH) => res = (some (.int q.1), q.2)) := by
  unfold f186_178
  exact Seg.ret (f1 := (178, [.retAddr 0, .retAddr 0, .retAddr 0, .retAddr 0], [.int q0])) (h1 := h) rfl rfl rfl rfl (fun _ q => q)
theorem s186_177 (h : mH) : Seg 186 (177, [.retAddr 0, .retAddr 0, .retAddr 0, .retAddr 0], []) h (f186_177 h) (fun (q : Int32 × mH) (res : Option Value × mH) => res = (some (.int q.1), q.2)) := by
  unfold f186_177
  refine Seg.blk0 (f' := (178, [.retAddr 0, .retAddr 0, .retAddr 0, .retAddr 0], [.int 0])) (h' := h) rfl rfl ?_
  exact Seg.w (mLw.k (mLw.k (mLw.k (mLw.k mLw.nil)))) (s186_178 h 0)
theorem s186_235 (h : mH) (q0 : Int32) : Seg 186 (235, [.retAddr 0, .retAddr 0, .retAddr 0, .retAddr 0], [.int q0]) h (f186_235 h q0) (fun (q : Int32 × mH) (res : Option Value × mH) => res = (some (.int q.1), q.2)) := by
  unfold f186_235
  exact Seg.ret (f1 := (235, [.retAddr 0, .retAddr 0, .retAddr 0, .retAddr 0], [.int q0])) (h1 := h) rfl rfl rfl rfl (fun _ q => q)
theorem s186_234 (h : mH) : Seg 186 (234, [.retAddr 0, .retAddr 0, .retAddr 0, .retAddr 0], []) h (f186_234 h) (fun (q : Int32 × mH) (res : Option Value × mH) => res = (some (.int q.1), q.2)) := by
  unfold f186_234
  refine Seg.blk0 (f' := (235, [.retAddr 0, .retAddr 0, .retAddr 0, .retAddr 0], [.int 0])) (h' := h) rfl rfl ?_
  exact Seg.w (mLw.k (mLw.k (mLw.k (mLw.k mLw.nil)))) (s186_235 h 0)
theorem s186_110 (h : mH) (l0 : Nat) (l1 : Int64) : Seg 186 (110, [.ref l0, .long l1, .retAddr 0, .retAddr 0], []) h (f186_110 h l0 l1) (fun (q : Int32 × mH) (res : Option Value × mH) => res = (some (.int q.1), q.2)) := by
  unfold f186_110
  refine Seg.call (f1 := (111, [.ref l0, .long l1, .retAddr 0, .retAddr 0], [.ref l0])) (h1 := h) (cv := fun _ => none) rfl rfl rfl rfl (s183 h l0) (fun r17 => ?_)
  refine Seg.blk0 (f' := (if ((lg_cmp l1 465557352051) : Int32) = 0 then 122 else 127, [.ref l0, .long l1, .retAddr 0, .retAddr 0], [])) (h' := r17.2) rfl rfl ?_
  refine Seg.ite (fun _ => ?_) (fun _ => ?_)
  · refine Seg.call (f1 := (123, [.ref l0, .long l1, .retAddr 0, .retAddr 0], [.ref l0])) (h1 := r17.2) (cv := fun r => some (.int r)) rfl rfl rfl rfl (s194 r17.2 l0) (fun r18 => ?_)
    exact Seg.ret (f1 := (126, [.ref l0, .long l1, .retAddr 0, .retAddr 0], [.int r18.1])) (h1 := r18.2) rfl rfl rfl rfl (fun _ q => q)
  · refine Seg.blk0 (f' := (if ((lg_cmp l1 448377483891) : Int32) = 0 then 135 else 140, [.ref l0, .long l1, .retAddr 0, .retAddr 0], [])) (h' := r17.2) rfl rfl ?_
    refine Seg.ite (fun _ => ?_) (fun _ => ?_)
    · refine Seg.call (f1 := (136, [.ref l0, .long l1, .retAddr 0, .retAddr 0], [.ref l0])) (h1 := r17.2) (cv := fun r => some (.int r)) rfl rfl rfl rfl (s197 r17.2 l0) (fun r19 => ?_)
      exact Seg.ret (f1 := (139, [.ref l0, .long l1, .retAddr 0, .retAddr 0], [.int r19.1])) (h1 := r19.2) rfl rfl rfl rfl (fun _ q => q)
    · refine Seg.blk0 (f' := (if ((lg_cmp l1 1818324336) : Int32) = 0 then 148 else 179, [.ref l0, .long l1, .retAddr 0, .retAddr 0], [])) (h' := r17.2) rfl rfl ?_
      refine Seg.ite (fun _ => ?_) (fun _ => ?_)
      · refine Seg.call (f1 := (153, [.ref l0, .long l1, .retAddr 0, .retAddr 0], [.int 12, .int 1, .int 0, .ref l0])) (h1 := r17.2) (cv := fun r => some (.int r)) rfl rfl rfl rfl (s190 r17.2 l0 0 1 12) (fun r20 => ?_)
        refine Seg.blk0 (f' := (if (r20.1 : Int32) = 0 then 177 else 159, [.ref l0, .long l1, .retAddr 0, .retAddr 0], [])) (h' := r20.2) rfl rfl ?_
        refine Seg.ite (fun _ => ?_) (fun _ => ?_)
        · exact Seg.w (mLw.u (mLw.u (mLw.k (mLw.k mLw.nil)))) (s186_177 r20.2)
        · refine Seg.call (f1 := (167, [.ref l0, .long l1, .retAddr 0, .retAddr 0], [.int (mI r20.2 ((mR r20.2 l0 19).getD 0) (Int32.toNatClampNeg 0)), .int 2, .ref l0])) (h1 := r20.2) (cv := fun r => some (.int r)) rfl rfl rfl rfl (s198 r20.2 l0 2 (mI r20.2 ((mR r20.2 l0 19).getD 0) (Int32.toNatClampNeg 0))) (fun r21 => ?_)
          refine Seg.blk0 (f' := (if (r21.1 : Int32) = 0 then 177 else 173, [.ref l0, .long l1, .retAddr 0, .retAddr 0], [])) (h' := r21.2) rfl rfl ?_
          refine Seg.ite (fun _ => ?_) (fun _ => ?_)
          · exact Seg.w (mLw.u (mLw.u (mLw.k (mLw.k mLw.nil)))) (s186_177 r21.2)
          · refine Seg.blk0 (f' := (178, [.ref l0, .long l1, .retAddr 0, .retAddr 0], [.int 1])) (h' := r21.2) rfl rfl ?_
            exact Seg.w (mLw.u (mLw.u (mLw.k (mLw.k mLw.nil)))) (s186_178 r21.2 1)
      · refine Seg.call (f1 := (183, [.ref l0, .long l1, .retAddr 0, .retAddr 0], [.int 5, .int 0, .int 0, .ref l0])) (h1 := r17.2) (cv := fun r => some (.int r)) rfl rfl rfl rfl (s190 r17.2 l0 0 0 5) (fun r22 => ?_)
        refine Seg.blk0 (f' := (if (r22.1 : Int32) = 0 then 234 else 189, [.ref l0, .long l1, .retAddr 0, .retAddr 0], [])) (h' := r22.2) rfl rfl ?_
        refine Seg.ite (fun _ => ?_) (fun _ => ?_)
        · exact Seg.w (mLw.u (mLw.u (mLw.k (mLw.k mLw.nil)))) (s186_234 r22.2)
        · refine Seg.call (f1 := (194, [.ref l0, .long l1, .retAddr 0, .retAddr 0], [.int 9, .int 0, .int 1, .ref l0])) (h1 := r22.2) (cv := fun r => some (.int r)) rfl rfl rfl rfl (s190 r22.2 l0 1 0 9) (fun r23 => ?_)
          refine Seg.blk0 (f' := (if (r23.1 : Int32) = 0 then 234 else 200, [.ref l0, .long l1, .retAddr 0, .retAddr 0], [])) (h' := r23.2) rfl rfl ?_
          refine Seg.ite (fun _ => ?_) (fun _ => ?_)
          · exact Seg.w (mLw.u (mLw.u (mLw.k (mLw.k mLw.nil)))) (s186_234 r23.2)
          · refine Seg.callP (f1 := (211, [.ref l0, .long l1, .retAddr 0, .retAddr 0], [.int (mI r23.2 ((mR r23.2 l0 19).getD 0) (Int32.toNatClampNeg 0)), .int 5, .int 0, .int 27, .ref l0])) (h1 := r23.2) (cv := fun r => some (.int r)) rfl rfl rfl rfl (s195 r23.2 5 (mI r23.2 ((mR r23.2 l0 19).getD 0) (Int32.toNatClampNeg 0))) (fun r24 => ?_)
            refine Seg.callP (f1 := (214, [.ref l0, .long l1, .retAddr 0, .retAddr 0], [.int r24, .int 0, .int 27, .ref l0])) (h1 := r23.2) (cv := fun r => some (.int r)) rfl rfl rfl rfl (s196 r23.2 0 r24) (fun r25 => ?_)
            refine Seg.call (f1 := (224, [.ref l0, .long l1, .retAddr 0, .retAddr 0], [.int (mI r23.2 ((mR r23.2 l0 19).getD 0) (Int32.toNatClampNeg 1)), .int (27 + r25), .ref l0])) (h1 := r23.2) (cv := fun r => some (.int r)) rfl rfl rfl rfl (s198 r23.2 l0 (27 + r25) (mI r23.2 ((mR r23.2 l0 19).getD 0) (Int32.toNatClampNeg 1))) (fun r26 => ?_)
            refine Seg.blk0 (f' := (if (r26.1 : Int32) = 0 then 234 else 230, [.ref l0, .long l1, .retAddr 0, .retAddr 0], [])) (h' := r26.2) rfl rfl ?_
            refine Seg.ite (fun _ => ?_) (fun _ => ?_)
            · exact Seg.w (mLw.u (mLw.u (mLw.k (mLw.k mLw.nil)))) (s186_234 r26.2)
            · refine Seg.blk0 (f' := (235, [.ref l0, .long l1, .retAddr 0, .retAddr 0], [.int 1])) (h' := r26.2) rfl rfl ?_
              exact Seg.w (mLw.u (mLw.u (mLw.k (mLw.k mLw.nil)))) (s186_235 r26.2 1)
theorem s186 (h : mH) (l0 : Nat) (l1 : Int64) (l3 : Int32) : Seg 186 (0, [.ref l0, .long l1, .retAddr 0, .int l3], []) h (f186 h l0 l1 l3) (fun (q : Int32 × mH) (res : Option Value × mH) => res = (some (.int q.1), q.2)) := by
  unfold f186
  refine Seg.blk0 (f' := (if ((lg_cmp l1 27980790402147698) : Int32) = 0 then 16 else 8, [.ref l0, .long l1, .retAddr 0, .int l3], [])) (h' := h) rfl rfl ?_
  refine Seg.ite (fun _ => ?_) (fun _ => ?_)
  · exact Seg.w (mLw.k (mLw.k (mLw.k (mLw.k mLw.nil)))) (s186_16 h l0 l1 l3)
  · refine Seg.blk0 (f' := (if ((lg_cmp l1 123581014175598) : Int32) = 0 then 16 else 73, [.ref l0, .long l1, .retAddr 0, .int l3], [])) (h' := h) rfl rfl ?_
    refine Seg.ite (fun _ => ?_) (fun _ => ?_)
    · exact Seg.w (mLw.k (mLw.k (mLw.k (mLw.k mLw.nil)))) (s186_16 h l0 l1 l3)
    · refine Seg.blk0 (f' := (if ((lg_cmp l1 465557352051) : Int32) = 0 then 110 else 81, [.ref l0, .long l1, .retAddr 0, .int l3], [])) (h' := h) rfl rfl ?_
      refine Seg.ite (fun _ => ?_) (fun _ => ?_)
      · exact Seg.w (mLw.k (mLw.k (mLw.k (mLw.u mLw.nil)))) (s186_110 h l0 l1)
      · refine Seg.blk0 (f' := (if ((lg_cmp l1 465625113971) : Int32) = 0 then 110 else 89, [.ref l0, .long l1, .retAddr 0, .int l3], [])) (h' := h) rfl rfl ?_
        refine Seg.ite (fun _ => ?_) (fun _ => ?_)
        · exact Seg.w (mLw.k (mLw.k (mLw.k (mLw.u mLw.nil)))) (s186_110 h l0 l1)
        · refine Seg.blk0 (f' := (if ((lg_cmp l1 1818324336) : Int32) = 0 then 110 else 97, [.ref l0, .long l1, .retAddr 0, .int l3], [])) (h' := h) rfl rfl ?_
          refine Seg.ite (fun _ => ?_) (fun _ => ?_)
          · exact Seg.w (mLw.k (mLw.k (mLw.k (mLw.u mLw.nil)))) (s186_110 h l0 l1)
          · refine Seg.blk0 (f' := (if ((lg_cmp l1 448377483891) : Int32) = 0 then 110 else 105, [.ref l0, .long l1, .retAddr 0, .int l3], [])) (h' := h) rfl rfl ?_
            refine Seg.ite (fun _ => ?_) (fun _ => ?_)
            · exact Seg.w (mLw.k (mLw.k (mLw.k (mLw.u mLw.nil)))) (s186_110 h l0 l1)
            · refine Seg.call (f1 := (106, [.ref l0, .long l1, .retAddr 0, .int l3], [.ref l0])) (h1 := h) (cv := fun r => some (.int r)) rfl rfl rfl rfl (s192 h l0) (fun r27 => ?_)
              exact Seg.ret (f1 := (109, [.ref l0, .long l1, .retAddr 0, .int l3], [.int r27.1])) (h1 := r27.2) rfl rfl rfl rfl (fun _ q => q)
theorem s200_16 (l0 : Nat) (l1 : Int32) (l3 : Int32) : ∀ (n : Nat) (s : (Int32 × mH)), Seg 200 (16, [.ref l0, .int l1, .retAddr 0, .int l3, .int s.1], []) s.2 (mLoop (f200_16 l0 l1 l3) n s) (fun (q : Unit × mH) (res : Option Value × mH) => res = (none, q.2)) := by
  refine Seg.loop (F := fun s : (Int32 × mH) => (16, [.ref l0, .int l1, .retAddr 0, .int l3, .int s.1], [])) (H := fun s : (Int32 × mH) => s.2) (fun s => ?_)
  show Seg 200 (16, [.ref l0, .int l1, .retAddr 0, .int l3, .int s.1], []) s.2 _ (Sum.elim (fun s : (Int32 × mH) => Ev 200 (16, [.ref l0, .int l1, .retAddr 0, .int l3, .int s.1], []) s.2) (fun (q : Unit × mH) (res : Option Value × mH) => res = (none, q.2)))
  unfold f200_16
  refine Seg.blk0 (f' := (if (l1 : Int32) ≤ s.1 then 48 else 22, [.ref l0, .int l1, .retAddr 0, .int l3, .int s.1], [])) (h' := s.2) rfl rfl ?_
  refine Seg.ite (fun _ => ?_) (fun _ => ?_)
  · refine Seg.x ?_
    refine Seg.blk (f' := (58, [.ref l0, .int l1, .retAddr 0, .int l3, .int s.1], [])) (h' := (mSI s.2 ((mR s.2 l0 18).getD 0) (Int32.toNatClampNeg 0) ((mI s.2 ((mR s.2 l0 18).getD 0) (Int32.toNatClampNeg 0)) + 1))) rfl rfl ?_
    exact Seg.ret (f1 := (58, [.ref l0, .int l1, .retAddr 0, .int l3, .int s.1], [])) (h1 := (mSI s.2 ((mR s.2 l0 18).getD 0) (Int32.toNatClampNeg 0) ((mI s.2 ((mR s.2 l0 18).getD 0) (Int32.toNatClampNeg 0)) + 1))) rfl rfl rfl rfl (fun _ q => q)
  · refine Seg.blk (f' := (42, [.ref l0, .int l1, .retAddr 0, .int l3, .int s.1], [])) (h' := (mSI s.2 ((mR s.2 l0 18).getD 0) (Int32.toNatClampNeg ((1 + (l1 * l3)) + s.1)) (mI s.2 ((mR s.2 l0 19).getD 0) (Int32.toNatClampNeg s.1)))) rfl rfl ?_
    refine Seg.blk0 (f' := (16, [.ref l0, .int l1, .retAddr 0, .int l3, .int (s.1 + 1)], [])) (h' := (mSI s.2 ((mR s.2 l0 18).getD 0) (Int32.toNatClampNeg ((1 + (l1 * l3)) + s.1)) (mI s.2 ((mR s.2 l0 19).getD 0) (Int32.toNatClampNeg s.1)))) rfl rfl ?_
    exact Seg.cont (fun _ q => Ev.w (mLw.k (mLw.k (mLw.k (mLw.k (mLw.k mLw.nil))))) q)
theorem s200 (h : mH) (l0 : Nat) (l1 : Int32) (l2 : Int32) : Seg 200 (0, [.ref l0, .int l1, .int l2, .retAddr 0, .retAddr 0], []) h (f200 h l0 l1 l2) (fun (q : Unit × mH) (res : Option Value × mH) => res = (none, q.2)) := by
  unfold f200
  refine Seg.blk (f' := (if ((mI h ((mR h l0 18).getD 0) (Int32.toNatClampNeg 0)) : Int32) = l2 then 12 else 13, [.ref l0, .int l1, .int l2, .int (mI h ((mR h l0 18).getD 0) (Int32.toNatClampNeg 0)), .retAddr 0], [])) (h' := h) rfl rfl ?_
  refine Seg.ite (fun _ => ?_) (fun _ => ?_)
  · exact Seg.ret (f1 := (12, [.ref l0, .int l1, .int l2, .int (mI h ((mR h l0 18).getD 0) (Int32.toNatClampNeg 0)), .retAddr 0], [])) (h1 := h) rfl rfl rfl rfl (fun _ q => q)
  · refine Seg.blk0 (f' := (16, [.ref l0, .int l1, .int l2, .int (mI h ((mR h l0 18).getD 0) (Int32.toNatClampNeg 0)), .int 0], [])) (h' := h) rfl rfl ?_
    exact Seg.w (mLw.k (mLw.k (mLw.u (mLw.k (mLw.k mLw.nil))))) (s200_16 l0 l1 (mI h ((mR h l0 18).getD 0) (Int32.toNatClampNeg 0)) mFuel (0, h))
theorem s199_182 (h : mH) (l5 : Int32) : Seg 199 (182, [.retAddr 0, .retAddr 0, .retAddr 0, .retAddr 0, .retAddr 0, .int l5], []) h (f199_182 h l5) (fun (q : Int32 × mH) (res : Option Value × mH) => res = (some (.int q.1), q.2)) := by
  unfold f199_182
  exact Seg.ret (f1 := (184, [.retAddr 0, .retAddr 0, .retAddr 0, .retAddr 0, .retAddr 0, .int l5], [.int l5])) (h1 := h) rfl rfl rfl rfl (fun _ q => q)
theorem s199_160 (h : mH) (l0 : Nat) (l4 : Int32) (q0 : Int32) : Seg 199 (160, [.ref l0, .retAddr 0, .retAddr 0, .retAddr 0, .int l4, .retAddr 0], [.int q0]) h (f199_160 h l0 l4 q0) (fun (q : Int32 × mH) (res : Option Value × mH) => res = (some (.int q.1), q.2)) := by
  unfold f199_160
  refine Seg.blk0 (f' := (if (q0 : Int32) = 0 then 182 else 167, [.ref l0, .retAddr 0, .retAddr 0, .retAddr 0, .int l4, .int q0], [])) (h' := h) rfl rfl ?_
  refine Seg.ite (fun _ => ?_) (fun _ => ?_)
  · exact Seg.w (mLw.u (mLw.k (mLw.k (mLw.k (mLw.u (mLw.k mLw.nil)))))) (s199_182 h q0)
  · refine Seg.blk (f' := (175, [.ref l0, .retAddr 0, .retAddr 0, .retAddr 0, .int l4, .int q0], [])) (h' := (mSI h ((mR h l0 19).getD 0) (Int32.toNatClampNeg 0) l4)) rfl rfl ?_
    refine Seg.call (f1 := (179, [.ref l0, .retAddr 0, .retAddr 0, .retAddr 0, .int l4, .int q0], [.int 40, .int 3, .ref l0])) (h1 := (mSI h ((mR h l0 19).getD 0) (Int32.toNatClampNeg 0) l4)) (cv := fun _ => none) rfl rfl rfl rfl (s200 (mSI h ((mR h l0 19).getD 0) (Int32.toNatClampNeg 0) l4) l0 3 40) (fun r4 => ?_)
    exact Seg.w (mLw.u (mLw.k (mLw.k (mLw.k (mLw.u (mLw.k mLw.nil)))))) (s199_182 r4.2 q0)
theorem s199_155 (h : mH) (l0 : Nat) (l4 : Int32) : Seg 199 (155, [.ref l0, .retAddr 0, .retAddr 0, .retAddr 0, .int l4, .retAddr 0], []) h (f199_155 h l0 l4) (fun (q : Int32 × mH) (res : Option Value × mH) => res = (some (.int q.1), q.2)) := by
  unfold f199_155
  refine Seg.blk0 (f' := (160, [.ref l0, .retAddr 0, .retAddr 0, .retAddr 0, .int l4, .retAddr 0], [.int 1])) (h' := h) rfl rfl ?_
  exact Seg.w (mLw.k (mLw.k (mLw.k (mLw.k (mLw.k (mLw.k mLw.nil)))))) (s199_160 h l0 l4 1)
theorem s199_159 (h : mH) (l0 : Nat) (l4 : Int32) : Seg 199 (159, [.ref l0, .retAddr 0, .retAddr 0, .retAddr 0, .int l4, .retAddr 0], []) h (f199_159 h l0 l4) (fun (q : Int32 × mH) (res : Option Value × mH) => res = (some (.int q.1), q.2)) := by
  unfold f199_159
  refine Seg.blk0 (f' := (160, [.ref l0, .retAddr 0, .retAddr 0, .retAddr 0, .int l4, .retAddr 0], [.int 0])) (h' := h) rfl rfl ?_
  exact Seg.w (mLw.k (mLw.k (mLw.k (mLw.k (mLw.k (mLw.k mLw.nil)))))) (s199_160 h l0 l4 0)
theorem s199_73 (h : mH) (l0 : Nat) (l3 : Int32) (q0 : Int32) : Seg 199 (73, [.ref l0, .retAddr 0, .retAddr 0, .int l3, .retAddr 0, .retAddr 0], [.int q0]) h (f199_73 h l0 l3 q0) (fun (q : Int32 × mH) (res : Option Value × mH) => res = (some (.int q.1), q.2)) := by
  unfold f199_73
  refine Seg.blk0 (f' := (if (q0 : Int32) = (-1) then 81 else 86, [.ref l0, .retAddr 0, .retAddr 0, .int l3, .int q0, .retAddr 0], [])) (h' := h) rfl rfl ?_
  refine Seg.ite (fun _ => ?_) (fun _ => ?_)
  · refine Seg.call (f1 := (82, [.ref l0, .retAddr 0, .retAddr 0, .int l3, .int q0, .retAddr 0], [.ref l0])) (h1 := h) (cv := fun r => some (.int r)) rfl rfl rfl rfl (s192 h l0) (fun r1 => ?_)
    exact Seg.ret (f1 := (85, [.ref l0, .retAddr 0, .retAddr 0, .int l3, .int q0, .retAddr 0], [.int r1.1])) (h1 := r1.2) rfl rfl rfl rfl (fun _ q => q)
  · refine Seg.call (f1 := (91, [.ref l0, .retAddr 0, .retAddr 0, .int l3, .int q0, .retAddr 0], [.int l3, .int 40, .int 0, .ref l0])) (h1 := h) (cv := fun _ => none) rfl rfl rfl rfl (s187 h l0 0 40 l3) (fun r2 => ?_)
    refine Seg.call (f1 := (95, [.ref l0, .retAddr 0, .retAddr 0, .int l3, .int q0, .retAddr 0], [.ref l0])) (h1 := r2.2) (cv := fun _ => none) rfl rfl rfl rfl (s183 r2.2 l0) (fun r3 => ?_)
    refine Seg.blk (f' := (105, [.ref l0, .retAddr 0, .retAddr 0, .int l3, .int q0, .retAddr 0], [])) (h' := (mSI r3.2 ((mR r3.2 l0 19).getD 0) (Int32.toNatClampNeg 1) (-1))) rfl rfl ?_
    refine Seg.blk (f' := (112, [.ref l0, .retAddr 0, .retAddr 0, .int l3, .int q0, .retAddr 0], [])) (h' := (mSI (mSI r3.2 ((mR r3.2 l0 19).getD 0) (Int32.toNatClampNeg 1) (-1)) ((mR r3.2 l0 19).getD 0) (Int32.toNatClampNeg 2) (-1))) rfl rfl ?_
    refine Seg.blk0 (f' := (if (4 : Int32) ≤ q0 then 155 else 118, [.ref l0, .retAddr 0, .retAddr 0, .int l3, .int q0, .retAddr 0], [])) (h' := (mSI (mSI r3.2 ((mR r3.2 l0 19).getD 0) (Int32.toNatClampNeg 1) (-1)) ((mR r3.2 l0 19).getD 0) (Int32.toNatClampNeg 2) (-1))) rfl rfl ?_
    refine Seg.ite (fun _ => ?_) (fun _ => ?_)
    · exact Seg.w (mLw.k (mLw.k (mLw.k (mLw.u (mLw.k (mLw.k mLw.nil)))))) (s199_155 (mSI (mSI r3.2 ((mR r3.2 l0 19).getD 0) (Int32.toNatClampNeg 1) (-1)) ((mR r3.2 l0 19).getD 0) (Int32.toNatClampNeg 2) (-1)) l0 q0)
    · refine Seg.blk0 (f' := (if (q0 : Int32) = 2 then 127 else 131, [.ref l0, .retAddr 0, .retAddr 0, .int l3, .int q0, .retAddr 0], [.int 0, .int 1, .ref l0])) (h' := (mSI (mSI r3.2 ((mR r3.2 l0 19).getD 0) (Int32.toNatClampNeg 1) (-1)) ((mR r3.2 l0 19).getD 0) (Int32.toNatClampNeg 2) (-1))) rfl rfl ?_
      refine Seg.ite (fun _ => ?_) (fun _ => ?_)
      · refine Seg.blk0 (f' := (133, [.ref l0, .retAddr 0, .retAddr 0, .int l3, .int q0, .retAddr 0], [.int 5, .int 0, .int 1, .ref l0])) (h' := (mSI (mSI r3.2 ((mR r3.2 l0 19).getD 0) (Int32.toNatClampNeg 1) (-1)) ((mR r3.2 l0 19).getD 0) (Int32.toNatClampNeg 2) (-1))) rfl rfl ?_
        refine Seg.call (f1 := (133, [.ref l0, .retAddr 0, .retAddr 0, .int l3, .int q0, .retAddr 0], [.int 5, .int 0, .int 1, .ref l0])) (h1 := (mSI (mSI r3.2 ((mR r3.2 l0 19).getD 0) (Int32.toNatClampNeg 1) (-1)) ((mR r3.2 l0 19).getD 0) (Int32.toNatClampNeg 2) (-1))) (cv := fun r => some (.int r)) rfl rfl rfl rfl (s190 (mSI (mSI r3.2 ((mR r3.2 l0 19).getD 0) (Int32.toNatClampNeg 1) (-1)) ((mR r3.2 l0 19).getD 0) (Int32.toNatClampNeg 2) (-1)) l0 1 0 5) (fun r5 => ?_)
        refine Seg.blk0 (f' := (if (r5.1 : Int32) = 0 then 159 else 139, [.ref l0, .retAddr 0, .retAddr 0, .int l3, .int q0, .retAddr 0], [])) (h' := r5.2) rfl rfl ?_
        refine Seg.ite (fun _ => ?_) (fun _ => ?_)
        · exact Seg.w (mLw.k (mLw.k (mLw.k (mLw.u (mLw.k (mLw.k mLw.nil)))))) (s199_159 r5.2 l0 q0)
        · refine Seg.blk0 (f' := (if (q0 : Int32) = 3 then 145 else 155, [.ref l0, .retAddr 0, .retAddr 0, .int l3, .int q0, .retAddr 0], [])) (h' := r5.2) rfl rfl ?_
          refine Seg.ite (fun _ => ?_) (fun _ => ?_)
          · refine Seg.call (f1 := (149, [.ref l0, .retAddr 0, .retAddr 0, .int l3, .int q0, .retAddr 0], [.int 5, .int 0, .int 2, .ref l0])) (h1 := r5.2) (cv := fun r => some (.int r)) rfl rfl rfl rfl (s190 r5.2 l0 2 0 5) (fun r6 => ?_)
            refine Seg.blk0 (f' := (if (r6.1 : Int32) = 0 then 159 else 155, [.ref l0, .retAddr 0, .retAddr 0, .int l3, .int q0, .retAddr 0], [])) (h' := r6.2) rfl rfl ?_
            refine Seg.ite (fun _ => ?_) (fun _ => ?_)
            · exact Seg.w (mLw.k (mLw.k (mLw.k (mLw.u (mLw.k (mLw.k mLw.nil)))))) (s199_159 r6.2 l0 q0)
            · exact Seg.w (mLw.k (mLw.k (mLw.k (mLw.u (mLw.k (mLw.k mLw.nil)))))) (s199_155 r6.2 l0 q0)
          · exact Seg.w (mLw.k (mLw.k (mLw.k (mLw.u (mLw.k (mLw.k mLw.nil)))))) (s199_155 r5.2 l0 q0)
      · refine Seg.blk0 (f' := (133, [.ref l0, .retAddr 0, .retAddr 0, .int l3, .int q0, .retAddr 0], [.int 7, .int 0, .int 1, .ref l0])) (h' := (mSI (mSI r3.2 ((mR r3.2 l0 19).getD 0) (Int32.toNatClampNeg 1) (-1)) ((mR r3.2 l0 19).getD 0) (Int32.toNatClampNeg 2) (-1))) rfl rfl ?_
        refine Seg.call (f1 := (133, [.ref l0, .retAddr 0, .retAddr 0, .int l3, .int q0, .retAddr 0], [.int 7, .int 0, .int 1, .ref l0])) (h1 := (mSI (mSI r3.2 ((mR r3.2 l0 19).getD 0) (Int32.toNatClampNeg 1) (-1)) ((mR r3.2 l0 19).getD 0) (Int32.toNatClampNeg 2) (-1))) (cv := fun r => some (.int r)) rfl rfl rfl rfl (s190 (mSI (mSI r3.2 ((mR r3.2 l0 19).getD 0) (Int32.toNatClampNeg 1) (-1)) ((mR r3.2 l0 19).getD 0) (Int32.toNatClampNeg 2) (-1)) l0 1 0 7) (fun r7 => ?_)
        refine Seg.blk0 (f' := (if (r7.1 : Int32) = 0 then 159 else 139, [.ref l0, .retAddr 0, .retAddr 0, .int l3, .int q0, .retAddr 0], [])) (h' := r7.2) rfl rfl ?_
        refine Seg.ite (fun _ => ?_) (fun _ => ?_)
        · exact Seg.w (mLw.k (mLw.k (mLw.k (mLw.u (mLw.k (mLw.k mLw.nil)))))) (s199_159 r7.2 l0 q0)
        · refine Seg.blk0 (f' := (if (q0 : Int32) = 3 then 145 else 155, [.ref l0, .retAddr 0, .retAddr 0, .int l3, .int q0, .retAddr 0], [])) (h' := r7.2) rfl rfl ?_
          refine Seg.ite (fun _ => ?_) (fun _ => ?_)
          · refine Seg.call (f1 := (149, [.ref l0, .retAddr 0, .retAddr 0, .int l3, .int q0, .retAddr 0], [.int 5, .int 0, .int 2, .ref l0])) (h1 := r7.2) (cv := fun r => some (.int r)) rfl rfl rfl rfl (s190 r7.2 l0 2 0 5) (fun r8 => ?_)
            refine Seg.blk0 (f' := (if (r8.1 : Int32) = 0 then 159 else 155, [.ref l0, .retAddr 0, .retAddr 0, .int l3, .int q0, .retAddr 0], [])) (h' := r8.2) rfl rfl ?_
            refine Seg.ite (fun _ => ?_) (fun _ => ?_)
            · exact Seg.w (mLw.k (mLw.k (mLw.k (mLw.u (mLw.k (mLw.k mLw.nil)))))) (s199_159 r8.2 l0 q0)
            · exact Seg.w (mLw.k (mLw.k (mLw.k (mLw.u (mLw.k (mLw.k mLw.nil)))))) (s199_155 r8.2 l0 q0)
          · exact Seg.w (mLw.k (mLw.k (mLw.k (mLw.u (mLw.k (mLw.k mLw.nil)))))) (s199_155 r7.2 l0 q0)
theorem s199 (h : mH) (l0 : Nat) (l1 : Int64) (l3 : Int32) : Seg 199 (0, [.ref l0, .long l1, .retAddr 0, .int l3, .retAddr 0, .retAddr 0], []) h (f199 h l0 l1 l3) (fun (q : Int32 × mH) (res : Option Value × mH) => res = (some (.int q.1), q.2)) := by
  unfold f199
  refine Seg.blk0 (f' := (if ((lg_cmp l1 1919246692) : Int32) = 0 then 8 else 12, [.ref l0, .long l1, .retAddr 0, .int l3, .retAddr 0, .retAddr 0], [])) (h' := h) rfl rfl ?_
  refine Seg.ite (fun _ => ?_) (fun _ => ?_)
  · refine Seg.blk0 (f' := (73, [.ref l0, .long l1, .retAddr 0, .int l3, .retAddr 0, .retAddr 0], [.int 0])) (h' := h) rfl rfl ?_
    exact Seg.w (mLw.k (mLw.u (mLw.k (mLw.k (mLw.k (mLw.k mLw.nil)))))) (s199_73 h l0 l3 0)
  · refine Seg.blk0 (f' := (if ((lg_cmp l1 1936419184) : Int32) = 0 then 20 else 24, [.ref l0, .long l1, .retAddr 0, .int l3, .retAddr 0, .retAddr 0], [])) (h' := h) rfl rfl ?_
    refine Seg.ite (fun _ => ?_) (fun _ => ?_)
    · refine Seg.blk0 (f' := (73, [.ref l0, .long l1, .retAddr 0, .int l3, .retAddr 0, .retAddr 0], [.int 1])) (h' := h) rfl rfl ?_
      exact Seg.w (mLw.k (mLw.u (mLw.k (mLw.k (mLw.k (mLw.k mLw.nil)))))) (s199_73 h l0 l3 1)
    · refine Seg.blk0 (f' := (if ((lg_cmp l1 7367013) : Int32) = 0 then 32 else 36, [.ref l0, .long l1, .retAddr 0, .int l3, .retAddr 0, .retAddr 0], [])) (h' := h) rfl rfl ?_
      refine Seg.ite (fun _ => ?_) (fun _ => ?_)
      · refine Seg.blk0 (f' := (73, [.ref l0, .long l1, .retAddr 0, .int l3, .retAddr 0, .retAddr 0], [.int 2])) (h' := h) rfl rfl ?_
        exact Seg.w (mLw.k (mLw.u (mLw.k (mLw.k (mLw.k (mLw.k mLw.nil)))))) (s199_73 h l0 l3 2)
      · refine Seg.blk0 (f' := (if ((lg_cmp l1 1952803948) : Int32) = 0 then 44 else 48, [.ref l0, .long l1, .retAddr 0, .int l3, .retAddr 0, .retAddr 0], [])) (h' := h) rfl rfl ?_
        refine Seg.ite (fun _ => ?_) (fun _ => ?_)
        · refine Seg.blk0 (f' := (73, [.ref l0, .long l1, .retAddr 0, .int l3, .retAddr 0, .retAddr 0], [.int 3])) (h' := h) rfl rfl ?_
          exact Seg.w (mLw.k (mLw.u (mLw.k (mLw.k (mLw.k (mLw.k mLw.nil)))))) (s199_73 h l0 l3 3)
        · refine Seg.blk0 (f' := (if ((lg_cmp l1 1668246628) : Int32) = 0 then 56 else 60, [.ref l0, .long l1, .retAddr 0, .int l3, .retAddr 0, .retAddr 0], [])) (h' := h) rfl rfl ?_
          refine Seg.ite (fun _ => ?_) (fun _ => ?_)
          · refine Seg.blk0 (f' := (73, [.ref l0, .long l1, .retAddr 0, .int l3, .retAddr 0, .retAddr 0], [.int 4])) (h' := h) rfl rfl ?_
            exact Seg.w (mLw.k (mLw.u (mLw.k (mLw.k (mLw.k (mLw.k mLw.nil)))))) (s199_73 h l0 l3 4)
          · refine Seg.blk0 (f' := (if ((lg_cmp l1 6578553) : Int32) = 0 then 68 else 72, [.ref l0, .long l1, .retAddr 0, .int l3, .retAddr 0, .retAddr 0], [])) (h' := h) rfl rfl ?_
            refine Seg.ite (fun _ => ?_) (fun _ => ?_)
            · refine Seg.blk0 (f' := (73, [.ref l0, .long l1, .retAddr 0, .int l3, .retAddr 0, .retAddr 0], [.int 5])) (h' := h) rfl rfl ?_
              exact Seg.w (mLw.k (mLw.u (mLw.k (mLw.k (mLw.k (mLw.k mLw.nil)))))) (s199_73 h l0 l3 5)
            · refine Seg.blk0 (f' := (73, [.ref l0, .long l1, .retAddr 0, .int l3, .retAddr 0, .retAddr 0], [.int (-1)])) (h' := h) rfl rfl ?_
              exact Seg.w (mLw.k (mLw.u (mLw.k (mLw.k (mLw.k (mLw.k mLw.nil)))))) (s199_73 h l0 l3 (-1))
