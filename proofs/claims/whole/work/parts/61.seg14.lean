/-! The small machine runs the programs; printed by a program of ours. -/
theorem s295_51 (h : mH) (q0 : Int64) : Seg 295 (51, [.retAddr 0, .retAddr 0, .retAddr 0, .retAddr 0, .retAddr 0], [.long q0]) h (f295_51 h q0) (fun (q : Int64 × mH) (res : Option Value × mH) => res = (some (.long q.1), q.2)) := by
  unfold f295_51
  exact Seg.ret (f1 := (51, [.retAddr 0, .retAddr 0, .retAddr 0, .retAddr 0, .retAddr 0], [.long q0])) (h1 := h) rfl rfl rfl rfl (fun _ q => q)
theorem s295_48 (h : mH) : Seg 295 (48, [.retAddr 0, .retAddr 0, .retAddr 0, .retAddr 0, .retAddr 0], []) h (f295_48 h) (fun (q : Int64 × mH) (res : Option Value × mH) => res = (some (.long q.1), q.2)) := by
  unfold f295_48
  refine Seg.blk0 (f' := (51, [.retAddr 0, .retAddr 0, .retAddr 0, .retAddr 0, .retAddr 0], [.long (-1)])) (h' := h) rfl rfl ?_
  exact Seg.w (mLw.k (mLw.k (mLw.k (mLw.k (mLw.k mLw.nil))))) (s295_51 h (-1))
theorem s295 (h : mH) (l0 : Nat) (l1 : Int32) (l2 : Int32) (l3 : Int32) (l4 : Int32) : Seg 295 (0, [.ref l0, .int l1, .int l2, .int l3, .int l4], []) h (f295 h l0 l1 l2 l3 l4) (fun (q : Int64 × mH) (res : Option Value × mH) => res = (some (.long q.1), q.2)) := by
  unfold f295
  refine Seg.blk (f' := (5, [.ref l0, .int l1, .int l2, .int l3, .int l4], [])) (h' := (mSI h l0 0 0)) rfl rfl ?_
  refine Seg.call (f1 := (8, [.ref l0, .int l1, .int l2, .int l3, .int l4], [.int l2, .int l1, .ref l0])) (h1 := (mSI h l0 0 0)) (cv := fun r => some (.int r)) rfl rfl rfl rfl (s262 (mSI h l0 0 0) l0 l1 l2) (fun r1 => ?_)
  refine Seg.blk0 (f' := (if (r1.1 : Int32) = 0 then 48 else 14, [.ref l0, .int l1, .int l2, .int l3, .int l4], [])) (h' := r1.2) rfl rfl ?_
  refine Seg.ite (fun _ => ?_) (fun _ => ?_)
  · exact Seg.w (mLw.u (mLw.u (mLw.u (mLw.u (mLw.u mLw.nil))))) (s295_48 r1.2)
  · refine Seg.callP (f1 := (16, [.ref l0, .int l1, .int l2, .int l3, .int l4], [.int l3, .ref l0])) (h1 := r1.2) (cv := fun r => some (.int r)) rfl rfl rfl rfl (s226 r1.2 l0 l3) (fun r2 => ?_)
    refine Seg.blk0 (f' := (if (r2 : Int32) = 0 then 48 else 22, [.ref l0, .int l1, .int l2, .int l3, .int l4], [])) (h' := r1.2) rfl rfl ?_
    refine Seg.ite (fun _ => ?_) (fun _ => ?_)
    · exact Seg.w (mLw.u (mLw.u (mLw.u (mLw.u (mLw.u mLw.nil))))) (s295_48 r1.2)
    · refine Seg.blk (f' := (if ((mI r1.2 l0 43) : Int32) ≤ 0 then 48 else 29, [.ref l0, .int l1, .int l2, .int l3, .int l4], [])) (h' := r1.2) rfl rfl ?_
      refine Seg.ite (fun _ => ?_) (fun _ => ?_)
      · exact Seg.w (mLw.u (mLw.u (mLw.u (mLw.u (mLw.u mLw.nil))))) (s295_48 r1.2)
      · refine Seg.callP (f1 := (31, [.ref l0, .int l1, .int l2, .int l3, .int l4], [.int l3, .ref l0])) (h1 := r1.2) (cv := fun r => some (.int r)) rfl rfl rfl rfl (s266 r1.2 l0 l3) (fun r3 => ?_)
        refine Seg.callP (f1 := (42, [.ref l0, .int l1, .int l2, .int l3, .int l4], [.int l4, .long (Int32.toInt64 (mI r1.2 l0 43)), .long (Int32.toInt64 r3)])) (h1 := r1.2) (cv := fun r => some (.long r)) rfl rfl rfl rfl (s255 r1.2 (Int32.toInt64 r3) (Int32.toInt64 (mI r1.2 l0 43)) l4) (fun r4 => ?_)
        refine Seg.blk0 (f' := (51, [.ref l0, .int l1, .int l2, .int l3, .int l4], [.long r4])) (h' := r1.2) rfl rfl ?_
        exact Seg.w (mLw.u (mLw.u (mLw.u (mLw.u (mLw.u mLw.nil))))) (s295_51 r1.2 r4)
theorem s296_21 (h : mH) : Seg 296 (21, [.retAddr 0, .retAddr 0, .retAddr 0, .retAddr 0, .retAddr 0, .retAddr 0], []) h (f296_21 h) (fun (q : Int32 × mH) (res : Option Value × mH) => res = (some (.int q.1), q.2)) := by
  unfold f296_21
  exact Seg.ret (f1 := (22, [.retAddr 0, .retAddr 0, .retAddr 0, .retAddr 0, .retAddr 0, .retAddr 0], [.int (-1)])) (h1 := h) rfl rfl rfl rfl (fun _ q => q)
theorem s296_83 (h : mH) (l0 : Nat) (l3 : Int32) (l5 : Int32) (q0 : Int32) : Seg 296 (83, [.ref l0, .retAddr 0, .retAddr 0, .int l3, .retAddr 0, .int l5], [.int q0]) h (f296_83 h l0 l3 l5 q0) (Sum.elim (fun s : (Int32 × Int32) => Ev 296 (37, [.ref l0, .retAddr 0, .retAddr 0, .int l3, .int s.1, .int s.2], []) h) (fun (q : Int32 × mH) (res : Option Value × mH) => res = (some (.int q.1), q.2))) := by
  unfold f296_83
  refine Seg.blk0 (f' := (37, [.ref l0, .retAddr 0, .retAddr 0, .int l3, .int q0, .int (l5 + 1)], [])) (h' := h) rfl rfl ?_
  exact Seg.cont (fun _ q => Ev.w (mLw.k (mLw.k (mLw.k (mLw.k (mLw.k (mLw.k mLw.nil)))))) q)
theorem s296_37 (h : mH) (l0 : Nat) (l3 : Int32) : ∀ (n : Nat) (s : (Int32 × Int32)), Seg 296 (37, [.ref l0, .retAddr 0, .retAddr 0, .int l3, .int s.1, .int s.2], []) h (mLoop (f296_37 h l0 l3) n s) (fun (q : Int32 × mH) (res : Option Value × mH) => res = (some (.int q.1), q.2)) := by
  refine Seg.loop (F := fun s : (Int32 × Int32) => (37, [.ref l0, .retAddr 0, .retAddr 0, .int l3, .int s.1, .int s.2], [])) (H := fun s : (Int32 × Int32) => h) (fun s => ?_)
  show Seg 296 (37, [.ref l0, .retAddr 0, .retAddr 0, .int l3, .int s.1, .int s.2], []) h _ (Sum.elim (fun s : (Int32 × Int32) => Ev 296 (37, [.ref l0, .retAddr 0, .retAddr 0, .int l3, .int s.1, .int s.2], []) h) (fun (q : Int32 × mH) (res : Option Value × mH) => res = (some (.int q.1), q.2)))
  unfold f296_37
  refine Seg.blk (f' := (if ((mI h l0 43) : Int32) ≤ s.2 then 91 else 46, [.ref l0, .retAddr 0, .retAddr 0, .int l3, .int s.1, .int s.2], [])) (h' := h) rfl rfl ?_
  refine Seg.ite (fun _ => ?_) (fun _ => ?_)
  · refine Seg.x ?_
    exact Seg.ret (f1 := (93, [.ref l0, .retAddr 0, .retAddr 0, .int l3, .int s.1, .int s.2], [.int s.1])) (h1 := h) rfl rfl rfl rfl (fun _ q => q)
  · refine Seg.blk0 (f' := (if (l3 : Int32) = 0 then 68 else 50, [.ref l0, .retAddr 0, .retAddr 0, .int l3, .int s.1, .int s.2], [])) (h' := h) rfl rfl ?_
    refine Seg.ite (fun _ => ?_) (fun _ => ?_)
    · refine Seg.callP (f1 := (80, [.ref l0, .retAddr 0, .retAddr 0, .int l3, .int s.1, .int s.2], [.int ((mI h ((mR h l0 42).getD 0) (Int32.toNatClampNeg s.2)) - (mI h ((mR h l0 42).getD 0) (Int32.toNatClampNeg s.2)) / 10 * 10), .int s.1])) (h1 := h) (cv := fun r => some (.int r)) rfl rfl rfl rfl (s195 h s.1 ((mI h ((mR h l0 42).getD 0) (Int32.toNatClampNeg s.2)) - (mI h ((mR h l0 42).getD 0) (Int32.toNatClampNeg s.2)) / 10 * 10)) (fun r2 => ?_)
      exact Seg.w (mLw.k (mLw.k (mLw.k (mLw.k (mLw.u (mLw.k mLw.nil)))))) (s296_83 h l0 l3 s.2 r2)
    · refine Seg.callP (f1 := (62, [.ref l0, .retAddr 0, .retAddr 0, .int l3, .int s.1, .int s.2], [.int ((mI h ((mR h l0 42).getD 0) (Int32.toNatClampNeg s.2)) - (mI h ((mR h l0 42).getD 0) (Int32.toNatClampNeg s.2)) / 10 * 10), .int s.1])) (h1 := h) (cv := fun r => some (.int r)) rfl rfl rfl rfl (s196 h s.1 ((mI h ((mR h l0 42).getD 0) (Int32.toNatClampNeg s.2)) - (mI h ((mR h l0 42).getD 0) (Int32.toNatClampNeg s.2)) / 10 * 10)) (fun r3 => ?_)
      refine Seg.blk0 (f' := (83, [.ref l0, .retAddr 0, .retAddr 0, .int l3, .int s.1, .int s.2], [.int r3])) (h' := h) rfl rfl ?_
      exact Seg.w (mLw.k (mLw.k (mLw.k (mLw.k (mLw.u (mLw.k mLw.nil)))))) (s296_83 h l0 l3 s.2 r3)
theorem s296 (h : mH) (l0 : Nat) (l1 : Int32) (l2 : Int32) (l3 : Int32) : Seg 296 (0, [.ref l0, .int l1, .int l2, .int l3, .retAddr 0, .retAddr 0], []) h (f296 h l0 l1 l2 l3) (fun (q : Int32 × mH) (res : Option Value × mH) => res = (some (.int q.1), q.2)) := by
  unfold f296
  refine Seg.blk (f' := (5, [.ref l0, .int l1, .int l2, .int l3, .retAddr 0, .retAddr 0], [])) (h' := (mSI h l0 0 0)) rfl rfl ?_
  refine Seg.call (f1 := (8, [.ref l0, .int l1, .int l2, .int l3, .retAddr 0, .retAddr 0], [.int l2, .int l1, .ref l0])) (h1 := (mSI h l0 0 0)) (cv := fun r => some (.int r)) rfl rfl rfl rfl (s262 (mSI h l0 0 0) l0 l1 l2) (fun r1 => ?_)
  refine Seg.blk0 (f' := (if (r1.1 : Int32) = 0 then 21 else 14, [.ref l0, .int l1, .int l2, .int l3, .retAddr 0, .retAddr 0], [])) (h' := r1.2) rfl rfl ?_
  refine Seg.ite (fun _ => ?_) (fun _ => ?_)
  · exact Seg.w (mLw.u (mLw.u (mLw.u (mLw.u (mLw.k (mLw.k mLw.nil)))))) (s296_21 r1.2)
  · refine Seg.blk (f' := (if ((mI r1.2 l0 43) : Int32) = 0 then 21 else 23, [.ref l0, .int l1, .int l2, .int l3, .retAddr 0, .retAddr 0], [])) (h' := r1.2) rfl rfl ?_
    refine Seg.ite (fun _ => ?_) (fun _ => ?_)
    · exact Seg.w (mLw.u (mLw.u (mLw.u (mLw.u (mLw.k (mLw.k mLw.nil)))))) (s296_21 r1.2)
    · refine Seg.blk (f' := (37, [.ref l0, .int l1, .int l2, .int l3, .int ((mI r1.2 ((mR r1.2 l0 42).getD 0) (Int32.toNatClampNeg 0)) - (mI r1.2 ((mR r1.2 l0 42).getD 0) (Int32.toNatClampNeg 0)) / 10 * 10), .int 0], [])) (h' := r1.2) rfl rfl ?_
      exact Seg.w (mLw.k (mLw.u (mLw.u (mLw.k (mLw.k (mLw.k mLw.nil)))))) (s296_37 r1.2 l0 l3 mFuel (((mI r1.2 ((mR r1.2 l0 42).getD 0) (Int32.toNatClampNeg 0)) - (mI r1.2 ((mR r1.2 l0 42).getD 0) (Int32.toNatClampNeg 0)) / 10 * 10), 0))
theorem s297_25 (h : mH) (q0 : Int32) : Seg 297 (25, [.retAddr 0, .retAddr 0], [.int q0]) h (f297_25 h q0) (fun (q : Int32 × mH) (res : Option Value × mH) => res = (some (.int q.1), q.2)) := by
  unfold f297_25
  exact Seg.ret (f1 := (25, [.retAddr 0, .retAddr 0], [.int q0])) (h1 := h) rfl rfl rfl rfl (fun _ q => q)
theorem s297 (h : mH) (l0 : Nat) (l1 : Int32) : Seg 297 (0, [.ref l0, .int l1], []) h (f297 h l0 l1) (fun (q : Int32 × mH) (res : Option Value × mH) => res = (some (.int q.1), q.2)) := by
  unfold f297
  refine Seg.blk (f' := (5, [.ref l0, .int l1], [])) (h' := (mSI h l0 0 0)) rfl rfl ?_
  refine Seg.callP (f1 := (8, [.ref l0, .int l1], [.int 2, .int 0, .int l1])) (h1 := (mSI h l0 0 0)) (cv := fun r => some (.int r)) rfl rfl rfl rfl (s179 (mSI h l0 0 0) l1 0 2) (fun r1 => ?_)
  refine Seg.blk0 (f' := (if (r1 : Int32) = 0 then 23 else 14, [.ref l0, .int l1], [])) (h' := (mSI h l0 0 0)) rfl rfl ?_
  refine Seg.ite (fun _ => ?_) (fun _ => ?_)
  · refine Seg.blk0 (f' := (25, [.ref l0, .int l1], [.int (-2)])) (h' := (mSI h l0 0 0)) rfl rfl ?_
    exact Seg.w (mLw.u (mLw.u mLw.nil)) (s297_25 (mSI h l0 0 0) (-2))
  · refine Seg.blk (f' := (25, [.ref l0, .int l1], [.int (mI (mSI h l0 0 0) ((mR h l0 5).getD 0) (Int32.toNatClampNeg l1))])) (h' := (mSI h l0 0 0)) rfl rfl ?_
    exact Seg.w (mLw.u (mLw.u mLw.nil)) (s297_25 (mSI h l0 0 0) (mI (mSI h l0 0 0) ((mR h l0 5).getD 0) (Int32.toNatClampNeg l1)))
theorem s300_3 (l0 : Nat) (l1 : Int32) (l2 : Int32) (l3 : Int32) : ∀ (n : Nat) (s : (Int32 × mH)), Seg 300 (3, [.ref l0, .int l1, .int l2, .int l3, .int s.1], []) s.2 (mLoop (f300_3 l0 l1 l2 l3) n s) (fun (q : Unit × mH) (res : Option Value × mH) => res = (none, q.2)) := by
  refine Seg.loop (F := fun s : (Int32 × mH) => (3, [.ref l0, .int l1, .int l2, .int l3, .int s.1], [])) (H := fun s : (Int32 × mH) => s.2) (fun s => ?_)
  show Seg 300 (3, [.ref l0, .int l1, .int l2, .int l3, .int s.1], []) s.2 _ (Sum.elim (fun s : (Int32 × mH) => Ev 300 (3, [.ref l0, .int l1, .int l2, .int l3, .int s.1], []) s.2) (fun (q : Unit × mH) (res : Option Value × mH) => res = (none, q.2)))
  unfold f300_3
  refine Seg.blk0 (f' := (if (l1 : Int32) ≤ s.1 then 31 else 9, [.ref l0, .int l1, .int l2, .int l3, .int s.1], [])) (h' := s.2) rfl rfl ?_
  refine Seg.ite (fun _ => ?_) (fun _ => ?_)
  · refine Seg.x ?_
    exact Seg.ret (f1 := (31, [.ref l0, .int l1, .int l2, .int l3, .int s.1], [])) (h1 := s.2) rfl rfl rfl rfl (fun _ q => q)
  · refine Seg.blk (f' := (25, [.ref l0, .int l1, .int l2, .int l3, .int s.1], [])) (h' := (mSI s.2 l0 (Int32.toNatClampNeg ((l1 * l3) + s.1)) (mI s.2 l0 (Int32.toNatClampNeg ((l1 * l2) + s.1))))) rfl rfl ?_
    refine Seg.blk0 (f' := (3, [.ref l0, .int l1, .int l2, .int l3, .int (s.1 + 1)], [])) (h' := (mSI s.2 l0 (Int32.toNatClampNeg ((l1 * l3) + s.1)) (mI s.2 l0 (Int32.toNatClampNeg ((l1 * l2) + s.1))))) rfl rfl ?_
    exact Seg.cont (fun _ q => Ev.w (mLw.k (mLw.k (mLw.k (mLw.k (mLw.k mLw.nil))))) q)
theorem s300 (h : mH) (l0 : Nat) (l1 : Int32) (l2 : Int32) (l3 : Int32) : Seg 300 (0, [.ref l0, .int l1, .int l2, .int l3, .retAddr 0], []) h (f300 h l0 l1 l2 l3) (fun (q : Unit × mH) (res : Option Value × mH) => res = (none, q.2)) := by
  unfold f300
  refine Seg.blk0 (f' := (3, [.ref l0, .int l1, .int l2, .int l3, .int 0], [])) (h' := h) rfl rfl ?_
  exact Seg.w (mLw.k (mLw.k (mLw.k (mLw.k (mLw.k mLw.nil))))) (s300_3 l0 l1 l2 l3 mFuel (0, h))
theorem s299_33 (h : mH) (l0 : Nat) (l1 : Int32) (l2 : Int32) (l3 : Int32) : Seg 299 (33, [.ref l0, .int l1, .int l2, .int l3], []) h (f299_33 h l0 l1 l2 l3) (Sum.elim (fun s : (Int32 × mH) => Ev 299 (2, [.ref l0, .int l1, .int l2, .int s.1], []) s.2) (fun (q : Unit × mH) (res : Option Value × mH) => res = (none, q.2))) := by
  unfold f299_33
  refine Seg.blk0 (f' := (2, [.ref l0, .int l1, .int l2, .int (l3 + 1)], [])) (h' := h) rfl rfl ?_
  exact Seg.cont (fun _ q => Ev.w (mLw.k (mLw.k (mLw.k (mLw.k mLw.nil)))) q)
theorem s299_2 (l0 : Nat) (l1 : Int32) (l2 : Int32) : ∀ (n : Nat) (s : (Int32 × mH)), Seg 299 (2, [.ref l0, .int l1, .int l2, .int s.1], []) s.2 (mLoop (f299_2 l0 l1 l2) n s) (fun (q : Unit × mH) (res : Option Value × mH) => res = (none, q.2)) := by
  refine Seg.loop (F := fun s : (Int32 × mH) => (2, [.ref l0, .int l1, .int l2, .int s.1], [])) (H := fun s : (Int32 × mH) => s.2) (fun s => ?_)
  show Seg 299 (2, [.ref l0, .int l1, .int l2, .int s.1], []) s.2 _ (Sum.elim (fun s : (Int32 × mH) => Ev 299 (2, [.ref l0, .int l1, .int l2, .int s.1], []) s.2) (fun (q : Unit × mH) (res : Option Value × mH) => res = (none, q.2)))
  unfold f299_2
  refine Seg.blk0 (f' := (if (600 : Int32) ≤ s.1 then 39 else 9, [.ref l0, .int l1, .int l2, .int s.1], [])) (h' := s.2) rfl rfl ?_
  refine Seg.ite (fun _ => ?_) (fun _ => ?_)
  · refine Seg.x ?_
    refine Seg.call (f1 := (46, [.ref l0, .int l1, .int l2, .int s.1], [.int l2, .int l1, .int 1, .ref ((mR s.2 l0 2).getD 0)])) (h1 := s.2) (cv := fun _ => none) rfl rfl rfl rfl (s300 s.2 ((mR s.2 l0 2).getD 0) 1 l1 l2) (fun r1 => ?_)
    refine Seg.call (f1 := (56, [.ref l0, .int l1, .int l2, .int s.1], [.int l2, .int l1, .int 1, .ref ((mR r1.2 l0 3).getD 0)])) (h1 := r1.2) (cv := fun _ => none) rfl rfl rfl rfl (s300 r1.2 ((mR r1.2 l0 3).getD 0) 1 l1 l2) (fun r2 => ?_)
    refine Seg.call (f1 := (66, [.ref l0, .int l1, .int l2, .int s.1], [.int l2, .int l1, .int 1, .ref ((mR r2.2 l0 4).getD 0)])) (h1 := r2.2) (cv := fun _ => none) rfl rfl rfl rfl (s300 r2.2 ((mR r2.2 l0 4).getD 0) 1 l1 l2) (fun r3 => ?_)
    refine Seg.call (f1 := (76, [.ref l0, .int l1, .int l2, .int s.1], [.int l2, .int l1, .int 3, .ref ((mR r3.2 l0 5).getD 0)])) (h1 := r3.2) (cv := fun _ => none) rfl rfl rfl rfl (s300 r3.2 ((mR r3.2 l0 5).getD 0) 3 l1 l2) (fun r4 => ?_)
    refine Seg.call (f1 := (87, [.ref l0, .int l1, .int l2, .int s.1], [.int l2, .int l1, .int 90, .ref ((mR r4.2 l0 6).getD 0)])) (h1 := r4.2) (cv := fun _ => none) rfl rfl rfl rfl (s300 r4.2 ((mR r4.2 l0 6).getD 0) 90 l1 l2) (fun r5 => ?_)
    refine Seg.call (f1 := (99, [.ref l0, .int l1, .int l2, .int s.1], [.int l2, .int l1, .int 242, .ref ((mR r5.2 l0 7).getD 0)])) (h1 := r5.2) (cv := fun _ => none) rfl rfl rfl rfl (s300 r5.2 ((mR r5.2 l0 7).getD 0) 242 l1 l2) (fun r6 => ?_)
    refine Seg.call (f1 := (110, [.ref l0, .int l1, .int l2, .int s.1], [.int l2, .int l1, .int 34, .ref ((mR r6.2 l0 8).getD 0)])) (h1 := r6.2) (cv := fun _ => none) rfl rfl rfl rfl (s300 r6.2 ((mR r6.2 l0 8).getD 0) 34 l1 l2) (fun r7 => ?_)
    exact Seg.ret (f1 := (113, [.ref l0, .int l1, .int l2, .int s.1], [])) (h1 := r7.2) rfl rfl rfl rfl (fun _ q => q)
  · refine Seg.blk (f' := (33, [.ref l0, .int l1, .int l2, .int s.1], [])) (h' := (mSI s.2 ((mR s.2 l0 1).getD 0) (Int32.toNatClampNeg ((600 * l2) + s.1)) ((Int32.toInt8 (mI s.2 ((mR s.2 l0 1).getD 0) (Int32.toNatClampNeg ((600 * l1) + s.1)))).toInt32))) rfl rfl ?_
    exact Seg.w (mLw.k (mLw.k (mLw.k (mLw.k mLw.nil)))) (s299_33 (mSI s.2 ((mR s.2 l0 1).getD 0) (Int32.toNatClampNeg ((600 * l2) + s.1)) ((Int32.toInt8 (mI s.2 ((mR s.2 l0 1).getD 0) (Int32.toNatClampNeg ((600 * l1) + s.1)))).toInt32)) l0 l1 l2 s.1)
theorem s299 (h : mH) (l0 : Nat) (l1 : Int32) (l2 : Int32) : Seg 299 (0, [.ref l0, .int l1, .int l2, .retAddr 0], []) h (f299 h l0 l1 l2) (fun (q : Unit × mH) (res : Option Value × mH) => res = (none, q.2)) := by
  unfold f299
  refine Seg.blk0 (f' := (2, [.ref l0, .int l1, .int l2, .int 0], [])) (h' := h) rfl rfl ?_
  exact Seg.w (mLw.k (mLw.k (mLw.k (mLw.k mLw.nil)))) (s299_2 l0 l1 l2 mFuel (0, h))
theorem s298 (h : mH) (l0 : Nat) (l1 : Int32) : Seg 298 (0, [.ref l0, .int l1], []) h (f298 h l0 l1) (fun (q : Int32 × mH) (res : Option Value × mH) => res = (some (.int q.1), q.2)) := by
  unfold f298
  refine Seg.blk (f' := (5, [.ref l0, .int l1], [])) (h' := (mSI h l0 0 0)) rfl rfl ?_
  refine Seg.callP (f1 := (8, [.ref l0, .int l1], [.int 2, .int 0, .int l1])) (h1 := (mSI h l0 0 0)) (cv := fun r => some (.int r)) rfl rfl rfl rfl (s179 (mSI h l0 0 0) l1 0 2) (fun r1 => ?_)
  refine Seg.blk0 (f' := (if (r1 : Int32) = 0 then 14 else 16, [.ref l0, .int l1], [])) (h' := (mSI h l0 0 0)) rfl rfl ?_
  refine Seg.ite (fun _ => ?_) (fun _ => ?_)
  · exact Seg.ret (f1 := (15, [.ref l0, .int l1], [.int 0])) (h1 := (mSI h l0 0 0)) rfl rfl rfl rfl (fun _ q => q)
  · refine Seg.call (f1 := (21, [.ref l0, .int l1], [.int (l1 + 1), .int 0, .ref l0])) (h1 := (mSI h l0 0 0)) (cv := fun _ => none) rfl rfl rfl rfl (s299 (mSI h l0 0 0) l0 0 (l1 + 1)) (fun r2 => ?_)
    refine Seg.blk (f' := (31, [.ref l0, .int l1], [])) (h' := (mSI r2.2 ((mR r2.2 l0 50).getD 0) (Int32.toNatClampNeg l1) 1)) rfl rfl ?_
    exact Seg.ret (f1 := (32, [.ref l0, .int l1], [.int 1])) (h1 := (mSI r2.2 ((mR r2.2 l0 50).getD 0) (Int32.toNatClampNeg l1) 1)) rfl rfl rfl rfl (fun _ q => q)
theorem s301_23 (h : mH) : Seg 301 (23, [.retAddr 0, .retAddr 0], []) h (f301_23 h) (fun (q : Int32 × mH) (res : Option Value × mH) => res = (some (.int q.1), q.2)) := by
  unfold f301_23
  exact Seg.ret (f1 := (24, [.retAddr 0, .retAddr 0], [.int 0])) (h1 := h) rfl rfl rfl rfl (fun _ q => q)
theorem s301 (h : mH) (l0 : Nat) (l1 : Int32) : Seg 301 (0, [.ref l0, .int l1], []) h (f301 h l0 l1) (fun (q : Int32 × mH) (res : Option Value × mH) => res = (some (.int q.1), q.2)) := by
  unfold f301
  refine Seg.blk (f' := (5, [.ref l0, .int l1], [])) (h' := (mSI h l0 0 0)) rfl rfl ?_
  refine Seg.callP (f1 := (8, [.ref l0, .int l1], [.int 2, .int 0, .int l1])) (h1 := (mSI h l0 0 0)) (cv := fun r => some (.int r)) rfl rfl rfl rfl (s179 (mSI h l0 0 0) l1 0 2) (fun r1 => ?_)
  refine Seg.blk0 (f' := (if (r1 : Int32) = 0 then 23 else 14, [.ref l0, .int l1], [])) (h' := (mSI h l0 0 0)) rfl rfl ?_
  refine Seg.ite (fun _ => ?_) (fun _ => ?_)
  · exact Seg.w (mLw.u (mLw.u mLw.nil)) (s301_23 (mSI h l0 0 0))
  · refine Seg.blk (f' := (if ((mI (mSI h l0 0 0) ((mR h l0 50).getD 0) (Int32.toNatClampNeg l1)) : Int32) = 0 then 23 else 25, [.ref l0, .int l1], [])) (h' := (mSI h l0 0 0)) rfl rfl ?_
    refine Seg.ite (fun _ => ?_) (fun _ => ?_)
    · exact Seg.w (mLw.u (mLw.u mLw.nil)) (s301_23 (mSI h l0 0 0))
    · refine Seg.call (f1 := (30, [.ref l0, .int l1], [.int 0, .int (l1 + 1), .ref l0])) (h1 := (mSI h l0 0 0)) (cv := fun _ => none) rfl rfl rfl rfl (s299 (mSI h l0 0 0) l0 (l1 + 1) 0) (fun r2 => ?_)
      exact Seg.ret (f1 := (34, [.ref l0, .int l1], [.int 1])) (h1 := r2.2) rfl rfl rfl rfl (fun _ q => q)
