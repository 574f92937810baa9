theorem s282_44 (l0 : Nat) (l2 : Int32) (l3 : Int32) (l4 : Int32) : ∀ (n : Nat) (s : (Int32 × mH)), Seg 282 (44, [.ref l0, .retAddr 0, .int l2, .int l3, .int l4, .int s.1, .retAddr 0, .retAddr 0, .retAddr 0], []) s.2 (mLoop (f282_44 l0 l2 l3 l4) n s) (Sum.elim (fun s : (Int32 × Int32 × mH) => Ev 282 (25, [.ref l0, .retAddr 0, .int l2, .int s.1, .int s.2.1, .retAddr 0, .retAddr 0, .retAddr 0, .retAddr 0], []) s.2.2) (fun (q : Int32 × mH) (res : Option Value × mH) => res = (some (.int q.1), q.2))) := by
  refine Seg.loop (F := fun s : (Int32 × mH) => (44, [.ref l0, .retAddr 0, .int l2, .int l3, .int l4, .int s.1, .retAddr 0, .retAddr 0, .retAddr 0], [])) (H := fun s : (Int32 × mH) => s.2) (fun s => ?_)
  show Seg 282 (44, [.ref l0, .retAddr 0, .int l2, .int l3, .int l4, .int s.1, .retAddr 0, .retAddr 0, .retAddr 0], []) s.2 _ (Sum.elim (fun s : (Int32 × mH) => Ev 282 (44, [.ref l0, .retAddr 0, .int l2, .int l3, .int l4, .int s.1, .retAddr 0, .retAddr 0, .retAddr 0], []) s.2) (Sum.elim (fun s : (Int32 × Int32 × mH) => Ev 282 (25, [.ref l0, .retAddr 0, .int l2, .int s.1, .int s.2.1, .retAddr 0, .retAddr 0, .retAddr 0, .retAddr 0], []) s.2.2) (fun (q : Int32 × mH) (res : Option Value × mH) => res = (some (.int q.1), q.2))))
  unfold f282_44
  refine Seg.blk (f' := (if ((mI s.2 l0 24) : Int32) ≤ s.1 then 112 else 53, [.ref l0, .retAddr 0, .int l2, .int l3, .int l4, .int s.1, .retAddr 0, .retAddr 0, .retAddr 0], [])) (h' := s.2) rfl rfl ?_
  refine Seg.ite (fun _ => ?_) (fun _ => ?_)
  · exact Seg.x (s282_44a l0 l2 l3 l4 s)
  · exact s282_44b l0 l2 l3 l4 s
theorem s282_25 (l0 : Nat) (l2 : Int32) : ∀ (n : Nat) (s : (Int32 × Int32 × mH)), Seg 282 (25, [.ref l0, .retAddr 0, .int l2, .int s.1, .int s.2.1, .retAddr 0, .retAddr 0, .retAddr 0, .retAddr 0], []) s.2.2 (mLoop (f282_25 l0 l2) n s) (fun (q : Int32 × mH) (res : Option Value × mH) => res = (some (.int q.1), q.2)) := by
  refine Seg.loop (F := fun s : (Int32 × Int32 × mH) => (25, [.ref l0, .retAddr 0, .int l2, .int s.1, .int s.2.1, .retAddr 0, .retAddr 0, .retAddr 0, .retAddr 0], [])) (H := fun s : (Int32 × Int32 × mH) => s.2.2) (fun s => ?_)
  show Seg 282 (25, [.ref l0, .retAddr 0, .int l2, .int s.1, .int s.2.1, .retAddr 0, .retAddr 0, .retAddr 0, .retAddr 0], []) s.2.2 _ (Sum.elim (fun s : (Int32 × Int32 × mH) => Ev 282 (25, [.ref l0, .retAddr 0, .int l2, .int s.1, .int s.2.1, .retAddr 0, .retAddr 0, .retAddr 0, .retAddr 0], []) s.2.2) (fun (q : Int32 × mH) (res : Option Value × mH) => res = (some (.int q.1), q.2)))
  unfold f282_25
  refine Seg.blk0 (f' := (if (s.2.1 : Int32) < 0 then 130 else 30, [.ref l0, .retAddr 0, .int l2, .int s.1, .int s.2.1, .retAddr 0, .retAddr 0, .retAddr 0, .retAddr 0], [])) (h' := s.2.2) rfl rfl ?_
  refine Seg.ite (fun _ => ?_) (fun _ => ?_)
  · refine Seg.x ?_
    refine Seg.blk0 (f' := (if (l2 : Int32) = (-1) then 146 else 135, [.ref l0, .retAddr 0, .int l2, .int s.1, .int s.2.1, .retAddr 0, .retAddr 0, .retAddr 0, .retAddr 0], [])) (h' := s.2.2) rfl rfl ?_
    refine Seg.ite (fun _ => ?_) (fun _ => ?_)
    · exact Seg.w (mLw.u (mLw.k (mLw.k (mLw.k (mLw.u (mLw.k (mLw.k (mLw.k (mLw.k mLw.nil))))))))) (s282_146 s.2.2 l2 s.1)
    · refine Seg.callP (f1 := (140, [.ref l0, .retAddr 0, .int l2, .int s.1, .int s.2.1, .retAddr 0, .retAddr 0, .retAddr 0, .retAddr 0], [.int (s.1 - 1), .int 0, .int l2])) (h1 := s.2.2) (cv := fun r => some (.int r)) rfl rfl rfl rfl (s179 s.2.2 l2 0 (s.1 - 1)) (fun r2 => ?_)
      refine Seg.blk0 (f' := (if (r2 : Int32) = 0 then 146 else 157, [.ref l0, .retAddr 0, .int l2, .int s.1, .int s.2.1, .retAddr 0, .retAddr 0, .retAddr 0, .retAddr 0], [])) (h' := s.2.2) rfl rfl ?_
      refine Seg.ite (fun _ => ?_) (fun _ => ?_)
      · exact Seg.w (mLw.u (mLw.k (mLw.k (mLw.k (mLw.u (mLw.k (mLw.k (mLw.k (mLw.k mLw.nil))))))))) (s282_146 s.2.2 l2 s.1)
      · refine Seg.blk0 (f' := (163, [.ref l0, .retAddr 0, .int l2, .int s.1, .int (-1), .int 0, .retAddr 0, .retAddr 0, .retAddr 0], [])) (h' := s.2.2) rfl rfl ?_
        exact Seg.w (mLw.k (mLw.k (mLw.k (mLw.k (mLw.k (mLw.k (mLw.k (mLw.k (mLw.k mLw.nil))))))))) (s282_163 s.2.2 l0 l2 s.1 mFuel ((-1), 0))
  · refine Seg.blk (f' := (38, [.ref l0, .retAddr 0, .int l2, .int s.1, .int s.2.1, .retAddr 0, .retAddr 0, .retAddr 0, .retAddr 0], [])) (h' := (mSI s.2.2 ((mR s.2.2 l0 49).getD 0) (Int32.toNatClampNeg s.2.1) 1)) rfl rfl ?_
    refine Seg.blk0 (f' := (44, [.ref l0, .retAddr 0, .int l2, .int s.1, .int s.2.1, .int (s.2.1 + 1), .retAddr 0, .retAddr 0, .retAddr 0], [])) (h' := (mSI s.2.2 ((mR s.2.2 l0 49).getD 0) (Int32.toNatClampNeg s.2.1) 1)) rfl rfl ?_
    exact Seg.w (mLw.k (mLw.k (mLw.k (mLw.k (mLw.k (mLw.k (mLw.k (mLw.k (mLw.k mLw.nil))))))))) (s282_44 l0 l2 s.1 s.2.1 mFuel ((s.2.1 + 1), (mSI s.2.2 ((mR s.2.2 l0 49).getD 0) (Int32.toNatClampNeg s.2.1) 1)))
theorem s282 (h : mH) (l0 : Nat) (l1 : Int32) (l2 : Int32) : Seg 282 (0, [.ref l0, .int l1, .int l2, .retAddr 0, .retAddr 0, .retAddr 0, .retAddr 0, .retAddr 0, .retAddr 0], []) h (f282 h l0 l1 l2) (fun (q : Int32 × mH) (res : Option Value × mH) => res = (some (.int q.1), q.2)) := by
  unfold f282
  refine Seg.blk (f' := (5, [.ref l0, .int l1, .int l2, .retAddr 0, .retAddr 0, .retAddr 0, .retAddr 0, .retAddr 0, .retAddr 0], [])) (h' := (mSI h l0 0 0)) rfl rfl ?_
  refine Seg.call (f1 := (7, [.ref l0, .int l1, .int l2, .retAddr 0, .retAddr 0, .retAddr 0, .retAddr 0, .retAddr 0, .retAddr 0], [.int l1, .ref l0])) (h1 := (mSI h l0 0 0)) (cv := fun r => some (.int r)) rfl rfl rfl rfl (s205 (mSI h l0 0 0) l0 l1) (fun r1 => ?_)
  refine Seg.blk0 (f' := (if (r1.1 : Int32) = 0 then 13 else 15, [.ref l0, .int l1, .int l2, .retAddr 0, .retAddr 0, .retAddr 0, .retAddr 0, .retAddr 0, .retAddr 0], [])) (h' := r1.2) rfl rfl ?_
  refine Seg.ite (fun _ => ?_) (fun _ => ?_)
  · exact Seg.ret (f1 := (14, [.ref l0, .int l1, .int l2, .retAddr 0, .retAddr 0, .retAddr 0, .retAddr 0, .retAddr 0, .retAddr 0], [.int (-1)])) (h1 := r1.2) rfl rfl rfl rfl (fun _ q => q)
  · refine Seg.blk (f' := (25, [.ref l0, .int l1, .int l2, .int 0, .int ((mI r1.2 l0 24) - 1), .retAddr 0, .retAddr 0, .retAddr 0, .retAddr 0], [])) (h' := r1.2) rfl rfl ?_
    exact Seg.w (mLw.k (mLw.u (mLw.k (mLw.k (mLw.k (mLw.k (mLw.k (mLw.k (mLw.k mLw.nil))))))))) (s282_25 l0 l2 mFuel (0, ((mI r1.2 l0 24) - 1), r1.2))
