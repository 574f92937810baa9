set_option maxHeartbeats 16000000 in
theorem s302_1517 (h : mH) (l0 : Nat) (l1 : Nat) (l2 : Nat) (l3 : Int32) : Seg 302 (1517, [.ref l0, .ref l1, .ref l2, .int l3], []) h (f302_1517 h l0 l1 l2 l3) (Sum.elim (fun s : (Int32 × mH) => Ev 302 (18, [.ref l0, .ref l1, .ref l2, .int s.1], []) s.2) (fun (q : Int32 × mH) (res : Option Value × mH) => res = (some (.int q.1), q.2))) := by
  unfold f302_1517
  refine Seg.blk (f' := (if ((mI h 2000000 (Int32.toNatClampNeg (l3 + 3))) : Int32) = 0 then 1540 else 1536, [.ref l0, .ref l1, .ref l2, .int l3], [.int (mI h 2000000 (Int32.toNatClampNeg (l3 + 2))), .int (mI h 2000000 (Int32.toNatClampNeg (l3 + 1))), .ref l1])) (h' := h) rfl rfl ?_
  refine Seg.ite (fun _ => ?_) (fun _ => ?_)
  · refine Seg.blk0 (f' := (1541, [.ref l0, .ref l1, .ref l2, .int l3], [.int 0, .int (mI h 2000000 (Int32.toNatClampNeg (l3 + 2))), .int (mI h 2000000 (Int32.toNatClampNeg (l3 + 1))), .ref l1])) (h' := h) rfl rfl ?_
    refine Seg.callP (f1 := (1541, [.ref l0, .ref l1, .ref l2, .int l3], [.int 0, .int (mI h 2000000 (Int32.toNatClampNeg (l3 + 2))), .int (mI h 2000000 (Int32.toNatClampNeg (l3 + 1))), .ref l1])) (h1 := h) (cv := fun r => some (.int r)) rfl rfl rfl rfl (s161 h l1 (mI h 2000000 (Int32.toNatClampNeg (l3 + 1))) (mI h 2000000 (Int32.toNatClampNeg (l3 + 2))) 0) (fun r87 => ?_)
    refine Seg.blk (f' := (if ((mI h 2000000 (Int32.toNatClampNeg (l3 + 3))) : Int32) = 0 then 1567 else 1563, [.ref l0, .ref l1, .ref l2, .int l3], [.int (mI h 2000000 (Int32.toNatClampNeg (l3 + 2))), .int (mI h 2000000 (Int32.toNatClampNeg (l3 + 1))), .ref l2, .int r87])) (h' := h) rfl rfl ?_
    refine Seg.ite (fun _ => ?_) (fun _ => ?_)
    · refine Seg.blk0 (f' := (1568, [.ref l0, .ref l1, .ref l2, .int l3], [.int 0, .int (mI h 2000000 (Int32.toNatClampNeg (l3 + 2))), .int (mI h 2000000 (Int32.toNatClampNeg (l3 + 1))), .ref l2, .int r87])) (h' := h) rfl rfl ?_
      refine Seg.call (f1 := (1568, [.ref l0, .ref l1, .ref l2, .int l3], [.int 0, .int (mI h 2000000 (Int32.toNatClampNeg (l3 + 2))), .int (mI h 2000000 (Int32.toNatClampNeg (l3 + 1))), .ref l2, .int r87])) (h1 := h) (cv := fun r => some (.int r)) rfl rfl rfl rfl (s291 h l2 (mI h 2000000 (Int32.toNatClampNeg (l3 + 1))) (mI h 2000000 (Int32.toNatClampNeg (l3 + 2))) 0) (fun r88 => ?_)
      refine Seg.blk0 (f' := (if (r87 : Int32) = r88.1 then 1887 else 1574, [.ref l0, .ref l1, .ref l2, .int l3], [])) (h' := r88.2) rfl rfl ?_
      refine Seg.ite (fun _ => ?_) (fun _ => ?_)
      · exact Seg.w (mLw.k (mLw.k (mLw.k (mLw.k mLw.nil)))) (s302_1887 r88.2 l0 l1 l2 l3)
      · refine Seg.x ?_
        exact Seg.ret (f1 := (1575, [.ref l0, .ref l1, .ref l2, .int l3], [.int 0])) (h1 := r88.2) rfl rfl rfl rfl (fun _ q => q)
    · refine Seg.blk0 (f' := (1568, [.ref l0, .ref l1, .ref l2, .int l3], [.int 1, .int (mI h 2000000 (Int32.toNatClampNeg (l3 + 2))), .int (mI h 2000000 (Int32.toNatClampNeg (l3 + 1))), .ref l2, .int r87])) (h' := h) rfl rfl ?_
      refine Seg.call (f1 := (1568, [.ref l0, .ref l1, .ref l2, .int l3], [.int 1, .int (mI h 2000000 (Int32.toNatClampNeg (l3 + 2))), .int (mI h 2000000 (Int32.toNatClampNeg (l3 + 1))), .ref l2, .int r87])) (h1 := h) (cv := fun r => some (.int r)) rfl rfl rfl rfl (s291 h l2 (mI h 2000000 (Int32.toNatClampNeg (l3 + 1))) (mI h 2000000 (Int32.toNatClampNeg (l3 + 2))) 1) (fun r89 => ?_)
      refine Seg.blk0 (f' := (if (r87 : Int32) = r89.1 then 1887 else 1574, [.ref l0, .ref l1, .ref l2, .int l3], [])) (h' := r89.2) rfl rfl ?_
      refine Seg.ite (fun _ => ?_) (fun _ => ?_)
      · exact Seg.w (mLw.k (mLw.k (mLw.k (mLw.k mLw.nil)))) (s302_1887 r89.2 l0 l1 l2 l3)
      · refine Seg.x ?_
        exact Seg.ret (f1 := (1575, [.ref l0, .ref l1, .ref l2, .int l3], [.int 0])) (h1 := r89.2) rfl rfl rfl rfl (fun _ q => q)
  · refine Seg.blk0 (f' := (1541, [.ref l0, .ref l1, .ref l2, .int l3], [.int 1, .int (mI h 2000000 (Int32.toNatClampNeg (l3 + 2))), .int (mI h 2000000 (Int32.toNatClampNeg (l3 + 1))), .ref l1])) (h' := h) rfl rfl ?_
    refine Seg.callP (f1 := (1541, [.ref l0, .ref l1, .ref l2, .int l3], [.int 1, .int (mI h 2000000 (Int32.toNatClampNeg (l3 + 2))), .int (mI h 2000000 (Int32.toNatClampNeg (l3 + 1))), .ref l1])) (h1 := h) (cv := fun r => some (.int r)) rfl rfl rfl rfl (s161 h l1 (mI h 2000000 (Int32.toNatClampNeg (l3 + 1))) (mI h 2000000 (Int32.toNatClampNeg (l3 + 2))) 1) (fun r90 => ?_)
    refine Seg.blk (f' := (if ((mI h 2000000 (Int32.toNatClampNeg (l3 + 3))) : Int32) = 0 then 1567 else 1563, [.ref l0, .ref l1, .ref l2, .int l3], [.int (mI h 2000000 (Int32.toNatClampNeg (l3 + 2))), .int (mI h 2000000 (Int32.toNatClampNeg (l3 + 1))), .ref l2, .int r90])) (h' := h) rfl rfl ?_
    refine Seg.ite (fun _ => ?_) (fun _ => ?_)
    · refine Seg.blk0 (f' := (1568, [.ref l0, .ref l1, .ref l2, .int l3], [.int 0, .int (mI h 2000000 (Int32.toNatClampNeg (l3 + 2))), .int (mI h 2000000 (Int32.toNatClampNeg (l3 + 1))), .ref l2, .int r90])) (h' := h) rfl rfl ?_
      refine Seg.call (f1 := (1568, [.ref l0, .ref l1, .ref l2, .int l3], [.int 0, .int (mI h 2000000 (Int32.toNatClampNeg (l3 + 2))), .int (mI h 2000000 (Int32.toNatClampNeg (l3 + 1))), .ref l2, .int r90])) (h1 := h) (cv := fun r => some (.int r)) rfl rfl rfl rfl (s291 h l2 (mI h 2000000 (Int32.toNatClampNeg (l3 + 1))) (mI h 2000000 (Int32.toNatClampNeg (l3 + 2))) 0) (fun r91 => ?_)
      refine Seg.blk0 (f' := (if (r90 : Int32) = r91.1 then 1887 else 1574, [.ref l0, .ref l1, .ref l2, .int l3], [])) (h' := r91.2) rfl rfl ?_
      refine Seg.ite (fun _ => ?_) (fun _ => ?_)
      · exact Seg.w (mLw.k (mLw.k (mLw.k (mLw.k mLw.nil)))) (s302_1887 r91.2 l0 l1 l2 l3)
      · refine Seg.x ?_
        exact Seg.ret (f1 := (1575, [.ref l0, .ref l1, .ref l2, .int l3], [.int 0])) (h1 := r91.2) rfl rfl rfl rfl (fun _ q => q)
    · refine Seg.blk0 (f' := (1568, [.ref l0, .ref l1, .ref l2, .int l3], [.int 1, .int (mI h 2000000 (Int32.toNatClampNeg (l3 + 2))), .int (mI h 2000000 (Int32.toNatClampNeg (l3 + 1))), .ref l2, .int r90])) (h' := h) rfl rfl ?_
      refine Seg.call (f1 := (1568, [.ref l0, .ref l1, .ref l2, .int l3], [.int 1, .int (mI h 2000000 (Int32.toNatClampNeg (l3 + 2))), .int (mI h 2000000 (Int32.toNatClampNeg (l3 + 1))), .ref l2, .int r90])) (h1 := h) (cv := fun r => some (.int r)) rfl rfl rfl rfl (s291 h l2 (mI h 2000000 (Int32.toNatClampNeg (l3 + 1))) (mI h 2000000 (Int32.toNatClampNeg (l3 + 2))) 1) (fun r92 => ?_)
      refine Seg.blk0 (f' := (if (r90 : Int32) = r92.1 then 1887 else 1574, [.ref l0, .ref l1, .ref l2, .int l3], [])) (h' := r92.2) rfl rfl ?_
      refine Seg.ite (fun _ => ?_) (fun _ => ?_)
      · exact Seg.w (mLw.k (mLw.k (mLw.k (mLw.k mLw.nil)))) (s302_1887 r92.2 l0 l1 l2 l3)
      · refine Seg.x ?_
        exact Seg.ret (f1 := (1575, [.ref l0, .ref l1, .ref l2, .int l3], [.int 0])) (h1 := r92.2) rfl rfl rfl rfl (fun _ q => q)
set_option maxHeartbeats 16000000 in
theorem s302_1576 (h : mH) (l0 : Nat) (l1 : Nat) (l2 : Nat) (l3 : Int32) : Seg 302 (1576, [.ref l0, .ref l1, .ref l2, .int l3], []) h (f302_1576 h l0 l1 l2 l3) (Sum.elim (fun s : (Int32 × mH) => Ev 302 (18, [.ref l0, .ref l1, .ref l2, .int s.1], []) s.2) (fun (q : Int32 × mH) (res : Option Value × mH) => res = (some (.int q.1), q.2))) := by
  unfold f302_1576
  refine Seg.blk (f' := (if ((mI h 2000000 (Int32.toNatClampNeg (l3 + 4))) : Int32) = 0 then 1604 else 1600, [.ref l0, .ref l1, .ref l2, .int l3], [.int (mI h 2000000 (Int32.toNatClampNeg (l3 + 3))), .int (mI h 2000000 (Int32.toNatClampNeg (l3 + 2))), .int (mI h 2000000 (Int32.toNatClampNeg (l3 + 1))), .ref l1])) (h' := h) rfl rfl ?_
  refine Seg.ite (fun _ => ?_) (fun _ => ?_)
  · refine Seg.blk0 (f' := (1605, [.ref l0, .ref l1, .ref l2, .int l3], [.int 0, .int (mI h 2000000 (Int32.toNatClampNeg (l3 + 3))), .int (mI h 2000000 (Int32.toNatClampNeg (l3 + 2))), .int (mI h 2000000 (Int32.toNatClampNeg (l3 + 1))), .ref l1])) (h' := h) rfl rfl ?_
    refine Seg.callP (f1 := (1605, [.ref l0, .ref l1, .ref l2, .int l3], [.int 0, .int (mI h 2000000 (Int32.toNatClampNeg (l3 + 3))), .int (mI h 2000000 (Int32.toNatClampNeg (l3 + 2))), .int (mI h 2000000 (Int32.toNatClampNeg (l3 + 1))), .ref l1])) (h1 := h) (cv := fun r => some (.long r)) rfl rfl rfl rfl (s164 h l1 (mI h 2000000 (Int32.toNatClampNeg (l3 + 1))) (mI h 2000000 (Int32.toNatClampNeg (l3 + 2))) (mI h 2000000 (Int32.toNatClampNeg (l3 + 3))) 0) (fun r93 => ?_)
    refine Seg.blk (f' := (if ((mI h 2000000 (Int32.toNatClampNeg (l3 + 4))) : Int32) = 0 then 1636 else 1632, [.ref l0, .ref l1, .ref l2, .int l3], [.int (mI h 2000000 (Int32.toNatClampNeg (l3 + 3))), .int (mI h 2000000 (Int32.toNatClampNeg (l3 + 2))), .int (mI h 2000000 (Int32.toNatClampNeg (l3 + 1))), .ref l2, .long r93])) (h' := h) rfl rfl ?_
    refine Seg.ite (fun _ => ?_) (fun _ => ?_)
    · refine Seg.blk0 (f' := (1637, [.ref l0, .ref l1, .ref l2, .int l3], [.int 0, .int (mI h 2000000 (Int32.toNatClampNeg (l3 + 3))), .int (mI h 2000000 (Int32.toNatClampNeg (l3 + 2))), .int (mI h 2000000 (Int32.toNatClampNeg (l3 + 1))), .ref l2, .long r93])) (h' := h) rfl rfl ?_
      refine Seg.call (f1 := (1637, [.ref l0, .ref l1, .ref l2, .int l3], [.int 0, .int (mI h 2000000 (Int32.toNatClampNeg (l3 + 3))), .int (mI h 2000000 (Int32.toNatClampNeg (l3 + 2))), .int (mI h 2000000 (Int32.toNatClampNeg (l3 + 1))), .ref l2, .long r93])) (h1 := h) (cv := fun r => some (.long r)) rfl rfl rfl rfl (s292 h l2 (mI h 2000000 (Int32.toNatClampNeg (l3 + 1))) (mI h 2000000 (Int32.toNatClampNeg (l3 + 2))) (mI h 2000000 (Int32.toNatClampNeg (l3 + 3))) 0) (fun r94 => ?_)
      refine Seg.blk0 (f' := (if ((lg_cmp r93 r94.1) : Int32) = 0 then 1887 else 1644, [.ref l0, .ref l1, .ref l2, .int l3], [])) (h' := r94.2) rfl rfl ?_
      refine Seg.ite (fun _ => ?_) (fun _ => ?_)
      · exact Seg.w (mLw.k (mLw.k (mLw.k (mLw.k mLw.nil)))) (s302_1887 r94.2 l0 l1 l2 l3)
      · refine Seg.x ?_
        exact Seg.ret (f1 := (1645, [.ref l0, .ref l1, .ref l2, .int l3], [.int 0])) (h1 := r94.2) rfl rfl rfl rfl (fun _ q => q)
    · refine Seg.blk0 (f' := (1637, [.ref l0, .ref l1, .ref l2, .int l3], [.int 1, .int (mI h 2000000 (Int32.toNatClampNeg (l3 + 3))), .int (mI h 2000000 (Int32.toNatClampNeg (l3 + 2))), .int (mI h 2000000 (Int32.toNatClampNeg (l3 + 1))), .ref l2, .long r93])) (h' := h) rfl rfl ?_
      refine Seg.call (f1 := (1637, [.ref l0, .ref l1, .ref l2, .int l3], [.int 1, .int (mI h 2000000 (Int32.toNatClampNeg (l3 + 3))), .int (mI h 2000000 (Int32.toNatClampNeg (l3 + 2))), .int (mI h 2000000 (Int32.toNatClampNeg (l3 + 1))), .ref l2, .long r93])) (h1 := h) (cv := fun r => some (.long r)) rfl rfl rfl rfl (s292 h l2 (mI h 2000000 (Int32.toNatClampNeg (l3 + 1))) (mI h 2000000 (Int32.toNatClampNeg (l3 + 2))) (mI h 2000000 (Int32.toNatClampNeg (l3 + 3))) 1) (fun r95 => ?_)
      refine Seg.blk0 (f' := (if ((lg_cmp r93 r95.1) : Int32) = 0 then 1887 else 1644, [.ref l0, .ref l1, .ref l2, .int l3], [])) (h' := r95.2) rfl rfl ?_
      refine Seg.ite (fun _ => ?_) (fun _ => ?_)
      · exact Seg.w (mLw.k (mLw.k (mLw.k (mLw.k mLw.nil)))) (s302_1887 r95.2 l0 l1 l2 l3)
      · refine Seg.x ?_
        exact Seg.ret (f1 := (1645, [.ref l0, .ref l1, .ref l2, .int l3], [.int 0])) (h1 := r95.2) rfl rfl rfl rfl (fun _ q => q)
  · refine Seg.blk0 (f' := (1605, [.ref l0, .ref l1, .ref l2, .int l3], [.int 1, .int (mI h 2000000 (Int32.toNatClampNeg (l3 + 3))), .int (mI h 2000000 (Int32.toNatClampNeg (l3 + 2))), .int (mI h 2000000 (Int32.toNatClampNeg (l3 + 1))), .ref l1])) (h' := h) rfl rfl ?_
    refine Seg.callP (f1 := (1605, [.ref l0, .ref l1, .ref l2, .int l3], [.int 1, .int (mI h 2000000 (Int32.toNatClampNeg (l3 + 3))), .int (mI h 2000000 (Int32.toNatClampNeg (l3 + 2))), .int (mI h 2000000 (Int32.toNatClampNeg (l3 + 1))), .ref l1])) (h1 := h) (cv := fun r => some (.long r)) rfl rfl rfl rfl (s164 h l1 (mI h 2000000 (Int32.toNatClampNeg (l3 + 1))) (mI h 2000000 (Int32.toNatClampNeg (l3 + 2))) (mI h 2000000 (Int32.toNatClampNeg (l3 + 3))) 1) (fun r96 => ?_)
    refine Seg.blk (f' := (if ((mI h 2000000 (Int32.toNatClampNeg (l3 + 4))) : Int32) = 0 then 1636 else 1632, [.ref l0, .ref l1, .ref l2, .int l3], [.int (mI h 2000000 (Int32.toNatClampNeg (l3 + 3))), .int (mI h 2000000 (Int32.toNatClampNeg (l3 + 2))), .int (mI h 2000000 (Int32.toNatClampNeg (l3 + 1))), .ref l2, .long r96])) (h' := h) rfl rfl ?_
    refine Seg.ite (fun _ => ?_) (fun _ => ?_)
    · refine Seg.blk0 (f' := (1637, [.ref l0, .ref l1, .ref l2, .int l3], [.int 0, .int (mI h 2000000 (Int32.toNatClampNeg (l3 + 3))), .int (mI h 2000000 (Int32.toNatClampNeg (l3 + 2))), .int (mI h 2000000 (Int32.toNatClampNeg (l3 + 1))), .ref l2, .long r96])) (h' := h) rfl rfl ?_
      refine Seg.call (f1 := (1637, [.ref l0, .ref l1, .ref l2, .int l3], [.int 0, .int (mI h 2000000 (Int32.toNatClampNeg (l3 + 3))), .int (mI h 2000000 (Int32.toNatClampNeg (l3 + 2))), .int (mI h 2000000 (Int32.toNatClampNeg (l3 + 1))), .ref l2, .long r96])) (h1 := h) (cv := fun r => some (.long r)) rfl rfl rfl rfl (s292 h l2 (mI h 2000000 (Int32.toNatClampNeg (l3 + 1))) (mI h 2000000 (Int32.toNatClampNeg (l3 + 2))) (mI h 2000000 (Int32.toNatClampNeg (l3 + 3))) 0) (fun r97 => ?_)
      refine Seg.blk0 (f' := (if ((lg_cmp r96 r97.1) : Int32) = 0 then 1887 else 1644, [.ref l0, .ref l1, .ref l2, .int l3], [])) (h' := r97.2) rfl rfl ?_
      refine Seg.ite (fun _ => ?_) (fun _ => ?_)
      · exact Seg.w (mLw.k (mLw.k (mLw.k (mLw.k mLw.nil)))) (s302_1887 r97.2 l0 l1 l2 l3)
      · refine Seg.x ?_
        exact Seg.ret (f1 := (1645, [.ref l0, .ref l1, .ref l2, .int l3], [.int 0])) (h1 := r97.2) rfl rfl rfl rfl (fun _ q => q)
    · refine Seg.blk0 (f' := (1637, [.ref l0, .ref l1, .ref l2, .int l3], [.int 1, .int (mI h 2000000 (Int32.toNatClampNeg (l3 + 3))), .int (mI h 2000000 (Int32.toNatClampNeg (l3 + 2))), .int (mI h 2000000 (Int32.toNatClampNeg (l3 + 1))), .ref l2, .long r96])) (h' := h) rfl rfl ?_
      refine Seg.call (f1 := (1637, [.ref l0, .ref l1, .ref l2, .int l3], [.int 1, .int (mI h 2000000 (Int32.toNatClampNeg (l3 + 3))), .int (mI h 2000000 (Int32.toNatClampNeg (l3 + 2))), .int (mI h 2000000 (Int32.toNatClampNeg (l3 + 1))), .ref l2, .long r96])) (h1 := h) (cv := fun r => some (.long r)) rfl rfl rfl rfl (s292 h l2 (mI h 2000000 (Int32.toNatClampNeg (l3 + 1))) (mI h 2000000 (Int32.toNatClampNeg (l3 + 2))) (mI h 2000000 (Int32.toNatClampNeg (l3 + 3))) 1) (fun r98 => ?_)
      refine Seg.blk0 (f' := (if ((lg_cmp r96 r98.1) : Int32) = 0 then 1887 else 1644, [.ref l0, .ref l1, .ref l2, .int l3], [])) (h' := r98.2) rfl rfl ?_
      refine Seg.ite (fun _ => ?_) (fun _ => ?_)
      · exact Seg.w (mLw.k (mLw.k (mLw.k (mLw.k mLw.nil)))) (s302_1887 r98.2 l0 l1 l2 l3)
      · refine Seg.x ?_
        exact Seg.ret (f1 := (1645, [.ref l0, .ref l1, .ref l2, .int l3], [.int 0])) (h1 := r98.2) rfl rfl rfl rfl (fun _ q => q)
set_option maxHeartbeats 16000000 in
theorem s302_1646 (h : mH) (l0 : Nat) (l1 : Nat) (l2 : Nat) (l3 : Int32) : Seg 302 (1646, [.ref l0, .ref l1, .ref l2, .int l3], []) h (f302_1646 h l0 l1 l2 l3) (Sum.elim (fun s : (Int32 × mH) => Ev 302 (18, [.ref l0, .ref l1, .ref l2, .int s.1], []) s.2) (fun (q : Int32 × mH) (res : Option Value × mH) => res = (some (.int q.1), q.2))) := by
  unfold f302_1646
  refine Seg.call (f1 := (1662, [.ref l0, .ref l1, .ref l2, .int l3], [.int (mI h 2000000 (Int32.toNatClampNeg (l3 + 3))), .int (mI h 2000000 (Int32.toNatClampNeg (l3 + 2))), .int (mI h 2000000 (Int32.toNatClampNeg (l3 + 1))), .ref l1])) (h1 := h) (cv := fun r => some (.int r)) rfl rfl rfl rfl (s165 h l1 (mI h 2000000 (Int32.toNatClampNeg (l3 + 1))) (mI h 2000000 (Int32.toNatClampNeg (l3 + 2))) (mI h 2000000 (Int32.toNatClampNeg (l3 + 3)))) (fun r99 => ?_)
  refine Seg.call (f1 := (1681, [.ref l0, .ref l1, .ref l2, .int l3], [.int (mI r99.2 2000000 (Int32.toNatClampNeg (l3 + 3))), .int (mI r99.2 2000000 (Int32.toNatClampNeg (l3 + 2))), .int (mI r99.2 2000000 (Int32.toNatClampNeg (l3 + 1))), .ref l2, .int r99.1])) (h1 := r99.2) (cv := fun r => some (.int r)) rfl rfl rfl rfl (s293 r99.2 l2 (mI r99.2 2000000 (Int32.toNatClampNeg (l3 + 1))) (mI r99.2 2000000 (Int32.toNatClampNeg (l3 + 2))) (mI r99.2 2000000 (Int32.toNatClampNeg (l3 + 3)))) (fun r100 => ?_)
  refine Seg.blk0 (f' := (if (r99.1 : Int32) = r100.1 then 1887 else 1687, [.ref l0, .ref l1, .ref l2, .int l3], [])) (h' := r100.2) rfl rfl ?_
  refine Seg.ite (fun _ => ?_) (fun _ => ?_)
  · exact Seg.w (mLw.k (mLw.k (mLw.k (mLw.k mLw.nil)))) (s302_1887 r100.2 l0 l1 l2 l3)
  · refine Seg.x ?_
    exact Seg.ret (f1 := (1688, [.ref l0, .ref l1, .ref l2, .int l3], [.int 0])) (h1 := r100.2) rfl rfl rfl rfl (fun _ q => q)
set_option maxHeartbeats 16000000 in
theorem s302_1689 (h : mH) (l0 : Nat) (l1 : Nat) (l2 : Nat) (l3 : Int32) : Seg 302 (1689, [.ref l0, .ref l1, .ref l2, .int l3], []) h (f302_1689 h l0 l1 l2 l3) (Sum.elim (fun s : (Int32 × mH) => Ev 302 (18, [.ref l0, .ref l1, .ref l2, .int s.1], []) s.2) (fun (q : Int32 × mH) (res : Option Value × mH) => res = (some (.int q.1), q.2))) := by
  unfold f302_1689
  refine Seg.blk (f' := (if ((mI h 2000000 (Int32.toNatClampNeg (l3 + 4))) : Int32) = 0 then 1717 else 1713, [.ref l0, .ref l1, .ref l2, .int l3], [.int (mI h 2000000 (Int32.toNatClampNeg (l3 + 3))), .int (mI h 2000000 (Int32.toNatClampNeg (l3 + 2))), .int (mI h 2000000 (Int32.toNatClampNeg (l3 + 1))), .ref l1])) (h' := h) rfl rfl ?_
  refine Seg.ite (fun _ => ?_) (fun _ => ?_)
  · refine Seg.blk0 (f' := (1718, [.ref l0, .ref l1, .ref l2, .int l3], [.int 0, .int (mI h 2000000 (Int32.toNatClampNeg (l3 + 3))), .int (mI h 2000000 (Int32.toNatClampNeg (l3 + 2))), .int (mI h 2000000 (Int32.toNatClampNeg (l3 + 1))), .ref l1])) (h' := h) rfl rfl ?_
    refine Seg.call (f1 := (1718, [.ref l0, .ref l1, .ref l2, .int l3], [.int 0, .int (mI h 2000000 (Int32.toNatClampNeg (l3 + 3))), .int (mI h 2000000 (Int32.toNatClampNeg (l3 + 2))), .int (mI h 2000000 (Int32.toNatClampNeg (l3 + 1))), .ref l1])) (h1 := h) (cv := fun r => some (.long r)) rfl rfl rfl rfl (s167 h l1 (mI h 2000000 (Int32.toNatClampNeg (l3 + 1))) (mI h 2000000 (Int32.toNatClampNeg (l3 + 2))) (mI h 2000000 (Int32.toNatClampNeg (l3 + 3))) 0) (fun r101 => ?_)
    refine Seg.blk (f' := (if ((mI r101.2 2000000 (Int32.toNatClampNeg (l3 + 4))) : Int32) = 0 then 1749 else 1745, [.ref l0, .ref l1, .ref l2, .int l3], [.int (mI r101.2 2000000 (Int32.toNatClampNeg (l3 + 3))), .int (mI r101.2 2000000 (Int32.toNatClampNeg (l3 + 2))), .int (mI r101.2 2000000 (Int32.toNatClampNeg (l3 + 1))), .ref l2, .long r101.1])) (h' := r101.2) rfl rfl ?_
    refine Seg.ite (fun _ => ?_) (fun _ => ?_)
    · refine Seg.blk0 (f' := (1750, [.ref l0, .ref l1, .ref l2, .int l3], [.int 0, .int (mI r101.2 2000000 (Int32.toNatClampNeg (l3 + 3))), .int (mI r101.2 2000000 (Int32.toNatClampNeg (l3 + 2))), .int (mI r101.2 2000000 (Int32.toNatClampNeg (l3 + 1))), .ref l2, .long r101.1])) (h' := r101.2) rfl rfl ?_
      refine Seg.call (f1 := (1750, [.ref l0, .ref l1, .ref l2, .int l3], [.int 0, .int (mI r101.2 2000000 (Int32.toNatClampNeg (l3 + 3))), .int (mI r101.2 2000000 (Int32.toNatClampNeg (l3 + 2))), .int (mI r101.2 2000000 (Int32.toNatClampNeg (l3 + 1))), .ref l2, .long r101.1])) (h1 := r101.2) (cv := fun r => some (.long r)) rfl rfl rfl rfl (s295 r101.2 l2 (mI r101.2 2000000 (Int32.toNatClampNeg (l3 + 1))) (mI r101.2 2000000 (Int32.toNatClampNeg (l3 + 2))) (mI r101.2 2000000 (Int32.toNatClampNeg (l3 + 3))) 0) (fun r102 => ?_)
      refine Seg.blk0 (f' := (if ((lg_cmp r101.1 r102.1) : Int32) = 0 then 1887 else 1757, [.ref l0, .ref l1, .ref l2, .int l3], [])) (h' := r102.2) rfl rfl ?_
      refine Seg.ite (fun _ => ?_) (fun _ => ?_)
      · exact Seg.w (mLw.k (mLw.k (mLw.k (mLw.k mLw.nil)))) (s302_1887 r102.2 l0 l1 l2 l3)
      · refine Seg.x ?_
        exact Seg.ret (f1 := (1758, [.ref l0, .ref l1, .ref l2, .int l3], [.int 0])) (h1 := r102.2) rfl rfl rfl rfl (fun _ q => q)
    · refine Seg.blk0 (f' := (1750, [.ref l0, .ref l1, .ref l2, .int l3], [.int 1, .int (mI r101.2 2000000 (Int32.toNatClampNeg (l3 + 3))), .int (mI r101.2 2000000 (Int32.toNatClampNeg (l3 + 2))), .int (mI r101.2 2000000 (Int32.toNatClampNeg (l3 + 1))), .ref l2, .long r101.1])) (h' := r101.2) rfl rfl ?_
      refine Seg.call (f1 := (1750, [.ref l0, .ref l1, .ref l2, .int l3], [.int 1, .int (mI r101.2 2000000 (Int32.toNatClampNeg (l3 + 3))), .int (mI r101.2 2000000 (Int32.toNatClampNeg (l3 + 2))), .int (mI r101.2 2000000 (Int32.toNatClampNeg (l3 + 1))), .ref l2, .long r101.1])) (h1 := r101.2) (cv := fun r => some (.long r)) rfl rfl rfl rfl (s295 r101.2 l2 (mI r101.2 2000000 (Int32.toNatClampNeg (l3 + 1))) (mI r101.2 2000000 (Int32.toNatClampNeg (l3 + 2))) (mI r101.2 2000000 (Int32.toNatClampNeg (l3 + 3))) 1) (fun r103 => ?_)
      refine Seg.blk0 (f' := (if ((lg_cmp r101.1 r103.1) : Int32) = 0 then 1887 else 1757, [.ref l0, .ref l1, .ref l2, .int l3], [])) (h' := r103.2) rfl rfl ?_
      refine Seg.ite (fun _ => ?_) (fun _ => ?_)
      · exact Seg.w (mLw.k (mLw.k (mLw.k (mLw.k mLw.nil)))) (s302_1887 r103.2 l0 l1 l2 l3)
      · refine Seg.x ?_
        exact Seg.ret (f1 := (1758, [.ref l0, .ref l1, .ref l2, .int l3], [.int 0])) (h1 := r103.2) rfl rfl rfl rfl (fun _ q => q)
  · refine Seg.blk0 (f' := (1718, [.ref l0, .ref l1, .ref l2, .int l3], [.int 1, .int (mI h 2000000 (Int32.toNatClampNeg (l3 + 3))), .int (mI h 2000000 (Int32.toNatClampNeg (l3 + 2))), .int (mI h 2000000 (Int32.toNatClampNeg (l3 + 1))), .ref l1])) (h' := h) rfl rfl ?_
    refine Seg.call (f1 := (1718, [.ref l0, .ref l1, .ref l2, .int l3], [.int 1, .int (mI h 2000000 (Int32.toNatClampNeg (l3 + 3))), .int (mI h 2000000 (Int32.toNatClampNeg (l3 + 2))), .int (mI h 2000000 (Int32.toNatClampNeg (l3 + 1))), .ref l1])) (h1 := h) (cv := fun r => some (.long r)) rfl rfl rfl rfl (s167 h l1 (mI h 2000000 (Int32.toNatClampNeg (l3 + 1))) (mI h 2000000 (Int32.toNatClampNeg (l3 + 2))) (mI h 2000000 (Int32.toNatClampNeg (l3 + 3))) 1) (fun r104 => ?_)
    refine Seg.blk (f' := (if ((mI r104.2 2000000 (Int32.toNatClampNeg (l3 + 4))) : Int32) = 0 then 1749 else 1745, [.ref l0, .ref l1, .ref l2, .int l3], [.int (mI r104.2 2000000 (Int32.toNatClampNeg (l3 + 3))), .int (mI r104.2 2000000 (Int32.toNatClampNeg (l3 + 2))), .int (mI r104.2 2000000 (Int32.toNatClampNeg (l3 + 1))), .ref l2, .long r104.1])) (h' := r104.2) rfl rfl ?_
    refine Seg.ite (fun _ => ?_) (fun _ => ?_)
    · refine Seg.blk0 (f' := (1750, [.ref l0, .ref l1, .ref l2, .int l3], [.int 0, .int (mI r104.2 2000000 (Int32.toNatClampNeg (l3 + 3))), .int (mI r104.2 2000000 (Int32.toNatClampNeg (l3 + 2))), .int (mI r104.2 2000000 (Int32.toNatClampNeg (l3 + 1))), .ref l2, .long r104.1])) (h' := r104.2) rfl rfl ?_
      refine Seg.call (f1 := (1750, [.ref l0, .ref l1, .ref l2, .int l3], [.int 0, .int (mI r104.2 2000000 (Int32.toNatClampNeg (l3 + 3))), .int (mI r104.2 2000000 (Int32.toNatClampNeg (l3 + 2))), .int (mI r104.2 2000000 (Int32.toNatClampNeg (l3 + 1))), .ref l2, .long r104.1])) (h1 := r104.2) (cv := fun r => some (.long r)) rfl rfl rfl rfl (s295 r104.2 l2 (mI r104.2 2000000 (Int32.toNatClampNeg (l3 + 1))) (mI r104.2 2000000 (Int32.toNatClampNeg (l3 + 2))) (mI r104.2 2000000 (Int32.toNatClampNeg (l3 + 3))) 0) (fun r105 => ?_)
      refine Seg.blk0 (f' := (if ((lg_cmp r104.1 r105.1) : Int32) = 0 then 1887 else 1757, [.ref l0, .ref l1, .ref l2, .int l3], [])) (h' := r105.2) rfl rfl ?_
      refine Seg.ite (fun _ => ?_) (fun _ => ?_)
      · exact Seg.w (mLw.k (mLw.k (mLw.k (mLw.k mLw.nil)))) (s302_1887 r105.2 l0 l1 l2 l3)
      · refine Seg.x ?_
        exact Seg.ret (f1 := (1758, [.ref l0, .ref l1, .ref l2, .int l3], [.int 0])) (h1 := r105.2) rfl rfl rfl rfl (fun _ q => q)
    · refine Seg.blk0 (f' := (1750, [.ref l0, .ref l1, .ref l2, .int l3], [.int 1, .int (mI r104.2 2000000 (Int32.toNatClampNeg (l3 + 3))), .int (mI r104.2 2000000 (Int32.toNatClampNeg (l3 + 2))), .int (mI r104.2 2000000 (Int32.toNatClampNeg (l3 + 1))), .ref l2, .long r104.1])) (h' := r104.2) rfl rfl ?_
      refine Seg.call (f1 := (1750, [.ref l0, .ref l1, .ref l2, .int l3], [.int 1, .int (mI r104.2 2000000 (Int32.toNatClampNeg (l3 + 3))), .int (mI r104.2 2000000 (Int32.toNatClampNeg (l3 + 2))), .int (mI r104.2 2000000 (Int32.toNatClampNeg (l3 + 1))), .ref l2, .long r104.1])) (h1 := r104.2) (cv := fun r => some (.long r)) rfl rfl rfl rfl (s295 r104.2 l2 (mI r104.2 2000000 (Int32.toNatClampNeg (l3 + 1))) (mI r104.2 2000000 (Int32.toNatClampNeg (l3 + 2))) (mI r104.2 2000000 (Int32.toNatClampNeg (l3 + 3))) 1) (fun r106 => ?_)
      refine Seg.blk0 (f' := (if ((lg_cmp r104.1 r106.1) : Int32) = 0 then 1887 else 1757, [.ref l0, .ref l1, .ref l2, .int l3], [])) (h' := r106.2) rfl rfl ?_
      refine Seg.ite (fun _ => ?_) (fun _ => ?_)
      · exact Seg.w (mLw.k (mLw.k (mLw.k (mLw.k mLw.nil)))) (s302_1887 r106.2 l0 l1 l2 l3)
      · refine Seg.x ?_
        exact Seg.ret (f1 := (1758, [.ref l0, .ref l1, .ref l2, .int l3], [.int 0])) (h1 := r106.2) rfl rfl rfl rfl (fun _ q => q)
set_option maxHeartbeats 16000000 in
theorem s302_1759 (h : mH) (l0 : Nat) (l1 : Nat) (l2 : Nat) (l3 : Int32) : Seg 302 (1759, [.ref l0, .ref l1, .ref l2, .int l3], []) h (f302_1759 h l0 l1 l2 l3) (Sum.elim (fun s : (Int32 × mH) => Ev 302 (18, [.ref l0, .ref l1, .ref l2, .int s.1], []) s.2) (fun (q : Int32 × mH) (res : Option Value × mH) => res = (some (.int q.1), q.2))) := by
  unfold f302_1759
  refine Seg.blk (f' := (if ((mI h 2000000 (Int32.toNatClampNeg (l3 + 3))) : Int32) = 0 then 1782 else 1778, [.ref l0, .ref l1, .ref l2, .int l3], [.int (mI h 2000000 (Int32.toNatClampNeg (l3 + 2))), .int (mI h 2000000 (Int32.toNatClampNeg (l3 + 1))), .ref l1])) (h' := h) rfl rfl ?_
  refine Seg.ite (fun _ => ?_) (fun _ => ?_)
  · refine Seg.blk0 (f' := (1783, [.ref l0, .ref l1, .ref l2, .int l3], [.int 0, .int (mI h 2000000 (Int32.toNatClampNeg (l3 + 2))), .int (mI h 2000000 (Int32.toNatClampNeg (l3 + 1))), .ref l1])) (h' := h) rfl rfl ?_
    refine Seg.call (f1 := (1783, [.ref l0, .ref l1, .ref l2, .int l3], [.int 0, .int (mI h 2000000 (Int32.toNatClampNeg (l3 + 2))), .int (mI h 2000000 (Int32.toNatClampNeg (l3 + 1))), .ref l1])) (h1 := h) (cv := fun r => some (.int r)) rfl rfl rfl rfl (s168 h l1 (mI h 2000000 (Int32.toNatClampNeg (l3 + 1))) (mI h 2000000 (Int32.toNatClampNeg (l3 + 2))) 0) (fun r107 => ?_)
    refine Seg.blk (f' := (if ((mI r107.2 2000000 (Int32.toNatClampNeg (l3 + 3))) : Int32) = 0 then 1809 else 1805, [.ref l0, .ref l1, .ref l2, .int l3], [.int (mI r107.2 2000000 (Int32.toNatClampNeg (l3 + 2))), .int (mI r107.2 2000000 (Int32.toNatClampNeg (l3 + 1))), .ref l2, .int r107.1])) (h' := r107.2) rfl rfl ?_
    refine Seg.ite (fun _ => ?_) (fun _ => ?_)
    · refine Seg.blk0 (f' := (1810, [.ref l0, .ref l1, .ref l2, .int l3], [.int 0, .int (mI r107.2 2000000 (Int32.toNatClampNeg (l3 + 2))), .int (mI r107.2 2000000 (Int32.toNatClampNeg (l3 + 1))), .ref l2, .int r107.1])) (h' := r107.2) rfl rfl ?_
      refine Seg.call (f1 := (1810, [.ref l0, .ref l1, .ref l2, .int l3], [.int 0, .int (mI r107.2 2000000 (Int32.toNatClampNeg (l3 + 2))), .int (mI r107.2 2000000 (Int32.toNatClampNeg (l3 + 1))), .ref l2, .int r107.1])) (h1 := r107.2) (cv := fun r => some (.int r)) rfl rfl rfl rfl (s296 r107.2 l2 (mI r107.2 2000000 (Int32.toNatClampNeg (l3 + 1))) (mI r107.2 2000000 (Int32.toNatClampNeg (l3 + 2))) 0) (fun r108 => ?_)
      refine Seg.blk0 (f' := (if (r107.1 : Int32) = r108.1 then 1887 else 1816, [.ref l0, .ref l1, .ref l2, .int l3], [])) (h' := r108.2) rfl rfl ?_
      refine Seg.ite (fun _ => ?_) (fun _ => ?_)
      · exact Seg.w (mLw.k (mLw.k (mLw.k (mLw.k mLw.nil)))) (s302_1887 r108.2 l0 l1 l2 l3)
      · refine Seg.x ?_
        exact Seg.ret (f1 := (1817, [.ref l0, .ref l1, .ref l2, .int l3], [.int 0])) (h1 := r108.2) rfl rfl rfl rfl (fun _ q => q)
    · refine Seg.blk0 (f' := (1810, [.ref l0, .ref l1, .ref l2, .int l3], [.int 1, .int (mI r107.2 2000000 (Int32.toNatClampNeg (l3 + 2))), .int (mI r107.2 2000000 (Int32.toNatClampNeg (l3 + 1))), .ref l2, .int r107.1])) (h' := r107.2) rfl rfl ?_
      refine Seg.call (f1 := (1810, [.ref l0, .ref l1, .ref l2, .int l3], [.int 1, .int (mI r107.2 2000000 (Int32.toNatClampNeg (l3 + 2))), .int (mI r107.2 2000000 (Int32.toNatClampNeg (l3 + 1))), .ref l2, .int r107.1])) (h1 := r107.2) (cv := fun r => some (.int r)) rfl rfl rfl rfl (s296 r107.2 l2 (mI r107.2 2000000 (Int32.toNatClampNeg (l3 + 1))) (mI r107.2 2000000 (Int32.toNatClampNeg (l3 + 2))) 1) (fun r109 => ?_)
      refine Seg.blk0 (f' := (if (r107.1 : Int32) = r109.1 then 1887 else 1816, [.ref l0, .ref l1, .ref l2, .int l3], [])) (h' := r109.2) rfl rfl ?_
      refine Seg.ite (fun _ => ?_) (fun _ => ?_)
      · exact Seg.w (mLw.k (mLw.k (mLw.k (mLw.k mLw.nil)))) (s302_1887 r109.2 l0 l1 l2 l3)
      · refine Seg.x ?_
        exact Seg.ret (f1 := (1817, [.ref l0, .ref l1, .ref l2, .int l3], [.int 0])) (h1 := r109.2) rfl rfl rfl rfl (fun _ q => q)
  · refine Seg.blk0 (f' := (1783, [.ref l0, .ref l1, .ref l2, .int l3], [.int 1, .int (mI h 2000000 (Int32.toNatClampNeg (l3 + 2))), .int (mI h 2000000 (Int32.toNatClampNeg (l3 + 1))), .ref l1])) (h' := h) rfl rfl ?_
    refine Seg.call (f1 := (1783, [.ref l0, .ref l1, .ref l2, .int l3], [.int 1, .int (mI h 2000000 (Int32.toNatClampNeg (l3 + 2))), .int (mI h 2000000 (Int32.toNatClampNeg (l3 + 1))), .ref l1])) (h1 := h) (cv := fun r => some (.int r)) rfl rfl rfl rfl (s168 h l1 (mI h 2000000 (Int32.toNatClampNeg (l3 + 1))) (mI h 2000000 (Int32.toNatClampNeg (l3 + 2))) 1) (fun r110 => ?_)
    refine Seg.blk (f' := (if ((mI r110.2 2000000 (Int32.toNatClampNeg (l3 + 3))) : Int32) = 0 then 1809 else 1805, [.ref l0, .ref l1, .ref l2, .int l3], [.int (mI r110.2 2000000 (Int32.toNatClampNeg (l3 + 2))), .int (mI r110.2 2000000 (Int32.toNatClampNeg (l3 + 1))), .ref l2, .int r110.1])) (h' := r110.2) rfl rfl ?_
    refine Seg.ite (fun _ => ?_) (fun _ => ?_)
    · refine Seg.blk0 (f' := (1810, [.ref l0, .ref l1, .ref l2, .int l3], [.int 0, .int (mI r110.2 2000000 (Int32.toNatClampNeg (l3 + 2))), .int (mI r110.2 2000000 (Int32.toNatClampNeg (l3 + 1))), .ref l2, .int r110.1])) (h' := r110.2) rfl rfl ?_
      refine Seg.call (f1 := (1810, [.ref l0, .ref l1, .ref l2, .int l3], [.int 0, .int (mI r110.2 2000000 (Int32.toNatClampNeg (l3 + 2))), .int (mI r110.2 2000000 (Int32.toNatClampNeg (l3 + 1))), .ref l2, .int r110.1])) (h1 := r110.2) (cv := fun r => some (.int r)) rfl rfl rfl rfl (s296 r110.2 l2 (mI r110.2 2000000 (Int32.toNatClampNeg (l3 + 1))) (mI r110.2 2000000 (Int32.toNatClampNeg (l3 + 2))) 0) (fun r111 => ?_)
      refine Seg.blk0 (f' := (if (r110.1 : Int32) = r111.1 then 1887 else 1816, [.ref l0, .ref l1, .ref l2, .int l3], [])) (h' := r111.2) rfl rfl ?_
      refine Seg.ite (fun _ => ?_) (fun _ => ?_)
      · exact Seg.w (mLw.k (mLw.k (mLw.k (mLw.k mLw.nil)))) (s302_1887 r111.2 l0 l1 l2 l3)
      · refine Seg.x ?_
        exact Seg.ret (f1 := (1817, [.ref l0, .ref l1, .ref l2, .int l3], [.int 0])) (h1 := r111.2) rfl rfl rfl rfl (fun _ q => q)
    · refine Seg.blk0 (f' := (1810, [.ref l0, .ref l1, .ref l2, .int l3], [.int 1, .int (mI r110.2 2000000 (Int32.toNatClampNeg (l3 + 2))), .int (mI r110.2 2000000 (Int32.toNatClampNeg (l3 + 1))), .ref l2, .int r110.1])) (h' := r110.2) rfl rfl ?_
      refine Seg.call (f1 := (1810, [.ref l0, .ref l1, .ref l2, .int l3], [.int 1, .int (mI r110.2 2000000 (Int32.toNatClampNeg (l3 + 2))), .int (mI r110.2 2000000 (Int32.toNatClampNeg (l3 + 1))), .ref l2, .int r110.1])) (h1 := r110.2) (cv := fun r => some (.int r)) rfl rfl rfl rfl (s296 r110.2 l2 (mI r110.2 2000000 (Int32.toNatClampNeg (l3 + 1))) (mI r110.2 2000000 (Int32.toNatClampNeg (l3 + 2))) 1) (fun r112 => ?_)
      refine Seg.blk0 (f' := (if (r110.1 : Int32) = r112.1 then 1887 else 1816, [.ref l0, .ref l1, .ref l2, .int l3], [])) (h' := r112.2) rfl rfl ?_
      refine Seg.ite (fun _ => ?_) (fun _ => ?_)
      · exact Seg.w (mLw.k (mLw.k (mLw.k (mLw.k mLw.nil)))) (s302_1887 r112.2 l0 l1 l2 l3)
      · refine Seg.x ?_
        exact Seg.ret (f1 := (1817, [.ref l0, .ref l1, .ref l2, .int l3], [.int 0])) (h1 := r112.2) rfl rfl rfl rfl (fun _ q => q)
