set_option maxHeartbeats 16000000 in
theorem s302_1273 (h : mH) (l0 : Nat) (l1 : Nat) (l2 : Nat) (l3 : Int32) : Seg 302 (1273, [.ref l0, .ref l1, .ref l2, .int l3], []) h (f302_1273 h l0 l1 l2 l3) (Sum.elim (fun s : (Int32 × mH) => Ev 302 (18, [.ref l0, .ref l1, .ref l2, .int s.1], []) s.2) (fun (q : Int32 × mH) (res : Option Value × mH) => res = (some (.int q.1), q.2))) := by
  unfold f302_1273
  refine Seg.blk (f' := (if ((mI h 2000000 (Int32.toNatClampNeg (l3 + 2))) : Int32) = 0 then 1291 else 1287, [.ref l0, .ref l1, .ref l2, .int l3], [.int (mI h 2000000 (Int32.toNatClampNeg (l3 + 1))), .ref l1])) (h' := h) rfl rfl ?_
  refine Seg.ite (fun _ => ?_) (fun _ => ?_)
  · refine Seg.blk0 (f' := (1292, [.ref l0, .ref l1, .ref l2, .int l3], [.int 0, .int (mI h 2000000 (Int32.toNatClampNeg (l3 + 1))), .ref l1])) (h' := h) rfl rfl ?_
    refine Seg.call (f1 := (1292, [.ref l0, .ref l1, .ref l2, .int l3], [.int 0, .int (mI h 2000000 (Int32.toNatClampNeg (l3 + 1))), .ref l1])) (h1 := h) (cv := fun r => some (.int r)) rfl rfl rfl rfl (s149 h l1 (mI h 2000000 (Int32.toNatClampNeg (l3 + 1))) 0) (fun r65 => ?_)
    refine Seg.blk (f' := (if ((mI r65.2 2000000 (Int32.toNatClampNeg (l3 + 2))) : Int32) = 0 then 1313 else 1309, [.ref l0, .ref l1, .ref l2, .int l3], [.int (mI r65.2 2000000 (Int32.toNatClampNeg (l3 + 1))), .ref l2, .int r65.1])) (h' := r65.2) rfl rfl ?_
    refine Seg.ite (fun _ => ?_) (fun _ => ?_)
    · refine Seg.blk0 (f' := (1314, [.ref l0, .ref l1, .ref l2, .int l3], [.int 0, .int (mI r65.2 2000000 (Int32.toNatClampNeg (l3 + 1))), .ref l2, .int r65.1])) (h' := r65.2) rfl rfl ?_
      refine Seg.call (f1 := (1314, [.ref l0, .ref l1, .ref l2, .int l3], [.int 0, .int (mI r65.2 2000000 (Int32.toNatClampNeg (l3 + 1))), .ref l2, .int r65.1])) (h1 := r65.2) (cv := fun r => some (.int r)) rfl rfl rfl rfl (s284 r65.2 l2 (mI r65.2 2000000 (Int32.toNatClampNeg (l3 + 1))) 0) (fun r66 => ?_)
      refine Seg.blk0 (f' := (if (r65.1 : Int32) = r66.1 then 1887 else 1320, [.ref l0, .ref l1, .ref l2, .int l3], [])) (h' := r66.2) rfl rfl ?_
      refine Seg.ite (fun _ => ?_) (fun _ => ?_)
      · exact Seg.w (mLw.k (mLw.k (mLw.k (mLw.k mLw.nil)))) (s302_1887 r66.2 l0 l1 l2 l3)
      · refine Seg.x ?_
        exact Seg.ret (f1 := (1321, [.ref l0, .ref l1, .ref l2, .int l3], [.int 0])) (h1 := r66.2) rfl rfl rfl rfl (fun _ q => q)
    · refine Seg.blk0 (f' := (1314, [.ref l0, .ref l1, .ref l2, .int l3], [.int 1, .int (mI r65.2 2000000 (Int32.toNatClampNeg (l3 + 1))), .ref l2, .int r65.1])) (h' := r65.2) rfl rfl ?_
      refine Seg.call (f1 := (1314, [.ref l0, .ref l1, .ref l2, .int l3], [.int 1, .int (mI r65.2 2000000 (Int32.toNatClampNeg (l3 + 1))), .ref l2, .int r65.1])) (h1 := r65.2) (cv := fun r => some (.int r)) rfl rfl rfl rfl (s284 r65.2 l2 (mI r65.2 2000000 (Int32.toNatClampNeg (l3 + 1))) 1) (fun r67 => ?_)
      refine Seg.blk0 (f' := (if (r65.1 : Int32) = r67.1 then 1887 else 1320, [.ref l0, .ref l1, .ref l2, .int l3], [])) (h' := r67.2) rfl rfl ?_
      refine Seg.ite (fun _ => ?_) (fun _ => ?_)
      · exact Seg.w (mLw.k (mLw.k (mLw.k (mLw.k mLw.nil)))) (s302_1887 r67.2 l0 l1 l2 l3)
      · refine Seg.x ?_
        exact Seg.ret (f1 := (1321, [.ref l0, .ref l1, .ref l2, .int l3], [.int 0])) (h1 := r67.2) rfl rfl rfl rfl (fun _ q => q)
  · refine Seg.blk0 (f' := (1292, [.ref l0, .ref l1, .ref l2, .int l3], [.int 1, .int (mI h 2000000 (Int32.toNatClampNeg (l3 + 1))), .ref l1])) (h' := h) rfl rfl ?_
    refine Seg.call (f1 := (1292, [.ref l0, .ref l1, .ref l2, .int l3], [.int 1, .int (mI h 2000000 (Int32.toNatClampNeg (l3 + 1))), .ref l1])) (h1 := h) (cv := fun r => some (.int r)) rfl rfl rfl rfl (s149 h l1 (mI h 2000000 (Int32.toNatClampNeg (l3 + 1))) 1) (fun r68 => ?_)
    refine Seg.blk (f' := (if ((mI r68.2 2000000 (Int32.toNatClampNeg (l3 + 2))) : Int32) = 0 then 1313 else 1309, [.ref l0, .ref l1, .ref l2, .int l3], [.int (mI r68.2 2000000 (Int32.toNatClampNeg (l3 + 1))), .ref l2, .int r68.1])) (h' := r68.2) rfl rfl ?_
    refine Seg.ite (fun _ => ?_) (fun _ => ?_)
    · refine Seg.blk0 (f' := (1314, [.ref l0, .ref l1, .ref l2, .int l3], [.int 0, .int (mI r68.2 2000000 (Int32.toNatClampNeg (l3 + 1))), .ref l2, .int r68.1])) (h' := r68.2) rfl rfl ?_
      refine Seg.call (f1 := (1314, [.ref l0, .ref l1, .ref l2, .int l3], [.int 0, .int (mI r68.2 2000000 (Int32.toNatClampNeg (l3 + 1))), .ref l2, .int r68.1])) (h1 := r68.2) (cv := fun r => some (.int r)) rfl rfl rfl rfl (s284 r68.2 l2 (mI r68.2 2000000 (Int32.toNatClampNeg (l3 + 1))) 0) (fun r69 => ?_)
      refine Seg.blk0 (f' := (if (r68.1 : Int32) = r69.1 then 1887 else 1320, [.ref l0, .ref l1, .ref l2, .int l3], [])) (h' := r69.2) rfl rfl ?_
      refine Seg.ite (fun _ => ?_) (fun _ => ?_)
      · exact Seg.w (mLw.k (mLw.k (mLw.k (mLw.k mLw.nil)))) (s302_1887 r69.2 l0 l1 l2 l3)
      · refine Seg.x ?_
        exact Seg.ret (f1 := (1321, [.ref l0, .ref l1, .ref l2, .int l3], [.int 0])) (h1 := r69.2) rfl rfl rfl rfl (fun _ q => q)
    · refine Seg.blk0 (f' := (1314, [.ref l0, .ref l1, .ref l2, .int l3], [.int 1, .int (mI r68.2 2000000 (Int32.toNatClampNeg (l3 + 1))), .ref l2, .int r68.1])) (h' := r68.2) rfl rfl ?_
      refine Seg.call (f1 := (1314, [.ref l0, .ref l1, .ref l2, .int l3], [.int 1, .int (mI r68.2 2000000 (Int32.toNatClampNeg (l3 + 1))), .ref l2, .int r68.1])) (h1 := r68.2) (cv := fun r => some (.int r)) rfl rfl rfl rfl (s284 r68.2 l2 (mI r68.2 2000000 (Int32.toNatClampNeg (l3 + 1))) 1) (fun r70 => ?_)
      refine Seg.blk0 (f' := (if (r68.1 : Int32) = r70.1 then 1887 else 1320, [.ref l0, .ref l1, .ref l2, .int l3], [])) (h' := r70.2) rfl rfl ?_
      refine Seg.ite (fun _ => ?_) (fun _ => ?_)
      · exact Seg.w (mLw.k (mLw.k (mLw.k (mLw.k mLw.nil)))) (s302_1887 r70.2 l0 l1 l2 l3)
      · refine Seg.x ?_
        exact Seg.ret (f1 := (1321, [.ref l0, .ref l1, .ref l2, .int l3], [.int 0])) (h1 := r70.2) rfl rfl rfl rfl (fun _ q => q)
set_option maxHeartbeats 16000000 in
theorem s302_1322 (h : mH) (l0 : Nat) (l1 : Nat) (l2 : Nat) (l3 : Int32) : Seg 302 (1322, [.ref l0, .ref l1, .ref l2, .int l3], []) h (f302_1322 h l0 l1 l2 l3) (Sum.elim (fun s : (Int32 × mH) => Ev 302 (18, [.ref l0, .ref l1, .ref l2, .int s.1], []) s.2) (fun (q : Int32 × mH) (res : Option Value × mH) => res = (some (.int q.1), q.2))) := by
  unfold f302_1322
  refine Seg.blk (f' := (if ((mI h 2000000 (Int32.toNatClampNeg (l3 + 3))) : Int32) = 0 then 1345 else 1341, [.ref l0, .ref l1, .ref l2, .int l3], [.int (mI h 2000000 (Int32.toNatClampNeg (l3 + 2))), .int (mI h 2000000 (Int32.toNatClampNeg (l3 + 1))), .ref l1])) (h' := h) rfl rfl ?_
  refine Seg.ite (fun _ => ?_) (fun _ => ?_)
  · refine Seg.blk0 (f' := (1346, [.ref l0, .ref l1, .ref l2, .int l3], [.int 0, .int (mI h 2000000 (Int32.toNatClampNeg (l3 + 2))), .int (mI h 2000000 (Int32.toNatClampNeg (l3 + 1))), .ref l1])) (h' := h) rfl rfl ?_
    refine Seg.callP (f1 := (1346, [.ref l0, .ref l1, .ref l2, .int l3], [.int 0, .int (mI h 2000000 (Int32.toNatClampNeg (l3 + 2))), .int (mI h 2000000 (Int32.toNatClampNeg (l3 + 1))), .ref l1])) (h1 := h) (cv := fun r => some (.long r)) rfl rfl rfl rfl (s151 h l1 (mI h 2000000 (Int32.toNatClampNeg (l3 + 1))) (mI h 2000000 (Int32.toNatClampNeg (l3 + 2))) 0) (fun r71 => ?_)
    refine Seg.blk (f' := (if ((mI h 2000000 (Int32.toNatClampNeg (l3 + 3))) : Int32) = 0 then 1372 else 1368, [.ref l0, .ref l1, .ref l2, .int l3], [.int (mI h 2000000 (Int32.toNatClampNeg (l3 + 2))), .int (mI h 2000000 (Int32.toNatClampNeg (l3 + 1))), .ref l2, .long r71])) (h' := h) rfl rfl ?_
    refine Seg.ite (fun _ => ?_) (fun _ => ?_)
    · refine Seg.blk0 (f' := (1373, [.ref l0, .ref l1, .ref l2, .int l3], [.int 0, .int (mI h 2000000 (Int32.toNatClampNeg (l3 + 2))), .int (mI h 2000000 (Int32.toNatClampNeg (l3 + 1))), .ref l2, .long r71])) (h' := h) rfl rfl ?_
      refine Seg.call (f1 := (1373, [.ref l0, .ref l1, .ref l2, .int l3], [.int 0, .int (mI h 2000000 (Int32.toNatClampNeg (l3 + 2))), .int (mI h 2000000 (Int32.toNatClampNeg (l3 + 1))), .ref l2, .long r71])) (h1 := h) (cv := fun r => some (.long r)) rfl rfl rfl rfl (s285 h l2 (mI h 2000000 (Int32.toNatClampNeg (l3 + 1))) (mI h 2000000 (Int32.toNatClampNeg (l3 + 2))) 0) (fun r72 => ?_)
      refine Seg.blk0 (f' := (if ((lg_cmp r71 r72.1) : Int32) = 0 then 1887 else 1380, [.ref l0, .ref l1, .ref l2, .int l3], [])) (h' := r72.2) rfl rfl ?_
      refine Seg.ite (fun _ => ?_) (fun _ => ?_)
      · exact Seg.w (mLw.k (mLw.k (mLw.k (mLw.k mLw.nil)))) (s302_1887 r72.2 l0 l1 l2 l3)
      · refine Seg.x ?_
        exact Seg.ret (f1 := (1381, [.ref l0, .ref l1, .ref l2, .int l3], [.int 0])) (h1 := r72.2) rfl rfl rfl rfl (fun _ q => q)
    · refine Seg.blk0 (f' := (1373, [.ref l0, .ref l1, .ref l2, .int l3], [.int 1, .int (mI h 2000000 (Int32.toNatClampNeg (l3 + 2))), .int (mI h 2000000 (Int32.toNatClampNeg (l3 + 1))), .ref l2, .long r71])) (h' := h) rfl rfl ?_
      refine Seg.call (f1 := (1373, [.ref l0, .ref l1, .ref l2, .int l3], [.int 1, .int (mI h 2000000 (Int32.toNatClampNeg (l3 + 2))), .int (mI h 2000000 (Int32.toNatClampNeg (l3 + 1))), .ref l2, .long r71])) (h1 := h) (cv := fun r => some (.long r)) rfl rfl rfl rfl (s285 h l2 (mI h 2000000 (Int32.toNatClampNeg (l3 + 1))) (mI h 2000000 (Int32.toNatClampNeg (l3 + 2))) 1) (fun r73 => ?_)
      refine Seg.blk0 (f' := (if ((lg_cmp r71 r73.1) : Int32) = 0 then 1887 else 1380, [.ref l0, .ref l1, .ref l2, .int l3], [])) (h' := r73.2) rfl rfl ?_
      refine Seg.ite (fun _ => ?_) (fun _ => ?_)
      · exact Seg.w (mLw.k (mLw.k (mLw.k (mLw.k mLw.nil)))) (s302_1887 r73.2 l0 l1 l2 l3)
      · refine Seg.x ?_
        exact Seg.ret (f1 := (1381, [.ref l0, .ref l1, .ref l2, .int l3], [.int 0])) (h1 := r73.2) rfl rfl rfl rfl (fun _ q => q)
  · refine Seg.blk0 (f' := (1346, [.ref l0, .ref l1, .ref l2, .int l3], [.int 1, .int (mI h 2000000 (Int32.toNatClampNeg (l3 + 2))), .int (mI h 2000000 (Int32.toNatClampNeg (l3 + 1))), .ref l1])) (h' := h) rfl rfl ?_
    refine Seg.callP (f1 := (1346, [.ref l0, .ref l1, .ref l2, .int l3], [.int 1, .int (mI h 2000000 (Int32.toNatClampNeg (l3 + 2))), .int (mI h 2000000 (Int32.toNatClampNeg (l3 + 1))), .ref l1])) (h1 := h) (cv := fun r => some (.long r)) rfl rfl rfl rfl (s151 h l1 (mI h 2000000 (Int32.toNatClampNeg (l3 + 1))) (mI h 2000000 (Int32.toNatClampNeg (l3 + 2))) 1) (fun r74 => ?_)
    refine Seg.blk (f' := (if ((mI h 2000000 (Int32.toNatClampNeg (l3 + 3))) : Int32) = 0 then 1372 else 1368, [.ref l0, .ref l1, .ref l2, .int l3], [.int (mI h 2000000 (Int32.toNatClampNeg (l3 + 2))), .int (mI h 2000000 (Int32.toNatClampNeg (l3 + 1))), .ref l2, .long r74])) (h' := h) rfl rfl ?_
    refine Seg.ite (fun _ => ?_) (fun _ => ?_)
    · refine Seg.blk0 (f' := (1373, [.ref l0, .ref l1, .ref l2, .int l3], [.int 0, .int (mI h 2000000 (Int32.toNatClampNeg (l3 + 2))), .int (mI h 2000000 (Int32.toNatClampNeg (l3 + 1))), .ref l2, .long r74])) (h' := h) rfl rfl ?_
      refine Seg.call (f1 := (1373, [.ref l0, .ref l1, .ref l2, .int l3], [.int 0, .int (mI h 2000000 (Int32.toNatClampNeg (l3 + 2))), .int (mI h 2000000 (Int32.toNatClampNeg (l3 + 1))), .ref l2, .long r74])) (h1 := h) (cv := fun r => some (.long r)) rfl rfl rfl rfl (s285 h l2 (mI h 2000000 (Int32.toNatClampNeg (l3 + 1))) (mI h 2000000 (Int32.toNatClampNeg (l3 + 2))) 0) (fun r75 => ?_)
      refine Seg.blk0 (f' := (if ((lg_cmp r74 r75.1) : Int32) = 0 then 1887 else 1380, [.ref l0, .ref l1, .ref l2, .int l3], [])) (h' := r75.2) rfl rfl ?_
      refine Seg.ite (fun _ => ?_) (fun _ => ?_)
      · exact Seg.w (mLw.k (mLw.k (mLw.k (mLw.k mLw.nil)))) (s302_1887 r75.2 l0 l1 l2 l3)
      · refine Seg.x ?_
        exact Seg.ret (f1 := (1381, [.ref l0, .ref l1, .ref l2, .int l3], [.int 0])) (h1 := r75.2) rfl rfl rfl rfl (fun _ q => q)
    · refine Seg.blk0 (f' := (1373, [.ref l0, .ref l1, .ref l2, .int l3], [.int 1, .int (mI h 2000000 (Int32.toNatClampNeg (l3 + 2))), .int (mI h 2000000 (Int32.toNatClampNeg (l3 + 1))), .ref l2, .long r74])) (h' := h) rfl rfl ?_
      refine Seg.call (f1 := (1373, [.ref l0, .ref l1, .ref l2, .int l3], [.int 1, .int (mI h 2000000 (Int32.toNatClampNeg (l3 + 2))), .int (mI h 2000000 (Int32.toNatClampNeg (l3 + 1))), .ref l2, .long r74])) (h1 := h) (cv := fun r => some (.long r)) rfl rfl rfl rfl (s285 h l2 (mI h 2000000 (Int32.toNatClampNeg (l3 + 1))) (mI h 2000000 (Int32.toNatClampNeg (l3 + 2))) 1) (fun r76 => ?_)
      refine Seg.blk0 (f' := (if ((lg_cmp r74 r76.1) : Int32) = 0 then 1887 else 1380, [.ref l0, .ref l1, .ref l2, .int l3], [])) (h' := r76.2) rfl rfl ?_
      refine Seg.ite (fun _ => ?_) (fun _ => ?_)
      · exact Seg.w (mLw.k (mLw.k (mLw.k (mLw.k mLw.nil)))) (s302_1887 r76.2 l0 l1 l2 l3)
      · refine Seg.x ?_
        exact Seg.ret (f1 := (1381, [.ref l0, .ref l1, .ref l2, .int l3], [.int 0])) (h1 := r76.2) rfl rfl rfl rfl (fun _ q => q)
set_option maxHeartbeats 16000000 in
theorem s302_1382 (h : mH) (l0 : Nat) (l1 : Nat) (l2 : Nat) (l3 : Int32) : Seg 302 (1382, [.ref l0, .ref l1, .ref l2, .int l3], []) h (f302_1382 h l0 l1 l2 l3) (Sum.elim (fun s : (Int32 × mH) => Ev 302 (18, [.ref l0, .ref l1, .ref l2, .int s.1], []) s.2) (fun (q : Int32 × mH) (res : Option Value × mH) => res = (some (.int q.1), q.2))) := by
  unfold f302_1382
  refine Seg.call (f1 := (1398, [.ref l0, .ref l1, .ref l2, .int l3], [.int (mI h 2000000 (Int32.toNatClampNeg (l3 + 3))), .int (mI h 2000000 (Int32.toNatClampNeg (l3 + 2))), .int (mI h 2000000 (Int32.toNatClampNeg (l3 + 1))), .ref l1])) (h1 := h) (cv := fun r => some (.int r)) rfl rfl rfl rfl (s153 h l1 (mI h 2000000 (Int32.toNatClampNeg (l3 + 1))) (mI h 2000000 (Int32.toNatClampNeg (l3 + 2))) (mI h 2000000 (Int32.toNatClampNeg (l3 + 3)))) (fun r77 => ?_)
  refine Seg.call (f1 := (1417, [.ref l0, .ref l1, .ref l2, .int l3], [.int (mI r77.2 2000000 (Int32.toNatClampNeg (l3 + 3))), .int (mI r77.2 2000000 (Int32.toNatClampNeg (l3 + 2))), .int (mI r77.2 2000000 (Int32.toNatClampNeg (l3 + 1))), .ref l2, .int r77.1])) (h1 := r77.2) (cv := fun r => some (.int r)) rfl rfl rfl rfl (s286 r77.2 l2 (mI r77.2 2000000 (Int32.toNatClampNeg (l3 + 1))) (mI r77.2 2000000 (Int32.toNatClampNeg (l3 + 2))) (mI r77.2 2000000 (Int32.toNatClampNeg (l3 + 3)))) (fun r78 => ?_)
  refine Seg.blk0 (f' := (if (r77.1 : Int32) = r78.1 then 1887 else 1423, [.ref l0, .ref l1, .ref l2, .int l3], [])) (h' := r78.2) rfl rfl ?_
  refine Seg.ite (fun _ => ?_) (fun _ => ?_)
  · exact Seg.w (mLw.k (mLw.k (mLw.k (mLw.k mLw.nil)))) (s302_1887 r78.2 l0 l1 l2 l3)
  · refine Seg.x ?_
    exact Seg.ret (f1 := (1424, [.ref l0, .ref l1, .ref l2, .int l3], [.int 0])) (h1 := r78.2) rfl rfl rfl rfl (fun _ q => q)
set_option maxHeartbeats 16000000 in
theorem s302_1425 (h : mH) (l0 : Nat) (l1 : Nat) (l2 : Nat) (l3 : Int32) : Seg 302 (1425, [.ref l0, .ref l1, .ref l2, .int l3], []) h (f302_1425 h l0 l1 l2 l3) (Sum.elim (fun s : (Int32 × mH) => Ev 302 (18, [.ref l0, .ref l1, .ref l2, .int s.1], []) s.2) (fun (q : Int32 × mH) (res : Option Value × mH) => res = (some (.int q.1), q.2))) := by
  unfold f302_1425
  refine Seg.callP (f1 := (1441, [.ref l0, .ref l1, .ref l2, .int l3], [.int (mI h 2000000 (Int32.toNatClampNeg (l3 + 3))), .int (mI h 2000000 (Int32.toNatClampNeg (l3 + 2))), .int (mI h 2000000 (Int32.toNatClampNeg (l3 + 1))), .ref l1])) (h1 := h) (cv := fun r => some (.int r)) rfl rfl rfl rfl (s157 h l1 (mI h 2000000 (Int32.toNatClampNeg (l3 + 1))) (mI h 2000000 (Int32.toNatClampNeg (l3 + 2))) (mI h 2000000 (Int32.toNatClampNeg (l3 + 3)))) (fun r79 => ?_)
  refine Seg.call (f1 := (1460, [.ref l0, .ref l1, .ref l2, .int l3], [.int (mI h 2000000 (Int32.toNatClampNeg (l3 + 3))), .int (mI h 2000000 (Int32.toNatClampNeg (l3 + 2))), .int (mI h 2000000 (Int32.toNatClampNeg (l3 + 1))), .ref l2, .int r79])) (h1 := h) (cv := fun r => some (.int r)) rfl rfl rfl rfl (s288 h l2 (mI h 2000000 (Int32.toNatClampNeg (l3 + 1))) (mI h 2000000 (Int32.toNatClampNeg (l3 + 2))) (mI h 2000000 (Int32.toNatClampNeg (l3 + 3)))) (fun r80 => ?_)
  refine Seg.blk0 (f' := (if (r79 : Int32) = r80.1 then 1887 else 1466, [.ref l0, .ref l1, .ref l2, .int l3], [])) (h' := r80.2) rfl rfl ?_
  refine Seg.ite (fun _ => ?_) (fun _ => ?_)
  · exact Seg.w (mLw.k (mLw.k (mLw.k (mLw.k mLw.nil)))) (s302_1887 r80.2 l0 l1 l2 l3)
  · refine Seg.x ?_
    exact Seg.ret (f1 := (1467, [.ref l0, .ref l1, .ref l2, .int l3], [.int 0])) (h1 := r80.2) rfl rfl rfl rfl (fun _ q => q)
set_option maxHeartbeats 16000000 in
theorem s302_1468 (h : mH) (l0 : Nat) (l1 : Nat) (l2 : Nat) (l3 : Int32) : Seg 302 (1468, [.ref l0, .ref l1, .ref l2, .int l3], []) h (f302_1468 h l0 l1 l2 l3) (Sum.elim (fun s : (Int32 × mH) => Ev 302 (18, [.ref l0, .ref l1, .ref l2, .int s.1], []) s.2) (fun (q : Int32 × mH) (res : Option Value × mH) => res = (some (.int q.1), q.2))) := by
  unfold f302_1468
  refine Seg.blk (f' := (if ((mI h 2000000 (Int32.toNatClampNeg (l3 + 2))) : Int32) = 0 then 1486 else 1482, [.ref l0, .ref l1, .ref l2, .int l3], [.int (mI h 2000000 (Int32.toNatClampNeg (l3 + 1))), .ref l1])) (h' := h) rfl rfl ?_
  refine Seg.ite (fun _ => ?_) (fun _ => ?_)
  · refine Seg.blk0 (f' := (1487, [.ref l0, .ref l1, .ref l2, .int l3], [.int 0, .int (mI h 2000000 (Int32.toNatClampNeg (l3 + 1))), .ref l1])) (h' := h) rfl rfl ?_
    refine Seg.callP (f1 := (1487, [.ref l0, .ref l1, .ref l2, .int l3], [.int 0, .int (mI h 2000000 (Int32.toNatClampNeg (l3 + 1))), .ref l1])) (h1 := h) (cv := fun r => some (.int r)) rfl rfl rfl rfl (s159 h l1 (mI h 2000000 (Int32.toNatClampNeg (l3 + 1))) 0) (fun r81 => ?_)
    refine Seg.blk (f' := (if ((mI h 2000000 (Int32.toNatClampNeg (l3 + 2))) : Int32) = 0 then 1508 else 1504, [.ref l0, .ref l1, .ref l2, .int l3], [.int (mI h 2000000 (Int32.toNatClampNeg (l3 + 1))), .ref l2, .int r81])) (h' := h) rfl rfl ?_
    refine Seg.ite (fun _ => ?_) (fun _ => ?_)
    · refine Seg.blk0 (f' := (1509, [.ref l0, .ref l1, .ref l2, .int l3], [.int 0, .int (mI h 2000000 (Int32.toNatClampNeg (l3 + 1))), .ref l2, .int r81])) (h' := h) rfl rfl ?_
      refine Seg.call (f1 := (1509, [.ref l0, .ref l1, .ref l2, .int l3], [.int 0, .int (mI h 2000000 (Int32.toNatClampNeg (l3 + 1))), .ref l2, .int r81])) (h1 := h) (cv := fun r => some (.int r)) rfl rfl rfl rfl (s290 h l2 (mI h 2000000 (Int32.toNatClampNeg (l3 + 1))) 0) (fun r82 => ?_)
      refine Seg.blk0 (f' := (if (r81 : Int32) = r82.1 then 1887 else 1515, [.ref l0, .ref l1, .ref l2, .int l3], [])) (h' := r82.2) rfl rfl ?_
      refine Seg.ite (fun _ => ?_) (fun _ => ?_)
      · exact Seg.w (mLw.k (mLw.k (mLw.k (mLw.k mLw.nil)))) (s302_1887 r82.2 l0 l1 l2 l3)
      · refine Seg.x ?_
        exact Seg.ret (f1 := (1516, [.ref l0, .ref l1, .ref l2, .int l3], [.int 0])) (h1 := r82.2) rfl rfl rfl rfl (fun _ q => q)
    · refine Seg.blk0 (f' := (1509, [.ref l0, .ref l1, .ref l2, .int l3], [.int 1, .int (mI h 2000000 (Int32.toNatClampNeg (l3 + 1))), .ref l2, .int r81])) (h' := h) rfl rfl ?_
      refine Seg.call (f1 := (1509, [.ref l0, .ref l1, .ref l2, .int l3], [.int 1, .int (mI h 2000000 (Int32.toNatClampNeg (l3 + 1))), .ref l2, .int r81])) (h1 := h) (cv := fun r => some (.int r)) rfl rfl rfl rfl (s290 h l2 (mI h 2000000 (Int32.toNatClampNeg (l3 + 1))) 1) (fun r83 => ?_)
      refine Seg.blk0 (f' := (if (r81 : Int32) = r83.1 then 1887 else 1515, [.ref l0, .ref l1, .ref l2, .int l3], [])) (h' := r83.2) rfl rfl ?_
      refine Seg.ite (fun _ => ?_) (fun _ => ?_)
      · exact Seg.w (mLw.k (mLw.k (mLw.k (mLw.k mLw.nil)))) (s302_1887 r83.2 l0 l1 l2 l3)
      · refine Seg.x ?_
        exact Seg.ret (f1 := (1516, [.ref l0, .ref l1, .ref l2, .int l3], [.int 0])) (h1 := r83.2) rfl rfl rfl rfl (fun _ q => q)
  · refine Seg.blk0 (f' := (1487, [.ref l0, .ref l1, .ref l2, .int l3], [.int 1, .int (mI h 2000000 (Int32.toNatClampNeg (l3 + 1))), .ref l1])) (h' := h) rfl rfl ?_
    refine Seg.callP (f1 := (1487, [.ref l0, .ref l1, .ref l2, .int l3], [.int 1, .int (mI h 2000000 (Int32.toNatClampNeg (l3 + 1))), .ref l1])) (h1 := h) (cv := fun r => some (.int r)) rfl rfl rfl rfl (s159 h l1 (mI h 2000000 (Int32.toNatClampNeg (l3 + 1))) 1) (fun r84 => ?_)
    refine Seg.blk (f' := (if ((mI h 2000000 (Int32.toNatClampNeg (l3 + 2))) : Int32) = 0 then 1508 else 1504, [.ref l0, .ref l1, .ref l2, .int l3], [.int (mI h 2000000 (Int32.toNatClampNeg (l3 + 1))), .ref l2, .int r84])) (h' := h) rfl rfl ?_
    refine Seg.ite (fun _ => ?_) (fun _ => ?_)
    · refine Seg.blk0 (f' := (1509, [.ref l0, .ref l1, .ref l2, .int l3], [.int 0, .int (mI h 2000000 (Int32.toNatClampNeg (l3 + 1))), .ref l2, .int r84])) (h' := h) rfl rfl ?_
      refine Seg.call (f1 := (1509, [.ref l0, .ref l1, .ref l2, .int l3], [.int 0, .int (mI h 2000000 (Int32.toNatClampNeg (l3 + 1))), .ref l2, .int r84])) (h1 := h) (cv := fun r => some (.int r)) rfl rfl rfl rfl (s290 h l2 (mI h 2000000 (Int32.toNatClampNeg (l3 + 1))) 0) (fun r85 => ?_)
      refine Seg.blk0 (f' := (if (r84 : Int32) = r85.1 then 1887 else 1515, [.ref l0, .ref l1, .ref l2, .int l3], [])) (h' := r85.2) rfl rfl ?_
      refine Seg.ite (fun _ => ?_) (fun _ => ?_)
      · exact Seg.w (mLw.k (mLw.k (mLw.k (mLw.k mLw.nil)))) (s302_1887 r85.2 l0 l1 l2 l3)
      · refine Seg.x ?_
        exact Seg.ret (f1 := (1516, [.ref l0, .ref l1, .ref l2, .int l3], [.int 0])) (h1 := r85.2) rfl rfl rfl rfl (fun _ q => q)
    · refine Seg.blk0 (f' := (1509, [.ref l0, .ref l1, .ref l2, .int l3], [.int 1, .int (mI h 2000000 (Int32.toNatClampNeg (l3 + 1))), .ref l2, .int r84])) (h' := h) rfl rfl ?_
      refine Seg.call (f1 := (1509, [.ref l0, .ref l1, .ref l2, .int l3], [.int 1, .int (mI h 2000000 (Int32.toNatClampNeg (l3 + 1))), .ref l2, .int r84])) (h1 := h) (cv := fun r => some (.int r)) rfl rfl rfl rfl (s290 h l2 (mI h 2000000 (Int32.toNatClampNeg (l3 + 1))) 1) (fun r86 => ?_)
      refine Seg.blk0 (f' := (if (r84 : Int32) = r86.1 then 1887 else 1515, [.ref l0, .ref l1, .ref l2, .int l3], [])) (h' := r86.2) rfl rfl ?_
      refine Seg.ite (fun _ => ?_) (fun _ => ?_)
      · exact Seg.w (mLw.k (mLw.k (mLw.k (mLw.k mLw.nil)))) (s302_1887 r86.2 l0 l1 l2 l3)
      · refine Seg.x ?_
        exact Seg.ret (f1 := (1516, [.ref l0, .ref l1, .ref l2, .int l3], [.int 0])) (h1 := r86.2) rfl rfl rfl rfl (fun _ q => q)
