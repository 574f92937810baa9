set_option maxHeartbeats 16000000 in
theorem s302_816 (h : mH) (l0 : Nat) (l1 : Nat) (l2 : Nat) (l3 : Int32) : Seg 302 (816, [.ref l0, .ref l1, .ref l2, .int l3], []) h (f302_816 h l0 l1 l2 l3) (Sum.elim (fun s : (Int32 × mH) => Ev 302 (18, [.ref l0, .ref l1, .ref l2, .int s.1], []) s.2) (fun (q : Int32 × mH) (res : Option Value × mH) => res = (some (.int q.1), q.2))) := by
  unfold f302_816
  refine Seg.blk (f' := (if ((mI h 2000000 (Int32.toNatClampNeg (l3 + 5))) : Int32) = 0 then 849 else 845, [.ref l0, .ref l1, .ref l2, .int l3], [.int (mI h 2000000 (Int32.toNatClampNeg (l3 + 4))), .int (mI h 2000000 (Int32.toNatClampNeg (l3 + 3))), .int (mI h 2000000 (Int32.toNatClampNeg (l3 + 2))), .int (mI h 2000000 (Int32.toNatClampNeg (l3 + 1))), .ref l1])) (h' := h) rfl rfl ?_
  refine Seg.ite (fun _ => ?_) (fun _ => ?_)
  · refine Seg.blk0 (f' := (850, [.ref l0, .ref l1, .ref l2, .int l3], [.int 0, .int (mI h 2000000 (Int32.toNatClampNeg (l3 + 4))), .int (mI h 2000000 (Int32.toNatClampNeg (l3 + 3))), .int (mI h 2000000 (Int32.toNatClampNeg (l3 + 2))), .int (mI h 2000000 (Int32.toNatClampNeg (l3 + 1))), .ref l1])) (h' := h) rfl rfl ?_
    refine Seg.callP (f1 := (850, [.ref l0, .ref l1, .ref l2, .int l3], [.int 0, .int (mI h 2000000 (Int32.toNatClampNeg (l3 + 4))), .int (mI h 2000000 (Int32.toNatClampNeg (l3 + 3))), .int (mI h 2000000 (Int32.toNatClampNeg (l3 + 2))), .int (mI h 2000000 (Int32.toNatClampNeg (l3 + 1))), .ref l1])) (h1 := h) (cv := fun r => some (.long r)) rfl rfl rfl rfl (s105 h l1 (mI h 2000000 (Int32.toNatClampNeg (l3 + 1))) (mI h 2000000 (Int32.toNatClampNeg (l3 + 2))) (mI h 2000000 (Int32.toNatClampNeg (l3 + 3))) (mI h 2000000 (Int32.toNatClampNeg (l3 + 4))) 0) (fun r41 => ?_)
    refine Seg.blk (f' := (if ((mI h 2000000 (Int32.toNatClampNeg (l3 + 5))) : Int32) = 0 then 886 else 882, [.ref l0, .ref l1, .ref l2, .int l3], [.int (mI h 2000000 (Int32.toNatClampNeg (l3 + 4))), .int (mI h 2000000 (Int32.toNatClampNeg (l3 + 3))), .int (mI h 2000000 (Int32.toNatClampNeg (l3 + 2))), .int (mI h 2000000 (Int32.toNatClampNeg (l3 + 1))), .ref l2, .long r41])) (h' := h) rfl rfl ?_
    refine Seg.ite (fun _ => ?_) (fun _ => ?_)
    · refine Seg.blk0 (f' := (887, [.ref l0, .ref l1, .ref l2, .int l3], [.int 0, .int (mI h 2000000 (Int32.toNatClampNeg (l3 + 4))), .int (mI h 2000000 (Int32.toNatClampNeg (l3 + 3))), .int (mI h 2000000 (Int32.toNatClampNeg (l3 + 2))), .int (mI h 2000000 (Int32.toNatClampNeg (l3 + 1))), .ref l2, .long r41])) (h' := h) rfl rfl ?_
      refine Seg.call (f1 := (887, [.ref l0, .ref l1, .ref l2, .int l3], [.int 0, .int (mI h 2000000 (Int32.toNatClampNeg (l3 + 4))), .int (mI h 2000000 (Int32.toNatClampNeg (l3 + 3))), .int (mI h 2000000 (Int32.toNatClampNeg (l3 + 2))), .int (mI h 2000000 (Int32.toNatClampNeg (l3 + 1))), .ref l2, .long r41])) (h1 := h) (cv := fun r => some (.long r)) rfl rfl rfl rfl (s251 h l2 (mI h 2000000 (Int32.toNatClampNeg (l3 + 1))) (mI h 2000000 (Int32.toNatClampNeg (l3 + 2))) (mI h 2000000 (Int32.toNatClampNeg (l3 + 3))) (mI h 2000000 (Int32.toNatClampNeg (l3 + 4))) 0) (fun r42 => ?_)
      refine Seg.blk0 (f' := (if ((lg_cmp r41 r42.1) : Int32) = 0 then 1887 else 894, [.ref l0, .ref l1, .ref l2, .int l3], [])) (h' := r42.2) rfl rfl ?_
      refine Seg.ite (fun _ => ?_) (fun _ => ?_)
      · exact Seg.w (mLw.k (mLw.k (mLw.k (mLw.k mLw.nil)))) (s302_1887 r42.2 l0 l1 l2 l3)
      · refine Seg.x ?_
        exact Seg.ret (f1 := (895, [.ref l0, .ref l1, .ref l2, .int l3], [.int 0])) (h1 := r42.2) rfl rfl rfl rfl (fun _ q => q)
    · refine Seg.blk0 (f' := (887, [.ref l0, .ref l1, .ref l2, .int l3], [.int 1, .int (mI h 2000000 (Int32.toNatClampNeg (l3 + 4))), .int (mI h 2000000 (Int32.toNatClampNeg (l3 + 3))), .int (mI h 2000000 (Int32.toNatClampNeg (l3 + 2))), .int (mI h 2000000 (Int32.toNatClampNeg (l3 + 1))), .ref l2, .long r41])) (h' := h) rfl rfl ?_
      refine Seg.call (f1 := (887, [.ref l0, .ref l1, .ref l2, .int l3], [.int 1, .int (mI h 2000000 (Int32.toNatClampNeg (l3 + 4))), .int (mI h 2000000 (Int32.toNatClampNeg (l3 + 3))), .int (mI h 2000000 (Int32.toNatClampNeg (l3 + 2))), .int (mI h 2000000 (Int32.toNatClampNeg (l3 + 1))), .ref l2, .long r41])) (h1 := h) (cv := fun r => some (.long r)) rfl rfl rfl rfl (s251 h l2 (mI h 2000000 (Int32.toNatClampNeg (l3 + 1))) (mI h 2000000 (Int32.toNatClampNeg (l3 + 2))) (mI h 2000000 (Int32.toNatClampNeg (l3 + 3))) (mI h 2000000 (Int32.toNatClampNeg (l3 + 4))) 1) (fun r43 => ?_)
      refine Seg.blk0 (f' := (if ((lg_cmp r41 r43.1) : Int32) = 0 then 1887 else 894, [.ref l0, .ref l1, .ref l2, .int l3], [])) (h' := r43.2) rfl rfl ?_
      refine Seg.ite (fun _ => ?_) (fun _ => ?_)
      · exact Seg.w (mLw.k (mLw.k (mLw.k (mLw.k mLw.nil)))) (s302_1887 r43.2 l0 l1 l2 l3)
      · refine Seg.x ?_
        exact Seg.ret (f1 := (895, [.ref l0, .ref l1, .ref l2, .int l3], [.int 0])) (h1 := r43.2) rfl rfl rfl rfl (fun _ q => q)
  · refine Seg.blk0 (f' := (850, [.ref l0, .ref l1, .ref l2, .int l3], [.int 1, .int (mI h 2000000 (Int32.toNatClampNeg (l3 + 4))), .int (mI h 2000000 (Int32.toNatClampNeg (l3 + 3))), .int (mI h 2000000 (Int32.toNatClampNeg (l3 + 2))), .int (mI h 2000000 (Int32.toNatClampNeg (l3 + 1))), .ref l1])) (h' := h) rfl rfl ?_
    refine Seg.callP (f1 := (850, [.ref l0, .ref l1, .ref l2, .int l3], [.int 1, .int (mI h 2000000 (Int32.toNatClampNeg (l3 + 4))), .int (mI h 2000000 (Int32.toNatClampNeg (l3 + 3))), .int (mI h 2000000 (Int32.toNatClampNeg (l3 + 2))), .int (mI h 2000000 (Int32.toNatClampNeg (l3 + 1))), .ref l1])) (h1 := h) (cv := fun r => some (.long r)) rfl rfl rfl rfl (s105 h l1 (mI h 2000000 (Int32.toNatClampNeg (l3 + 1))) (mI h 2000000 (Int32.toNatClampNeg (l3 + 2))) (mI h 2000000 (Int32.toNatClampNeg (l3 + 3))) (mI h 2000000 (Int32.toNatClampNeg (l3 + 4))) 1) (fun r44 => ?_)
    refine Seg.blk (f' := (if ((mI h 2000000 (Int32.toNatClampNeg (l3 + 5))) : Int32) = 0 then 886 else 882, [.ref l0, .ref l1, .ref l2, .int l3], [.int (mI h 2000000 (Int32.toNatClampNeg (l3 + 4))), .int (mI h 2000000 (Int32.toNatClampNeg (l3 + 3))), .int (mI h 2000000 (Int32.toNatClampNeg (l3 + 2))), .int (mI h 2000000 (Int32.toNatClampNeg (l3 + 1))), .ref l2, .long r44])) (h' := h) rfl rfl ?_
    refine Seg.ite (fun _ => ?_) (fun _ => ?_)
    · refine Seg.blk0 (f' := (887, [.ref l0, .ref l1, .ref l2, .int l3], [.int 0, .int (mI h 2000000 (Int32.toNatClampNeg (l3 + 4))), .int (mI h 2000000 (Int32.toNatClampNeg (l3 + 3))), .int (mI h 2000000 (Int32.toNatClampNeg (l3 + 2))), .int (mI h 2000000 (Int32.toNatClampNeg (l3 + 1))), .ref l2, .long r44])) (h' := h) rfl rfl ?_
      refine Seg.call (f1 := (887, [.ref l0, .ref l1, .ref l2, .int l3], [.int 0, .int (mI h 2000000 (Int32.toNatClampNeg (l3 + 4))), .int (mI h 2000000 (Int32.toNatClampNeg (l3 + 3))), .int (mI h 2000000 (Int32.toNatClampNeg (l3 + 2))), .int (mI h 2000000 (Int32.toNatClampNeg (l3 + 1))), .ref l2, .long r44])) (h1 := h) (cv := fun r => some (.long r)) rfl rfl rfl rfl (s251 h l2 (mI h 2000000 (Int32.toNatClampNeg (l3 + 1))) (mI h 2000000 (Int32.toNatClampNeg (l3 + 2))) (mI h 2000000 (Int32.toNatClampNeg (l3 + 3))) (mI h 2000000 (Int32.toNatClampNeg (l3 + 4))) 0) (fun r45 => ?_)
      refine Seg.blk0 (f' := (if ((lg_cmp r44 r45.1) : Int32) = 0 then 1887 else 894, [.ref l0, .ref l1, .ref l2, .int l3], [])) (h' := r45.2) rfl rfl ?_
      refine Seg.ite (fun _ => ?_) (fun _ => ?_)
      · exact Seg.w (mLw.k (mLw.k (mLw.k (mLw.k mLw.nil)))) (s302_1887 r45.2 l0 l1 l2 l3)
      · refine Seg.x ?_
        exact Seg.ret (f1 := (895, [.ref l0, .ref l1, .ref l2, .int l3], [.int 0])) (h1 := r45.2) rfl rfl rfl rfl (fun _ q => q)
    · refine Seg.blk0 (f' := (887, [.ref l0, .ref l1, .ref l2, .int l3], [.int 1, .int (mI h 2000000 (Int32.toNatClampNeg (l3 + 4))), .int (mI h 2000000 (Int32.toNatClampNeg (l3 + 3))), .int (mI h 2000000 (Int32.toNatClampNeg (l3 + 2))), .int (mI h 2000000 (Int32.toNatClampNeg (l3 + 1))), .ref l2, .long r44])) (h' := h) rfl rfl ?_
      refine Seg.call (f1 := (887, [.ref l0, .ref l1, .ref l2, .int l3], [.int 1, .int (mI h 2000000 (Int32.toNatClampNeg (l3 + 4))), .int (mI h 2000000 (Int32.toNatClampNeg (l3 + 3))), .int (mI h 2000000 (Int32.toNatClampNeg (l3 + 2))), .int (mI h 2000000 (Int32.toNatClampNeg (l3 + 1))), .ref l2, .long r44])) (h1 := h) (cv := fun r => some (.long r)) rfl rfl rfl rfl (s251 h l2 (mI h 2000000 (Int32.toNatClampNeg (l3 + 1))) (mI h 2000000 (Int32.toNatClampNeg (l3 + 2))) (mI h 2000000 (Int32.toNatClampNeg (l3 + 3))) (mI h 2000000 (Int32.toNatClampNeg (l3 + 4))) 1) (fun r46 => ?_)
      refine Seg.blk0 (f' := (if ((lg_cmp r44 r46.1) : Int32) = 0 then 1887 else 894, [.ref l0, .ref l1, .ref l2, .int l3], [])) (h' := r46.2) rfl rfl ?_
      refine Seg.ite (fun _ => ?_) (fun _ => ?_)
      · exact Seg.w (mLw.k (mLw.k (mLw.k (mLw.k mLw.nil)))) (s302_1887 r46.2 l0 l1 l2 l3)
      · refine Seg.x ?_
        exact Seg.ret (f1 := (895, [.ref l0, .ref l1, .ref l2, .int l3], [.int 0])) (h1 := r46.2) rfl rfl rfl rfl (fun _ q => q)
set_option maxHeartbeats 16000000 in
theorem s302_896 (h : mH) (l0 : Nat) (l1 : Nat) (l2 : Nat) (l3 : Int32) : Seg 302 (896, [.ref l0, .ref l1, .ref l2, .int l3], []) h (f302_896 h l0 l1 l2 l3) (Sum.elim (fun s : (Int32 × mH) => Ev 302 (18, [.ref l0, .ref l1, .ref l2, .int s.1], []) s.2) (fun (q : Int32 × mH) (res : Option Value × mH) => res = (some (.int q.1), q.2))) := by
  unfold f302_896
  refine Seg.callP (f1 := (912, [.ref l0, .ref l1, .ref l2, .int l3], [.int (mI h 2000000 (Int32.toNatClampNeg (l3 + 3))), .int (mI h 2000000 (Int32.toNatClampNeg (l3 + 2))), .int (mI h 2000000 (Int32.toNatClampNeg (l3 + 1))), .ref l1])) (h1 := h) (cv := fun r => some (.int r)) rfl rfl rfl rfl (s110 h l1 (mI h 2000000 (Int32.toNatClampNeg (l3 + 1))) (mI h 2000000 (Int32.toNatClampNeg (l3 + 2))) (mI h 2000000 (Int32.toNatClampNeg (l3 + 3)))) (fun r47 => ?_)
  refine Seg.call (f1 := (931, [.ref l0, .ref l1, .ref l2, .int l3], [.int (mI h 2000000 (Int32.toNatClampNeg (l3 + 3))), .int (mI h 2000000 (Int32.toNatClampNeg (l3 + 2))), .int (mI h 2000000 (Int32.toNatClampNeg (l3 + 1))), .ref l2, .int r47])) (h1 := h) (cv := fun r => some (.int r)) rfl rfl rfl rfl (s257 h l2 (mI h 2000000 (Int32.toNatClampNeg (l3 + 1))) (mI h 2000000 (Int32.toNatClampNeg (l3 + 2))) (mI h 2000000 (Int32.toNatClampNeg (l3 + 3)))) (fun r48 => ?_)
  refine Seg.blk0 (f' := (if (r47 : Int32) = r48.1 then 1887 else 937, [.ref l0, .ref l1, .ref l2, .int l3], [])) (h' := r48.2) rfl rfl ?_
  refine Seg.ite (fun _ => ?_) (fun _ => ?_)
  · exact Seg.w (mLw.k (mLw.k (mLw.k (mLw.k mLw.nil)))) (s302_1887 r48.2 l0 l1 l2 l3)
  · refine Seg.x ?_
    exact Seg.ret (f1 := (938, [.ref l0, .ref l1, .ref l2, .int l3], [.int 0])) (h1 := r48.2) rfl rfl rfl rfl (fun _ q => q)
set_option maxHeartbeats 16000000 in
theorem s302_939 (h : mH) (l0 : Nat) (l1 : Nat) (l2 : Nat) (l3 : Int32) : Seg 302 (939, [.ref l0, .ref l1, .ref l2, .int l3], []) h (f302_939 h l0 l1 l2 l3) (Sum.elim (fun s : (Int32 × mH) => Ev 302 (18, [.ref l0, .ref l1, .ref l2, .int s.1], []) s.2) (fun (q : Int32 × mH) (res : Option Value × mH) => res = (some (.int q.1), q.2))) := by
  unfold f302_939
  refine Seg.call (f1 := (955, [.ref l0, .ref l1, .ref l2, .int l3], [.int (mI h 2000000 (Int32.toNatClampNeg (l3 + 3))), .int (mI h 2000000 (Int32.toNatClampNeg (l3 + 2))), .int (mI h 2000000 (Int32.toNatClampNeg (l3 + 1))), .ref l1])) (h1 := h) (cv := fun r => some (.int r)) rfl rfl rfl rfl (s113 h l1 (mI h 2000000 (Int32.toNatClampNeg (l3 + 1))) (mI h 2000000 (Int32.toNatClampNeg (l3 + 2))) (mI h 2000000 (Int32.toNatClampNeg (l3 + 3)))) (fun r49 => ?_)
  refine Seg.call (f1 := (974, [.ref l0, .ref l1, .ref l2, .int l3], [.int (mI r49.2 2000000 (Int32.toNatClampNeg (l3 + 3))), .int (mI r49.2 2000000 (Int32.toNatClampNeg (l3 + 2))), .int (mI r49.2 2000000 (Int32.toNatClampNeg (l3 + 1))), .ref l2, .int r49.1])) (h1 := r49.2) (cv := fun r => some (.int r)) rfl rfl rfl rfl (s261 r49.2 l2 (mI r49.2 2000000 (Int32.toNatClampNeg (l3 + 1))) (mI r49.2 2000000 (Int32.toNatClampNeg (l3 + 2))) (mI r49.2 2000000 (Int32.toNatClampNeg (l3 + 3)))) (fun r50 => ?_)
  refine Seg.blk0 (f' := (if (r49.1 : Int32) = r50.1 then 1887 else 980, [.ref l0, .ref l1, .ref l2, .int l3], [])) (h' := r50.2) rfl rfl ?_
  refine Seg.ite (fun _ => ?_) (fun _ => ?_)
  · exact Seg.w (mLw.k (mLw.k (mLw.k (mLw.k mLw.nil)))) (s302_1887 r50.2 l0 l1 l2 l3)
  · refine Seg.x ?_
    exact Seg.ret (f1 := (981, [.ref l0, .ref l1, .ref l2, .int l3], [.int 0])) (h1 := r50.2) rfl rfl rfl rfl (fun _ q => q)
set_option maxHeartbeats 16000000 in
theorem s302_982 (h : mH) (l0 : Nat) (l1 : Nat) (l2 : Nat) (l3 : Int32) : Seg 302 (982, [.ref l0, .ref l1, .ref l2, .int l3], []) h (f302_982 h l0 l1 l2 l3) (Sum.elim (fun s : (Int32 × mH) => Ev 302 (18, [.ref l0, .ref l1, .ref l2, .int s.1], []) s.2) (fun (q : Int32 × mH) (res : Option Value × mH) => res = (some (.int q.1), q.2))) := by
  unfold f302_982
  refine Seg.call (f1 := (1003, [.ref l0, .ref l1, .ref l2, .int l3], [.int (mI h 2000000 (Int32.toNatClampNeg (l3 + 4))), .int (mI h 2000000 (Int32.toNatClampNeg (l3 + 3))), .int (mI h 2000000 (Int32.toNatClampNeg (l3 + 2))), .int (mI h 2000000 (Int32.toNatClampNeg (l3 + 1))), .ref l1])) (h1 := h) (cv := fun r => some (.int r)) rfl rfl rfl rfl (s121 h l1 (mI h 2000000 (Int32.toNatClampNeg (l3 + 1))) (mI h 2000000 (Int32.toNatClampNeg (l3 + 2))) (mI h 2000000 (Int32.toNatClampNeg (l3 + 3))) (mI h 2000000 (Int32.toNatClampNeg (l3 + 4)))) (fun r51 => ?_)
  refine Seg.call (f1 := (1027, [.ref l0, .ref l1, .ref l2, .int l3], [.int (mI r51.2 2000000 (Int32.toNatClampNeg (l3 + 4))), .int (mI r51.2 2000000 (Int32.toNatClampNeg (l3 + 3))), .int (mI r51.2 2000000 (Int32.toNatClampNeg (l3 + 2))), .int (mI r51.2 2000000 (Int32.toNatClampNeg (l3 + 1))), .ref l2, .int r51.1])) (h1 := r51.2) (cv := fun r => some (.int r)) rfl rfl rfl rfl (s267 r51.2 l2 (mI r51.2 2000000 (Int32.toNatClampNeg (l3 + 1))) (mI r51.2 2000000 (Int32.toNatClampNeg (l3 + 2))) (mI r51.2 2000000 (Int32.toNatClampNeg (l3 + 3))) (mI r51.2 2000000 (Int32.toNatClampNeg (l3 + 4)))) (fun r52 => ?_)
  refine Seg.blk0 (f' := (if (r51.1 : Int32) = r52.1 then 1887 else 1033, [.ref l0, .ref l1, .ref l2, .int l3], [])) (h' := r52.2) rfl rfl ?_
  refine Seg.ite (fun _ => ?_) (fun _ => ?_)
  · exact Seg.w (mLw.k (mLw.k (mLw.k (mLw.k mLw.nil)))) (s302_1887 r52.2 l0 l1 l2 l3)
  · refine Seg.x ?_
    exact Seg.ret (f1 := (1034, [.ref l0, .ref l1, .ref l2, .int l3], [.int 0])) (h1 := r52.2) rfl rfl rfl rfl (fun _ q => q)
set_option maxHeartbeats 16000000 in
theorem s302_1035 (h : mH) (l0 : Nat) (l1 : Nat) (l2 : Nat) (l3 : Int32) : Seg 302 (1035, [.ref l0, .ref l1, .ref l2, .int l3], []) h (f302_1035 h l0 l1 l2 l3) (Sum.elim (fun s : (Int32 × mH) => Ev 302 (18, [.ref l0, .ref l1, .ref l2, .int s.1], []) s.2) (fun (q : Int32 × mH) (res : Option Value × mH) => res = (some (.int q.1), q.2))) := by
  unfold f302_1035
  refine Seg.call (f1 := (1046, [.ref l0, .ref l1, .ref l2, .int l3], [.int (mI h 2000000 (Int32.toNatClampNeg (l3 + 2))), .int (mI h 2000000 (Int32.toNatClampNeg (l3 + 1))), .ref l1])) (h1 := h) (cv := fun r => some (.int r)) rfl rfl rfl rfl (s125 h l1 (mI h 2000000 (Int32.toNatClampNeg (l3 + 1))) (mI h 2000000 (Int32.toNatClampNeg (l3 + 2)))) (fun r53 => ?_)
  refine Seg.call (f1 := (1060, [.ref l0, .ref l1, .ref l2, .int l3], [.int (mI r53.2 2000000 (Int32.toNatClampNeg (l3 + 2))), .int (mI r53.2 2000000 (Int32.toNatClampNeg (l3 + 1))), .ref l2, .int r53.1])) (h1 := r53.2) (cv := fun r => some (.int r)) rfl rfl rfl rfl (s270 r53.2 l2 (mI r53.2 2000000 (Int32.toNatClampNeg (l3 + 1))) (mI r53.2 2000000 (Int32.toNatClampNeg (l3 + 2)))) (fun r54 => ?_)
  refine Seg.blk0 (f' := (if (r53.1 : Int32) = r54.1 then 1887 else 1066, [.ref l0, .ref l1, .ref l2, .int l3], [])) (h' := r54.2) rfl rfl ?_
  refine Seg.ite (fun _ => ?_) (fun _ => ?_)
  · exact Seg.w (mLw.k (mLw.k (mLw.k (mLw.k mLw.nil)))) (s302_1887 r54.2 l0 l1 l2 l3)
  · refine Seg.x ?_
    exact Seg.ret (f1 := (1067, [.ref l0, .ref l1, .ref l2, .int l3], [.int 0])) (h1 := r54.2) rfl rfl rfl rfl (fun _ q => q)
