theorem s302_543 (h : mH) (l0 : Nat) (l1 : Nat) (l2 : Nat) (l3 : Int32) : Seg 302 (543, [.ref l0, .ref l1, .ref l2, .int l3], []) h (f302_543 h l0 l1 l2 l3) (Sum.elim (fun s : (Int32 × mH) => Ev 302 (18, [.ref l0, .ref l1, .ref l2, .int s.1], []) s.2) (fun (q : Int32 × mH) (res : Option Value × mH) => res = (some (.int q.1), q.2))) := by
  unfold f302_543
  refine Seg.call (f1 := (564, [.ref l0, .ref l1, .ref l2, .int l3], [.int (mI h 2000000 (Int32.toNatClampNeg (l3 + 4))), .int (mI h 2000000 (Int32.toNatClampNeg (l3 + 3))), .int (mI h 2000000 (Int32.toNatClampNeg (l3 + 2))), .int (mI h 2000000 (Int32.toNatClampNeg (l3 + 1))), .ref l1])) (h1 := h) (cv := fun r => some (.int r)) rfl rfl rfl rfl (s89 h l1 (mI h 2000000 (Int32.toNatClampNeg (l3 + 1))) (mI h 2000000 (Int32.toNatClampNeg (l3 + 2))) (mI h 2000000 (Int32.toNatClampNeg (l3 + 3))) (mI h 2000000 (Int32.toNatClampNeg (l3 + 4)))) (fun r19 => ?_)
  refine Seg.call (f1 := (588, [.ref l0, .ref l1, .ref l2, .int l3], [.int (mI r19.2 2000000 (Int32.toNatClampNeg (l3 + 4))), .int (mI r19.2 2000000 (Int32.toNatClampNeg (l3 + 3))), .int (mI r19.2 2000000 (Int32.toNatClampNeg (l3 + 2))), .int (mI r19.2 2000000 (Int32.toNatClampNeg (l3 + 1))), .ref l2, .int r19.1])) (h1 := r19.2) (cv := fun r => some (.int r)) rfl rfl rfl rfl (s236 r19.2 l2 (mI r19.2 2000000 (Int32.toNatClampNeg (l3 + 1))) (mI r19.2 2000000 (Int32.toNatClampNeg (l3 + 2))) (mI r19.2 2000000 (Int32.toNatClampNeg (l3 + 3))) (mI r19.2 2000000 (Int32.toNatClampNeg (l3 + 4)))) (fun r20 => ?_)
  refine Seg.blk0 (f' := (if (r19.1 : Int32) = r20.1 then 1887 else 594, [.ref l0, .ref l1, .ref l2, .int l3], [])) (h' := r20.2) rfl rfl ?_
  refine Seg.ite (fun _ => ?_) (fun _ => ?_)
  · exact Seg.w (mLw.k (mLw.k (mLw.k (mLw.k mLw.nil)))) (s302_1887 r20.2 l0 l1 l2 l3)
  · refine Seg.x ?_
    exact Seg.ret (f1 := (595, [.ref l0, .ref l1, .ref l2, .int l3], [.int 0])) (h1 := r20.2) rfl rfl rfl rfl (fun _ q => q)
theorem s302_596 (h : mH) (l0 : Nat) (l1 : Nat) (l2 : Nat) (l3 : Int32) : Seg 302 (596, [.ref l0, .ref l1, .ref l2, .int l3], []) h (f302_596 h l0 l1 l2 l3) (Sum.elim (fun s : (Int32 × mH) => Ev 302 (18, [.ref l0, .ref l1, .ref l2, .int s.1], []) s.2) (fun (q : Int32 × mH) (res : Option Value × mH) => res = (some (.int q.1), q.2))) := by
  unfold f302_596
  refine Seg.blk (f' := (if ((mI h 2000000 (Int32.toNatClampNeg (l3 + 3))) : Int32) = 0 then 619 else 615, [.ref l0, .ref l1, .ref l2, .int l3], [.int (mI h 2000000 (Int32.toNatClampNeg (l3 + 2))), .int (mI h 2000000 (Int32.toNatClampNeg (l3 + 1))), .ref l1])) (h' := h) rfl rfl ?_
  refine Seg.ite (fun _ => ?_) (fun _ => ?_)
  · refine Seg.blk0 (f' := (620, [.ref l0, .ref l1, .ref l2, .int l3], [.int 0, .int (mI h 2000000 (Int32.toNatClampNeg (l3 + 2))), .int (mI h 2000000 (Int32.toNatClampNeg (l3 + 1))), .ref l1])) (h' := h) rfl rfl ?_
    refine Seg.callP (f1 := (620, [.ref l0, .ref l1, .ref l2, .int l3], [.int 0, .int (mI h 2000000 (Int32.toNatClampNeg (l3 + 2))), .int (mI h 2000000 (Int32.toNatClampNeg (l3 + 1))), .ref l1])) (h1 := h) (cv := fun r => some (.int r)) rfl rfl rfl rfl (s92 h l1 (mI h 2000000 (Int32.toNatClampNeg (l3 + 1))) (mI h 2000000 (Int32.toNatClampNeg (l3 + 2))) 0) (fun r21 => ?_)
    refine Seg.blk (f' := (if ((mI h 2000000 (Int32.toNatClampNeg (l3 + 3))) : Int32) = 0 then 646 else 642, [.ref l0, .ref l1, .ref l2, .int l3], [.int (mI h 2000000 (Int32.toNatClampNeg (l3 + 2))), .int (mI h 2000000 (Int32.toNatClampNeg (l3 + 1))), .ref l2, .int r21])) (h' := h) rfl rfl ?_
    refine Seg.ite (fun _ => ?_) (fun _ => ?_)
    · refine Seg.blk0 (f' := (647, [.ref l0, .ref l1, .ref l2, .int l3], [.int 0, .int (mI h 2000000 (Int32.toNatClampNeg (l3 + 2))), .int (mI h 2000000 (Int32.toNatClampNeg (l3 + 1))), .ref l2, .int r21])) (h' := h) rfl rfl ?_
      refine Seg.call (f1 := (647, [.ref l0, .ref l1, .ref l2, .int l3], [.int 0, .int (mI h 2000000 (Int32.toNatClampNeg (l3 + 2))), .int (mI h 2000000 (Int32.toNatClampNeg (l3 + 1))), .ref l2, .int r21])) (h1 := h) (cv := fun r => some (.int r)) rfl rfl rfl rfl (s241 h l2 (mI h 2000000 (Int32.toNatClampNeg (l3 + 1))) (mI h 2000000 (Int32.toNatClampNeg (l3 + 2))) 0) (fun r22 => ?_)
      refine Seg.blk0 (f' := (if (r21 : Int32) = r22.1 then 1887 else 653, [.ref l0, .ref l1, .ref l2, .int l3], [])) (h' := r22.2) rfl rfl ?_
      refine Seg.ite (fun _ => ?_) (fun _ => ?_)
      · exact Seg.w (mLw.k (mLw.k (mLw.k (mLw.k mLw.nil)))) (s302_1887 r22.2 l0 l1 l2 l3)
      · refine Seg.x ?_
        exact Seg.ret (f1 := (654, [.ref l0, .ref l1, .ref l2, .int l3], [.int 0])) (h1 := r22.2) rfl rfl rfl rfl (fun _ q => q)
    · refine Seg.blk0 (f' := (647, [.ref l0, .ref l1, .ref l2, .int l3], [.int 1, .int (mI h 2000000 (Int32.toNatClampNeg (l3 + 2))), .int (mI h 2000000 (Int32.toNatClampNeg (l3 + 1))), .ref l2, .int r21])) (h' := h) rfl rfl ?_
      refine Seg.call (f1 := (647, [.ref l0, .ref l1, .ref l2, .int l3], [.int 1, .int (mI h 2000000 (Int32.toNatClampNeg (l3 + 2))), .int (mI h 2000000 (Int32.toNatClampNeg (l3 + 1))), .ref l2, .int r21])) (h1 := h) (cv := fun r => some (.int r)) rfl rfl rfl rfl (s241 h l2 (mI h 2000000 (Int32.toNatClampNeg (l3 + 1))) (mI h 2000000 (Int32.toNatClampNeg (l3 + 2))) 1) (fun r23 => ?_)
      refine Seg.blk0 (f' := (if (r21 : Int32) = r23.1 then 1887 else 653, [.ref l0, .ref l1, .ref l2, .int l3], [])) (h' := r23.2) rfl rfl ?_
      refine Seg.ite (fun _ => ?_) (fun _ => ?_)
      · exact Seg.w (mLw.k (mLw.k (mLw.k (mLw.k mLw.nil)))) (s302_1887 r23.2 l0 l1 l2 l3)
      · refine Seg.x ?_
        exact Seg.ret (f1 := (654, [.ref l0, .ref l1, .ref l2, .int l3], [.int 0])) (h1 := r23.2) rfl rfl rfl rfl (fun _ q => q)
  · refine Seg.blk0 (f' := (620, [.ref l0, .ref l1, .ref l2, .int l3], [.int 1, .int (mI h 2000000 (Int32.toNatClampNeg (l3 + 2))), .int (mI h 2000000 (Int32.toNatClampNeg (l3 + 1))), .ref l1])) (h' := h) rfl rfl ?_
    refine Seg.callP (f1 := (620, [.ref l0, .ref l1, .ref l2, .int l3], [.int 1, .int (mI h 2000000 (Int32.toNatClampNeg (l3 + 2))), .int (mI h 2000000 (Int32.toNatClampNeg (l3 + 1))), .ref l1])) (h1 := h) (cv := fun r => some (.int r)) rfl rfl rfl rfl (s92 h l1 (mI h 2000000 (Int32.toNatClampNeg (l3 + 1))) (mI h 2000000 (Int32.toNatClampNeg (l3 + 2))) 1) (fun r24 => ?_)
    refine Seg.blk (f' := (if ((mI h 2000000 (Int32.toNatClampNeg (l3 + 3))) : Int32) = 0 then 646 else 642, [.ref l0, .ref l1, .ref l2, .int l3], [.int (mI h 2000000 (Int32.toNatClampNeg (l3 + 2))), .int (mI h 2000000 (Int32.toNatClampNeg (l3 + 1))), .ref l2, .int r24])) (h' := h) rfl rfl ?_
    refine Seg.ite (fun _ => ?_) (fun _ => ?_)
    · refine Seg.blk0 (f' := (647, [.ref l0, .ref l1, .ref l2, .int l3], [.int 0, .int (mI h 2000000 (Int32.toNatClampNeg (l3 + 2))), .int (mI h 2000000 (Int32.toNatClampNeg (l3 + 1))), .ref l2, .int r24])) (h' := h) rfl rfl ?_
      refine Seg.call (f1 := (647, [.ref l0, .ref l1, .ref l2, .int l3], [.int 0, .int (mI h 2000000 (Int32.toNatClampNeg (l3 + 2))), .int (mI h 2000000 (Int32.toNatClampNeg (l3 + 1))), .ref l2, .int r24])) (h1 := h) (cv := fun r => some (.int r)) rfl rfl rfl rfl (s241 h l2 (mI h 2000000 (Int32.toNatClampNeg (l3 + 1))) (mI h 2000000 (Int32.toNatClampNeg (l3 + 2))) 0) (fun r25 => ?_)
      refine Seg.blk0 (f' := (if (r24 : Int32) = r25.1 then 1887 else 653, [.ref l0, .ref l1, .ref l2, .int l3], [])) (h' := r25.2) rfl rfl ?_
      refine Seg.ite (fun _ => ?_) (fun _ => ?_)
      · exact Seg.w (mLw.k (mLw.k (mLw.k (mLw.k mLw.nil)))) (s302_1887 r25.2 l0 l1 l2 l3)
      · refine Seg.x ?_
        exact Seg.ret (f1 := (654, [.ref l0, .ref l1, .ref l2, .int l3], [.int 0])) (h1 := r25.2) rfl rfl rfl rfl (fun _ q => q)
    · refine Seg.blk0 (f' := (647, [.ref l0, .ref l1, .ref l2, .int l3], [.int 1, .int (mI h 2000000 (Int32.toNatClampNeg (l3 + 2))), .int (mI h 2000000 (Int32.toNatClampNeg (l3 + 1))), .ref l2, .int r24])) (h' := h) rfl rfl ?_
      refine Seg.call (f1 := (647, [.ref l0, .ref l1, .ref l2, .int l3], [.int 1, .int (mI h 2000000 (Int32.toNatClampNeg (l3 + 2))), .int (mI h 2000000 (Int32.toNatClampNeg (l3 + 1))), .ref l2, .int r24])) (h1 := h) (cv := fun r => some (.int r)) rfl rfl rfl rfl (s241 h l2 (mI h 2000000 (Int32.toNatClampNeg (l3 + 1))) (mI h 2000000 (Int32.toNatClampNeg (l3 + 2))) 1) (fun r26 => ?_)
      refine Seg.blk0 (f' := (if (r24 : Int32) = r26.1 then 1887 else 653, [.ref l0, .ref l1, .ref l2, .int l3], [])) (h' := r26.2) rfl rfl ?_
      refine Seg.ite (fun _ => ?_) (fun _ => ?_)
      · exact Seg.w (mLw.k (mLw.k (mLw.k (mLw.k mLw.nil)))) (s302_1887 r26.2 l0 l1 l2 l3)
      · refine Seg.x ?_
        exact Seg.ret (f1 := (654, [.ref l0, .ref l1, .ref l2, .int l3], [.int 0])) (h1 := r26.2) rfl rfl rfl rfl (fun _ q => q)
theorem s302_655 (h : mH) (l0 : Nat) (l1 : Nat) (l2 : Nat) (l3 : Int32) : Seg 302 (655, [.ref l0, .ref l1, .ref l2, .int l3], []) h (f302_655 h l0 l1 l2 l3) (Sum.elim (fun s : (Int32 × mH) => Ev 302 (18, [.ref l0, .ref l1, .ref l2, .int s.1], []) s.2) (fun (q : Int32 × mH) (res : Option Value × mH) => res = (some (.int q.1), q.2))) := by
  unfold f302_655
  refine Seg.callP (f1 := (671, [.ref l0, .ref l1, .ref l2, .int l3], [.int (mI h 2000000 (Int32.toNatClampNeg (l3 + 3))), .int (mI h 2000000 (Int32.toNatClampNeg (l3 + 2))), .int (mI h 2000000 (Int32.toNatClampNeg (l3 + 1))), .ref l1])) (h1 := h) (cv := fun r => some (.int r)) rfl rfl rfl rfl (s97 h l1 (mI h 2000000 (Int32.toNatClampNeg (l3 + 1))) (mI h 2000000 (Int32.toNatClampNeg (l3 + 2))) (mI h 2000000 (Int32.toNatClampNeg (l3 + 3)))) (fun r27 => ?_)
  refine Seg.call (f1 := (690, [.ref l0, .ref l1, .ref l2, .int l3], [.int (mI h 2000000 (Int32.toNatClampNeg (l3 + 3))), .int (mI h 2000000 (Int32.toNatClampNeg (l3 + 2))), .int (mI h 2000000 (Int32.toNatClampNeg (l3 + 1))), .ref l2, .int r27])) (h1 := h) (cv := fun r => some (.int r)) rfl rfl rfl rfl (s245 h l2 (mI h 2000000 (Int32.toNatClampNeg (l3 + 1))) (mI h 2000000 (Int32.toNatClampNeg (l3 + 2))) (mI h 2000000 (Int32.toNatClampNeg (l3 + 3)))) (fun r28 => ?_)
  refine Seg.blk0 (f' := (if (r27 : Int32) = r28.1 then 1887 else 696, [.ref l0, .ref l1, .ref l2, .int l3], [])) (h' := r28.2) rfl rfl ?_
  refine Seg.ite (fun _ => ?_) (fun _ => ?_)
  · exact Seg.w (mLw.k (mLw.k (mLw.k (mLw.k mLw.nil)))) (s302_1887 r28.2 l0 l1 l2 l3)
  · refine Seg.x ?_
    exact Seg.ret (f1 := (697, [.ref l0, .ref l1, .ref l2, .int l3], [.int 0])) (h1 := r28.2) rfl rfl rfl rfl (fun _ q => q)
theorem s302_698 (h : mH) (l0 : Nat) (l1 : Nat) (l2 : Nat) (l3 : Int32) : Seg 302 (698, [.ref l0, .ref l1, .ref l2, .int l3], []) h (f302_698 h l0 l1 l2 l3) (Sum.elim (fun s : (Int32 × mH) => Ev 302 (18, [.ref l0, .ref l1, .ref l2, .int s.1], []) s.2) (fun (q : Int32 × mH) (res : Option Value × mH) => res = (some (.int q.1), q.2))) := by
  unfold f302_698
  refine Seg.blk (f' := (if ((mI h 2000000 (Int32.toNatClampNeg (l3 + 3))) : Int32) = 0 then 721 else 717, [.ref l0, .ref l1, .ref l2, .int l3], [.int (mI h 2000000 (Int32.toNatClampNeg (l3 + 2))), .int (mI h 2000000 (Int32.toNatClampNeg (l3 + 1))), .ref l1])) (h' := h) rfl rfl ?_
  refine Seg.ite (fun _ => ?_) (fun _ => ?_)
  · refine Seg.blk0 (f' := (722, [.ref l0, .ref l1, .ref l2, .int l3], [.int 0, .int (mI h 2000000 (Int32.toNatClampNeg (l3 + 2))), .int (mI h 2000000 (Int32.toNatClampNeg (l3 + 1))), .ref l1])) (h' := h) rfl rfl ?_
    refine Seg.callP (f1 := (722, [.ref l0, .ref l1, .ref l2, .int l3], [.int 0, .int (mI h 2000000 (Int32.toNatClampNeg (l3 + 2))), .int (mI h 2000000 (Int32.toNatClampNeg (l3 + 1))), .ref l1])) (h1 := h) (cv := fun r => some (.int r)) rfl rfl rfl rfl (s100 h l1 (mI h 2000000 (Int32.toNatClampNeg (l3 + 1))) (mI h 2000000 (Int32.toNatClampNeg (l3 + 2))) 0) (fun r29 => ?_)
    refine Seg.blk (f' := (if ((mI h 2000000 (Int32.toNatClampNeg (l3 + 3))) : Int32) = 0 then 748 else 744, [.ref l0, .ref l1, .ref l2, .int l3], [.int (mI h 2000000 (Int32.toNatClampNeg (l3 + 2))), .int (mI h 2000000 (Int32.toNatClampNeg (l3 + 1))), .ref l2, .int r29])) (h' := h) rfl rfl ?_
    refine Seg.ite (fun _ => ?_) (fun _ => ?_)
    · refine Seg.blk0 (f' := (749, [.ref l0, .ref l1, .ref l2, .int l3], [.int 0, .int (mI h 2000000 (Int32.toNatClampNeg (l3 + 2))), .int (mI h 2000000 (Int32.toNatClampNeg (l3 + 1))), .ref l2, .int r29])) (h' := h) rfl rfl ?_
      refine Seg.call (f1 := (749, [.ref l0, .ref l1, .ref l2, .int l3], [.int 0, .int (mI h 2000000 (Int32.toNatClampNeg (l3 + 2))), .int (mI h 2000000 (Int32.toNatClampNeg (l3 + 1))), .ref l2, .int r29])) (h1 := h) (cv := fun r => some (.int r)) rfl rfl rfl rfl (s248 h l2 (mI h 2000000 (Int32.toNatClampNeg (l3 + 1))) (mI h 2000000 (Int32.toNatClampNeg (l3 + 2))) 0) (fun r30 => ?_)
      refine Seg.blk0 (f' := (if (r29 : Int32) = r30.1 then 1887 else 755, [.ref l0, .ref l1, .ref l2, .int l3], [])) (h' := r30.2) rfl rfl ?_
      refine Seg.ite (fun _ => ?_) (fun _ => ?_)
      · exact Seg.w (mLw.k (mLw.k (mLw.k (mLw.k mLw.nil)))) (s302_1887 r30.2 l0 l1 l2 l3)
      · refine Seg.x ?_
        exact Seg.ret (f1 := (756, [.ref l0, .ref l1, .ref l2, .int l3], [.int 0])) (h1 := r30.2) rfl rfl rfl rfl (fun _ q => q)
    · refine Seg.blk0 (f' := (749, [.ref l0, .ref l1, .ref l2, .int l3], [.int 1, .int (mI h 2000000 (Int32.toNatClampNeg (l3 + 2))), .int (mI h 2000000 (Int32.toNatClampNeg (l3 + 1))), .ref l2, .int r29])) (h' := h) rfl rfl ?_
      refine Seg.call (f1 := (749, [.ref l0, .ref l1, .ref l2, .int l3], [.int 1, .int (mI h 2000000 (Int32.toNatClampNeg (l3 + 2))), .int (mI h 2000000 (Int32.toNatClampNeg (l3 + 1))), .ref l2, .int r29])) (h1 := h) (cv := fun r => some (.int r)) rfl rfl rfl rfl (s248 h l2 (mI h 2000000 (Int32.toNatClampNeg (l3 + 1))) (mI h 2000000 (Int32.toNatClampNeg (l3 + 2))) 1) (fun r31 => ?_)
      refine Seg.blk0 (f' := (if (r29 : Int32) = r31.1 then 1887 else 755, [.ref l0, .ref l1, .ref l2, .int l3], [])) (h' := r31.2) rfl rfl ?_
      refine Seg.ite (fun _ => ?_) (fun _ => ?_)
      · exact Seg.w (mLw.k (mLw.k (mLw.k (mLw.k mLw.nil)))) (s302_1887 r31.2 l0 l1 l2 l3)
      · refine Seg.x ?_
        exact Seg.ret (f1 := (756, [.ref l0, .ref l1, .ref l2, .int l3], [.int 0])) (h1 := r31.2) rfl rfl rfl rfl (fun _ q => q)
  · refine Seg.blk0 (f' := (722, [.ref l0, .ref l1, .ref l2, .int l3], [.int 1, .int (mI h 2000000 (Int32.toNatClampNeg (l3 + 2))), .int (mI h 2000000 (Int32.toNatClampNeg (l3 + 1))), .ref l1])) (h' := h) rfl rfl ?_
    refine Seg.callP (f1 := (722, [.ref l0, .ref l1, .ref l2, .int l3], [.int 1, .int (mI h 2000000 (Int32.toNatClampNeg (l3 + 2))), .int (mI h 2000000 (Int32.toNatClampNeg (l3 + 1))), .ref l1])) (h1 := h) (cv := fun r => some (.int r)) rfl rfl rfl rfl (s100 h l1 (mI h 2000000 (Int32.toNatClampNeg (l3 + 1))) (mI h 2000000 (Int32.toNatClampNeg (l3 + 2))) 1) (fun r32 => ?_)
    refine Seg.blk (f' := (if ((mI h 2000000 (Int32.toNatClampNeg (l3 + 3))) : Int32) = 0 then 748 else 744, [.ref l0, .ref l1, .ref l2, .int l3], [.int (mI h 2000000 (Int32.toNatClampNeg (l3 + 2))), .int (mI h 2000000 (Int32.toNatClampNeg (l3 + 1))), .ref l2, .int r32])) (h' := h) rfl rfl ?_
    refine Seg.ite (fun _ => ?_) (fun _ => ?_)
    · refine Seg.blk0 (f' := (749, [.ref l0, .ref l1, .ref l2, .int l3], [.int 0, .int (mI h 2000000 (Int32.toNatClampNeg (l3 + 2))), .int (mI h 2000000 (Int32.toNatClampNeg (l3 + 1))), .ref l2, .int r32])) (h' := h) rfl rfl ?_
      refine Seg.call (f1 := (749, [.ref l0, .ref l1, .ref l2, .int l3], [.int 0, .int (mI h 2000000 (Int32.toNatClampNeg (l3 + 2))), .int (mI h 2000000 (Int32.toNatClampNeg (l3 + 1))), .ref l2, .int r32])) (h1 := h) (cv := fun r => some (.int r)) rfl rfl rfl rfl (s248 h l2 (mI h 2000000 (Int32.toNatClampNeg (l3 + 1))) (mI h 2000000 (Int32.toNatClampNeg (l3 + 2))) 0) (fun r33 => ?_)
      refine Seg.blk0 (f' := (if (r32 : Int32) = r33.1 then 1887 else 755, [.ref l0, .ref l1, .ref l2, .int l3], [])) (h' := r33.2) rfl rfl ?_
      refine Seg.ite (fun _ => ?_) (fun _ => ?_)
      · exact Seg.w (mLw.k (mLw.k (mLw.k (mLw.k mLw.nil)))) (s302_1887 r33.2 l0 l1 l2 l3)
      · refine Seg.x ?_
        exact Seg.ret (f1 := (756, [.ref l0, .ref l1, .ref l2, .int l3], [.int 0])) (h1 := r33.2) rfl rfl rfl rfl (fun _ q => q)
    · refine Seg.blk0 (f' := (749, [.ref l0, .ref l1, .ref l2, .int l3], [.int 1, .int (mI h 2000000 (Int32.toNatClampNeg (l3 + 2))), .int (mI h 2000000 (Int32.toNatClampNeg (l3 + 1))), .ref l2, .int r32])) (h' := h) rfl rfl ?_
      refine Seg.call (f1 := (749, [.ref l0, .ref l1, .ref l2, .int l3], [.int 1, .int (mI h 2000000 (Int32.toNatClampNeg (l3 + 2))), .int (mI h 2000000 (Int32.toNatClampNeg (l3 + 1))), .ref l2, .int r32])) (h1 := h) (cv := fun r => some (.int r)) rfl rfl rfl rfl (s248 h l2 (mI h 2000000 (Int32.toNatClampNeg (l3 + 1))) (mI h 2000000 (Int32.toNatClampNeg (l3 + 2))) 1) (fun r34 => ?_)
      refine Seg.blk0 (f' := (if (r32 : Int32) = r34.1 then 1887 else 755, [.ref l0, .ref l1, .ref l2, .int l3], [])) (h' := r34.2) rfl rfl ?_
      refine Seg.ite (fun _ => ?_) (fun _ => ?_)
      · exact Seg.w (mLw.k (mLw.k (mLw.k (mLw.k mLw.nil)))) (s302_1887 r34.2 l0 l1 l2 l3)
      · refine Seg.x ?_
        exact Seg.ret (f1 := (756, [.ref l0, .ref l1, .ref l2, .int l3], [.int 0])) (h1 := r34.2) rfl rfl rfl rfl (fun _ q => q)
theorem s302_757 (h : mH) (l0 : Nat) (l1 : Nat) (l2 : Nat) (l3 : Int32) : Seg 302 (757, [.ref l0, .ref l1, .ref l2, .int l3], []) h (f302_757 h l0 l1 l2 l3) (Sum.elim (fun s : (Int32 × mH) => Ev 302 (18, [.ref l0, .ref l1, .ref l2, .int s.1], []) s.2) (fun (q : Int32 × mH) (res : Option Value × mH) => res = (some (.int q.1), q.2))) := by
  unfold f302_757
  refine Seg.blk (f' := (if ((mI h 2000000 (Int32.toNatClampNeg (l3 + 3))) : Int32) = 0 then 780 else 776, [.ref l0, .ref l1, .ref l2, .int l3], [.int (mI h 2000000 (Int32.toNatClampNeg (l3 + 2))), .int (mI h 2000000 (Int32.toNatClampNeg (l3 + 1))), .ref l1])) (h' := h) rfl rfl ?_
  refine Seg.ite (fun _ => ?_) (fun _ => ?_)
  · refine Seg.blk0 (f' := (781, [.ref l0, .ref l1, .ref l2, .int l3], [.int 0, .int (mI h 2000000 (Int32.toNatClampNeg (l3 + 2))), .int (mI h 2000000 (Int32.toNatClampNeg (l3 + 1))), .ref l1])) (h' := h) rfl rfl ?_
    refine Seg.call (f1 := (781, [.ref l0, .ref l1, .ref l2, .int l3], [.int 0, .int (mI h 2000000 (Int32.toNatClampNeg (l3 + 2))), .int (mI h 2000000 (Int32.toNatClampNeg (l3 + 1))), .ref l1])) (h1 := h) (cv := fun r => some (.int r)) rfl rfl rfl rfl (s102 h l1 (mI h 2000000 (Int32.toNatClampNeg (l3 + 1))) (mI h 2000000 (Int32.toNatClampNeg (l3 + 2))) 0) (fun r35 => ?_)
    refine Seg.blk (f' := (if ((mI r35.2 2000000 (Int32.toNatClampNeg (l3 + 3))) : Int32) = 0 then 807 else 803, [.ref l0, .ref l1, .ref l2, .int l3], [.int (mI r35.2 2000000 (Int32.toNatClampNeg (l3 + 2))), .int (mI r35.2 2000000 (Int32.toNatClampNeg (l3 + 1))), .ref l2, .int r35.1])) (h' := r35.2) rfl rfl ?_
    refine Seg.ite (fun _ => ?_) (fun _ => ?_)
    · refine Seg.blk0 (f' := (808, [.ref l0, .ref l1, .ref l2, .int l3], [.int 0, .int (mI r35.2 2000000 (Int32.toNatClampNeg (l3 + 2))), .int (mI r35.2 2000000 (Int32.toNatClampNeg (l3 + 1))), .ref l2, .int r35.1])) (h' := r35.2) rfl rfl ?_
      refine Seg.call (f1 := (808, [.ref l0, .ref l1, .ref l2, .int l3], [.int 0, .int (mI r35.2 2000000 (Int32.toNatClampNeg (l3 + 2))), .int (mI r35.2 2000000 (Int32.toNatClampNeg (l3 + 1))), .ref l2, .int r35.1])) (h1 := r35.2) (cv := fun r => some (.int r)) rfl rfl rfl rfl (s249 r35.2 l2 (mI r35.2 2000000 (Int32.toNatClampNeg (l3 + 1))) (mI r35.2 2000000 (Int32.toNatClampNeg (l3 + 2))) 0) (fun r36 => ?_)
      refine Seg.blk0 (f' := (if (r35.1 : Int32) = r36.1 then 1887 else 814, [.ref l0, .ref l1, .ref l2, .int l3], [])) (h' := r36.2) rfl rfl ?_
      refine Seg.ite (fun _ => ?_) (fun _ => ?_)
      · exact Seg.w (mLw.k (mLw.k (mLw.k (mLw.k mLw.nil)))) (s302_1887 r36.2 l0 l1 l2 l3)
      · refine Seg.x ?_
        exact Seg.ret (f1 := (815, [.ref l0, .ref l1, .ref l2, .int l3], [.int 0])) (h1 := r36.2) rfl rfl rfl rfl (fun _ q => q)
    · refine Seg.blk0 (f' := (808, [.ref l0, .ref l1, .ref l2, .int l3], [.int 1, .int (mI r35.2 2000000 (Int32.toNatClampNeg (l3 + 2))), .int (mI r35.2 2000000 (Int32.toNatClampNeg (l3 + 1))), .ref l2, .int r35.1])) (h' := r35.2) rfl rfl ?_
      refine Seg.call (f1 := (808, [.ref l0, .ref l1, .ref l2, .int l3], [.int 1, .int (mI r35.2 2000000 (Int32.toNatClampNeg (l3 + 2))), .int (mI r35.2 2000000 (Int32.toNatClampNeg (l3 + 1))), .ref l2, .int r35.1])) (h1 := r35.2) (cv := fun r => some (.int r)) rfl rfl rfl rfl (s249 r35.2 l2 (mI r35.2 2000000 (Int32.toNatClampNeg (l3 + 1))) (mI r35.2 2000000 (Int32.toNatClampNeg (l3 + 2))) 1) (fun r37 => ?_)
      refine Seg.blk0 (f' := (if (r35.1 : Int32) = r37.1 then 1887 else 814, [.ref l0, .ref l1, .ref l2, .int l3], [])) (h' := r37.2) rfl rfl ?_
      refine Seg.ite (fun _ => ?_) (fun _ => ?_)
      · exact Seg.w (mLw.k (mLw.k (mLw.k (mLw.k mLw.nil)))) (s302_1887 r37.2 l0 l1 l2 l3)
      · refine Seg.x ?_
        exact Seg.ret (f1 := (815, [.ref l0, .ref l1, .ref l2, .int l3], [.int 0])) (h1 := r37.2) rfl rfl rfl rfl (fun _ q => q)
  · refine Seg.blk0 (f' := (781, [.ref l0, .ref l1, .ref l2, .int l3], [.int 1, .int (mI h 2000000 (Int32.toNatClampNeg (l3 + 2))), .int (mI h 2000000 (Int32.toNatClampNeg (l3 + 1))), .ref l1])) (h' := h) rfl rfl ?_
    refine Seg.call (f1 := (781, [.ref l0, .ref l1, .ref l2, .int l3], [.int 1, .int (mI h 2000000 (Int32.toNatClampNeg (l3 + 2))), .int (mI h 2000000 (Int32.toNatClampNeg (l3 + 1))), .ref l1])) (h1 := h) (cv := fun r => some (.int r)) rfl rfl rfl rfl (s102 h l1 (mI h 2000000 (Int32.toNatClampNeg (l3 + 1))) (mI h 2000000 (Int32.toNatClampNeg (l3 + 2))) 1) (fun r38 => ?_)
    refine Seg.blk (f' := (if ((mI r38.2 2000000 (Int32.toNatClampNeg (l3 + 3))) : Int32) = 0 then 807 else 803, [.ref l0, .ref l1, .ref l2, .int l3], [.int (mI r38.2 2000000 (Int32.toNatClampNeg (l3 + 2))), .int (mI r38.2 2000000 (Int32.toNatClampNeg (l3 + 1))), .ref l2, .int r38.1])) (h' := r38.2) rfl rfl ?_
    refine Seg.ite (fun _ => ?_) (fun _ => ?_)
    · refine Seg.blk0 (f' := (808, [.ref l0, .ref l1, .ref l2, .int l3], [.int 0, .int (mI r38.2 2000000 (Int32.toNatClampNeg (l3 + 2))), .int (mI r38.2 2000000 (Int32.toNatClampNeg (l3 + 1))), .ref l2, .int r38.1])) (h' := r38.2) rfl rfl ?_
      refine Seg.call (f1 := (808, [.ref l0, .ref l1, .ref l2, .int l3], [.int 0, .int (mI r38.2 2000000 (Int32.toNatClampNeg (l3 + 2))), .int (mI r38.2 2000000 (Int32.toNatClampNeg (l3 + 1))), .ref l2, .int r38.1])) (h1 := r38.2) (cv := fun r => some (.int r)) rfl rfl rfl rfl (s249 r38.2 l2 (mI r38.2 2000000 (Int32.toNatClampNeg (l3 + 1))) (mI r38.2 2000000 (Int32.toNatClampNeg (l3 + 2))) 0) (fun r39 => ?_)
      refine Seg.blk0 (f' := (if (r38.1 : Int32) = r39.1 then 1887 else 814, [.ref l0, .ref l1, .ref l2, .int l3], [])) (h' := r39.2) rfl rfl ?_
      refine Seg.ite (fun _ => ?_) (fun _ => ?_)
      · exact Seg.w (mLw.k (mLw.k (mLw.k (mLw.k mLw.nil)))) (s302_1887 r39.2 l0 l1 l2 l3)
      · refine Seg.x ?_
        exact Seg.ret (f1 := (815, [.ref l0, .ref l1, .ref l2, .int l3], [.int 0])) (h1 := r39.2) rfl rfl rfl rfl (fun _ q => q)
    · refine Seg.blk0 (f' := (808, [.ref l0, .ref l1, .ref l2, .int l3], [.int 1, .int (mI r38.2 2000000 (Int32.toNatClampNeg (l3 + 2))), .int (mI r38.2 2000000 (Int32.toNatClampNeg (l3 + 1))), .ref l2, .int r38.1])) (h' := r38.2) rfl rfl ?_
      refine Seg.call (f1 := (808, [.ref l0, .ref l1, .ref l2, .int l3], [.int 1, .int (mI r38.2 2000000 (Int32.toNatClampNeg (l3 + 2))), .int (mI r38.2 2000000 (Int32.toNatClampNeg (l3 + 1))), .ref l2, .int r38.1])) (h1 := r38.2) (cv := fun r => some (.int r)) rfl rfl rfl rfl (s249 r38.2 l2 (mI r38.2 2000000 (Int32.toNatClampNeg (l3 + 1))) (mI r38.2 2000000 (Int32.toNatClampNeg (l3 + 2))) 1) (fun r40 => ?_)
      refine Seg.blk0 (f' := (if (r38.1 : Int32) = r40.1 then 1887 else 814, [.ref l0, .ref l1, .ref l2, .int l3], [])) (h' := r40.2) rfl rfl ?_
      refine Seg.ite (fun _ => ?_) (fun _ => ?_)
      · exact Seg.w (mLw.k (mLw.k (mLw.k (mLw.k mLw.nil)))) (s302_1887 r40.2 l0 l1 l2 l3)
      · refine Seg.x ?_
        exact Seg.ret (f1 := (815, [.ref l0, .ref l1, .ref l2, .int l3], [.int 0])) (h1 := r40.2) rfl rfl rfl rfl (fun _ q => q)
