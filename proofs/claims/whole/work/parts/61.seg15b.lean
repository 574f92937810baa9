theorem s302_338 (h : mH) (l0 : Nat) (l1 : Nat) (l2 : Nat) (l3 : Int32) : Seg 302 (338, [.ref l0, .ref l1, .ref l2, .int l3], []) h (f302_338 h l0 l1 l2 l3) (Sum.elim (fun s : (Int32 × mH) => Ev 302 (18, [.ref l0, .ref l1, .ref l2, .int s.1], []) s.2) (fun (q : Int32 × mH) (res : Option Value × mH) => res = (some (.int q.1), q.2))) := by
  unfold f302_338
  refine Seg.callP (f1 := (349, [.ref l0, .ref l1, .ref l2, .int l3], [.int (mI h 2000000 (Int32.toNatClampNeg (l3 + 2))), .int (mI h 2000000 (Int32.toNatClampNeg (l3 + 1))), .ref l1])) (h1 := h) (cv := fun r => some (.int r)) rfl rfl rfl rfl (s52 h l1 (mI h 2000000 (Int32.toNatClampNeg (l3 + 1))) (mI h 2000000 (Int32.toNatClampNeg (l3 + 2)))) (fun r9 => ?_)
  refine Seg.call (f1 := (363, [.ref l0, .ref l1, .ref l2, .int l3], [.int (mI h 2000000 (Int32.toNatClampNeg (l3 + 2))), .int (mI h 2000000 (Int32.toNatClampNeg (l3 + 1))), .ref l2, .int r9])) (h1 := h) (cv := fun r => some (.int r)) rfl rfl rfl rfl (s204 h l2 (mI h 2000000 (Int32.toNatClampNeg (l3 + 1))) (mI h 2000000 (Int32.toNatClampNeg (l3 + 2)))) (fun r10 => ?_)
  refine Seg.blk0 (f' := (if (r9 : Int32) = r10.1 then 1887 else 369, [.ref l0, .ref l1, .ref l2, .int l3], [])) (h' := r10.2) rfl rfl ?_
  refine Seg.ite (fun _ => ?_) (fun _ => ?_)
  · exact Seg.w (mLw.k (mLw.k (mLw.k (mLw.k mLw.nil)))) (s302_1887 r10.2 l0 l1 l2 l3)
  · refine Seg.x ?_
    exact Seg.ret (f1 := (370, [.ref l0, .ref l1, .ref l2, .int l3], [.int 0])) (h1 := r10.2) rfl rfl rfl rfl (fun _ q => q)
theorem s302_371 (h : mH) (l0 : Nat) (l1 : Nat) (l2 : Nat) (l3 : Int32) : Seg 302 (371, [.ref l0, .ref l1, .ref l2, .int l3], []) h (f302_371 h l0 l1 l2 l3) (Sum.elim (fun s : (Int32 × mH) => Ev 302 (18, [.ref l0, .ref l1, .ref l2, .int s.1], []) s.2) (fun (q : Int32 × mH) (res : Option Value × mH) => res = (some (.int q.1), q.2))) := by
  unfold f302_371
  refine Seg.callP (f1 := (387, [.ref l0, .ref l1, .ref l2, .int l3], [.int (mI h 2000000 (Int32.toNatClampNeg (l3 + 3))), .int (mI h 2000000 (Int32.toNatClampNeg (l3 + 2))), .int (mI h 2000000 (Int32.toNatClampNeg (l3 + 1))), .ref l1])) (h1 := h) (cv := fun r => some (.int r)) rfl rfl rfl rfl (s58 h l1 (mI h 2000000 (Int32.toNatClampNeg (l3 + 1))) (mI h 2000000 (Int32.toNatClampNeg (l3 + 2))) (mI h 2000000 (Int32.toNatClampNeg (l3 + 3)))) (fun r11 => ?_)
  refine Seg.call (f1 := (406, [.ref l0, .ref l1, .ref l2, .int l3], [.int (mI h 2000000 (Int32.toNatClampNeg (l3 + 3))), .int (mI h 2000000 (Int32.toNatClampNeg (l3 + 2))), .int (mI h 2000000 (Int32.toNatClampNeg (l3 + 1))), .ref l2, .int r11])) (h1 := h) (cv := fun r => some (.int r)) rfl rfl rfl rfl (s208 h l2 (mI h 2000000 (Int32.toNatClampNeg (l3 + 1))) (mI h 2000000 (Int32.toNatClampNeg (l3 + 2))) (mI h 2000000 (Int32.toNatClampNeg (l3 + 3)))) (fun r12 => ?_)
  refine Seg.blk0 (f' := (if (r11 : Int32) = r12.1 then 1887 else 412, [.ref l0, .ref l1, .ref l2, .int l3], [])) (h' := r12.2) rfl rfl ?_
  refine Seg.ite (fun _ => ?_) (fun _ => ?_)
  · exact Seg.w (mLw.k (mLw.k (mLw.k (mLw.k mLw.nil)))) (s302_1887 r12.2 l0 l1 l2 l3)
  · refine Seg.x ?_
    exact Seg.ret (f1 := (413, [.ref l0, .ref l1, .ref l2, .int l3], [.int 0])) (h1 := r12.2) rfl rfl rfl rfl (fun _ q => q)
theorem s302_414 (h : mH) (l0 : Nat) (l1 : Nat) (l2 : Nat) (l3 : Int32) : Seg 302 (414, [.ref l0, .ref l1, .ref l2, .int l3], []) h (f302_414 h l0 l1 l2 l3) (Sum.elim (fun s : (Int32 × mH) => Ev 302 (18, [.ref l0, .ref l1, .ref l2, .int s.1], []) s.2) (fun (q : Int32 × mH) (res : Option Value × mH) => res = (some (.int q.1), q.2))) := by
  unfold f302_414
  refine Seg.call (f1 := (425, [.ref l0, .ref l1, .ref l2, .int l3], [.int (mI h 2000000 (Int32.toNatClampNeg (l3 + 2))), .int (mI h 2000000 (Int32.toNatClampNeg (l3 + 1))), .ref l1])) (h1 := h) (cv := fun r => some (.int r)) rfl rfl rfl rfl (s61 h l1 (mI h 2000000 (Int32.toNatClampNeg (l3 + 1))) (mI h 2000000 (Int32.toNatClampNeg (l3 + 2)))) (fun r13 => ?_)
  refine Seg.call (f1 := (439, [.ref l0, .ref l1, .ref l2, .int l3], [.int (mI r13.2 2000000 (Int32.toNatClampNeg (l3 + 2))), .int (mI r13.2 2000000 (Int32.toNatClampNeg (l3 + 1))), .ref l2, .int r13.1])) (h1 := r13.2) (cv := fun r => some (.int r)) rfl rfl rfl rfl (s212 r13.2 l2 (mI r13.2 2000000 (Int32.toNatClampNeg (l3 + 1))) (mI r13.2 2000000 (Int32.toNatClampNeg (l3 + 2)))) (fun r14 => ?_)
  refine Seg.blk0 (f' := (if (r13.1 : Int32) = r14.1 then 1887 else 445, [.ref l0, .ref l1, .ref l2, .int l3], [])) (h' := r14.2) rfl rfl ?_
  refine Seg.ite (fun _ => ?_) (fun _ => ?_)
  · exact Seg.w (mLw.k (mLw.k (mLw.k (mLw.k mLw.nil)))) (s302_1887 r14.2 l0 l1 l2 l3)
  · refine Seg.x ?_
    exact Seg.ret (f1 := (446, [.ref l0, .ref l1, .ref l2, .int l3], [.int 0])) (h1 := r14.2) rfl rfl rfl rfl (fun _ q => q)
theorem s302_447 (h : mH) (l0 : Nat) (l1 : Nat) (l2 : Nat) (l3 : Int32) : Seg 302 (447, [.ref l0, .ref l1, .ref l2, .int l3], []) h (f302_447 h l0 l1 l2 l3) (Sum.elim (fun s : (Int32 × mH) => Ev 302 (18, [.ref l0, .ref l1, .ref l2, .int s.1], []) s.2) (fun (q : Int32 × mH) (res : Option Value × mH) => res = (some (.int q.1), q.2))) := by
  unfold f302_447
  refine Seg.call (f1 := (468, [.ref l0, .ref l1, .ref l2, .int l3], [.int (mI h 2000000 (Int32.toNatClampNeg (l3 + 4))), .int (mI h 2000000 (Int32.toNatClampNeg (l3 + 3))), .int (mI h 2000000 (Int32.toNatClampNeg (l3 + 2))), .int (mI h 2000000 (Int32.toNatClampNeg (l3 + 1))), .ref l1])) (h1 := h) (cv := fun r => some (.int r)) rfl rfl rfl rfl (s80 h l1 (mI h 2000000 (Int32.toNatClampNeg (l3 + 1))) (mI h 2000000 (Int32.toNatClampNeg (l3 + 2))) (mI h 2000000 (Int32.toNatClampNeg (l3 + 3))) (mI h 2000000 (Int32.toNatClampNeg (l3 + 4)))) (fun r15 => ?_)
  refine Seg.call (f1 := (492, [.ref l0, .ref l1, .ref l2, .int l3], [.int (mI r15.2 2000000 (Int32.toNatClampNeg (l3 + 4))), .int (mI r15.2 2000000 (Int32.toNatClampNeg (l3 + 3))), .int (mI r15.2 2000000 (Int32.toNatClampNeg (l3 + 2))), .int (mI r15.2 2000000 (Int32.toNatClampNeg (l3 + 1))), .ref l2, .int r15.1])) (h1 := r15.2) (cv := fun r => some (.int r)) rfl rfl rfl rfl (s229 r15.2 l2 (mI r15.2 2000000 (Int32.toNatClampNeg (l3 + 1))) (mI r15.2 2000000 (Int32.toNatClampNeg (l3 + 2))) (mI r15.2 2000000 (Int32.toNatClampNeg (l3 + 3))) (mI r15.2 2000000 (Int32.toNatClampNeg (l3 + 4)))) (fun r16 => ?_)
  refine Seg.blk0 (f' := (if (r15.1 : Int32) = r16.1 then 1887 else 498, [.ref l0, .ref l1, .ref l2, .int l3], [])) (h' := r16.2) rfl rfl ?_
  refine Seg.ite (fun _ => ?_) (fun _ => ?_)
  · exact Seg.w (mLw.k (mLw.k (mLw.k (mLw.k mLw.nil)))) (s302_1887 r16.2 l0 l1 l2 l3)
  · refine Seg.x ?_
    exact Seg.ret (f1 := (499, [.ref l0, .ref l1, .ref l2, .int l3], [.int 0])) (h1 := r16.2) rfl rfl rfl rfl (fun _ q => q)
theorem s302_500 (h : mH) (l0 : Nat) (l1 : Nat) (l2 : Nat) (l3 : Int32) : Seg 302 (500, [.ref l0, .ref l1, .ref l2, .int l3], []) h (f302_500 h l0 l1 l2 l3) (Sum.elim (fun s : (Int32 × mH) => Ev 302 (18, [.ref l0, .ref l1, .ref l2, .int s.1], []) s.2) (fun (q : Int32 × mH) (res : Option Value × mH) => res = (some (.int q.1), q.2))) := by
  unfold f302_500
  refine Seg.call (f1 := (516, [.ref l0, .ref l1, .ref l2, .int l3], [.int (mI h 2000000 (Int32.toNatClampNeg (l3 + 3))), .int (mI h 2000000 (Int32.toNatClampNeg (l3 + 2))), .int (mI h 2000000 (Int32.toNatClampNeg (l3 + 1))), .ref l1])) (h1 := h) (cv := fun r => some (.int r)) rfl rfl rfl rfl (s83 h l1 (mI h 2000000 (Int32.toNatClampNeg (l3 + 1))) (mI h 2000000 (Int32.toNatClampNeg (l3 + 2))) (mI h 2000000 (Int32.toNatClampNeg (l3 + 3)))) (fun r17 => ?_)
  refine Seg.call (f1 := (535, [.ref l0, .ref l1, .ref l2, .int l3], [.int (mI r17.2 2000000 (Int32.toNatClampNeg (l3 + 3))), .int (mI r17.2 2000000 (Int32.toNatClampNeg (l3 + 2))), .int (mI r17.2 2000000 (Int32.toNatClampNeg (l3 + 1))), .ref l2, .int r17.1])) (h1 := r17.2) (cv := fun r => some (.int r)) rfl rfl rfl rfl (s233 r17.2 l2 (mI r17.2 2000000 (Int32.toNatClampNeg (l3 + 1))) (mI r17.2 2000000 (Int32.toNatClampNeg (l3 + 2))) (mI r17.2 2000000 (Int32.toNatClampNeg (l3 + 3)))) (fun r18 => ?_)
  refine Seg.blk0 (f' := (if (r17.1 : Int32) = r18.1 then 1887 else 541, [.ref l0, .ref l1, .ref l2, .int l3], [])) (h' := r18.2) rfl rfl ?_
  refine Seg.ite (fun _ => ?_) (fun _ => ?_)
  · exact Seg.w (mLw.k (mLw.k (mLw.k (mLw.k mLw.nil)))) (s302_1887 r18.2 l0 l1 l2 l3)
  · refine Seg.x ?_
    exact Seg.ret (f1 := (542, [.ref l0, .ref l1, .ref l2, .int l3], [.int 0])) (h1 := r18.2) rfl rfl rfl rfl (fun _ q => q)
