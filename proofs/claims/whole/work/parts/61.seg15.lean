theorem s302_1887 (h : mH) (l0 : Nat) (l1 : Nat) (l2 : Nat) (l3 : Int32) : Seg 302 (1887, [.ref l0, .ref l1, .ref l2, .int l3], []) h (f302_1887 h l0 l1 l2 l3) (Sum.elim (fun s : (Int32 × mH) => Ev 302 (18, [.ref l0, .ref l1, .ref l2, .int s.1], []) s.2) (fun (q : Int32 × mH) (res : Option Value × mH) => res = (some (.int q.1), q.2))) := by
  unfold f302_1887
  refine Seg.blk0 (f' := (18, [.ref l0, .ref l1, .ref l2, .int (l3 + 6)], [])) (h' := h) rfl rfl ?_
  exact Seg.cont (fun _ q => Ev.w (mLw.k (mLw.k (mLw.k (mLw.k mLw.nil)))) q)
theorem s302_196 (h : mH) (l0 : Nat) (l1 : Nat) (l2 : Nat) (l3 : Int32) : Seg 302 (196, [.ref l0, .ref l1, .ref l2, .int l3], []) h (f302_196 h l0 l1 l2 l3) (Sum.elim (fun s : (Int32 × mH) => Ev 302 (18, [.ref l0, .ref l1, .ref l2, .int s.1], []) s.2) (fun (q : Int32 × mH) (res : Option Value × mH) => res = (some (.int q.1), q.2))) := by
  unfold f302_196
  refine Seg.call (f1 := (222, [.ref l0, .ref l1, .ref l2, .int l3], [.int (mI h 2000000 (Int32.toNatClampNeg (l3 + 5))), .int (mI h 2000000 (Int32.toNatClampNeg (l3 + 4))), .int (mI h 2000000 (Int32.toNatClampNeg (l3 + 3))), .int (mI h 2000000 (Int32.toNatClampNeg (l3 + 2))), .int (mI h 2000000 (Int32.toNatClampNeg (l3 + 1))), .ref l1])) (h1 := h) (cv := fun r => some (.int r)) rfl rfl rfl rfl (s14 h l1 (mI h 2000000 (Int32.toNatClampNeg (l3 + 1))) (mI h 2000000 (Int32.toNatClampNeg (l3 + 2))) (mI h 2000000 (Int32.toNatClampNeg (l3 + 3))) (mI h 2000000 (Int32.toNatClampNeg (l3 + 4))) (mI h 2000000 (Int32.toNatClampNeg (l3 + 5)))) (fun r1 => ?_)
  refine Seg.call (f1 := (251, [.ref l0, .ref l1, .ref l2, .int l3], [.int (mI r1.2 2000000 (Int32.toNatClampNeg (l3 + 5))), .int (mI r1.2 2000000 (Int32.toNatClampNeg (l3 + 4))), .int (mI r1.2 2000000 (Int32.toNatClampNeg (l3 + 3))), .int (mI r1.2 2000000 (Int32.toNatClampNeg (l3 + 2))), .int (mI r1.2 2000000 (Int32.toNatClampNeg (l3 + 1))), .ref l2, .int r1.1])) (h1 := r1.2) (cv := fun r => some (.int r)) rfl rfl rfl rfl (s176 r1.2 l2 (mI r1.2 2000000 (Int32.toNatClampNeg (l3 + 1))) (mI r1.2 2000000 (Int32.toNatClampNeg (l3 + 2))) (mI r1.2 2000000 (Int32.toNatClampNeg (l3 + 3))) (mI r1.2 2000000 (Int32.toNatClampNeg (l3 + 4))) (mI r1.2 2000000 (Int32.toNatClampNeg (l3 + 5)))) (fun r2 => ?_)
  refine Seg.blk0 (f' := (if (r1.1 : Int32) = r2.1 then 1887 else 257, [.ref l0, .ref l1, .ref l2, .int l3], [])) (h' := r2.2) rfl rfl ?_
  refine Seg.ite (fun _ => ?_) (fun _ => ?_)
  · exact Seg.w (mLw.k (mLw.k (mLw.k (mLw.k mLw.nil)))) (s302_1887 r2.2 l0 l1 l2 l3)
  · refine Seg.x ?_
    exact Seg.ret (f1 := (258, [.ref l0, .ref l1, .ref l2, .int l3], [.int 0])) (h1 := r2.2) rfl rfl rfl rfl (fun _ q => q)
theorem s302_259 (h : mH) (l0 : Nat) (l1 : Nat) (l2 : Nat) (l3 : Int32) : Seg 302 (259, [.ref l0, .ref l1, .ref l2, .int l3], []) h (f302_259 h l0 l1 l2 l3) (Sum.elim (fun s : (Int32 × mH) => Ev 302 (18, [.ref l0, .ref l1, .ref l2, .int s.1], []) s.2) (fun (q : Int32 × mH) (res : Option Value × mH) => res = (some (.int q.1), q.2))) := by
  unfold f302_259
  refine Seg.call (f1 := (265, [.ref l0, .ref l1, .ref l2, .int l3], [.int (mI h 2000000 (Int32.toNatClampNeg (l3 + 1))), .ref l1])) (h1 := h) (cv := fun r => some (.int r)) rfl rfl rfl rfl (s16 h l1 (mI h 2000000 (Int32.toNatClampNeg (l3 + 1)))) (fun r3 => ?_)
  refine Seg.call (f1 := (274, [.ref l0, .ref l1, .ref l2, .int l3], [.int (mI r3.2 2000000 (Int32.toNatClampNeg (l3 + 1))), .ref l2, .int r3.1])) (h1 := r3.2) (cv := fun r => some (.int r)) rfl rfl rfl rfl (s178 r3.2 l2 (mI r3.2 2000000 (Int32.toNatClampNeg (l3 + 1)))) (fun r4 => ?_)
  refine Seg.blk0 (f' := (if (r3.1 : Int32) = r4.1 then 1887 else 280, [.ref l0, .ref l1, .ref l2, .int l3], [])) (h' := r4.2) rfl rfl ?_
  refine Seg.ite (fun _ => ?_) (fun _ => ?_)
  · exact Seg.w (mLw.k (mLw.k (mLw.k (mLw.k mLw.nil)))) (s302_1887 r4.2 l0 l1 l2 l3)
  · refine Seg.x ?_
    exact Seg.ret (f1 := (281, [.ref l0, .ref l1, .ref l2, .int l3], [.int 0])) (h1 := r4.2) rfl rfl rfl rfl (fun _ q => q)
theorem s302_282 (h : mH) (l0 : Nat) (l1 : Nat) (l2 : Nat) (l3 : Int32) : Seg 302 (282, [.ref l0, .ref l1, .ref l2, .int l3], []) h (f302_282 h l0 l1 l2 l3) (Sum.elim (fun s : (Int32 × mH) => Ev 302 (18, [.ref l0, .ref l1, .ref l2, .int s.1], []) s.2) (fun (q : Int32 × mH) (res : Option Value × mH) => res = (some (.int q.1), q.2))) := by
  unfold f302_282
  refine Seg.call (f1 := (293, [.ref l0, .ref l1, .ref l2, .int l3], [.int (mI h 2000000 (Int32.toNatClampNeg (l3 + 2))), .int (mI h 2000000 (Int32.toNatClampNeg (l3 + 1))), .ref l1])) (h1 := h) (cv := fun r => some (.int r)) rfl rfl rfl rfl (s18 h l1 (mI h 2000000 (Int32.toNatClampNeg (l3 + 1))) (mI h 2000000 (Int32.toNatClampNeg (l3 + 2)))) (fun r5 => ?_)
  refine Seg.call (f1 := (307, [.ref l0, .ref l1, .ref l2, .int l3], [.int (mI r5.2 2000000 (Int32.toNatClampNeg (l3 + 2))), .int (mI r5.2 2000000 (Int32.toNatClampNeg (l3 + 1))), .ref l2, .int r5.1])) (h1 := r5.2) (cv := fun r => some (.int r)) rfl rfl rfl rfl (s180 r5.2 l2 (mI r5.2 2000000 (Int32.toNatClampNeg (l3 + 1))) (mI r5.2 2000000 (Int32.toNatClampNeg (l3 + 2)))) (fun r6 => ?_)
  refine Seg.blk0 (f' := (if (r5.1 : Int32) = r6.1 then 1887 else 313, [.ref l0, .ref l1, .ref l2, .int l3], [])) (h' := r6.2) rfl rfl ?_
  refine Seg.ite (fun _ => ?_) (fun _ => ?_)
  · exact Seg.w (mLw.k (mLw.k (mLw.k (mLw.k mLw.nil)))) (s302_1887 r6.2 l0 l1 l2 l3)
  · refine Seg.x ?_
    exact Seg.ret (f1 := (314, [.ref l0, .ref l1, .ref l2, .int l3], [.int 0])) (h1 := r6.2) rfl rfl rfl rfl (fun _ q => q)
theorem s302_315 (h : mH) (l0 : Nat) (l1 : Nat) (l2 : Nat) (l3 : Int32) : Seg 302 (315, [.ref l0, .ref l1, .ref l2, .int l3], []) h (f302_315 h l0 l1 l2 l3) (Sum.elim (fun s : (Int32 × mH) => Ev 302 (18, [.ref l0, .ref l1, .ref l2, .int s.1], []) s.2) (fun (q : Int32 × mH) (res : Option Value × mH) => res = (some (.int q.1), q.2))) := by
  unfold f302_315
  refine Seg.callP (f1 := (321, [.ref l0, .ref l1, .ref l2, .int l3], [.int (mI h 2000000 (Int32.toNatClampNeg (l3 + 1))), .ref l1])) (h1 := h) (cv := fun r => some (.int r)) rfl rfl rfl rfl (s51 h l1 (mI h 2000000 (Int32.toNatClampNeg (l3 + 1)))) (fun r7 => ?_)
  refine Seg.call (f1 := (330, [.ref l0, .ref l1, .ref l2, .int l3], [.int (mI h 2000000 (Int32.toNatClampNeg (l3 + 1))), .ref l2, .int r7])) (h1 := h) (cv := fun r => some (.int r)) rfl rfl rfl rfl (s203 h l2 (mI h 2000000 (Int32.toNatClampNeg (l3 + 1)))) (fun r8 => ?_)
  refine Seg.blk0 (f' := (if (r7 : Int32) = r8.1 then 1887 else 336, [.ref l0, .ref l1, .ref l2, .int l3], [])) (h' := r8.2) rfl rfl ?_
  refine Seg.ite (fun _ => ?_) (fun _ => ?_)
  · exact Seg.w (mLw.k (mLw.k (mLw.k (mLw.k mLw.nil)))) (s302_1887 r8.2 l0 l1 l2 l3)
  · refine Seg.x ?_
    exact Seg.ret (f1 := (337, [.ref l0, .ref l1, .ref l2, .int l3], [.int 0])) (h1 := r8.2) rfl rfl rfl rfl (fun _ q => q)
theorem s302_338 (h : mH) (l0 : Nat) (l1 : Nat) (l2 : Nat) (l3 : Int32) : Seg 302 (338, [.ref l0, .ref l1, .ref l2, .int l3], []) h (f302_338 h l0 l1 l2 l3) (Sum.elim (fun s : (Int32 × mH) => Ev 302 (18, [.ref l0, .ref l1, .ref l2, .int s.1], []) s.2) (fun (q : Int32 × mH) (res : Option Value × mH) => res = (some (.int q.1), q.2))) := by
  unfold f302_338
  refine Seg.callP (f1 := (349, [.ref l0, .ref l1, .ref l2, .int l3], [.int (mI h 2000000 (Int32.toNatClampNeg (l3 + 2))), .int (mI h 2000000 (Int32.toNatClampNeg (l3 + 1))), .ref l1])) (h1 := h) (cv := fun r => some (.int r)) rfl rfl rfl rfl (s52 h l1 (mI h 2000000 (Int32.toNatClampNeg (l3 + 1))) (mI h 2000000 (Int32.toNatClampNeg (l3 + 2)))) (fun r9 => ?_)
  refine Seg.call (f1 := (363, [.ref l0, .ref l1, .ref l2, .int l3], [.int (mI h 2000000 (Int32.toNatClampNeg (l3 + 2))), .int (mI h 2000000 (Int32.toNatClampNeg (l3 + 1))), .ref l2, .int r9])) (h1 := h) (cv := fun r => some (.int r)) rfl rfl rfl rfl (s204 h l2 (mI h 2000000 (Int32.toNatClampNeg (l3 + 1))) (mI h 2000000 (Int32.toNatClampNeg (l3 + 2)))) (fun r10 => ?_)
  refine Seg.blk0 (f' := (if (r9 : Int32) = r10.1 then 1887 else 369, [.ref l0, .ref l1, .ref l2, .int l3], [])) (h' := r10.2) rfl rfl ?_
  refine Seg.ite (fun _ => ?_) (fun _ => ?_)
  · exact Seg.w (mLw.k (mLw.k (mLw.k (mLw.k mLw.nil)))) (s302_1887 r10.2 l0 l1 l2 l3)
  · refine Seg.x ?_
    exact Seg.ret (f1 := (370, [.ref l0, .ref l1, .ref l2, .int l3], [.int 0])) (h1 := r10.2) rfl rfl rfl rfl (fun _ q => q)
theorem s302_371 (h : mH) (l0 : Nat) (l1 : Nat) (l2 : Nat) (l3 : Int32) : Seg 302 (371, [.ref l0, .ref l1, .ref l2, .int l3], []) h (f302_371 h l0 l1 l2 l3) (Sum.elim (fun s : (Int32 × mH) => Ev 302 (18, [.ref l0, .ref l1, .ref l2, .int s.1], []) s.2) (fun (q : Int32 × mH) (res : Option Value × mH) => res = (some (.int q.1), q.2))) := by
  unfold f302_371
  refine Seg.callP (f1 := (387, [.ref l0, .ref l1, .ref l2, .int l3], [.int (mI h 2000000 (Int32.toNatClampNeg (l3 + 3))), .int (mI h 2000000 (Int32.toNatClampNeg (l3 + 2))), .int (mI h 2000000 (Int32.toNatClampNeg (l3 + 1))), .ref l1])) (h1 := h) (cv := fun r => some (.int r)) rfl rfl rfl rfl (s58 h l1 (mI h 2000000 (Int32.toNatClampNeg (l3 + 1))) (mI h 2000000 (Int32.toNatClampNeg (l3 + 2))) (mI h 2000000 (Int32.toNatClampNeg (l3 + 3)))) (fun r11 => ?_)
  refine Seg.call (f1 := (406, [.ref l0, .ref l1, .ref l2, .int l3], [.int (mI h 2000000 (Int32.toNatClampNeg (l3 + 3))), .int (mI h 2000000 (Int32.toNatClampNeg (l3 + 2))), .int (mI h 2000000 (Int32.toNatClampNeg (l3 + 1))), .ref l2, .int r11])) (h1 := h) (cv := fun r => some (.int r)) rfl rfl rfl rfl (s208 h l2 (mI h 2000000 (Int32.toNatClampNeg (l3 + 1))) (mI h 2000000 (Int32.toNatClampNeg (l3 + 2))) (mI h 2000000 (Int32.toNatClampNeg (l3 + 3)))) (fun r12 => ?_)
  refine Seg.blk0 (f' := (if (r11 : Int32) = r12.1 then 1887 else 412, [.ref l0, .ref l1, .ref l2, .int l3], [])) (h' := r12.2) rfl rfl ?_
  refine Seg.ite (fun _ => ?_) (fun _ => ?_)
  · exact Seg.w (mLw.k (mLw.k (mLw.k (mLw.k mLw.nil)))) (s302_1887 r12.2 l0 l1 l2 l3)
  · refine Seg.x ?_
    exact Seg.ret (f1 := (413, [.ref l0, .ref l1, .ref l2, .int l3], [.int 0])) (h1 := r12.2) rfl rfl rfl rfl (fun _ q => q)
theorem s302_414 (h : mH) (l0 : Nat) (l1 : Nat) (l2 : Nat) (l3 : Int32) : Seg 302 (414, [.ref l0, .ref l1, .ref l2, .int l3], []) h (f302_414 h l0 l1 l2 l3) (Sum.elim (fun s : (Int32 × mH) => Ev 302 (18, [.ref l0, .ref l1, .ref l2, .int s.1], []) s.2) (fun (q : Int32 × mH) (res : Option Value × mH) => res = (some (.int q.1), q.2))) := by
  unfold f302_414
  refine Seg.call (f1 := (425, [.ref l0, .ref l1, .ref l2, .int l3], [.int (mI h 2000000 (Int32.toNatClampNeg (l3 + 2))), .int (mI h 2000000 (Int32.toNatClampNeg (l3 + 1))), .ref l1])) (h1 := h) (cv := fun r => some (.int r)) rfl rfl rfl rfl (s61 h l1 (mI h 2000000 (Int32.toNatClampNeg (l3 + 1))) (mI h 2000000 (Int32.toNatClampNeg (l3 + 2)))) (fun r13 => ?_)
  refine Seg.call (f1 := (439, [.ref l0, .ref l1, .ref l2, .int l3], [.int (mI r13.2 2000000 (Int32.toNatClampNeg (l3 + 2))), .int (mI r13.2 2000000 (Int32.toNatClampNeg (l3 + 1))), .ref l2, .int r13.1])) (h1 := r13.2) (cv := fun r => some (.int r)) rfl rfl rfl rfl (s212 r13.2 l2 (mI r13.2 2000000 (Int32.toNatClampNeg (l3 + 1))) (mI r13.2 2000000 (Int32.toNatClampNeg (l3 + 2)))) (fun r14 => ?_)
  refine Seg.blk0 (f' := (if (r13.1 : Int32) = r14.1 then 1887 else 445, [.ref l0, .ref l1, .ref l2, .int l3], [])) (h' := r14.2) rfl rfl ?_
  refine Seg.ite (fun _ => ?_) (fun _ => ?_)
  · exact Seg.w (mLw.k (mLw.k (mLw.k (mLw.k mLw.nil)))) (s302_1887 r14.2 l0 l1 l2 l3)
  · refine Seg.x ?_
    exact Seg.ret (f1 := (446, [.ref l0, .ref l1, .ref l2, .int l3], [.int 0])) (h1 := r14.2) rfl rfl rfl rfl (fun _ q => q)
theorem s302_447 (h : mH) (l0 : Nat) (l1 : Nat) (l2 : Nat) (l3 : Int32) : Seg 302 (447, [.ref l0, .ref l1, .ref l2, .int l3], []) h (f302_447 h l0 l1 l2 l3) (Sum.elim (fun s : (Int32 × mH) => Ev 302 (18, [.ref l0, .ref l1, .ref l2, .int s.1], []) s.2) (fun (q : Int32 × mH) (res : Option Value × mH) => res = (some (.int q.1), q.2))) := by
  unfold f302_447
  refine Seg.call (f1 := (468, [.ref l0, .ref l1, .ref l2, .int l3], [.int (mI h 2000000 (Int32.toNatClampNeg (l3 + 4))), .int (mI h 2000000 (Int32.toNatClampNeg (l3 + 3))), .int (mI h 2000000 (Int32.toNatClampNeg (l3 + 2))), .int (mI h 2000000 (Int32.toNatClampNeg (l3 + 1))), .ref l1])) (h1 := h) (cv := fun r => some (.int r)) rfl rfl rfl rfl (s80 h l1 (mI h 2000000 (Int32.toNatClampNeg (l3 + 1))) (mI h 2000000 (Int32.toNatClampNeg (l3 + 2))) (mI h 2000000 (Int32.toNatClampNeg (l3 + 3))) (mI h 2000000 (Int32.toNatClampNeg (l3 + 4)))) (fun r15 => ?_)
  refine Seg.call (f1 := (492, [.ref l0, .ref l1, .ref l2, .int l3], [.int (mI r15.2 2000000 (Int32.toNatClampNeg (l3 + 4))), .int (mI r15.2 2000000 (Int32.toNatClampNeg (l3 + 3))), .int (mI r15.2 2000000 (Int32.toNatClampNeg (l3 + 2))), .int (mI r15.2 2000000 (Int32.toNatClampNeg (l3 + 1))), .ref l2, .int r15.1])) (h1 := r15.2) (cv := fun r => some (.int r)) rfl rfl rfl rfl (s229 r15.2 l2 (mI r15.2 2000000 (Int32.toNatClampNeg (l3 + 1))) (mI r15.2 2000000 (Int32.toNatClampNeg (l3 + 2))) (mI r15.2 2000000 (Int32.toNatClampNeg (l3 + 3))) (mI r15.2 2000000 (Int32.toNatClampNeg (l3 + 4)))) (fun r16 => ?_)
  refine Seg.blk0 (f' := (if (r15.1 : Int32) = r16.1 then 1887 else 498, [.ref l0, .ref l1, .ref l2, .int l3], [])) (h' := r16.2) rfl rfl ?_
  refine Seg.ite (fun _ => ?_) (fun _ => ?_)
  · exact Seg.w (mLw.k (mLw.k (mLw.k (mLw.k mLw.nil)))) (s302_1887 r16.2 l0 l1 l2 l3)
  · refine Seg.x ?_
    exact Seg.ret (f1 := (499, [.ref l0, .ref l1, .ref l2, .int l3], [.int 0])) (h1 := r16.2) rfl rfl rfl rfl (fun _ q => q)
theorem s302_500 (h : mH) (l0 : Nat) (l1 : Nat) (l2 : Nat) (l3 : Int32) : Seg 302 (500, [.ref l0, .ref l1, .ref l2, .int l3], []) h (f302_500 h l0 l1 l2 l3) (Sum.elim (fun s : (Int32 × mH) => Ev 302 (18, [.ref l0, .ref l1, .ref l2, .int s.1], []) s.2) (fun (q : Int32 × mH) (res : Option Value × mH) => res = (some (.int q.1), q.2))) := by
  unfold f302_500
  refine Seg.call (f1 := (516, [.ref l0, .ref l1, .ref l2, .int l3], [.int (mI h 2000000 (Int32.toNatClampNeg (l3 + 3))), .int (mI h 2000000 (Int32.toNatClampNeg (l3 + 2))), .int (mI h 2000000 (Int32.toNatClampNeg (l3 + 1))), .ref l1])) (h1 := h) (cv := fun r => some (.int r)) rfl rfl rfl rfl (s83 h l1 (mI h 2000000 (Int32.toNatClampNeg (l3 + 1))) (mI h 2000000 (Int32.toNatClampNeg (l3 + 2))) (mI h 2000000 (Int32.toNatClampNeg (l3 + 3)))) (fun r17 => ?_)
  refine Seg.call (f1 := (535, [.ref l0, .ref l1, .ref l2, .int l3], [.int (mI r17.2 2000000 (Int32.toNatClampNeg (l3 + 3))), .int (mI r17.2 2000000 (Int32.toNatClampNeg (l3 + 2))), .int (mI r17.2 2000000 (Int32.toNatClampNeg (l3 + 1))), .ref l2, .int r17.1])) (h1 := r17.2) (cv := fun r => some (.int r)) rfl rfl rfl rfl (s233 r17.2 l2 (mI r17.2 2000000 (Int32.toNatClampNeg (l3 + 1))) (mI r17.2 2000000 (Int32.toNatClampNeg (l3 + 2))) (mI r17.2 2000000 (Int32.toNatClampNeg (l3 + 3)))) (fun r18 => ?_)
  refine Seg.blk0 (f' := (if (r17.1 : Int32) = r18.1 then 1887 else 541, [.ref l0, .ref l1, .ref l2, .int l3], [])) (h' := r18.2) rfl rfl ?_
  refine Seg.ite (fun _ => ?_) (fun _ => ?_)
  · exact Seg.w (mLw.k (mLw.k (mLw.k (mLw.k mLw.nil)))) (s302_1887 r18.2 l0 l1 l2 l3)
  · refine Seg.x ?_
    exact Seg.ret (f1 := (542, [.ref l0, .ref l1, .ref l2, .int l3], [.int 0])) (h1 := r18.2) rfl rfl rfl rfl (fun _ q => q)
theorem s302_543 (h : mH) (l0 : Nat) (l1 : Nat) (l2 : Nat) (l3 : Int32) : Seg 302 (543, [.ref l0, .ref l1, .ref l2, .int l3], []) h (f302_543 h l0 l1 l2 l3) (Sum.elim (fun s : (Int32 × mH) => Ev 302 (18, [.ref l0, .ref l1, .ref l2, .int s.1], []) s.2) (fun (q : Int32 × mH) (res : Option Value × mH) => res = (some (.int q.1), q.2))) := by
  unfold f302_543
  refine Seg.call (f1 := (564, [.ref l0, .ref l1, .ref l2, .int l3], [.int (mI h 2000000 (Int32.toNatClampNeg (l3 + 4))), .int (mI h 2000000 (Int32.toNatClampNeg (l3 + 3))), .int (mI h 2000000 (Int32.toNatClampNeg (l3 + 2))), .int (mI h 2000000 (Int32.toNatClampNeg (l3 + 1))), .ref l1])) (h1 := h) (cv := fun r => some (.int r)) rfl rfl rfl rfl (s89 h l1 (mI h 2000000 (Int32.toNatClampNeg (l3 + 1))) (mI h 2000000 (Int32.toNatClampNeg (l3 + 2))) (mI h 2000000 (Int32.toNatClampNeg (l3 + 3))) (mI h 2000000 (Int32.toNatClampNeg (l3 + 4)))) (fun r19 => ?_)
  refine Seg.call (f1 := (588, [.ref l0, .ref l1, .ref l2, .int l3], [.int (mI r19.2 2000000 (Int32.toNatClampNeg (l3 + 4))), .int (mI r19.2 2000000 (Int32.toNatClampNeg (l3 + 3))), .int (mI r19.2 2000000 (Int32.toNatClampNeg (l3 + 2))), .int (mI r19.2 2000000 (Int32.toNatClampNeg (l3 + 1))), .ref l2, .int r19.1])) (h1 := r19.2) (cv := fun r => some (.int r)) rfl rfl rfl rfl (s236 r19.2 l2 (mI r19.2 2000000 (Int32.toNatClampNeg (l3 + 1))) (mI r19.2 2000000 (Int32.toNatClampNeg (l3 + 2))) (mI r19.2 2000000 (Int32.toNatClampNeg (l3 + 3))) (mI r19.2 2000000 (Int32.toNatClampNeg (l3 + 4)))) (fun r20 => ?_)
  refine Seg.blk0 (f' := (if (r19.1 : Int32) = r20.1 then 1887 else 594, [.ref l0, .ref l1, .ref l2, .int l3], [])) (h' := r20.2) rfl rfl ?_
  refine Seg.ite (fun _ => ?_) (fun _ => ?_)
  · exact Seg.w (mLw.k (mLw.k (mLw.k (mLw.k mLw.nil)))) (s302_1887 r20.2 l0 l1 l2 l3)
  · refine Seg.x ?_
    exact Seg.ret (f1 := (595, [.ref l0, .ref l1, .ref l2, .int l3], [.int 0])) (h1 := r20.2) rfl rfl rfl rfl (fun _ q => q)
theorem s302_596 (h : mH) (l0 : Nat) (l1 : Nat) (l2 : Nat) (l3 : Int32) : Seg 302 (596, [.ref l0, .ref l1, .ref l2, .int l3], []) h (f302_596 h l0 l1 l2 l3) (Sum.elim (fun s : (Int32 × mH) => Ev 302 (18, [.ref l0, .ref l1, .ref l2, .int s.1], []) s.2) (fun (q : Int32 × mH) (res : Option Value × mH) => res = (some (.int q.1), q.2))) := by
  unfold f302_596
  refine Seg.blk (f' := (if ((mI h 2000000 (Int32.toNatClampNeg (l3 + 3))) : Int32) = 0 then 619 else 615, [.ref l0, .ref l1, .ref l2, .int l3], [.int (mI h 2000000 (Int32.toNatClampNeg (l3 + 2))), .int (mI h 2000000 (Int32.toNatClampNeg (l3 + 1))), .ref l1])) (h' := h) rfl rfl ?_
  refine Seg.ite (fun _ => ?_) (fun _ => ?_)
  · refine Seg.blk0 (f' := (620, [.ref l0, .ref l1, .ref l2, .int l3], [.int 0, .int (mI h 2000000 (Int32.toNatClampNeg (l3 + 2))), .int (mI h 2000000 (Int32.toNatClampNeg (l3 + 1))), .ref l1])) (h' := h) rfl rfl ?_
    refine Seg.callP (f1 := (620, [.ref l0, .ref l1, .ref l2, .int l3], [.int 0, .int (mI h 2000000 (Int32.toNatClampNeg (l3 + 2))), .int (mI h 2000000 (Int32.toNatClampNeg (l3 + 1))), .ref l1])) (h1 := h) (cv := fun r => some (.int r)) rfl rfl rfl rfl (s92 h l1 (mI h 2000000 (Int32.toNatClampNeg (l3 + 1))) (mI h 2000000 (Int32.toNatClampNeg (l3 + 2))) 0) (fun r21 => ?_)
    refine Seg.blk (f' := (if ((mI h 2000000 (Int32.toNatClampNeg (l3 + 3))) : Int32) = 0 then 646 else 642, [.ref l0, .ref l1, .ref l2, .int l3], [.int (mI h 2000000 (Int32.toNatClampNeg (l3 + 2))), .int (mI h 2000000 (Int32.toNatClampNeg (l3 + 1))), .ref l2, .int r21])) (h' := h) rfl rfl ?_
    refine Seg.ite (fun _ => ?_) (fun _ => ?_)
    · refine Seg.blk0 (f' := (647, [.ref l0, .ref l1, .ref l2, .int l3], [.int 0, .int (mI h 2000000 (Int32.toNatClampNeg (l3 + 2))), .int (mI h 2000000 (Int32.toNatClampNeg (l3 + 1))), .ref l2, .int r21])) (h' := h) rfl rfl ?_
      refine Seg.call (f1 := (647, [.ref l0, .ref l1, .ref l2, .int l3], [.int 0, .int (mI h 2000000 (Int32.toNatClampNeg (l3 + 2))), .int (mI h 2000000 (Int32.toNatClampNeg (l3 + 1))), .ref l2, .int r21])) (h1 := h) (cv := fun r => some (.int r)) rfl rfl rfl rfl (s241 h l2 (mI h 2000000 (Int32.toNatClampNeg (l3 + 1))) (mI h 2000000 (Int32.toNatClampNeg (l3 + 2))) 0) (fun r22 => ?_)
      refine Seg.blk0 (f' := (if (r21 : Int32) = r22.1 then 1887 else 653, [.ref l0, .ref l1, .ref l2, .int l3], [])) (h' := r22.2) rfl rfl ?_
      refine Seg.ite (fun _ => ?_) (fun _ => ?_)
      · exact Seg.w (mLw.k (mLw.k (mLw.k (mLw.k mLw.nil)))) (s302_1887 r22.2 l0 l1 l2 l3)
      · refine Seg.x ?_
        exact Seg.ret (f1 := (654, [.ref l0, .ref l1, .ref l2, .int l3], [.int 0])) (h1 := r22.2) rfl rfl rfl rfl (fun _ q => q)
    · refine Seg.blk0 (f' := (647, [.ref l0, .ref l1, .ref l2, .int l3], [.int 1, .int (mI h 2000000 (Int32.toNatClampNeg (l3 + 2))), .int (mI h 2000000 (Int32.toNatClampNeg (l3 + 1))), .ref l2, .int r21])) (h' := h) rfl rfl ?_
      refine Seg.call (f1 := (647, [.ref l0, .ref l1, .ref l2, .int l3], [.int 1, .int (mI h 2000000 (Int32.toNatClampNeg (l3 + 2))), .int (mI h 2000000 (Int32.toNatClampNeg (l3 + 1))), .ref l2, .int r21])) (h1 := h) (cv := fun r => some (.int r)) rfl rfl rfl rfl (s241 h l2 (mI h 2000000 (Int32.toNatClampNeg (l3 + 1))) (mI h 2000000 (Int32.toNatClampNeg (l3 + 2))) 1) (fun r23 => ?_)
      refine Seg.blk0 (f' := (if (r21 : Int32) = r23.1 then 1887 else 653, [.ref l0, .ref l1, .ref l2, .int l3], [])) (h' := r23.2) rfl rfl ?_
      refine Seg.ite (fun _ => ?_) (fun _ => ?_)
      · exact Seg.w (mLw.k (mLw.k (mLw.k (mLw.k mLw.nil)))) (s302_1887 r23.2 l0 l1 l2 l3)
      · refine Seg.x ?_
        exact Seg.ret (f1 := (654, [.ref l0, .ref l1, .ref l2, .int l3], [.int 0])) (h1 := r23.2) rfl rfl rfl rfl (fun _ q => q)
  · refine Seg.blk0 (f' := (620, [.ref l0, .ref l1, .ref l2, .int l3], [.int 1, .int (mI h 2000000 (Int32.toNatClampNeg (l3 + 2))), .int (mI h 2000000 (Int32.toNatClampNeg (l3 + 1))), .ref l1])) (h' := h) rfl rfl ?_
    refine Seg.callP (f1 := (620, [.ref l0, .ref l1, .ref l2, .int l3], [.int 1, .int (mI h 2000000 (Int32.toNatClampNeg (l3 + 2))), .int (mI h 2000000 (Int32.toNatClampNeg (l3 + 1))), .ref l1])) (h1 := h) (cv := fun r => some (.int r)) rfl rfl rfl rfl (s92 h l1 (mI h 2000000 (Int32.toNatClampNeg (l3 + 1))) (mI h 2000000 (Int32.toNatClampNeg (l3 + 2))) 1) (fun r24 => ?_)
    refine Seg.blk (f' := (if ((mI h 2000000 (Int32.toNatClampNeg (l3 + 3))) : Int32) = 0 then 646 else 642, [.ref l0, .ref l1, .ref l2, .int l3], [.int (mI h 2000000 (Int32.toNatClampNeg (l3 + 2))), .int (mI h 2000000 (Int32.toNatClampNeg (l3 + 1))), .ref l2, .int r24])) (h' := h) rfl rfl ?_
    refine Seg.ite (fun _ => ?_) (fun _ => ?_)
    · refine Seg.blk0 (f' := (647, [.ref l0, .ref l1, .ref l2, .int l3], [.int 0, .int (mI h 2000000 (Int32.toNatClampNeg (l3 + 2))), .int (mI h 2000000 (Int32.toNatClampNeg (l3 + 1))), .ref l2, .int r24])) (h' := h) rfl rfl ?_
      refine Seg.call (f1 := (647, [.ref l0, .ref l1, .ref l2, .int l3], [.int 0, .int (mI h 2000000 (Int32.toNatClampNeg (l3 + 2))), .int (mI h 2000000 (Int32.toNatClampNeg (l3 + 1))), .ref l2, .int r24])) (h1 := h) (cv := fun r => some (.int r)) rfl rfl rfl rfl (s241 h l2 (mI h 2000000 (Int32.toNatClampNeg (l3 + 1))) (mI h 2000000 (Int32.toNatClampNeg (l3 + 2))) 0) (fun r25 => ?_)
      refine Seg.blk0 (f' := (if (r24 : Int32) = r25.1 then 1887 else 653, [.ref l0, .ref l1, .ref l2, .int l3], [])) (h' := r25.2) rfl rfl ?_
      refine Seg.ite (fun _ => ?_) (fun _ => ?_)
      · exact Seg.w (mLw.k (mLw.k (mLw.k (mLw.k mLw.nil)))) (s302_1887 r25.2 l0 l1 l2 l3)
      · refine Seg.x ?_
        exact Seg.ret (f1 := (654, [.ref l0, .ref l1, .ref l2, .int l3], [.int 0])) (h1 := r25.2) rfl rfl rfl rfl (fun _ q => q)
    · refine Seg.blk0 (f' := (647, [.ref l0, .ref l1, .ref l2, .int l3], [.int 1, .int (mI h 2000000 (Int32.toNatClampNeg (l3 + 2))), .int (mI h 2000000 (Int32.toNatClampNeg (l3 + 1))), .ref l2, .int r24])) (h' := h) rfl rfl ?_
      refine Seg.call (f1 := (647, [.ref l0, .ref l1, .ref l2, .int l3], [.int 1, .int (mI h 2000000 (Int32.toNatClampNeg (l3 + 2))), .int (mI h 2000000 (Int32.toNatClampNeg (l3 + 1))), .ref l2, .int r24])) (h1 := h) (cv := fun r => some (.int r)) rfl rfl rfl rfl (s241 h l2 (mI h 2000000 (Int32.toNatClampNeg (l3 + 1))) (mI h 2000000 (Int32.toNatClampNeg (l3 + 2))) 1) (fun r26 => ?_)
      refine Seg.blk0 (f' := (if (r24 : Int32) = r26.1 then 1887 else 653, [.ref l0, .ref l1, .ref l2, .int l3], [])) (h' := r26.2) rfl rfl ?_
      refine Seg.ite (fun _ => ?_) (fun _ => ?_)
      · exact Seg.w (mLw.k (mLw.k (mLw.k (mLw.k mLw.nil)))) (s302_1887 r26.2 l0 l1 l2 l3)
      · refine Seg.x ?_
        exact Seg.ret (f1 := (654, [.ref l0, .ref l1, .ref l2, .int l3], [.int 0])) (h1 := r26.2) rfl rfl rfl rfl (fun _ q => q)
theorem s302_655 (h : mH) (l0 : Nat) (l1 : Nat) (l2 : Nat) (l3 : Int32) : Seg 302 (655, [.ref l0, .ref l1, .ref l2, .int l3], []) h (f302_655 h l0 l1 l2 l3) (Sum.elim (fun s : (Int32 × mH) => Ev 302 (18, [.ref l0, .ref l1, .ref l2, .int s.1], []) s.2) (fun (q : Int32 × mH) (res : Option Value × mH) => res = (some (.int q.1), q.2))) := by
  unfold f302_655
  refine Seg.callP (f1 := (671, [.ref l0, .ref l1, .ref l2, .int l3], [.int (mI h 2000000 (Int32.toNatClampNeg (l3 + 3))), .int (mI h 2000000 (Int32.toNatClampNeg (l3 + 2))), .int (mI h 2000000 (Int32.toNatClampNeg (l3 + 1))), .ref l1])) (h1 := h) (cv := fun r => some (.int r)) rfl rfl rfl rfl (s97 h l1 (mI h 2000000 (Int32.toNatClampNeg (l3 + 1))) (mI h 2000000 (Int32.toNatClampNeg (l3 + 2))) (mI h 2000000 (Int32.toNatClampNeg (l3 + 3)))) (fun r27 => ?_)
  refine Seg.call (f1 := (690, [.ref l0, .ref l1, .ref l2, .int l3], [.int (mI h 2000000 (Int32.toNatClampNeg (l3 + 3))), .int (mI h 2000000 (Int32.toNatClampNeg (l3 + 2))), .int (mI h 2000000 (Int32.toNatClampNeg (l3 + 1))), .ref l2, .int r27])) (h1 := h) (cv := fun r => some (.int r)) rfl rfl rfl rfl (s245 h l2 (mI h 2000000 (Int32.toNatClampNeg (l3 + 1))) (mI h 2000000 (Int32.toNatClampNeg (l3 + 2))) (mI h 2000000 (Int32.toNatClampNeg (l3 + 3)))) (fun r28 => ?_)
  refine Seg.blk0 (f' := (if (r27 : Int32) = r28.1 then 1887 else 696, [.ref l0, .ref l1, .ref l2, .int l3], [])) (h' := r28.2) rfl rfl ?_
  refine Seg.ite (fun _ => ?_) (fun _ => ?_)
  · exact Seg.w (mLw.k (mLw.k (mLw.k (mLw.k mLw.nil)))) (s302_1887 r28.2 l0 l1 l2 l3)
  · refine Seg.x ?_
    exact Seg.ret (f1 := (697, [.ref l0, .ref l1, .ref l2, .int l3], [.int 0])) (h1 := r28.2) rfl rfl rfl rfl (fun _ q => q)
theorem s302_698 (h : mH) (l0 : Nat) (l1 : Nat) (l2 : Nat) (l3 : Int32) : Seg 302 (698, [.ref l0, .ref l1, .ref l2, .int l3], []) h (f302_698 h l0 l1 l2 l3) (Sum.elim (fun s : (Int32 × mH) => Ev 302 (18, [.ref l0, .ref l1, .ref l2, .int s.1], []) s.2) (fun (q : Int32 × mH) (res : Option Value × mH) => res = (some (.int q.1), q.2))) := by
  unfold f302_698
  refine Seg.blk (f' := (if ((mI h 2000000 (Int32.toNatClampNeg (l3 + 3))) : Int32) = 0 then 721 else 717, [.ref l0, .ref l1, .ref l2, .int l3], [.int (mI h 2000000 (Int32.toNatClampNeg (l3 + 2))), .int (mI h 2000000 (Int32.toNatClampNeg (l3 + 1))), .ref l1])) (h' := h) rfl rfl ?_
  refine Seg.ite (fun _ => ?_) (fun _ => ?_)
  · refine Seg.blk0 (f' := (722, [.ref l0, .ref l1, .ref l2, .int l3], [.int 0, .int (mI h 2000000 (Int32.toNatClampNeg (l3 + 2))), .int (mI h 2000000 (Int32.toNatClampNeg (l3 + 1))), .ref l1])) (h' := h) rfl rfl ?_
    refine Seg.callP (f1 := (722, [.ref l0, .ref l1, .ref l2, .int l3], [.int 0, .int (mI h 2000000 (Int32.toNatClampNeg (l3 + 2))), .int (mI h 2000000 (Int32.toNatClampNeg (l3 + 1))), .ref l1])) (h1 := h) (cv := fun r => some (.int r)) rfl rfl rfl rfl (s100 h l1 (mI h 2000000 (Int32.toNatClampNeg (l3 + 1))) (mI h 2000000 (Int32.toNatClampNeg (l3 + 2))) 0) (fun r29 => ?_)
    refine Seg.blk (f' := (if ((mI h 2000000 (Int32.toNatClampNeg (l3 + 3))) : Int32) = 0 then 748 else 744, [.ref l0, .ref l1, .ref l2, .int l3], [.int (mI h 2000000 (Int32.toNatClampNeg (l3 + 2))), .int (mI h 2000000 (Int32.toNatClampNeg (l3 + 1))), .ref l2, .int r29])) (h' := h) rfl rfl ?_
    refine Seg.ite (fun _ => ?_) (fun _ => ?_)
    · refine Seg.blk0 (f' := (749, [.ref l0, .ref l1, .ref l2, .int l3], [.int 0, .int (mI h 2000000 (Int32.toNatClampNeg (l3 + 2))), .int (mI h 2000000 (Int32.toNatClampNeg (l3 + 1))), .ref l2, .int r29])) (h' := h) rfl rfl ?_
      refine Seg.call (f1 := (749, [.ref l0, .ref l1, .ref l2, .int l3], [.int 0, .int (mI h 2000000 (Int32.toNatClampNeg (l3 + 2))), .int (mI h 2000000 (Int32.toNatClampNeg (l3 + 1))), .ref l2, .int r29])) (h1 := h) (cv := fun r => some (.int r)) rfl rfl rfl rfl (s248 h l2 (mI h 2000000 (Int32.toNatClampNeg (l3 + 1))) (mI h 2000000 (Int32.toNatClampNeg (l3 + 2))) 0) (fun r30 => ?_)
      refine Seg.blk0 (f' := (if (r29 : Int32) = r30.1 then 1887 else 755, [.ref l0, .ref l1, .ref l2, .int l3], [])) (h' := r30.2) rfl rfl ?_
      refine Seg.ite (fun _ => ?_) (fun _ => ?_)
      · exact Seg.w (mLw.k (mLw.k (mLw.k (mLw.k mLw.nil)))) (s302_1887 r30.2 l0 l1 l2 l3)
      · refine Seg.x ?_
        exact Seg.ret (f1 := (756, [.ref l0, .ref l1, .ref l2, .int l3], [.int 0])) (h1 := r30.2) rfl rfl rfl rfl (fun _ q => q)
    · refine Seg.blk0 (f' := (749, [.ref l0, .ref l1, .ref l2, .int l3], [.int 1, .int (mI h 2000000 (Int32.toNatClampNeg (l3 + 2))), .int (mI h 2000000 (Int32.toNatClampNeg (l3 + 1))), .ref l2, .int r29])) (h' := h) rfl rfl ?_
      refine Seg.call (f1 := (749, [.ref l0, .ref l1, .ref l2, .int l3], [.int 1, .int (mI h 2000000 (Int32.toNatClampNeg (l3 + 2))), .int (mI h 2000000 (Int32.toNatClampNeg (l3 + 1))), .ref l2, .int r29])) (h1 := h) (cv := fun r => some (.int r)) rfl rfl rfl rfl (s248 h l2 (mI h 2000000 (Int32.toNatClampNeg (l3 + 1))) (mI h 2000000 (Int32.toNatClampNeg (l3 + 2))) 1) (fun r31 => ?_)
      refine Seg.blk0 (f' := (if (r29 : Int32) = r31.1 then 1887 else 755, [.ref l0, .ref l1, .ref l2, .int l3], [])) (h' := r31.2) rfl rfl ?_
      refine Seg.ite (fun _ => ?_) (fun _ => ?_)
      · exact Seg.w (mLw.k (mLw.k (mLw.k (mLw.k mLw.nil)))) (s302_1887 r31.2 l0 l1 l2 l3)
      · refine Seg.x ?_
        exact Seg.ret (f1 := (756, [.ref l0, .ref l1, .ref l2, .int l3], [.int 0])) (h1 := r31.2) rfl rfl rfl rfl (fun _ q => q)
  · refine Seg.blk0 (f' := (722, [.ref l0, .ref l1, .ref l2, .int l3], [.int 1, .int (mI h 2000000 (Int32.toNatClampNeg (l3 + 2))), .int (mI h 2000000 (Int32.toNatClampNeg (l3 + 1))), .ref l1])) (h' := h) rfl rfl ?_
    refine Seg.callP (f1 := (722, [.ref l0, .ref l1, .ref l2, .int l3], [.int 1, .int (mI h 2000000 (Int32.toNatClampNeg (l3 + 2))), .int (mI h 2000000 (Int32.toNatClampNeg (l3 + 1))), .ref l1])) (h1 := h) (cv := fun r => some (.int r)) rfl rfl rfl rfl (s100 h l1 (mI h 2000000 (Int32.toNatClampNeg (l3 + 1))) (mI h 2000000 (Int32.toNatClampNeg (l3 + 2))) 1) (fun r32 => ?_)
    refine Seg.blk (f' := (if ((mI h 2000000 (Int32.toNatClampNeg (l3 + 3))) : Int32) = 0 then 748 else 744, [.ref l0, .ref l1, .ref l2, .int l3], [.int (mI h 2000000 (Int32.toNatClampNeg (l3 + 2))), .int (mI h 2000000 (Int32.toNatClampNeg (l3 + 1))), .ref l2, .int r32])) (h' := h) rfl rfl ?_
    refine Seg.ite (fun _ => ?_) (fun _ => ?_)
    · refine Seg.blk0 (f' := (749, [.ref l0, .ref l1, .ref l2, .int l3], [.int 0, .int (mI h 2000000 (Int32.toNatClampNeg (l3 + 2))), .int (mI h 2000000 (Int32.toNatClampNeg (l3 + 1))), .ref l2, .int r32])) (h' := h) rfl rfl ?_
      refine Seg.call (f1 := (749, [.ref l0, .ref l1, .ref l2, .int l3], [.int 0, .int (mI h 2000000 (Int32.toNatClampNeg (l3 + 2))), .int (mI h 2000000 (Int32.toNatClampNeg (l3 + 1))), .ref l2, .int r32])) (h1 := h) (cv := fun r => some (.int r)) rfl rfl rfl rfl (s248 h l2 (mI h 2000000 (Int32.toNatClampNeg (l3 + 1))) (mI h 2000000 (Int32.toNatClampNeg (l3 + 2))) 0) (fun r33 => ?_)
      refine Seg.blk0 (f' := (if (r32 : Int32) = r33.1 then 1887 else 755, [.ref l0, .ref l1, .ref l2, .int l3], [])) (h' := r33.2) rfl rfl ?_
      refine Seg.ite (fun _ => ?_) (fun _ => ?_)
      · exact Seg.w (mLw.k (mLw.k (mLw.k (mLw.k mLw.nil)))) (s302_1887 r33.2 l0 l1 l2 l3)
      · refine Seg.x ?_
        exact Seg.ret (f1 := (756, [.ref l0, .ref l1, .ref l2, .int l3], [.int 0])) (h1 := r33.2) rfl rfl rfl rfl (fun _ q => q)
    · refine Seg.blk0 (f' := (749, [.ref l0, .ref l1, .ref l2, .int l3], [.int 1, .int (mI h 2000000 (Int32.toNatClampNeg (l3 + 2))), .int (mI h 2000000 (Int32.toNatClampNeg (l3 + 1))), .ref l2, .int r32])) (h' := h) rfl rfl ?_
      refine Seg.call (f1 := (749, [.ref l0, .ref l1, .ref l2, .int l3], [.int 1, .int (mI h 2000000 (Int32.toNatClampNeg (l3 + 2))), .int (mI h 2000000 (Int32.toNatClampNeg (l3 + 1))), .ref l2, .int r32])) (h1 := h) (cv := fun r => some (.int r)) rfl rfl rfl rfl (s248 h l2 (mI h 2000000 (Int32.toNatClampNeg (l3 + 1))) (mI h 2000000 (Int32.toNatClampNeg (l3 + 2))) 1) (fun r34 => ?_)
      refine Seg.blk0 (f' := (if (r32 : Int32) = r34.1 then 1887 else 755, [.ref l0, .ref l1, .ref l2, .int l3], [])) (h' := r34.2) rfl rfl ?_
      refine Seg.ite (fun _ => ?_) (fun _ => ?_)
      · exact Seg.w (mLw.k (mLw.k (mLw.k (mLw.k mLw.nil)))) (s302_1887 r34.2 l0 l1 l2 l3)
      · refine Seg.x ?_
        exact Seg.ret (f1 := (756, [.ref l0, .ref l1, .ref l2, .int l3], [.int 0])) (h1 := r34.2) rfl rfl rfl rfl (fun _ q => q)
theorem s302_757 (h : mH) (l0 : Nat) (l1 : Nat) (l2 : Nat) (l3 : Int32) : Seg 302 (757, [.ref l0, .ref l1, .ref l2, .int l3], []) h (f302_757 h l0 l1 l2 l3) (Sum.elim (fun s : (Int32 × mH) => Ev 302 (18, [.ref l0, .ref l1, .ref l2, .int s.1], []) s.2) (fun (q : Int32 × mH) (res : Option Value × mH) => res = (some (.int q.1), q.2))) := by
  unfold f302_757
  refine Seg.blk (f' := (if ((mI h 2000000 (Int32.toNatClampNeg (l3 + 3))) : Int32) = 0 then 780 else 776, [.ref l0, .ref l1, .ref l2, .int l3], [.int (mI h 2000000 (Int32.toNatClampNeg (l3 + 2))), .int (mI h 2000000 (Int32.toNatClampNeg (l3 + 1))), .ref l1])) (h' := h) rfl rfl ?_
  refine Seg.ite (fun _ => ?_) (fun _ => ?_)
  · refine Seg.blk0 (f' := (781, [.ref l0, .ref l1, .ref l2, .int l3], [.int 0, .int (mI h 2000000 (Int32.toNatClampNeg (l3 + 2))), .int (mI h 2000000 (Int32.toNatClampNeg (l3 + 1))), .ref l1])) (h' := h) rfl rfl ?_
    refine Seg.call (f1 := (781, [.ref l0, .ref l1, .ref l2, .int l3], [.int 0, .int (mI h 2000000 (Int32.toNatClampNeg (l3 + 2))), .int (mI h 2000000 (Int32.toNatClampNeg (l3 + 1))), .ref l1])) (h1 := h) (cv := fun r => some (.int r)) rfl rfl rfl rfl (s102 h l1 (mI h 2000000 (Int32.toNatClampNeg (l3 + 1))) (mI h 2000000 (Int32.toNatClampNeg (l3 + 2))) 0) (fun r35 => ?_)
    refine Seg.blk (f' := (if ((mI r35.2 2000000 (Int32.toNatClampNeg (l3 + 3))) : Int32) = 0 then 807 else 803, [.ref l0, .ref l1, .ref l2, .int l3], [.int (mI r35.2 2000000 (Int32.toNatClampNeg (l3 + 2))), .int (mI r35.2 2000000 (Int32.toNatClampNeg (l3 + 1))), .ref l2, .int r35.1])) (h' := r35.2) rfl rfl ?_
    refine Seg.ite (fun _ => ?_) (fun _ => ?_)
    · refine Seg.blk0 (f' := (808, [.ref l0, .ref l1, .ref l2, .int l3], [.int 0, .int (mI r35.2 2000000 (Int32.toNatClampNeg (l3 + 2))), .int (mI r35.2 2000000 (Int32.toNatClampNeg (l3 + 1))), .ref l2, .int r35.1])) (h' := r35.2) rfl rfl ?_
      refine Seg.call (f1 := (808, [.ref l0, .ref l1, .ref l2, .int l3], [.int 0, .int (mI r35.2 2000000 (Int32.toNatClampNeg (l3 + 2))), .int (mI r35.2 2000000 (Int32.toNatClampNeg (l3 + 1))), .ref l2, .int r35.1])) (h1 := r35.2) (cv := fun r => some (.int r)) rfl rfl rfl rfl (s249 r35.2 l2 (mI r35.2 2000000 (Int32.toNatClampNeg (l3 + 1))) (mI r35.2 2000000 (Int32.toNatClampNeg (l3 + 2))) 0) (fun r36 => ?_)
      refine Seg.blk0 (f' := (if (r35.1 : Int32) = r36.1 then 1887 else 814, [.ref l0, .ref l1, .ref l2, .int l3], [])) (h' := r36.2) rfl rfl ?_
      refine Seg.ite (fun _ => ?_) (fun _ => ?_)
      · exact Seg.w (mLw.k (mLw.k (mLw.k (mLw.k mLw.nil)))) (s302_1887 r36.2 l0 l1 l2 l3)
      · refine Seg.x ?_
        exact Seg.ret (f1 := (815, [.ref l0, .ref l1, .ref l2, .int l3], [.int 0])) (h1 := r36.2) rfl rfl rfl rfl (fun _ q => q)
    · refine Seg.blk0 (f' := (808, [.ref l0, .ref l1, .ref l2, .int l3], [.int 1, .int (mI r35.2 2000000 (Int32.toNatClampNeg (l3 + 2))), .int (mI r35.2 2000000 (Int32.toNatClampNeg (l3 + 1))), .ref l2, .int r35.1])) (h' := r35.2) rfl rfl ?_
      refine Seg.call (f1 := (808, [.ref l0, .ref l1, .ref l2, .int l3], [.int 1, .int (mI r35.2 2000000 (Int32.toNatClampNeg (l3 + 2))), .int (mI r35.2 2000000 (Int32.toNatClampNeg (l3 + 1))), .ref l2, .int r35.1])) (h1 := r35.2) (cv := fun r => some (.int r)) rfl rfl rfl rfl (s249 r35.2 l2 (mI r35.2 2000000 (Int32.toNatClampNeg (l3 + 1))) (mI r35.2 2000000 (Int32.toNatClampNeg (l3 + 2))) 1) (fun r37 => ?_)
      refine Seg.blk0 (f' := (if (r35.1 : Int32) = r37.1 then 1887 else 814, [.ref l0, .ref l1, .ref l2, .int l3], [])) (h' := r37.2) rfl rfl ?_
      refine Seg.ite (fun _ => ?_) (fun _ => ?_)
      · exact Seg.w (mLw.k (mLw.k (mLw.k (mLw.k mLw.nil)))) (s302_1887 r37.2 l0 l1 l2 l3)
      · refine Seg.x ?_
        exact Seg.ret (f1 := (815, [.ref l0, .ref l1, .ref l2, .int l3], [.int 0])) (h1 := r37.2) rfl rfl rfl rfl (fun _ q => q)
  · refine Seg.blk0 (f' := (781, [.ref l0, .ref l1, .ref l2, .int l3], [.int 1, .int (mI h 2000000 (Int32.toNatClampNeg (l3 + 2))), .int (mI h 2000000 (Int32.toNatClampNeg (l3 + 1))), .ref l1])) (h' := h) rfl rfl ?_
    refine Seg.call (f1 := (781, [.ref l0, .ref l1, .ref l2, .int l3], [.int 1, .int (mI h 2000000 (Int32.toNatClampNeg (l3 + 2))), .int (mI h 2000000 (Int32.toNatClampNeg (l3 + 1))), .ref l1])) (h1 := h) (cv := fun r => some (.int r)) rfl rfl rfl rfl (s102 h l1 (mI h 2000000 (Int32.toNatClampNeg (l3 + 1))) (mI h 2000000 (Int32.toNatClampNeg (l3 + 2))) 1) (fun r38 => ?_)
    refine Seg.blk (f' := (if ((mI r38.2 2000000 (Int32.toNatClampNeg (l3 + 3))) : Int32) = 0 then 807 else 803, [.ref l0, .ref l1, .ref l2, .int l3], [.int (mI r38.2 2000000 (Int32.toNatClampNeg (l3 + 2))), .int (mI r38.2 2000000 (Int32.toNatClampNeg (l3 + 1))), .ref l2, .int r38.1])) (h' := r38.2) rfl rfl ?_
    refine Seg.ite (fun _ => ?_) (fun _ => ?_)
    · refine Seg.blk0 (f' := (808, [.ref l0, .ref l1, .ref l2, .int l3], [.int 0, .int (mI r38.2 2000000 (Int32.toNatClampNeg (l3 + 2))), .int (mI r38.2 2000000 (Int32.toNatClampNeg (l3 + 1))), .ref l2, .int r38.1])) (h' := r38.2) rfl rfl ?_
      refine Seg.call (f1 := (808, [.ref l0, .ref l1, .ref l2, .int l3], [.int 0, .int (mI r38.2 2000000 (Int32.toNatClampNeg (l3 + 2))), .int (mI r38.2 2000000 (Int32.toNatClampNeg (l3 + 1))), .ref l2, .int r38.1])) (h1 := r38.2) (cv := fun r => some (.int r)) rfl rfl rfl rfl (s249 r38.2 l2 (mI r38.2 2000000 (Int32.toNatClampNeg (l3 + 1))) (mI r38.2 2000000 (Int32.toNatClampNeg (l3 + 2))) 0) (fun r39 => ?_)
      refine Seg.blk0 (f' := (if (r38.1 : Int32) = r39.1 then 1887 else 814, [.ref l0, .ref l1, .ref l2, .int l3], [])) (h' := r39.2) rfl rfl ?_
      refine Seg.ite (fun _ => ?_) (fun _ => ?_)
      · exact Seg.w (mLw.k (mLw.k (mLw.k (mLw.k mLw.nil)))) (s302_1887 r39.2 l0 l1 l2 l3)
      · refine Seg.x ?_
        exact Seg.ret (f1 := (815, [.ref l0, .ref l1, .ref l2, .int l3], [.int 0])) (h1 := r39.2) rfl rfl rfl rfl (fun _ q => q)
    · refine Seg.blk0 (f' := (808, [.ref l0, .ref l1, .ref l2, .int l3], [.int 1, .int (mI r38.2 2000000 (Int32.toNatClampNeg (l3 + 2))), .int (mI r38.2 2000000 (Int32.toNatClampNeg (l3 + 1))), .ref l2, .int r38.1])) (h' := r38.2) rfl rfl ?_
      refine Seg.call (f1 := (808, [.ref l0, .ref l1, .ref l2, .int l3], [.int 1, .int (mI r38.2 2000000 (Int32.toNatClampNeg (l3 + 2))), .int (mI r38.2 2000000 (Int32.toNatClampNeg (l3 + 1))), .ref l2, .int r38.1])) (h1 := r38.2) (cv := fun r => some (.int r)) rfl rfl rfl rfl (s249 r38.2 l2 (mI r38.2 2000000 (Int32.toNatClampNeg (l3 + 1))) (mI r38.2 2000000 (Int32.toNatClampNeg (l3 + 2))) 1) (fun r40 => ?_)
      refine Seg.blk0 (f' := (if (r38.1 : Int32) = r40.1 then 1887 else 814, [.ref l0, .ref l1, .ref l2, .int l3], [])) (h' := r40.2) rfl rfl ?_
      refine Seg.ite (fun _ => ?_) (fun _ => ?_)
      · exact Seg.w (mLw.k (mLw.k (mLw.k (mLw.k mLw.nil)))) (s302_1887 r40.2 l0 l1 l2 l3)
      · refine Seg.x ?_
        exact Seg.ret (f1 := (815, [.ref l0, .ref l1, .ref l2, .int l3], [.int 0])) (h1 := r40.2) rfl rfl rfl rfl (fun _ q => q)
theorem s302_816 (h : mH) (l0 : Nat) (l1 : Nat) (l2 : Nat) (l3 : Int32) : Seg 302 (816, [.ref l0, .ref l1, .ref l2, .int l3], []) h (f302_816 h l0 l1 l2 l3) (Sum.elim (fun s : (Int32 × mH) => Ev 302 (18, [.ref l0, .ref l1, .ref l2, .int s.1], []) s.2) (fun (q : Int32 × mH) (res : Option Value × mH) => res = (some (.int q.1), q.2))) := by
  unfold f302_816
  refine Seg.blk (f' := (if ((mI h 2000000 (Int32.toNatClampNeg (l3 + 5))) : Int32) = 0 then 849 else 845, [.ref l0, .ref l1, .ref l2, .int l3], [.int (mI h 2000000 (Int32.toNatClampNeg (l3 + 4))), .int (mI h 2000000 (Int32.toNatClampNeg (l3 + 3))), .int (mI h 2000000 (Int32.toNatClampNeg (l3 + 2))), .int (mI h 2000000 (Int32.toNatClampNeg (l3 + 1))), .ref l1])) (h' := h) rfl rfl ?_
  refine Seg.ite (fun _ => ?_) (fun _ => ?_)
  · refine Seg.blk0 (f' := (850, [.ref l0, .ref l1, .ref l2, .int l3], [.int 0, .int (mI h 2000000 (Int32.toNatClampNeg (l3 + 4))), .int (mI h 2000000 (Int32.toNatClampNeg (l3 + 3))), .int (mI h 2000000 (Int32.toNatClampNeg (l3 + 2))), .int (mI h 2000000 (Int32.toNatClampNeg (l3 + 1))), .ref l1])) (h' := h) rfl rfl ?_
    refine Seg.callP (f1 := (850, [.ref l0, .ref l1, .ref l2, .int l3], [.int 0, .int (mI h 2000000 (Int32.toNatClampNeg (l3 + 4))), .int (mI h 2000000 (Int32.toNatClampNeg (l3 + 3))), .int (mI h 2000000 (Int32.toNatClampNeg (l3 + 2))), .int (mI h 2000000 (Int32.toNatClampNeg (l3 + 1))), .ref l1])) (h1 := h) (cv := fun r => some (.long r)) rfl rfl rfl rfl (s105 h l1 (mI h 2000000 (Int32.toNatClampNeg (l3 + 1))) (mI h 2000000 (Int32.toNatClampNeg (l3 + 2))) (mI h 2000000 (Int32.toNatClampNeg (l3 + 3))) (mI h 2000000 (Int32.toNatClampNeg (l3 + 4))) 0) (fun r41 => ?_)
    refine Seg.blk (f' := (if ((mI h 2000000 (Int32.toNatClampNeg (l3 + 5))) : Int32) = 0 then 886 else 882, [.ref l0, .ref l1, .ref l2, .int l3], [.int (mI h 2000000 (Int32.toNatClampNeg (l3 + 4))), .int (mI h 2000000 (Int32.toNatClampNeg (l3 + 3))), .int (mI h 2000000 (Int32.toNatClampNeg (l3 + 2))), .int (mI h 2000000 (Int32.toNatClampNeg (l3 + 1))), .ref l2, .long r41])) (h' := h) rfl rfl ?_
    refine Seg.ite (fun _ => ?_) (fun _ => ?_)
    · refine Seg.blk0 (f' := (887, [.ref l0, .ref l1, .ref l2, .int l3], [.int 0, .int (mI h 2000000 (Int32.toNatClampNeg (l3 + 4))), .int (mI h 2000000 (Int32.toNatClampNeg (l3 + 3))), .int (mI h 2000000 (Int32.toNatClampNeg (l3 + 2))), .int (mI h 2000000 (Int32.toNatClampNeg (l3 + 1))), .ref l2, .long r41])) (h' := h) rfl rfl ?_
      refine Seg.call (f1 := (887, [.ref l0, .ref l1, .ref l2, .int l3], [.int 0, .int (mI h 2000000 (Int32.toNatClampNeg (l3 + 4))), .int (mI h 2000000 (Int32.toNatClampNeg (l3 + 3))), .int (mI h 2000000 (Int32.toNatClampNeg (l3 + 2))), .int (mI h 2000000 (Int32.toNatClampNeg (l3 + 1))), .ref l2, .long r41])) (h1 := h) (cv := fun r => some (.long r)) rfl rfl rfl rfl (s251 h l2 (mI h 2000000 (Int32.toNatClampNeg (l3 + 1))) (mI h 2000000 (Int32.toNatClampNeg (l3 + 2))) (mI h 2000000 (Int32.toNatClampNeg (l3 + 3))) (mI h 2000000 (Int32.toNatClampNeg (l3 + 4))) 0) (fun r42 => ?_)
      refine Seg.blk0 (f' := (if ((lg_cmp r41 r42.1) : Int32) = 0 then 1887 else 894, [.ref l0, .ref l1, .ref l2, .int l3], [])) (h' := r42.2) rfl rfl ?_
      refine Seg.ite (fun _ => ?_) (fun _ => ?_)
      · exact Seg.w (mLw.k (mLw.k (mLw.k (mLw.k mLw.nil)))) (s302_1887 r42.2 l0 l1 l2 l3)
      · refine Seg.x ?_
        exact Seg.ret (f1 := (895, [.ref l0, .ref l1, .ref l2, .int l3], [.int 0])) (h1 := r42.2) rfl rfl rfl rfl (fun _ q => q)
    · refine Seg.blk0 (f' := (887, [.ref l0, .ref l1, .ref l2, .int l3], [.int 1, .int (mI h 2000000 (Int32.toNatClampNeg (l3 + 4))), .int (mI h 2000000 (Int32.toNatClampNeg (l3 + 3))), .int (mI h 2000000 (Int32.toNatClampNeg (l3 + 2))), .int (mI h 2000000 (Int32.toNatClampNeg (l3 + 1))), .ref l2, .long r41])) (h' := h) rfl rfl ?_
      refine Seg.call (f1 := (887, [.ref l0, .ref l1, .ref l2, .int l3], [.int 1, .int (mI h 2000000 (Int32.toNatClampNeg (l3 + 4))), .int (mI h 2000000 (Int32.toNatClampNeg (l3 + 3))), .int (mI h 2000000 (Int32.toNatClampNeg (l3 + 2))), .int (mI h 2000000 (Int32.toNatClampNeg (l3 + 1))), .ref l2, .long r41])) (h1 := h) (cv := fun r => some (.long r)) rfl rfl rfl rfl (s251 h l2 (mI h 2000000 (Int32.toNatClampNeg (l3 + 1))) (mI h 2000000 (Int32.toNatClampNeg (l3 + 2))) (mI h 2000000 (Int32.toNatClampNeg (l3 + 3))) (mI h 2000000 (Int32.toNatClampNeg (l3 + 4))) 1) (fun r43 => ?_)
      refine Seg.blk0 (f' := (if ((lg_cmp r41 r43.1) : Int32) = 0 then 1887 else 894, [.ref l0, .ref l1, .ref l2, .int l3], [])) (h' := r43.2) rfl rfl ?_
      refine Seg.ite (fun _ => ?_) (fun _ => ?_)
      · exact Seg.w (mLw.k (mLw.k (mLw.k (mLw.k mLw.nil)))) (s302_1887 r43.2 l0 l1 l2 l3)
      · refine Seg.x ?_
        exact Seg.ret (f1 := (895, [.ref l0, .ref l1, .ref l2, .int l3], [.int 0])) (h1 := r43.2) rfl rfl rfl rfl (fun _ q => q)
  · refine Seg.blk0 (f' := (850, [.ref l0, .ref l1, .ref l2, .int l3], [.int 1, .int (mI h 2000000 (Int32.toNatClampNeg (l3 + 4))), .int (mI h 2000000 (Int32.toNatClampNeg (l3 + 3))), .int (mI h 2000000 (Int32.toNatClampNeg (l3 + 2))), .int (mI h 2000000 (Int32.toNatClampNeg (l3 + 1))), .ref l1])) (h' := h) rfl rfl ?_
    refine Seg.callP (f1 := (850, [.ref l0, .ref l1, .ref l2, .int l3], [.int 1, .int (mI h 2000000 (Int32.toNatClampNeg (l3 + 4))), .int (mI h 2000000 (Int32.toNatClampNeg (l3 + 3))), .int (mI h 2000000 (Int32.toNatClampNeg (l3 + 2))), .int (mI h 2000000 (Int32.toNatClampNeg (l3 + 1))), .ref l1])) (h1 := h) (cv := fun r => some (.long r)) rfl rfl rfl rfl (s105 h l1 (mI h 2000000 (Int32.toNatClampNeg (l3 + 1))) (mI h 2000000 (Int32.toNatClampNeg (l3 + 2))) (mI h 2000000 (Int32.toNatClampNeg (l3 + 3))) (mI h 2000000 (Int32.toNatClampNeg (l3 + 4))) 1) (fun r44 => ?_)
    refine Seg.blk (f' := (if ((mI h 2000000 (Int32.toNatClampNeg (l3 + 5))) : Int32) = 0 then 886 else 882, [.ref l0, .ref l1, .ref l2, .int l3], [.int (mI h 2000000 (Int32.toNatClampNeg (l3 + 4))), .int (mI h 2000000 (Int32.toNatClampNeg (l3 + 3))), .int (mI h 2000000 (Int32.toNatClampNeg (l3 + 2))), .int (mI h 2000000 (Int32.toNatClampNeg (l3 + 1))), .ref l2, .long r44])) (h' := h) rfl rfl ?_
    refine Seg.ite (fun _ => ?_) (fun _ => ?_)
    · refine Seg.blk0 (f' := (887, [.ref l0, .ref l1, .ref l2, .int l3], [.int 0, .int (mI h 2000000 (Int32.toNatClampNeg (l3 + 4))), .int (mI h 2000000 (Int32.toNatClampNeg (l3 + 3))), .int (mI h 2000000 (Int32.toNatClampNeg (l3 + 2))), .int (mI h 2000000 (Int32.toNatClampNeg (l3 + 1))), .ref l2, .long r44])) (h' := h) rfl rfl ?_
      refine Seg.call (f1 := (887, [.ref l0, .ref l1, .ref l2, .int l3], [.int 0, .int (mI h 2000000 (Int32.toNatClampNeg (l3 + 4))), .int (mI h 2000000 (Int32.toNatClampNeg (l3 + 3))), .int (mI h 2000000 (Int32.toNatClampNeg (l3 + 2))), .int (mI h 2000000 (Int32.toNatClampNeg (l3 + 1))), .ref l2, .long r44])) (h1 := h) (cv := fun r => some (.long r)) rfl rfl rfl rfl (s251 h l2 (mI h 2000000 (Int32.toNatClampNeg (l3 + 1))) (mI h 2000000 (Int32.toNatClampNeg (l3 + 2))) (mI h 2000000 (Int32.toNatClampNeg (l3 + 3))) (mI h 2000000 (Int32.toNatClampNeg (l3 + 4))) 0) (fun r45 => ?_)
      refine Seg.blk0 (f' := (if ((lg_cmp r44 r45.1) : Int32) = 0 then 1887 else 894, [.ref l0, .ref l1, .ref l2, .int l3], [])) (h' := r45.2) rfl rfl ?_
      refine Seg.ite (fun _ => ?_) (fun _ => ?_)
      · exact Seg.w (mLw.k (mLw.k (mLw.k (mLw.k mLw.nil)))) (s302_1887 r45.2 l0 l1 l2 l3)
      · refine Seg.x ?_
        exact Seg.ret (f1 := (895, [.ref l0, .ref l1, .ref l2, .int l3], [.int 0])) (h1 := r45.2) rfl rfl rfl rfl (fun _ q => q)
    · refine Seg.blk0 (f' := (887, [.ref l0, .ref l1, .ref l2, .int l3], [.int 1, .int (mI h 2000000 (Int32.toNatClampNeg (l3 + 4))), .int (mI h 2000000 (Int32.toNatClampNeg (l3 + 3))), .int (mI h 2000000 (Int32.toNatClampNeg (l3 + 2))), .int (mI h 2000000 (Int32.toNatClampNeg (l3 + 1))), .ref l2, .long r44])) (h' := h) rfl rfl ?_
      refine Seg.call (f1 := (887, [.ref l0, .ref l1, .ref l2, .int l3], [.int 1, .int (mI h 2000000 (Int32.toNatClampNeg (l3 + 4))), .int (mI h 2000000 (Int32.toNatClampNeg (l3 + 3))), .int (mI h 2000000 (Int32.toNatClampNeg (l3 + 2))), .int (mI h 2000000 (Int32.toNatClampNeg (l3 + 1))), .ref l2, .long r44])) (h1 := h) (cv := fun r => some (.long r)) rfl rfl rfl rfl (s251 h l2 (mI h 2000000 (Int32.toNatClampNeg (l3 + 1))) (mI h 2000000 (Int32.toNatClampNeg (l3 + 2))) (mI h 2000000 (Int32.toNatClampNeg (l3 + 3))) (mI h 2000000 (Int32.toNatClampNeg (l3 + 4))) 1) (fun r46 => ?_)
      refine Seg.blk0 (f' := (if ((lg_cmp r44 r46.1) : Int32) = 0 then 1887 else 894, [.ref l0, .ref l1, .ref l2, .int l3], [])) (h' := r46.2) rfl rfl ?_
      refine Seg.ite (fun _ => ?_) (fun _ => ?_)
      · exact Seg.w (mLw.k (mLw.k (mLw.k (mLw.k mLw.nil)))) (s302_1887 r46.2 l0 l1 l2 l3)
      · refine Seg.x ?_
        exact Seg.ret (f1 := (895, [.ref l0, .ref l1, .ref l2, .int l3], [.int 0])) (h1 := r46.2) rfl rfl rfl rfl (fun _ q => q)
theorem s302_896 (h : mH) (l0 : Nat) (l1 : Nat) (l2 : Nat) (l3 : Int32) : Seg 302 (896, [.ref l0, .ref l1, .ref l2, .int l3], []) h (f302_896 h l0 l1 l2 l3) (Sum.elim (fun s : (Int32 × mH) => Ev 302 (18, [.ref l0, .ref l1, .ref l2, .int s.1], []) s.2) (fun (q : Int32 × mH) (res : Option Value × mH) => res = (some (.int q.1), q.2))) := by
  unfold f302_896
  refine Seg.callP (f1 := (912, [.ref l0, .ref l1, .ref l2, .int l3], [.int (mI h 2000000 (Int32.toNatClampNeg (l3 + 3))), .int (mI h 2000000 (Int32.toNatClampNeg (l3 + 2))), .int (mI h 2000000 (Int32.toNatClampNeg (l3 + 1))), .ref l1])) (h1 := h) (cv := fun r => some (.int r)) rfl rfl rfl rfl (s110 h l1 (mI h 2000000 (Int32.toNatClampNeg (l3 + 1))) (mI h 2000000 (Int32.toNatClampNeg (l3 + 2))) (mI h 2000000 (Int32.toNatClampNeg (l3 + 3)))) (fun r47 => ?_)
  refine Seg.call (f1 := (931, [.ref l0, .ref l1, .ref l2, .int l3], [.int (mI h 2000000 (Int32.toNatClampNeg (l3 + 3))), .int (mI h 2000000 (Int32.toNatClampNeg (l3 + 2))), .int (mI h 2000000 (Int32.toNatClampNeg (l3 + 1))), .ref l2, .int r47])) (h1 := h) (cv := fun r => some (.int r)) rfl rfl rfl rfl (s257 h l2 (mI h 2000000 (Int32.toNatClampNeg (l3 + 1))) (mI h 2000000 (Int32.toNatClampNeg (l3 + 2))) (mI h 2000000 (Int32.toNatClampNeg (l3 + 3)))) (fun r48 => ?_)
  refine Seg.blk0 (f' := (if (r47 : Int32) = r48.1 then 1887 else 937, [.ref l0, .ref l1, .ref l2, .int l3], [])) (h' := r48.2) rfl rfl ?_
  refine Seg.ite (fun _ => ?_) (fun _ => ?_)
  · exact Seg.w (mLw.k (mLw.k (mLw.k (mLw.k mLw.nil)))) (s302_1887 r48.2 l0 l1 l2 l3)
  · refine Seg.x ?_
    exact Seg.ret (f1 := (938, [.ref l0, .ref l1, .ref l2, .int l3], [.int 0])) (h1 := r48.2) rfl rfl rfl rfl (fun _ q => q)
theorem s302_939 (h : mH) (l0 : Nat) (l1 : Nat) (l2 : Nat) (l3 : Int32) : Seg 302 (939, [.ref l0, .ref l1, .ref l2, .int l3], []) h (f302_939 h l0 l1 l2 l3) (Sum.elim (fun s : (Int32 × mH) => Ev 302 (18, [.ref l0, .ref l1, .ref l2, .int s.1], []) s.2) (fun (q : Int32 × mH) (res : Option Value × mH) => res = (some (.int q.1), q.2))) := by
  unfold f302_939
  refine Seg.call (f1 := (955, [.ref l0, .ref l1, .ref l2, .int l3], [.int (mI h 2000000 (Int32.toNatClampNeg (l3 + 3))), .int (mI h 2000000 (Int32.toNatClampNeg (l3 + 2))), .int (mI h 2000000 (Int32.toNatClampNeg (l3 + 1))), .ref l1])) (h1 := h) (cv := fun r => some (.int r)) rfl rfl rfl rfl (s113 h l1 (mI h 2000000 (Int32.toNatClampNeg (l3 + 1))) (mI h 2000000 (Int32.toNatClampNeg (l3 + 2))) (mI h 2000000 (Int32.toNatClampNeg (l3 + 3)))) (fun r49 => ?_)
  refine Seg.call (f1 := (974, [.ref l0, .ref l1, .ref l2, .int l3], [.int (mI r49.2 2000000 (Int32.toNatClampNeg (l3 + 3))), .int (mI r49.2 2000000 (Int32.toNatClampNeg (l3 + 2))), .int (mI r49.2 2000000 (Int32.toNatClampNeg (l3 + 1))), .ref l2, .int r49.1])) (h1 := r49.2) (cv := fun r => some (.int r)) rfl rfl rfl rfl (s261 r49.2 l2 (mI r49.2 2000000 (Int32.toNatClampNeg (l3 + 1))) (mI r49.2 2000000 (Int32.toNatClampNeg (l3 + 2))) (mI r49.2 2000000 (Int32.toNatClampNeg (l3 + 3)))) (fun r50 => ?_)
  refine Seg.blk0 (f' := (if (r49.1 : Int32) = r50.1 then 1887 else 980, [.ref l0, .ref l1, .ref l2, .int l3], [])) (h' := r50.2) rfl rfl ?_
  refine Seg.ite (fun _ => ?_) (fun _ => ?_)
  · exact Seg.w (mLw.k (mLw.k (mLw.k (mLw.k mLw.nil)))) (s302_1887 r50.2 l0 l1 l2 l3)
  · refine Seg.x ?_
    exact Seg.ret (f1 := (981, [.ref l0, .ref l1, .ref l2, .int l3], [.int 0])) (h1 := r50.2) rfl rfl rfl rfl (fun _ q => q)
theorem s302_982 (h : mH) (l0 : Nat) (l1 : Nat) (l2 : Nat) (l3 : Int32) : Seg 302 (982, [.ref l0, .ref l1, .ref l2, .int l3], []) h (f302_982 h l0 l1 l2 l3) (Sum.elim (fun s : (Int32 × mH) => Ev 302 (18, [.ref l0, .ref l1, .ref l2, .int s.1], []) s.2) (fun (q : Int32 × mH) (res : Option Value × mH) => res = (some (.int q.1), q.2))) := by
  unfold f302_982
  refine Seg.call (f1 := (1003, [.ref l0, .ref l1, .ref l2, .int l3], [.int (mI h 2000000 (Int32.toNatClampNeg (l3 + 4))), .int (mI h 2000000 (Int32.toNatClampNeg (l3 + 3))), .int (mI h 2000000 (Int32.toNatClampNeg (l3 + 2))), .int (mI h 2000000 (Int32.toNatClampNeg (l3 + 1))), .ref l1])) (h1 := h) (cv := fun r => some (.int r)) rfl rfl rfl rfl (s121 h l1 (mI h 2000000 (Int32.toNatClampNeg (l3 + 1))) (mI h 2000000 (Int32.toNatClampNeg (l3 + 2))) (mI h 2000000 (Int32.toNatClampNeg (l3 + 3))) (mI h 2000000 (Int32.toNatClampNeg (l3 + 4)))) (fun r51 => ?_)
  refine Seg.call (f1 := (1027, [.ref l0, .ref l1, .ref l2, .int l3], [.int (mI r51.2 2000000 (Int32.toNatClampNeg (l3 + 4))), .int (mI r51.2 2000000 (Int32.toNatClampNeg (l3 + 3))), .int (mI r51.2 2000000 (Int32.toNatClampNeg (l3 + 2))), .int (mI r51.2 2000000 (Int32.toNatClampNeg (l3 + 1))), .ref l2, .int r51.1])) (h1 := r51.2) (cv := fun r => some (.int r)) rfl rfl rfl rfl (s267 r51.2 l2 (mI r51.2 2000000 (Int32.toNatClampNeg (l3 + 1))) (mI r51.2 2000000 (Int32.toNatClampNeg (l3 + 2))) (mI r51.2 2000000 (Int32.toNatClampNeg (l3 + 3))) (mI r51.2 2000000 (Int32.toNatClampNeg (l3 + 4)))) (fun r52 => ?_)
  refine Seg.blk0 (f' := (if (r51.1 : Int32) = r52.1 then 1887 else 1033, [.ref l0, .ref l1, .ref l2, .int l3], [])) (h' := r52.2) rfl rfl ?_
  refine Seg.ite (fun _ => ?_) (fun _ => ?_)
  · exact Seg.w (mLw.k (mLw.k (mLw.k (mLw.k mLw.nil)))) (s302_1887 r52.2 l0 l1 l2 l3)
  · refine Seg.x ?_
    exact Seg.ret (f1 := (1034, [.ref l0, .ref l1, .ref l2, .int l3], [.int 0])) (h1 := r52.2) rfl rfl rfl rfl (fun _ q => q)
theorem s302_1035 (h : mH) (l0 : Nat) (l1 : Nat) (l2 : Nat) (l3 : Int32) : Seg 302 (1035, [.ref l0, .ref l1, .ref l2, .int l3], []) h (f302_1035 h l0 l1 l2 l3) (Sum.elim (fun s : (Int32 × mH) => Ev 302 (18, [.ref l0, .ref l1, .ref l2, .int s.1], []) s.2) (fun (q : Int32 × mH) (res : Option Value × mH) => res = (some (.int q.1), q.2))) := by
  unfold f302_1035
  refine Seg.call (f1 := (1046, [.ref l0, .ref l1, .ref l2, .int l3], [.int (mI h 2000000 (Int32.toNatClampNeg (l3 + 2))), .int (mI h 2000000 (Int32.toNatClampNeg (l3 + 1))), .ref l1])) (h1 := h) (cv := fun r => some (.int r)) rfl rfl rfl rfl (s125 h l1 (mI h 2000000 (Int32.toNatClampNeg (l3 + 1))) (mI h 2000000 (Int32.toNatClampNeg (l3 + 2)))) (fun r53 => ?_)
  refine Seg.call (f1 := (1060, [.ref l0, .ref l1, .ref l2, .int l3], [.int (mI r53.2 2000000 (Int32.toNatClampNeg (l3 + 2))), .int (mI r53.2 2000000 (Int32.toNatClampNeg (l3 + 1))), .ref l2, .int r53.1])) (h1 := r53.2) (cv := fun r => some (.int r)) rfl rfl rfl rfl (s270 r53.2 l2 (mI r53.2 2000000 (Int32.toNatClampNeg (l3 + 1))) (mI r53.2 2000000 (Int32.toNatClampNeg (l3 + 2)))) (fun r54 => ?_)
  refine Seg.blk0 (f' := (if (r53.1 : Int32) = r54.1 then 1887 else 1066, [.ref l0, .ref l1, .ref l2, .int l3], [])) (h' := r54.2) rfl rfl ?_
  refine Seg.ite (fun _ => ?_) (fun _ => ?_)
  · exact Seg.w (mLw.k (mLw.k (mLw.k (mLw.k mLw.nil)))) (s302_1887 r54.2 l0 l1 l2 l3)
  · refine Seg.x ?_
    exact Seg.ret (f1 := (1067, [.ref l0, .ref l1, .ref l2, .int l3], [.int 0])) (h1 := r54.2) rfl rfl rfl rfl (fun _ q => q)
theorem s302_1068 (h : mH) (l0 : Nat) (l1 : Nat) (l2 : Nat) (l3 : Int32) : Seg 302 (1068, [.ref l0, .ref l1, .ref l2, .int l3], []) h (f302_1068 h l0 l1 l2 l3) (Sum.elim (fun s : (Int32 × mH) => Ev 302 (18, [.ref l0, .ref l1, .ref l2, .int s.1], []) s.2) (fun (q : Int32 × mH) (res : Option Value × mH) => res = (some (.int q.1), q.2))) := by
  unfold f302_1068
  refine Seg.call (f1 := (1084, [.ref l0, .ref l1, .ref l2, .int l3], [.int (mI h 2000000 (Int32.toNatClampNeg (l3 + 3))), .int (mI h 2000000 (Int32.toNatClampNeg (l3 + 2))), .int (mI h 2000000 (Int32.toNatClampNeg (l3 + 1))), .ref l1])) (h1 := h) (cv := fun r => some (.int r)) rfl rfl rfl rfl (s137 h l1 (mI h 2000000 (Int32.toNatClampNeg (l3 + 1))) (mI h 2000000 (Int32.toNatClampNeg (l3 + 2))) (mI h 2000000 (Int32.toNatClampNeg (l3 + 3)))) (fun r55 => ?_)
  refine Seg.call (f1 := (1103, [.ref l0, .ref l1, .ref l2, .int l3], [.int (mI r55.2 2000000 (Int32.toNatClampNeg (l3 + 3))), .int (mI r55.2 2000000 (Int32.toNatClampNeg (l3 + 2))), .int (mI r55.2 2000000 (Int32.toNatClampNeg (l3 + 1))), .ref l2, .int r55.1])) (h1 := r55.2) (cv := fun r => some (.int r)) rfl rfl rfl rfl (s277 r55.2 l2 (mI r55.2 2000000 (Int32.toNatClampNeg (l3 + 1))) (mI r55.2 2000000 (Int32.toNatClampNeg (l3 + 2))) (mI r55.2 2000000 (Int32.toNatClampNeg (l3 + 3)))) (fun r56 => ?_)
  refine Seg.blk0 (f' := (if (r55.1 : Int32) = r56.1 then 1887 else 1109, [.ref l0, .ref l1, .ref l2, .int l3], [])) (h' := r56.2) rfl rfl ?_
  refine Seg.ite (fun _ => ?_) (fun _ => ?_)
  · exact Seg.w (mLw.k (mLw.k (mLw.k (mLw.k mLw.nil)))) (s302_1887 r56.2 l0 l1 l2 l3)
  · refine Seg.x ?_
    exact Seg.ret (f1 := (1110, [.ref l0, .ref l1, .ref l2, .int l3], [.int 0])) (h1 := r56.2) rfl rfl rfl rfl (fun _ q => q)
theorem s302_1111 (h : mH) (l0 : Nat) (l1 : Nat) (l2 : Nat) (l3 : Int32) : Seg 302 (1111, [.ref l0, .ref l1, .ref l2, .int l3], []) h (f302_1111 h l0 l1 l2 l3) (Sum.elim (fun s : (Int32 × mH) => Ev 302 (18, [.ref l0, .ref l1, .ref l2, .int s.1], []) s.2) (fun (q : Int32 × mH) (res : Option Value × mH) => res = (some (.int q.1), q.2))) := by
  unfold f302_1111
  refine Seg.call (f1 := (1132, [.ref l0, .ref l1, .ref l2, .int l3], [.int (mI h 2000000 (Int32.toNatClampNeg (l3 + 4))), .int (mI h 2000000 (Int32.toNatClampNeg (l3 + 3))), .int (mI h 2000000 (Int32.toNatClampNeg (l3 + 2))), .int (mI h 2000000 (Int32.toNatClampNeg (l3 + 1))), .ref l1])) (h1 := h) (cv := fun r => some (.int r)) rfl rfl rfl rfl (s141 h l1 (mI h 2000000 (Int32.toNatClampNeg (l3 + 1))) (mI h 2000000 (Int32.toNatClampNeg (l3 + 2))) (mI h 2000000 (Int32.toNatClampNeg (l3 + 3))) (mI h 2000000 (Int32.toNatClampNeg (l3 + 4)))) (fun r57 => ?_)
  refine Seg.call (f1 := (1156, [.ref l0, .ref l1, .ref l2, .int l3], [.int (mI r57.2 2000000 (Int32.toNatClampNeg (l3 + 4))), .int (mI r57.2 2000000 (Int32.toNatClampNeg (l3 + 3))), .int (mI r57.2 2000000 (Int32.toNatClampNeg (l3 + 2))), .int (mI r57.2 2000000 (Int32.toNatClampNeg (l3 + 1))), .ref l2, .int r57.1])) (h1 := r57.2) (cv := fun r => some (.int r)) rfl rfl rfl rfl (s280 r57.2 l2 (mI r57.2 2000000 (Int32.toNatClampNeg (l3 + 1))) (mI r57.2 2000000 (Int32.toNatClampNeg (l3 + 2))) (mI r57.2 2000000 (Int32.toNatClampNeg (l3 + 3))) (mI r57.2 2000000 (Int32.toNatClampNeg (l3 + 4)))) (fun r58 => ?_)
  refine Seg.blk0 (f' := (if (r57.1 : Int32) = r58.1 then 1887 else 1162, [.ref l0, .ref l1, .ref l2, .int l3], [])) (h' := r58.2) rfl rfl ?_
  refine Seg.ite (fun _ => ?_) (fun _ => ?_)
  · exact Seg.w (mLw.k (mLw.k (mLw.k (mLw.k mLw.nil)))) (s302_1887 r58.2 l0 l1 l2 l3)
  · refine Seg.x ?_
    exact Seg.ret (f1 := (1163, [.ref l0, .ref l1, .ref l2, .int l3], [.int 0])) (h1 := r58.2) rfl rfl rfl rfl (fun _ q => q)
theorem s302_1164 (h : mH) (l0 : Nat) (l1 : Nat) (l2 : Nat) (l3 : Int32) : Seg 302 (1164, [.ref l0, .ref l1, .ref l2, .int l3], []) h (f302_1164 h l0 l1 l2 l3) (Sum.elim (fun s : (Int32 × mH) => Ev 302 (18, [.ref l0, .ref l1, .ref l2, .int s.1], []) s.2) (fun (q : Int32 × mH) (res : Option Value × mH) => res = (some (.int q.1), q.2))) := by
  unfold f302_1164
  refine Seg.call (f1 := (1180, [.ref l0, .ref l1, .ref l2, .int l3], [.int (mI h 2000000 (Int32.toNatClampNeg (l3 + 3))), .int (mI h 2000000 (Int32.toNatClampNeg (l3 + 2))), .int (mI h 2000000 (Int32.toNatClampNeg (l3 + 1))), .ref l1])) (h1 := h) (cv := fun r => some (.int r)) rfl rfl rfl rfl (s143 h l1 (mI h 2000000 (Int32.toNatClampNeg (l3 + 1))) (mI h 2000000 (Int32.toNatClampNeg (l3 + 2))) (mI h 2000000 (Int32.toNatClampNeg (l3 + 3)))) (fun r59 => ?_)
  refine Seg.call (f1 := (1199, [.ref l0, .ref l1, .ref l2, .int l3], [.int (mI r59.2 2000000 (Int32.toNatClampNeg (l3 + 3))), .int (mI r59.2 2000000 (Int32.toNatClampNeg (l3 + 2))), .int (mI r59.2 2000000 (Int32.toNatClampNeg (l3 + 1))), .ref l2, .int r59.1])) (h1 := r59.2) (cv := fun r => some (.int r)) rfl rfl rfl rfl (s281 r59.2 l2 (mI r59.2 2000000 (Int32.toNatClampNeg (l3 + 1))) (mI r59.2 2000000 (Int32.toNatClampNeg (l3 + 2))) (mI r59.2 2000000 (Int32.toNatClampNeg (l3 + 3)))) (fun r60 => ?_)
  refine Seg.blk0 (f' := (if (r59.1 : Int32) = r60.1 then 1887 else 1205, [.ref l0, .ref l1, .ref l2, .int l3], [])) (h' := r60.2) rfl rfl ?_
  refine Seg.ite (fun _ => ?_) (fun _ => ?_)
  · exact Seg.w (mLw.k (mLw.k (mLw.k (mLw.k mLw.nil)))) (s302_1887 r60.2 l0 l1 l2 l3)
  · refine Seg.x ?_
    exact Seg.ret (f1 := (1206, [.ref l0, .ref l1, .ref l2, .int l3], [.int 0])) (h1 := r60.2) rfl rfl rfl rfl (fun _ q => q)
theorem s302_1207 (h : mH) (l0 : Nat) (l1 : Nat) (l2 : Nat) (l3 : Int32) : Seg 302 (1207, [.ref l0, .ref l1, .ref l2, .int l3], []) h (f302_1207 h l0 l1 l2 l3) (Sum.elim (fun s : (Int32 × mH) => Ev 302 (18, [.ref l0, .ref l1, .ref l2, .int s.1], []) s.2) (fun (q : Int32 × mH) (res : Option Value × mH) => res = (some (.int q.1), q.2))) := by
  unfold f302_1207
  refine Seg.call (f1 := (1218, [.ref l0, .ref l1, .ref l2, .int l3], [.int (mI h 2000000 (Int32.toNatClampNeg (l3 + 2))), .int (mI h 2000000 (Int32.toNatClampNeg (l3 + 1))), .ref l1])) (h1 := h) (cv := fun r => some (.int r)) rfl rfl rfl rfl (s145 h l1 (mI h 2000000 (Int32.toNatClampNeg (l3 + 1))) (mI h 2000000 (Int32.toNatClampNeg (l3 + 2)))) (fun r61 => ?_)
  refine Seg.call (f1 := (1232, [.ref l0, .ref l1, .ref l2, .int l3], [.int (mI r61.2 2000000 (Int32.toNatClampNeg (l3 + 2))), .int (mI r61.2 2000000 (Int32.toNatClampNeg (l3 + 1))), .ref l2, .int r61.1])) (h1 := r61.2) (cv := fun r => some (.int r)) rfl rfl rfl rfl (s282 r61.2 l2 (mI r61.2 2000000 (Int32.toNatClampNeg (l3 + 1))) (mI r61.2 2000000 (Int32.toNatClampNeg (l3 + 2)))) (fun r62 => ?_)
  refine Seg.blk0 (f' := (if (r61.1 : Int32) = r62.1 then 1887 else 1238, [.ref l0, .ref l1, .ref l2, .int l3], [])) (h' := r62.2) rfl rfl ?_
  refine Seg.ite (fun _ => ?_) (fun _ => ?_)
  · exact Seg.w (mLw.k (mLw.k (mLw.k (mLw.k mLw.nil)))) (s302_1887 r62.2 l0 l1 l2 l3)
  · refine Seg.x ?_
    exact Seg.ret (f1 := (1239, [.ref l0, .ref l1, .ref l2, .int l3], [.int 0])) (h1 := r62.2) rfl rfl rfl rfl (fun _ q => q)
theorem s302_1240 (h : mH) (l0 : Nat) (l1 : Nat) (l2 : Nat) (l3 : Int32) : Seg 302 (1240, [.ref l0, .ref l1, .ref l2, .int l3], []) h (f302_1240 h l0 l1 l2 l3) (Sum.elim (fun s : (Int32 × mH) => Ev 302 (18, [.ref l0, .ref l1, .ref l2, .int s.1], []) s.2) (fun (q : Int32 × mH) (res : Option Value × mH) => res = (some (.int q.1), q.2))) := by
  unfold f302_1240
  refine Seg.call (f1 := (1251, [.ref l0, .ref l1, .ref l2, .int l3], [.int (mI h 2000000 (Int32.toNatClampNeg (l3 + 2))), .int (mI h 2000000 (Int32.toNatClampNeg (l3 + 1))), .ref l1])) (h1 := h) (cv := fun r => some (.int r)) rfl rfl rfl rfl (s148 h l1 (mI h 2000000 (Int32.toNatClampNeg (l3 + 1))) (mI h 2000000 (Int32.toNatClampNeg (l3 + 2)))) (fun r63 => ?_)
  refine Seg.call (f1 := (1265, [.ref l0, .ref l1, .ref l2, .int l3], [.int (mI r63.2 2000000 (Int32.toNatClampNeg (l3 + 2))), .int (mI r63.2 2000000 (Int32.toNatClampNeg (l3 + 1))), .ref l2, .int r63.1])) (h1 := r63.2) (cv := fun r => some (.int r)) rfl rfl rfl rfl (s283 r63.2 l2 (mI r63.2 2000000 (Int32.toNatClampNeg (l3 + 1))) (mI r63.2 2000000 (Int32.toNatClampNeg (l3 + 2)))) (fun r64 => ?_)
  refine Seg.blk0 (f' := (if (r63.1 : Int32) = r64.1 then 1887 else 1271, [.ref l0, .ref l1, .ref l2, .int l3], [])) (h' := r64.2) rfl rfl ?_
  refine Seg.ite (fun _ => ?_) (fun _ => ?_)
  · exact Seg.w (mLw.k (mLw.k (mLw.k (mLw.k mLw.nil)))) (s302_1887 r64.2 l0 l1 l2 l3)
  · refine Seg.x ?_
    exact Seg.ret (f1 := (1272, [.ref l0, .ref l1, .ref l2, .int l3], [.int 0])) (h1 := r64.2) rfl rfl rfl rfl (fun _ q => q)
theorem s302_1273 (h : mH) (l0 : Nat) (l1 : Nat) (l2 : Nat) (l3 : Int32) : Seg 302 (1273, [.ref l0, .ref l1, .ref l2, .int l3], []) h (f302_1273 h l0 l1 l2 l3) (Sum.elim (fun s : (Int32 × mH) => Ev 302 (18, [.ref l0, .ref l1, .ref l2, .int s.1], []) s.2) (fun (q : Int32 × mH) (res : Option Value × mH) => res = (some (.int q.1), q.2))) := by
  unfold f302_1273
  refine Seg.blk (f' := (if ((mI h 2000000 (Int32.toNatClampNeg (l3 + 2))) : Int32) = 0 then 1291 else 1287, [.ref l0, .ref l1, .ref l2, .int l3], [.int (mI h 2000000 (Int32.toNatClampNeg (l3 + 1))), .ref l1])) (h' := h) rfl rfl ?_
  refine Seg.ite (fun _ => ?_) (fun _ => ?_)
  · refine Seg.blk0 (f' := (1292, [.ref l0, .ref l1, .ref l2, .int l3], [.int 0, .int (mI h 2000000 (Int32.toNatClampNeg (l3 + 1))), .ref l1])) (h' := h) rfl rfl ?_
    refine Seg.call (f1 := (1292, [.ref l0, .ref l1, .ref l2, .int l3], [.int 0, .int (mI h 2000000 (Int32.toNatClampNeg (l3 + 1))), .ref l1])) (h1 := h) (cv := fun r => some (.int r)) rfl rfl rfl rfl (s149 h l1 (mI h 2000000 (Int32.toNatClampNeg (l3 + 1))) 0) (fun r65 => ?_)
    refine Seg.blk (f' := (if ((mI r65.2 2000000 (Int32.toNatClampNeg (l3 + 2))) : Int32) = 0 then 1313 else 1309, [.ref l0, .ref l1, .ref l2, .int l3], [.int (mI r65.2 2000000 (Int32.toNatClampNeg (l3 + 1))), .ref l2, .int r65.1])) (h' := r65.2) rfl rfl ?_
    refine Seg.ite (fun _ => ?_) (fun _ => ?_)
    · refine Seg.blk0 (f' := (1314, [.ref l0, .ref l1, .ref l2, .int l3], [.int 0, .int (mI r65.2 2000000 (Int32.toNatClampNeg (l3 + 1))), .ref l2, .int r65.1])) (h' := r65.2) rfl rfl ?_
      refine Seg.call (f1 := (1314, [.ref l0, .ref l1, .ref l2, .int l3], [.int 0, .int (mI r65.2 2000000 (Int32.toNatClampNeg (l3 + 1))), .ref l2, .int r65.1])) (h1 := r65.2) (cv := fun r => some (.int r)) rfl rfl rfl rfl (s284 r65.2 l2 (mI r65.2 2000000 (Int32.toNatClampNeg (l3 + 1))) 0) (fun r66 => ?_)
      refine Seg.blk0 (f' := (if (r65.1 : Int32) = r66.1 then 1887 else 1320, [.ref l0, .ref l1, .ref l2, .int l3], [])) (h' := r66.2) rfl rfl ?_
      refine Seg.ite (fun _ => ?_) (fun _ => ?_)
      · exact Seg.w (mLw.k (mLw.k (mLw.k (mLw.k mLw.nil)))) (s302_1887 r66.2 l0 l1 l2 l3)
      · refine Seg.x ?_
        exact Seg.ret (f1 := (1321, [.ref l0, .ref l1, .ref l2, .int l3], [.int 0])) (h1 := r66.2) rfl rfl rfl rfl (fun _ q => q)
    · refine Seg.blk0 (f' := (1314, [.ref l0, .ref l1, .ref l2, .int l3], [.int 1, .int (mI r65.2 2000000 (Int32.toNatClampNeg (l3 + 1))), .ref l2, .int r65.1])) (h' := r65.2) rfl rfl ?_
      refine Seg.call (f1 := (1314, [.ref l0, .ref l1, .ref l2, .int l3], [.int 1, .int (mI r65.2 2000000 (Int32.toNatClampNeg (l3 + 1))), .ref l2, .int r65.1])) (h1 := r65.2) (cv := fun r => some (.int r)) rfl rfl rfl rfl (s284 r65.2 l2 (mI r65.2 2000000 (Int32.toNatClampNeg (l3 + 1))) 1) (fun r67 => ?_)
      refine Seg.blk0 (f' := (if (r65.1 : Int32) = r67.1 then 1887 else 1320, [.ref l0, .ref l1, .ref l2, .int l3], [])) (h' := r67.2) rfl rfl ?_
      refine Seg.ite (fun _ => ?_) (fun _ => ?_)
      · exact Seg.w (mLw.k (mLw.k (mLw.k (mLw.k mLw.nil)))) (s302_1887 r67.2 l0 l1 l2 l3)
      · refine Seg.x ?_
        exact Seg.ret (f1 := (1321, [.ref l0, .ref l1, .ref l2, .int l3], [.int 0])) (h1 := r67.2) rfl rfl rfl rfl (fun _ q => q)
  · refine Seg.blk0 (f' := (1292, [.ref l0, .ref l1, .ref l2, .int l3], [.int 1, .int (mI h 2000000 (Int32.toNatClampNeg (l3 + 1))), .ref l1])) (h' := h) rfl rfl ?_
    refine Seg.call (f1 := (1292, [.ref l0, .ref l1, .ref l2, .int l3], [.int 1, .int (mI h 2000000 (Int32.toNatClampNeg (l3 + 1))), .ref l1])) (h1 := h) (cv := fun r => some (.int r)) rfl rfl rfl rfl (s149 h l1 (mI h 2000000 (Int32.toNatClampNeg (l3 + 1))) 1) (fun r68 => ?_)
    refine Seg.blk (f' := (if ((mI r68.2 2000000 (Int32.toNatClampNeg (l3 + 2))) : Int32) = 0 then 1313 else 1309, [.ref l0, .ref l1, .ref l2, .int l3], [.int (mI r68.2 2000000 (Int32.toNatClampNeg (l3 + 1))), .ref l2, .int r68.1])) (h' := r68.2) rfl rfl ?_
    refine Seg.ite (fun _ => ?_) (fun _ => ?_)
    · refine Seg.blk0 (f' := (1314, [.ref l0, .ref l1, .ref l2, .int l3], [.int 0, .int (mI r68.2 2000000 (Int32.toNatClampNeg (l3 + 1))), .ref l2, .int r68.1])) (h' := r68.2) rfl rfl ?_
      refine Seg.call (f1 := (1314, [.ref l0, .ref l1, .ref l2, .int l3], [.int 0, .int (mI r68.2 2000000 (Int32.toNatClampNeg (l3 + 1))), .ref l2, .int r68.1])) (h1 := r68.2) (cv := fun r => some (.int r)) rfl rfl rfl rfl (s284 r68.2 l2 (mI r68.2 2000000 (Int32.toNatClampNeg (l3 + 1))) 0) (fun r69 => ?_)
      refine Seg.blk0 (f' := (if (r68.1 : Int32) = r69.1 then 1887 else 1320, [.ref l0, .ref l1, .ref l2, .int l3], [])) (h' := r69.2) rfl rfl ?_
      refine Seg.ite (fun _ => ?_) (fun _ => ?_)
      · exact Seg.w (mLw.k (mLw.k (mLw.k (mLw.k mLw.nil)))) (s302_1887 r69.2 l0 l1 l2 l3)
      · refine Seg.x ?_
        exact Seg.ret (f1 := (1321, [.ref l0, .ref l1, .ref l2, .int l3], [.int 0])) (h1 := r69.2) rfl rfl rfl rfl (fun _ q => q)
    · refine Seg.blk0 (f' := (1314, [.ref l0, .ref l1, .ref l2, .int l3], [.int 1, .int (mI r68.2 2000000 (Int32.toNatClampNeg (l3 + 1))), .ref l2, .int r68.1])) (h' := r68.2) rfl rfl ?_
      refine Seg.call (f1 := (1314, [.ref l0, .ref l1, .ref l2, .int l3], [.int 1, .int (mI r68.2 2000000 (Int32.toNatClampNeg (l3 + 1))), .ref l2, .int r68.1])) (h1 := r68.2) (cv := fun r => some (.int r)) rfl rfl rfl rfl (s284 r68.2 l2 (mI r68.2 2000000 (Int32.toNatClampNeg (l3 + 1))) 1) (fun r70 => ?_)
      refine Seg.blk0 (f' := (if (r68.1 : Int32) = r70.1 then 1887 else 1320, [.ref l0, .ref l1, .ref l2, .int l3], [])) (h' := r70.2) rfl rfl ?_
      refine Seg.ite (fun _ => ?_) (fun _ => ?_)
      · exact Seg.w (mLw.k (mLw.k (mLw.k (mLw.k mLw.nil)))) (s302_1887 r70.2 l0 l1 l2 l3)
      · refine Seg.x ?_
        exact Seg.ret (f1 := (1321, [.ref l0, .ref l1, .ref l2, .int l3], [.int 0])) (h1 := r70.2) rfl rfl rfl rfl (fun _ q => q)
theorem s302_1322 (h : mH) (l0 : Nat) (l1 : Nat) (l2 : Nat) (l3 : Int32) : Seg 302 (1322, [.ref l0, .ref l1, .ref l2, .int l3], []) h (f302_1322 h l0 l1 l2 l3) (Sum.elim (fun s : (Int32 × mH) => Ev 302 (18, [.ref l0, .ref l1, .ref l2, .int s.1], []) s.2) (fun (q : Int32 × mH) (res : Option Value × mH) => res = (some (.int q.1), q.2))) := by
  unfold f302_1322
  refine Seg.blk (f' := (if ((mI h 2000000 (Int32.toNatClampNeg (l3 + 3))) : Int32) = 0 then 1345 else 1341, [.ref l0, .ref l1, .ref l2, .int l3], [.int (mI h 2000000 (Int32.toNatClampNeg (l3 + 2))), .int (mI h 2000000 (Int32.toNatClampNeg (l3 + 1))), .ref l1])) (h' := h) rfl rfl ?_
  refine Seg.ite (fun _ => ?_) (fun _ => ?_)
  · refine Seg.blk0 (f' := (1346, [.ref l0, .ref l1, .ref l2, .int l3], [.int 0, .int (mI h 2000000 (Int32.toNatClampNeg (l3 + 2))), .int (mI h 2000000 (Int32.toNatClampNeg (l3 + 1))), .ref l1])) (h' := h) rfl rfl ?_
    refine Seg.callP (f1 := (1346, [.ref l0, .ref l1, .ref l2, .int l3], [.int 0, .int (mI h 2000000 (Int32.toNatClampNeg (l3 + 2))), .int (mI h 2000000 (Int32.toNatClampNeg (l3 + 1))), .ref l1])) (h1 := h) (cv := fun r => some (.long r)) rfl rfl rfl rfl (s151 h l1 (mI h 2000000 (Int32.toNatClampNeg (l3 + 1))) (mI h 2000000 (Int32.toNatClampNeg (l3 + 2))) 0) (fun r71 => ?_)
    refine Seg.blk (f' := (if ((mI h 2000000 (Int32.toNatClampNeg (l3 + 3))) : Int32) = 0 then 1372 else 1368, [.ref l0, .ref l1, .ref l2, .int l3], [.int (mI h 2000000 (Int32.toNatClampNeg (l3 + 2))), .int (mI h 2000000 (Int32.toNatClampNeg (l3 + 1))), .ref l2, .long r71])) (h' := h) rfl rfl ?_
    refine Seg.ite (fun _ => ?_) (fun _ => ?_)
    · refine Seg.blk0 (f' := (1373, [.ref l0, .ref l1, .ref l2, .int l3], [.int 0, .int (mI h 2000000 (Int32.toNatClampNeg (l3 + 2))), .int (mI h 2000000 (Int32.toNatClampNeg (l3 + 1))), .ref l2, .long r71])) (h' := h) rfl rfl ?_
      refine Seg.call (f1 := (1373, [.ref l0, .ref l1, .ref l2, .int l3], [.int 0, .int (mI h 2000000 (Int32.toNatClampNeg (l3 + 2))), .int (mI h 2000000 (Int32.toNatClampNeg (l3 + 1))), .ref l2, .long r71])) (h1 := h) (cv := fun r => some (.long r)) rfl rfl rfl rfl (s285 h l2 (mI h 2000000 (Int32.toNatClampNeg (l3 + 1))) (mI h 2000000 (Int32.toNatClampNeg (l3 + 2))) 0) (fun r72 => ?_)
      refine Seg.blk0 (f' := (if ((lg_cmp r71 r72.1) : Int32) = 0 then 1887 else 1380, [.ref l0, .ref l1, .ref l2, .int l3], [])) (h' := r72.2) rfl rfl ?_
      refine Seg.ite (fun _ => ?_) (fun _ => ?_)
      · exact Seg.w (mLw.k (mLw.k (mLw.k (mLw.k mLw.nil)))) (s302_1887 r72.2 l0 l1 l2 l3)
      · refine Seg.x ?_
        exact Seg.ret (f1 := (1381, [.ref l0, .ref l1, .ref l2, .int l3], [.int 0])) (h1 := r72.2) rfl rfl rfl rfl (fun _ q => q)
    · refine Seg.blk0 (f' := (1373, [.ref l0, .ref l1, .ref l2, .int l3], [.int 1, .int (mI h 2000000 (Int32.toNatClampNeg (l3 + 2))), .int (mI h 2000000 (Int32.toNatClampNeg (l3 + 1))), .ref l2, .long r71])) (h' := h) rfl rfl ?_
      refine Seg.call (f1 := (1373, [.ref l0, .ref l1, .ref l2, .int l3], [.int 1, .int (mI h 2000000 (Int32.toNatClampNeg (l3 + 2))), .int (mI h 2000000 (Int32.toNatClampNeg (l3 + 1))), .ref l2, .long r71])) (h1 := h) (cv := fun r => some (.long r)) rfl rfl rfl rfl (s285 h l2 (mI h 2000000 (Int32.toNatClampNeg (l3 + 1))) (mI h 2000000 (Int32.toNatClampNeg (l3 + 2))) 1) (fun r73 => ?_)
      refine Seg.blk0 (f' := (if ((lg_cmp r71 r73.1) : Int32) = 0 then 1887 else 1380, [.ref l0, .ref l1, .ref l2, .int l3], [])) (h' := r73.2) rfl rfl ?_
      refine Seg.ite (fun _ => ?_) (fun _ => ?_)
      · exact Seg.w (mLw.k (mLw.k (mLw.k (mLw.k mLw.nil)))) (s302_1887 r73.2 l0 l1 l2 l3)
      · refine Seg.x ?_
        exact Seg.ret (f1 := (1381, [.ref l0, .ref l1, .ref l2, .int l3], [.int 0])) (h1 := r73.2) rfl rfl rfl rfl (fun _ q => q)
  · refine Seg.blk0 (f' := (1346, [.ref l0, .ref l1, .ref l2, .int l3], [.int 1, .int (mI h 2000000 (Int32.toNatClampNeg (l3 + 2))), .int (mI h 2000000 (Int32.toNatClampNeg (l3 + 1))), .ref l1])) (h' := h) rfl rfl ?_
    refine Seg.callP (f1 := (1346, [.ref l0, .ref l1, .ref l2, .int l3], [.int 1, .int (mI h 2000000 (Int32.toNatClampNeg (l3 + 2))), .int (mI h 2000000 (Int32.toNatClampNeg (l3 + 1))), .ref l1])) (h1 := h) (cv := fun r => some (.long r)) rfl rfl rfl rfl (s151 h l1 (mI h 2000000 (Int32.toNatClampNeg (l3 + 1))) (mI h 2000000 (Int32.toNatClampNeg (l3 + 2))) 1) (fun r74 => ?_)
    refine Seg.blk (f' := (if ((mI h 2000000 (Int32.toNatClampNeg (l3 + 3))) : Int32) = 0 then 1372 else 1368, [.ref l0, .ref l1, .ref l2, .int l3], [.int (mI h 2000000 (Int32.toNatClampNeg (l3 + 2))), .int (mI h 2000000 (Int32.toNatClampNeg (l3 + 1))), .ref l2, .long r74])) (h' := h) rfl rfl ?_
    refine Seg.ite (fun _ => ?_) (fun _ => ?_)
    · refine Seg.blk0 (f' := (1373, [.ref l0, .ref l1, .ref l2, .int l3], [.int 0, .int (mI h 2000000 (Int32.toNatClampNeg (l3 + 2))), .int (mI h 2000000 (Int32.toNatClampNeg (l3 + 1))), .ref l2, .long r74])) (h' := h) rfl rfl ?_
      refine Seg.call (f1 := (1373, [.ref l0, .ref l1, .ref l2, .int l3], [.int 0, .int (mI h 2000000 (Int32.toNatClampNeg (l3 + 2))), .int (mI h 2000000 (Int32.toNatClampNeg (l3 + 1))), .ref l2, .long r74])) (h1 := h) (cv := fun r => some (.long r)) rfl rfl rfl rfl (s285 h l2 (mI h 2000000 (Int32.toNatClampNeg (l3 + 1))) (mI h 2000000 (Int32.toNatClampNeg (l3 + 2))) 0) (fun r75 => ?_)
      refine Seg.blk0 (f' := (if ((lg_cmp r74 r75.1) : Int32) = 0 then 1887 else 1380, [.ref l0, .ref l1, .ref l2, .int l3], [])) (h' := r75.2) rfl rfl ?_
      refine Seg.ite (fun _ => ?_) (fun _ => ?_)
      · exact Seg.w (mLw.k (mLw.k (mLw.k (mLw.k mLw.nil)))) (s302_1887 r75.2 l0 l1 l2 l3)
      · refine Seg.x ?_
        exact Seg.ret (f1 := (1381, [.ref l0, .ref l1, .ref l2, .int l3], [.int 0])) (h1 := r75.2) rfl rfl rfl rfl (fun _ q => q)
    · refine Seg.blk0 (f' := (1373, [.ref l0, .ref l1, .ref l2, .int l3], [.int 1, .int (mI h 2000000 (Int32.toNatClampNeg (l3 + 2))), .int (mI h 2000000 (Int32.toNatClampNeg (l3 + 1))), .ref l2, .long r74])) (h' := h) rfl rfl ?_
      refine Seg.call (f1 := (1373, [.ref l0, .ref l1, .ref l2, .int l3], [.int 1, .int (mI h 2000000 (Int32.toNatClampNeg (l3 + 2))), .int (mI h 2000000 (Int32.toNatClampNeg (l3 + 1))), .ref l2, .long r74])) (h1 := h) (cv := fun r => some (.long r)) rfl rfl rfl rfl (s285 h l2 (mI h 2000000 (Int32.toNatClampNeg (l3 + 1))) (mI h 2000000 (Int32.toNatClampNeg (l3 + 2))) 1) (fun r76 => ?_)
      refine Seg.blk0 (f' := (if ((lg_cmp r74 r76.1) : Int32) = 0 then 1887 else 1380, [.ref l0, .ref l1, .ref l2, .int l3], [])) (h' := r76.2) rfl rfl ?_
      refine Seg.ite (fun _ => ?_) (fun _ => ?_)
      · exact Seg.w (mLw.k (mLw.k (mLw.k (mLw.k mLw.nil)))) (s302_1887 r76.2 l0 l1 l2 l3)
      · refine Seg.x ?_
        exact Seg.ret (f1 := (1381, [.ref l0, .ref l1, .ref l2, .int l3], [.int 0])) (h1 := r76.2) rfl rfl rfl rfl (fun _ q => q)
theorem s302_1382 (h : mH) (l0 : Nat) (l1 : Nat) (l2 : Nat) (l3 : Int32) : Seg 302 (1382, [.ref l0, .ref l1, .ref l2, .int l3], []) h (f302_1382 h l0 l1 l2 l3) (Sum.elim (fun s : (Int32 × mH) => Ev 302 (18, [.ref l0, .ref l1, .ref l2, .int s.1], []) s.2) (fun (q : Int32 × mH) (res : Option Value × mH) => res = (some (.int q.1), q.2))) := by
  unfold f302_1382
  refine Seg.call (f1 := (1398, [.ref l0, .ref l1, .ref l2, .int l3], [.int (mI h 2000000 (Int32.toNatClampNeg (l3 + 3))), .int (mI h 2000000 (Int32.toNatClampNeg (l3 + 2))), .int (mI h 2000000 (Int32.toNatClampNeg (l3 + 1))), .ref l1])) (h1 := h) (cv := fun r => some (.int r)) rfl rfl rfl rfl (s153 h l1 (mI h 2000000 (Int32.toNatClampNeg (l3 + 1))) (mI h 2000000 (Int32.toNatClampNeg (l3 + 2))) (mI h 2000000 (Int32.toNatClampNeg (l3 + 3)))) (fun r77 => ?_)
  refine Seg.call (f1 := (1417, [.ref l0, .ref l1, .ref l2, .int l3], [.int (mI r77.2 2000000 (Int32.toNatClampNeg (l3 + 3))), .int (mI r77.2 2000000 (Int32.toNatClampNeg (l3 + 2))), .int (mI r77.2 2000000 (Int32.toNatClampNeg (l3 + 1))), .ref l2, .int r77.1])) (h1 := r77.2) (cv := fun r => some (.int r)) rfl rfl rfl rfl (s286 r77.2 l2 (mI r77.2 2000000 (Int32.toNatClampNeg (l3 + 1))) (mI r77.2 2000000 (Int32.toNatClampNeg (l3 + 2))) (mI r77.2 2000000 (Int32.toNatClampNeg (l3 + 3)))) (fun r78 => ?_)
  refine Seg.blk0 (f' := (if (r77.1 : Int32) = r78.1 then 1887 else 1423, [.ref l0, .ref l1, .ref l2, .int l3], [])) (h' := r78.2) rfl rfl ?_
  refine Seg.ite (fun _ => ?_) (fun _ => ?_)
  · exact Seg.w (mLw.k (mLw.k (mLw.k (mLw.k mLw.nil)))) (s302_1887 r78.2 l0 l1 l2 l3)
  · refine Seg.x ?_
    exact Seg.ret (f1 := (1424, [.ref l0, .ref l1, .ref l2, .int l3], [.int 0])) (h1 := r78.2) rfl rfl rfl rfl (fun _ q => q)
theorem s302_1425 (h : mH) (l0 : Nat) (l1 : Nat) (l2 : Nat) (l3 : Int32) : Seg 302 (1425, [.ref l0, .ref l1, .ref l2, .int l3], []) h (f302_1425 h l0 l1 l2 l3) (Sum.elim (fun s : (Int32 × mH) => Ev 302 (18, [.ref l0, .ref l1, .ref l2, .int s.1], []) s.2) (fun (q : Int32 × mH) (res : Option Value × mH) => res = (some (.int q.1), q.2))) := by
  unfold f302_1425
  refine Seg.callP (f1 := (1441, [.ref l0, .ref l1, .ref l2, .int l3], [.int (mI h 2000000 (Int32.toNatClampNeg (l3 + 3))), .int (mI h 2000000 (Int32.toNatClampNeg (l3 + 2))), .int (mI h 2000000 (Int32.toNatClampNeg (l3 + 1))), .ref l1])) (h1 := h) (cv := fun r => some (.int r)) rfl rfl rfl rfl (s157 h l1 (mI h 2000000 (Int32.toNatClampNeg (l3 + 1))) (mI h 2000000 (Int32.toNatClampNeg (l3 + 2))) (mI h 2000000 (Int32.toNatClampNeg (l3 + 3)))) (fun r79 => ?_)
  refine Seg.call (f1 := (1460, [.ref l0, .ref l1, .ref l2, .int l3], [.int (mI h 2000000 (Int32.toNatClampNeg (l3 + 3))), .int (mI h 2000000 (Int32.toNatClampNeg (l3 + 2))), .int (mI h 2000000 (Int32.toNatClampNeg (l3 + 1))), .ref l2, .int r79])) (h1 := h) (cv := fun r => some (.int r)) rfl rfl rfl rfl (s288 h l2 (mI h 2000000 (Int32.toNatClampNeg (l3 + 1))) (mI h 2000000 (Int32.toNatClampNeg (l3 + 2))) (mI h 2000000 (Int32.toNatClampNeg (l3 + 3)))) (fun r80 => ?_)
  refine Seg.blk0 (f' := (if (r79 : Int32) = r80.1 then 1887 else 1466, [.ref l0, .ref l1, .ref l2, .int l3], [])) (h' := r80.2) rfl rfl ?_
  refine Seg.ite (fun _ => ?_) (fun _ => ?_)
  · exact Seg.w (mLw.k (mLw.k (mLw.k (mLw.k mLw.nil)))) (s302_1887 r80.2 l0 l1 l2 l3)
  · refine Seg.x ?_
    exact Seg.ret (f1 := (1467, [.ref l0, .ref l1, .ref l2, .int l3], [.int 0])) (h1 := r80.2) rfl rfl rfl rfl (fun _ q => q)
theorem s302_1468 (h : mH) (l0 : Nat) (l1 : Nat) (l2 : Nat) (l3 : Int32) : Seg 302 (1468, [.ref l0, .ref l1, .ref l2, .int l3], []) h (f302_1468 h l0 l1 l2 l3) (Sum.elim (fun s : (Int32 × mH) => Ev 302 (18, [.ref l0, .ref l1, .ref l2, .int s.1], []) s.2) (fun (q : Int32 × mH) (res : Option Value × mH) => res = (some (.int q.1), q.2))) := by
  unfold f302_1468
  refine Seg.blk (f' := (if ((mI h 2000000 (Int32.toNatClampNeg (l3 + 2))) : Int32) = 0 then 1486 else 1482, [.ref l0, .ref l1, .ref l2, .int l3], [.int (mI h 2000000 (Int32.toNatClampNeg (l3 + 1))), .ref l1])) (h' := h) rfl rfl ?_
  refine Seg.ite (fun _ => ?_) (fun _ => ?_)
  · refine Seg.blk0 (f' := (1487, [.ref l0, .ref l1, .ref l2, .int l3], [.int 0, .int (mI h 2000000 (Int32.toNatClampNeg (l3 + 1))), .ref l1])) (h' := h) rfl rfl ?_
    refine Seg.callP (f1 := (1487, [.ref l0, .ref l1, .ref l2, .int l3], [.int 0, .int (mI h 2000000 (Int32.toNatClampNeg (l3 + 1))), .ref l1])) (h1 := h) (cv := fun r => some (.int r)) rfl rfl rfl rfl (s159 h l1 (mI h 2000000 (Int32.toNatClampNeg (l3 + 1))) 0) (fun r81 => ?_)
    refine Seg.blk (f' := (if ((mI h 2000000 (Int32.toNatClampNeg (l3 + 2))) : Int32) = 0 then 1508 else 1504, [.ref l0, .ref l1, .ref l2, .int l3], [.int (mI h 2000000 (Int32.toNatClampNeg (l3 + 1))), .ref l2, .int r81])) (h' := h) rfl rfl ?_
    refine Seg.ite (fun _ => ?_) (fun _ => ?_)
    · refine Seg.blk0 (f' := (1509, [.ref l0, .ref l1, .ref l2, .int l3], [.int 0, .int (mI h 2000000 (Int32.toNatClampNeg (l3 + 1))), .ref l2, .int r81])) (h' := h) rfl rfl ?_
      refine Seg.call (f1 := (1509, [.ref l0, .ref l1, .ref l2, .int l3], [.int 0, .int (mI h 2000000 (Int32.toNatClampNeg (l3 + 1))), .ref l2, .int r81])) (h1 := h) (cv := fun r => some (.int r)) rfl rfl rfl rfl (s290 h l2 (mI h 2000000 (Int32.toNatClampNeg (l3 + 1))) 0) (fun r82 => ?_)
      refine Seg.blk0 (f' := (if (r81 : Int32) = r82.1 then 1887 else 1515, [.ref l0, .ref l1, .ref l2, .int l3], [])) (h' := r82.2) rfl rfl ?_
      refine Seg.ite (fun _ => ?_) (fun _ => ?_)
      · exact Seg.w (mLw.k (mLw.k (mLw.k (mLw.k mLw.nil)))) (s302_1887 r82.2 l0 l1 l2 l3)
      · refine Seg.x ?_
        exact Seg.ret (f1 := (1516, [.ref l0, .ref l1, .ref l2, .int l3], [.int 0])) (h1 := r82.2) rfl rfl rfl rfl (fun _ q => q)
    · refine Seg.blk0 (f' := (1509, [.ref l0, .ref l1, .ref l2, .int l3], [.int 1, .int (mI h 2000000 (Int32.toNatClampNeg (l3 + 1))), .ref l2, .int r81])) (h' := h) rfl rfl ?_
      refine Seg.call (f1 := (1509, [.ref l0, .ref l1, .ref l2, .int l3], [.int 1, .int (mI h 2000000 (Int32.toNatClampNeg (l3 + 1))), .ref l2, .int r81])) (h1 := h) (cv := fun r => some (.int r)) rfl rfl rfl rfl (s290 h l2 (mI h 2000000 (Int32.toNatClampNeg (l3 + 1))) 1) (fun r83 => ?_)
      refine Seg.blk0 (f' := (if (r81 : Int32) = r83.1 then 1887 else 1515, [.ref l0, .ref l1, .ref l2, .int l3], [])) (h' := r83.2) rfl rfl ?_
      refine Seg.ite (fun _ => ?_) (fun _ => ?_)
      · exact Seg.w (mLw.k (mLw.k (mLw.k (mLw.k mLw.nil)))) (s302_1887 r83.2 l0 l1 l2 l3)
      · refine Seg.x ?_
        exact Seg.ret (f1 := (1516, [.ref l0, .ref l1, .ref l2, .int l3], [.int 0])) (h1 := r83.2) rfl rfl rfl rfl (fun _ q => q)
  · refine Seg.blk0 (f' := (1487, [.ref l0, .ref l1, .ref l2, .int l3], [.int 1, .int (mI h 2000000 (Int32.toNatClampNeg (l3 + 1))), .ref l1])) (h' := h) rfl rfl ?_
    refine Seg.callP (f1 := (1487, [.ref l0, .ref l1, .ref l2, .int l3], [.int 1, .int (mI h 2000000 (Int32.toNatClampNeg (l3 + 1))), .ref l1])) (h1 := h) (cv := fun r => some (.int r)) rfl rfl rfl rfl (s159 h l1 (mI h 2000000 (Int32.toNatClampNeg (l3 + 1))) 1) (fun r84 => ?_)
    refine Seg.blk (f' := (if ((mI h 2000000 (Int32.toNatClampNeg (l3 + 2))) : Int32) = 0 then 1508 else 1504, [.ref l0, .ref l1, .ref l2, .int l3], [.int (mI h 2000000 (Int32.toNatClampNeg (l3 + 1))), .ref l2, .int r84])) (h' := h) rfl rfl ?_
    refine Seg.ite (fun _ => ?_) (fun _ => ?_)
    · refine Seg.blk0 (f' := (1509, [.ref l0, .ref l1, .ref l2, .int l3], [.int 0, .int (mI h 2000000 (Int32.toNatClampNeg (l3 + 1))), .ref l2, .int r84])) (h' := h) rfl rfl ?_
      refine Seg.call (f1 := (1509, [.ref l0, .ref l1, .ref l2, .int l3], [.int 0, .int (mI h 2000000 (Int32.toNatClampNeg (l3 + 1))), .ref l2, .int r84])) (h1 := h) (cv := fun r => some (.int r)) rfl rfl rfl rfl (s290 h l2 (mI h 2000000 (Int32.toNatClampNeg (l3 + 1))) 0) (fun r85 => ?_)
      refine Seg.blk0 (f' := (if (r84 : Int32) = r85.1 then 1887 else 1515, [.ref l0, .ref l1, .ref l2, .int l3], [])) (h' := r85.2) rfl rfl ?_
      refine Seg.ite (fun _ => ?_) (fun _ => ?_)
      · exact Seg.w (mLw.k (mLw.k (mLw.k (mLw.k mLw.nil)))) (s302_1887 r85.2 l0 l1 l2 l3)
      · refine Seg.x ?_
        exact Seg.ret (f1 := (1516, [.ref l0, .ref l1, .ref l2, .int l3], [.int 0])) (h1 := r85.2) rfl rfl rfl rfl (fun _ q => q)
    · refine Seg.blk0 (f' := (1509, [.ref l0, .ref l1, .ref l2, .int l3], [.int 1, .int (mI h 2000000 (Int32.toNatClampNeg (l3 + 1))), .ref l2, .int r84])) (h' := h) rfl rfl ?_
      refine Seg.call (f1 := (1509, [.ref l0, .ref l1, .ref l2, .int l3], [.int 1, .int (mI h 2000000 (Int32.toNatClampNeg (l3 + 1))), .ref l2, .int r84])) (h1 := h) (cv := fun r => some (.int r)) rfl rfl rfl rfl (s290 h l2 (mI h 2000000 (Int32.toNatClampNeg (l3 + 1))) 1) (fun r86 => ?_)
      refine Seg.blk0 (f' := (if (r84 : Int32) = r86.1 then 1887 else 1515, [.ref l0, .ref l1, .ref l2, .int l3], [])) (h' := r86.2) rfl rfl ?_
      refine Seg.ite (fun _ => ?_) (fun _ => ?_)
      · exact Seg.w (mLw.k (mLw.k (mLw.k (mLw.k mLw.nil)))) (s302_1887 r86.2 l0 l1 l2 l3)
      · refine Seg.x ?_
        exact Seg.ret (f1 := (1516, [.ref l0, .ref l1, .ref l2, .int l3], [.int 0])) (h1 := r86.2) rfl rfl rfl rfl (fun _ q => q)
theorem s302_1517 (h : mH) (l0 : Nat) (l1 : Nat) (l2 : Nat) (l3 : Int32) : Seg 302 (1517, [.ref l0, .ref l1, .ref l2, .int l3], []) h (f302_1517 h l0 l1 l2 l3) (Sum.elim (fun s : (Int32 × mH) => Ev 302 (18, [.ref l0, .ref l1, .ref l2, .int s.1], []) s.2) (fun (q : Int32 × mH) (res : Option Value × mH) => res = (some (.int q.1), q.2))) := by
  unfold f302_1517
  refine Seg.blk (f' := (if ((mI h 2000000 (Int32.toNatClampNeg (l3 + 3))) : Int32) = 0 then 1540 else 1536, [.ref l0, .ref l1, .ref l2, .int l3], [.int (mI h 2000000 (Int32.toNatClampNeg (l3 + 2))), .int (mI h 2000000 (Int32.toNatClampNeg (l3 + 1))), .ref l1])) (h' := h) rfl rfl ?_
  refine Seg.ite (fun _ => ?_) (fun _ => ?_)
  · refine Seg.blk0 (f' := (1541, [.ref l0, .ref l1, .ref l2, .int l3], [.int 0, .int (mI h 2000000 (Int32.toNatClampNeg (l3 + 2))), .int (mI h 2000000 (Int32.toNatClampNeg (l3 + 1))), .ref l1])) (h' := h) rfl rfl ?_
    refine Seg.callP (f1 := (1541, [.ref l0, .ref l1, .ref l2, .int l3], [.int 0, .int (mI h 2000000 (Int32.toNatClampNeg (l3 + 2))), .int (mI h 2000000 (Int32.toNatClampNeg (l3 + 1))), .ref l1])) (h1 := h) (cv := fun r => some (.int r)) rfl rfl rfl rfl (s161 h l1 (mI h 2000000 (Int32.toNatClampNeg (l3 + 1))) (mI h 2000000 (Int32.toNatClampNeg (l3 + 2))) 0) (fun r87 => ?_)
    refine Seg.blk (f' := (if ((mI h 2000000 (Int32.toNatClampNeg (l3 + 3))) : Int32) = 0 then 1567 else 1563, [.ref l0, .ref l1, .ref l2, .int l3], [.int (mI h 2000000 (Int32.toNatClampNeg (l3 + 2))), .int (mI h 2000000 (Int32.toNatClampNeg (l3 + 1))), .ref l2, .int r87])) (h' := h) rfl rfl ?_
    refine Seg.ite (fun _ => ?_) (fun _ => ?_)
    · refine Seg.blk0 (f' := (1568, [.ref l0, .ref l1, .ref l2, .int l3], [.int 0, .int (mI h 2000000 (Int32.toNatClampNeg (l3 + 2))), .int (mI h 2000000 (Int32.toNatClampNeg (l3 + 1))), .ref l2, .int r87])) (h' := h) rfl rfl ?_
      refine Seg.call (f1 := (1568, [.ref l0, .ref l1, .ref l2, .int l3], [.int 0, .int (mI h 2000000 (Int32.toNatClampNeg (l3 + 2))), .int (mI h 2000000 (Int32.toNatClampNeg (l3 + 1))), .ref l2, .int r87])) (h1 := h) (cv := fun r => some (.int r)) rfl rfl rfl rfl (s291 h l2 (mI h 2000000 (Int32.toNatClampNeg (l3 + 1))) (mI h 2000000 (Int32.toNatClampNeg (l3 + 2))) 0) (fun r88 => ?_)
      refine Seg.blk0 (f' := (if (r87 : Int32) = r88.1 then 1887 else 1574, [.ref l0, .ref l1, .ref l2, .int l3], [])) (h' := r88.2) rfl rfl ?_
      refine Seg.ite (fun _ => ?_) (fun _ => ?_)
      · exact Seg.w (mLw.k (mLw.k (mLw.k (mLw.k mLw.nil)))) (s302_1887 r88.2 l0 l1 l2 l3)
      · refine Seg.x ?_
        exact Seg.ret (f1 := (1575, [.ref l0, .ref l1, .ref l2, .int l3], [.int 0])) (h1 := r88.2) rfl rfl rfl rfl (fun _ q => q)
    · refine Seg.blk0 (f' := (1568, [.ref l0, .ref l1, .ref l2, .int l3], [.int 1, .int (mI h 2000000 (Int32.toNatClampNeg (l3 + 2))), .int (mI h 2000000 (Int32.toNatClampNeg (l3 + 1))), .ref l2, .int r87])) (h' := h) rfl rfl ?_
      refine Seg.call (f1 := (1568, [.ref l0, .ref l1, .ref l2, .int l3], [.int 1, .int (mI h 2000000 (Int32.toNatClampNeg (l3 + 2))), .int (mI h 2000000 (Int32.toNatClampNeg (l3 + 1))), .ref l2, .int r87])) (h1 := h) (cv := fun r => some (.int r)) rfl rfl rfl rfl (s291 h l2 (mI h 2000000 (Int32.toNatClampNeg (l3 + 1))) (mI h 2000000 (Int32.toNatClampNeg (l3 + 2))) 1) (fun r89 => ?_)
      refine Seg.blk0 (f' := (if (r87 : Int32) = r89.1 then 1887 else 1574, [.ref l0, .ref l1, .ref l2, .int l3], [])) (h' := r89.2) rfl rfl ?_
      refine Seg.ite (fun _ => ?_) (fun _ => ?_)
      · exact Seg.w (mLw.k (mLw.k (mLw.k (mLw.k mLw.nil)))) (s302_1887 r89.2 l0 l1 l2 l3)
      · refine Seg.x ?_
        exact Seg.ret (f1 := (1575, [.ref l0, .ref l1, .ref l2, .int l3], [.int 0])) (h1 := r89.2) rfl rfl rfl rfl (fun _ q => q)
  · refine Seg.blk0 (f' := (1541, [.ref l0, .ref l1, .ref l2, .int l3], [.int 1, .int (mI h 2000000 (Int32.toNatClampNeg (l3 + 2))), .int (mI h 2000000 (Int32.toNatClampNeg (l3 + 1))), .ref l1])) (h' := h) rfl rfl ?_
    refine Seg.callP (f1 := (1541, [.ref l0, .ref l1, .ref l2, .int l3], [.int 1, .int (mI h 2000000 (Int32.toNatClampNeg (l3 + 2))), .int (mI h 2000000 (Int32.toNatClampNeg (l3 + 1))), .ref l1])) (h1 := h) (cv := fun r => some (.int r)) rfl rfl rfl rfl (s161 h l1 (mI h 2000000 (Int32.toNatClampNeg (l3 + 1))) (mI h 2000000 (Int32.toNatClampNeg (l3 + 2))) 1) (fun r90 => ?_)
    refine Seg.blk (f' := (if ((mI h 2000000 (Int32.toNatClampNeg (l3 + 3))) : Int32) = 0 then 1567 else 1563, [.ref l0, .ref l1, .ref l2, .int l3], [.int (mI h 2000000 (Int32.toNatClampNeg (l3 + 2))), .int (mI h 2000000 (Int32.toNatClampNeg (l3 + 1))), .ref l2, .int r90])) (h' := h) rfl rfl ?_
    refine Seg.ite (fun _ => ?_) (fun _ => ?_)
    · refine Seg.blk0 (f' := (1568, [.ref l0, .ref l1, .ref l2, .int l3], [.int 0, .int (mI h 2000000 (Int32.toNatClampNeg (l3 + 2))), .int (mI h 2000000 (Int32.toNatClampNeg (l3 + 1))), .ref l2, .int r90])) (h' := h) rfl rfl ?_
      refine Seg.call (f1 := (1568, [.ref l0, .ref l1, .ref l2, .int l3], [.int 0, .int (mI h 2000000 (Int32.toNatClampNeg (l3 + 2))), .int (mI h 2000000 (Int32.toNatClampNeg (l3 + 1))), .ref l2, .int r90])) (h1 := h) (cv := fun r => some (.int r)) rfl rfl rfl rfl (s291 h l2 (mI h 2000000 (Int32.toNatClampNeg (l3 + 1))) (mI h 2000000 (Int32.toNatClampNeg (l3 + 2))) 0) (fun r91 => ?_)
      refine Seg.blk0 (f' := (if (r90 : Int32) = r91.1 then 1887 else 1574, [.ref l0, .ref l1, .ref l2, .int l3], [])) (h' := r91.2) rfl rfl ?_
      refine Seg.ite (fun _ => ?_) (fun _ => ?_)
      · exact Seg.w (mLw.k (mLw.k (mLw.k (mLw.k mLw.nil)))) (s302_1887 r91.2 l0 l1 l2 l3)
      · refine Seg.x ?_
        exact Seg.ret (f1 := (1575, [.ref l0, .ref l1, .ref l2, .int l3], [.int 0])) (h1 := r91.2) rfl rfl rfl rfl (fun _ q => q)
    · refine Seg.blk0 (f' := (1568, [.ref l0, .ref l1, .ref l2, .int l3], [.int 1, .int (mI h 2000000 (Int32.toNatClampNeg (l3 + 2))), .int (mI h 2000000 (Int32.toNatClampNeg (l3 + 1))), .ref l2, .int r90])) (h' := h) rfl rfl ?_
      refine Seg.call (f1 := (1568, [.ref l0, .ref l1, .ref l2, .int l3], [.int 1, .int (mI h 2000000 (Int32.toNatClampNeg (l3 + 2))), .int (mI h 2000000 (Int32.toNatClampNeg (l3 + 1))), .ref l2, .int r90])) (h1 := h) (cv := fun r => some (.int r)) rfl rfl rfl rfl (s291 h l2 (mI h 2000000 (Int32.toNatClampNeg (l3 + 1))) (mI h 2000000 (Int32.toNatClampNeg (l3 + 2))) 1) (fun r92 => ?_)
      refine Seg.blk0 (f' := (if (r90 : Int32) = r92.1 then 1887 else 1574, [.ref l0, .ref l1, .ref l2, .int l3], [])) (h' := r92.2) rfl rfl ?_
      refine Seg.ite (fun _ => ?_) (fun _ => ?_)
      · exact Seg.w (mLw.k (mLw.k (mLw.k (mLw.k mLw.nil)))) (s302_1887 r92.2 l0 l1 l2 l3)
      · refine Seg.x ?_
        exact Seg.ret (f1 := (1575, [.ref l0, .ref l1, .ref l2, .int l3], [.int 0])) (h1 := r92.2) rfl rfl rfl rfl (fun _ q => q)
theorem s302_1576 (h : mH) (l0 : Nat) (l1 : Nat) (l2 : Nat) (l3 : Int32) : Seg 302 (1576, [.ref l0, .ref l1, .ref l2, .int l3], []) h (f302_1576 h l0 l1 l2 l3) (Sum.elim (fun s : (Int32 × mH) => Ev 302 (18, [.ref l0, .ref l1, .ref l2, .int s.1], []) s.2) (fun (q : Int32 × mH) (res : Option Value × mH) => res = (some (.int q.1), q.2))) := by
  unfold f302_1576
  refine Seg.blk (f' := (if ((mI h 2000000 (Int32.toNatClampNeg (l3 + 4))) : Int32) = 0 then 1604 else 1600, [.ref l0, .ref l1, .ref l2, .int l3], [.int (mI h 2000000 (Int32.toNatClampNeg (l3 + 3))), .int (mI h 2000000 (Int32.toNatClampNeg (l3 + 2))), .int (mI h 2000000 (Int32.toNatClampNeg (l3 + 1))), .ref l1])) (h' := h) rfl rfl ?_
  refine Seg.ite (fun _ => ?_) (fun _ => ?_)
  · refine Seg.blk0 (f' := (1605, [.ref l0, .ref l1, .ref l2, .int l3], [.int 0, .int (mI h 2000000 (Int32.toNatClampNeg (l3 + 3))), .int (mI h 2000000 (Int32.toNatClampNeg (l3 + 2))), .int (mI h 2000000 (Int32.toNatClampNeg (l3 + 1))), .ref l1])) (h' := h) rfl rfl ?_
    refine Seg.callP (f1 := (1605, [.ref l0, .ref l1, .ref l2, .int l3], [.int 0, .int (mI h 2000000 (Int32.toNatClampNeg (l3 + 3))), .int (mI h 2000000 (Int32.toNatClampNeg (l3 + 2))), .int (mI h 2000000 (Int32.toNatClampNeg (l3 + 1))), .ref l1])) (h1 := h) (cv := fun r => some (.long r)) rfl rfl rfl rfl (s164 h l1 (mI h 2000000 (Int32.toNatClampNeg (l3 + 1))) (mI h 2000000 (Int32.toNatClampNeg (l3 + 2))) (mI h 2000000 (Int32.toNatClampNeg (l3 + 3))) 0) (fun r93 => ?_)
    refine Seg.blk (f' := (if ((mI h 2000000 (Int32.toNatClampNeg (l3 + 4))) : Int32) = 0 then 1636 else 1632, [.ref l0, .ref l1, .ref l2, .int l3], [.int (mI h 2000000 (Int32.toNatClampNeg (l3 + 3))), .int (mI h 2000000 (Int32.toNatClampNeg (l3 + 2))), .int (mI h 2000000 (Int32.toNatClampNeg (l3 + 1))), .ref l2, .long r93])) (h' := h) rfl rfl ?_
    refine Seg.ite (fun _ => ?_) (fun _ => ?_)
    · refine Seg.blk0 (f' := (1637, [.ref l0, .ref l1, .ref l2, .int l3], [.int 0, .int (mI h 2000000 (Int32.toNatClampNeg (l3 + 3))), .int (mI h 2000000 (Int32.toNatClampNeg (l3 + 2))), .int (mI h 2000000 (Int32.toNatClampNeg (l3 + 1))), .ref l2, .long r93])) (h' := h) rfl rfl ?_
      refine Seg.call (f1 := (1637, [.ref l0, .ref l1, .ref l2, .int l3], [.int 0, .int (mI h 2000000 (Int32.toNatClampNeg (l3 + 3))), .int (mI h 2000000 (Int32.toNatClampNeg (l3 + 2))), .int (mI h 2000000 (Int32.toNatClampNeg (l3 + 1))), .ref l2, .long r93])) (h1 := h) (cv := fun r => some (.long r)) rfl rfl rfl rfl (s292 h l2 (mI h 2000000 (Int32.toNatClampNeg (l3 + 1))) (mI h 2000000 (Int32.toNatClampNeg (l3 + 2))) (mI h 2000000 (Int32.toNatClampNeg (l3 + 3))) 0) (fun r94 => ?_)
      refine Seg.blk0 (f' := (if ((lg_cmp r93 r94.1) : Int32) = 0 then 1887 else 1644, [.ref l0, .ref l1, .ref l2, .int l3], [])) (h' := r94.2) rfl rfl ?_
      refine Seg.ite (fun _ => ?_) (fun _ => ?_)
      · exact Seg.w (mLw.k (mLw.k (mLw.k (mLw.k mLw.nil)))) (s302_1887 r94.2 l0 l1 l2 l3)
      · refine Seg.x ?_
        exact Seg.ret (f1 := (1645, [.ref l0, .ref l1, .ref l2, .int l3], [.int 0])) (h1 := r94.2) rfl rfl rfl rfl (fun _ q => q)
    · refine Seg.blk0 (f' := (1637, [.ref l0, .ref l1, .ref l2, .int l3], [.int 1, .int (mI h 2000000 (Int32.toNatClampNeg (l3 + 3))), .int (mI h 2000000 (Int32.toNatClampNeg (l3 + 2))), .int (mI h 2000000 (Int32.toNatClampNeg (l3 + 1))), .ref l2, .long r93])) (h' := h) rfl rfl ?_
      refine Seg.call (f1 := (1637, [.ref l0, .ref l1, .ref l2, .int l3], [.int 1, .int (mI h 2000000 (Int32.toNatClampNeg (l3 + 3))), .int (mI h 2000000 (Int32.toNatClampNeg (l3 + 2))), .int (mI h 2000000 (Int32.toNatClampNeg (l3 + 1))), .ref l2, .long r93])) (h1 := h) (cv := fun r => some (.long r)) rfl rfl rfl rfl (s292 h l2 (mI h 2000000 (Int32.toNatClampNeg (l3 + 1))) (mI h 2000000 (Int32.toNatClampNeg (l3 + 2))) (mI h 2000000 (Int32.toNatClampNeg (l3 + 3))) 1) (fun r95 => ?_)
      refine Seg.blk0 (f' := (if ((lg_cmp r93 r95.1) : Int32) = 0 then 1887 else 1644, [.ref l0, .ref l1, .ref l2, .int l3], [])) (h' := r95.2) rfl rfl ?_
      refine Seg.ite (fun _ => ?_) (fun _ => ?_)
      · exact Seg.w (mLw.k (mLw.k (mLw.k (mLw.k mLw.nil)))) (s302_1887 r95.2 l0 l1 l2 l3)
      · refine Seg.x ?_
        exact Seg.ret (f1 := (1645, [.ref l0, .ref l1, .ref l2, .int l3], [.int 0])) (h1 := r95.2) rfl rfl rfl rfl (fun _ q => q)
  · refine Seg.blk0 (f' := (1605, [.ref l0, .ref l1, .ref l2, .int l3], [.int 1, .int (mI h 2000000 (Int32.toNatClampNeg (l3 + 3))), .int (mI h 2000000 (Int32.toNatClampNeg (l3 + 2))), .int (mI h 2000000 (Int32.toNatClampNeg (l3 + 1))), .ref l1])) (h' := h) rfl rfl ?_
    refine Seg.callP (f1 := (1605, [.ref l0, .ref l1, .ref l2, .int l3], [.int 1, .int (mI h 2000000 (Int32.toNatClampNeg (l3 + 3))), .int (mI h 2000000 (Int32.toNatClampNeg (l3 + 2))), .int (mI h 2000000 (Int32.toNatClampNeg (l3 + 1))), .ref l1])) (h1 := h) (cv := fun r => some (.long r)) rfl rfl rfl rfl (s164 h l1 (mI h 2000000 (Int32.toNatClampNeg (l3 + 1))) (mI h 2000000 (Int32.toNatClampNeg (l3 + 2))) (mI h 2000000 (Int32.toNatClampNeg (l3 + 3))) 1) (fun r96 => ?_)
    refine Seg.blk (f' := (if ((mI h 2000000 (Int32.toNatClampNeg (l3 + 4))) : Int32) = 0 then 1636 else 1632, [.ref l0, .ref l1, .ref l2, .int l3], [.int (mI h 2000000 (Int32.toNatClampNeg (l3 + 3))), .int (mI h 2000000 (Int32.toNatClampNeg (l3 + 2))), .int (mI h 2000000 (Int32.toNatClampNeg (l3 + 1))), .ref l2, .long r96])) (h' := h) rfl rfl ?_
    refine Seg.ite (fun _ => ?_) (fun _ => ?_)
    · refine Seg.blk0 (f' := (1637, [.ref l0, .ref l1, .ref l2, .int l3], [.int 0, .int (mI h 2000000 (Int32.toNatClampNeg (l3 + 3))), .int (mI h 2000000 (Int32.toNatClampNeg (l3 + 2))), .int (mI h 2000000 (Int32.toNatClampNeg (l3 + 1))), .ref l2, .long r96])) (h' := h) rfl rfl ?_
      refine Seg.call (f1 := (1637, [.ref l0, .ref l1, .ref l2, .int l3], [.int 0, .int (mI h 2000000 (Int32.toNatClampNeg (l3 + 3))), .int (mI h 2000000 (Int32.toNatClampNeg (l3 + 2))), .int (mI h 2000000 (Int32.toNatClampNeg (l3 + 1))), .ref l2, .long r96])) (h1 := h) (cv := fun r => some (.long r)) rfl rfl rfl rfl (s292 h l2 (mI h 2000000 (Int32.toNatClampNeg (l3 + 1))) (mI h 2000000 (Int32.toNatClampNeg (l3 + 2))) (mI h 2000000 (Int32.toNatClampNeg (l3 + 3))) 0) (fun r97 => ?_)
      refine Seg.blk0 (f' := (if ((lg_cmp r96 r97.1) : Int32) = 0 then 1887 else 1644, [.ref l0, .ref l1, .ref l2, .int l3], [])) (h' := r97.2) rfl rfl ?_
      refine Seg.ite (fun _ => ?_) (fun _ => ?_)
      · exact Seg.w (mLw.k (mLw.k (mLw.k (mLw.k mLw.nil)))) (s302_1887 r97.2 l0 l1 l2 l3)
      · refine Seg.x ?_
        exact Seg.ret (f1 := (1645, [.ref l0, .ref l1, .ref l2, .int l3], [.int 0])) (h1 := r97.2) rfl rfl rfl rfl (fun _ q => q)
    · refine Seg.blk0 (f' := (1637, [.ref l0, .ref l1, .ref l2, .int l3], [.int 1, .int (mI h 2000000 (Int32.toNatClampNeg (l3 + 3))), .int (mI h 2000000 (Int32.toNatClampNeg (l3 + 2))), .int (mI h 2000000 (Int32.toNatClampNeg (l3 + 1))), .ref l2, .long r96])) (h' := h) rfl rfl ?_
      refine Seg.call (f1 := (1637, [.ref l0, .ref l1, .ref l2, .int l3], [.int 1, .int (mI h 2000000 (Int32.toNatClampNeg (l3 + 3))), .int (mI h 2000000 (Int32.toNatClampNeg (l3 + 2))), .int (mI h 2000000 (Int32.toNatClampNeg (l3 + 1))), .ref l2, .long r96])) (h1 := h) (cv := fun r => some (.long r)) rfl rfl rfl rfl (s292 h l2 (mI h 2000000 (Int32.toNatClampNeg (l3 + 1))) (mI h 2000000 (Int32.toNatClampNeg (l3 + 2))) (mI h 2000000 (Int32.toNatClampNeg (l3 + 3))) 1) (fun r98 => ?_)
      refine Seg.blk0 (f' := (if ((lg_cmp r96 r98.1) : Int32) = 0 then 1887 else 1644, [.ref l0, .ref l1, .ref l2, .int l3], [])) (h' := r98.2) rfl rfl ?_
      refine Seg.ite (fun _ => ?_) (fun _ => ?_)
      · exact Seg.w (mLw.k (mLw.k (mLw.k (mLw.k mLw.nil)))) (s302_1887 r98.2 l0 l1 l2 l3)
      · refine Seg.x ?_
        exact Seg.ret (f1 := (1645, [.ref l0, .ref l1, .ref l2, .int l3], [.int 0])) (h1 := r98.2) rfl rfl rfl rfl (fun _ q => q)
theorem s302_1646 (h : mH) (l0 : Nat) (l1 : Nat) (l2 : Nat) (l3 : Int32) : Seg 302 (1646, [.ref l0, .ref l1, .ref l2, .int l3], []) h (f302_1646 h l0 l1 l2 l3) (Sum.elim (fun s : (Int32 × mH) => Ev 302 (18, [.ref l0, .ref l1, .ref l2, .int s.1], []) s.2) (fun (q : Int32 × mH) (res : Option Value × mH) => res = (some (.int q.1), q.2))) := by
  unfold f302_1646
  refine Seg.call (f1 := (1662, [.ref l0, .ref l1, .ref l2, .int l3], [.int (mI h 2000000 (Int32.toNatClampNeg (l3 + 3))), .int (mI h 2000000 (Int32.toNatClampNeg (l3 + 2))), .int (mI h 2000000 (Int32.toNatClampNeg (l3 + 1))), .ref l1])) (h1 := h) (cv := fun r => some (.int r)) rfl rfl rfl rfl (s165 h l1 (mI h 2000000 (Int32.toNatClampNeg (l3 + 1))) (mI h 2000000 (Int32.toNatClampNeg (l3 + 2))) (mI h 2000000 (Int32.toNatClampNeg (l3 + 3)))) (fun r99 => ?_)
  refine Seg.call (f1 := (1681, [.ref l0, .ref l1, .ref l2, .int l3], [.int (mI r99.2 2000000 (Int32.toNatClampNeg (l3 + 3))), .int (mI r99.2 2000000 (Int32.toNatClampNeg (l3 + 2))), .int (mI r99.2 2000000 (Int32.toNatClampNeg (l3 + 1))), .ref l2, .int r99.1])) (h1 := r99.2) (cv := fun r => some (.int r)) rfl rfl rfl rfl (s293 r99.2 l2 (mI r99.2 2000000 (Int32.toNatClampNeg (l3 + 1))) (mI r99.2 2000000 (Int32.toNatClampNeg (l3 + 2))) (mI r99.2 2000000 (Int32.toNatClampNeg (l3 + 3)))) (fun r100 => ?_)
  refine Seg.blk0 (f' := (if (r99.1 : Int32) = r100.1 then 1887 else 1687, [.ref l0, .ref l1, .ref l2, .int l3], [])) (h' := r100.2) rfl rfl ?_
  refine Seg.ite (fun _ => ?_) (fun _ => ?_)
  · exact Seg.w (mLw.k (mLw.k (mLw.k (mLw.k mLw.nil)))) (s302_1887 r100.2 l0 l1 l2 l3)
  · refine Seg.x ?_
    exact Seg.ret (f1 := (1688, [.ref l0, .ref l1, .ref l2, .int l3], [.int 0])) (h1 := r100.2) rfl rfl rfl rfl (fun _ q => q)
theorem s302_1689 (h : mH) (l0 : Nat) (l1 : Nat) (l2 : Nat) (l3 : Int32) : Seg 302 (1689, [.ref l0, .ref l1, .ref l2, .int l3], []) h (f302_1689 h l0 l1 l2 l3) (Sum.elim (fun s : (Int32 × mH) => Ev 302 (18, [.ref l0, .ref l1, .ref l2, .int s.1], []) s.2) (fun (q : Int32 × mH) (res : Option Value × mH) => res = (some (.int q.1), q.2))) := by
  unfold f302_1689
  refine Seg.blk (f' := (if ((mI h 2000000 (Int32.toNatClampNeg (l3 + 4))) : Int32) = 0 then 1717 else 1713, [.ref l0, .ref l1, .ref l2, .int l3], [.int (mI h 2000000 (Int32.toNatClampNeg (l3 + 3))), .int (mI h 2000000 (Int32.toNatClampNeg (l3 + 2))), .int (mI h 2000000 (Int32.toNatClampNeg (l3 + 1))), .ref l1])) (h' := h) rfl rfl ?_
  refine Seg.ite (fun _ => ?_) (fun _ => ?_)
  · refine Seg.blk0 (f' := (1718, [.ref l0, .ref l1, .ref l2, .int l3], [.int 0, .int (mI h 2000000 (Int32.toNatClampNeg (l3 + 3))), .int (mI h 2000000 (Int32.toNatClampNeg (l3 + 2))), .int (mI h 2000000 (Int32.toNatClampNeg (l3 + 1))), .ref l1])) (h' := h) rfl rfl ?_
    refine Seg.call (f1 := (1718, [.ref l0, .ref l1, .ref l2, .int l3], [.int 0, .int (mI h 2000000 (Int32.toNatClampNeg (l3 + 3))), .int (mI h 2000000 (Int32.toNatClampNeg (l3 + 2))), .int (mI h 2000000 (Int32.toNatClampNeg (l3 + 1))), .ref l1])) (h1 := h) (cv := fun r => some (.long r)) rfl rfl rfl rfl (s167 h l1 (mI h 2000000 (Int32.toNatClampNeg (l3 + 1))) (mI h 2000000 (Int32.toNatClampNeg (l3 + 2))) (mI h 2000000 (Int32.toNatClampNeg (l3 + 3))) 0) (fun r101 => ?_)
    refine Seg.blk (f' := (if ((mI r101.2 2000000 (Int32.toNatClampNeg (l3 + 4))) : Int32) = 0 then 1749 else 1745, [.ref l0, .ref l1, .ref l2, .int l3], [.int (mI r101.2 2000000 (Int32.toNatClampNeg (l3 + 3))), .int (mI r101.2 2000000 (Int32.toNatClampNeg (l3 + 2))), .int (mI r101.2 2000000 (Int32.toNatClampNeg (l3 + 1))), .ref l2, .long r101.1])) (h' := r101.2) rfl rfl ?_
    refine Seg.ite (fun _ => ?_) (fun _ => ?_)
    · refine Seg.blk0 (f' := (1750, [.ref l0, .ref l1, .ref l2, .int l3], [.int 0, .int (mI r101.2 2000000 (Int32.toNatClampNeg (l3 + 3))), .int (mI r101.2 2000000 (Int32.toNatClampNeg (l3 + 2))), .int (mI r101.2 2000000 (Int32.toNatClampNeg (l3 + 1))), .ref l2, .long r101.1])) (h' := r101.2) rfl rfl ?_
      refine Seg.call (f1 := (1750, [.ref l0, .ref l1, .ref l2, .int l3], [.int 0, .int (mI r101.2 2000000 (Int32.toNatClampNeg (l3 + 3))), .int (mI r101.2 2000000 (Int32.toNatClampNeg (l3 + 2))), .int (mI r101.2 2000000 (Int32.toNatClampNeg (l3 + 1))), .ref l2, .long r101.1])) (h1 := r101.2) (cv := fun r => some (.long r)) rfl rfl rfl rfl (s295 r101.2 l2 (mI r101.2 2000000 (Int32.toNatClampNeg (l3 + 1))) (mI r101.2 2000000 (Int32.toNatClampNeg (l3 + 2))) (mI r101.2 2000000 (Int32.toNatClampNeg (l3 + 3))) 0) (fun r102 => ?_)
      refine Seg.blk0 (f' := (if ((lg_cmp r101.1 r102.1) : Int32) = 0 then 1887 else 1757, [.ref l0, .ref l1, .ref l2, .int l3], [])) (h' := r102.2) rfl rfl ?_
      refine Seg.ite (fun _ => ?_) (fun _ => ?_)
      · exact Seg.w (mLw.k (mLw.k (mLw.k (mLw.k mLw.nil)))) (s302_1887 r102.2 l0 l1 l2 l3)
      · refine Seg.x ?_
        exact Seg.ret (f1 := (1758, [.ref l0, .ref l1, .ref l2, .int l3], [.int 0])) (h1 := r102.2) rfl rfl rfl rfl (fun _ q => q)
    · refine Seg.blk0 (f' := (1750, [.ref l0, .ref l1, .ref l2, .int l3], [.int 1, .int (mI r101.2 2000000 (Int32.toNatClampNeg (l3 + 3))), .int (mI r101.2 2000000 (Int32.toNatClampNeg (l3 + 2))), .int (mI r101.2 2000000 (Int32.toNatClampNeg (l3 + 1))), .ref l2, .long r101.1])) (h' := r101.2) rfl rfl ?_
      refine Seg.call (f1 := (1750, [.ref l0, .ref l1, .ref l2, .int l3], [.int 1, .int (mI r101.2 2000000 (Int32.toNatClampNeg (l3 + 3))), .int (mI r101.2 2000000 (Int32.toNatClampNeg (l3 + 2))), .int (mI r101.2 2000000 (Int32.toNatClampNeg (l3 + 1))), .ref l2, .long r101.1])) (h1 := r101.2) (cv := fun r => some (.long r)) rfl rfl rfl rfl (s295 r101.2 l2 (mI r101.2 2000000 (Int32.toNatClampNeg (l3 + 1))) (mI r101.2 2000000 (Int32.toNatClampNeg (l3 + 2))) (mI r101.2 2000000 (Int32.toNatClampNeg (l3 + 3))) 1) (fun r103 => ?_)
      refine Seg.blk0 (f' := (if ((lg_cmp r101.1 r103.1) : Int32) = 0 then 1887 else 1757, [.ref l0, .ref l1, .ref l2, .int l3], [])) (h' := r103.2) rfl rfl ?_
      refine Seg.ite (fun _ => ?_) (fun _ => ?_)
      · exact Seg.w (mLw.k (mLw.k (mLw.k (mLw.k mLw.nil)))) (s302_1887 r103.2 l0 l1 l2 l3)
      · refine Seg.x ?_
        exact Seg.ret (f1 := (1758, [.ref l0, .ref l1, .ref l2, .int l3], [.int 0])) (h1 := r103.2) rfl rfl rfl rfl (fun _ q => q)
  · refine Seg.blk0 (f' := (1718, [.ref l0, .ref l1, .ref l2, .int l3], [.int 1, .int (mI h 2000000 (Int32.toNatClampNeg (l3 + 3))), .int (mI h 2000000 (Int32.toNatClampNeg (l3 + 2))), .int (mI h 2000000 (Int32.toNatClampNeg (l3 + 1))), .ref l1])) (h' := h) rfl rfl ?_
    refine Seg.call (f1 := (1718, [.ref l0, .ref l1, .ref l2, .int l3], [.int 1, .int (mI h 2000000 (Int32.toNatClampNeg (l3 + 3))), .int (mI h 2000000 (Int32.toNatClampNeg (l3 + 2))), .int (mI h 2000000 (Int32.toNatClampNeg (l3 + 1))), .ref l1])) (h1 := h) (cv := fun r => some (.long r)) rfl rfl rfl rfl (s167 h l1 (mI h 2000000 (Int32.toNatClampNeg (l3 + 1))) (mI h 2000000 (Int32.toNatClampNeg (l3 + 2))) (mI h 2000000 (Int32.toNatClampNeg (l3 + 3))) 1) (fun r104 => ?_)
    refine Seg.blk (f' := (if ((mI r104.2 2000000 (Int32.toNatClampNeg (l3 + 4))) : Int32) = 0 then 1749 else 1745, [.ref l0, .ref l1, .ref l2, .int l3], [.int (mI r104.2 2000000 (Int32.toNatClampNeg (l3 + 3))), .int (mI r104.2 2000000 (Int32.toNatClampNeg (l3 + 2))), .int (mI r104.2 2000000 (Int32.toNatClampNeg (l3 + 1))), .ref l2, .long r104.1])) (h' := r104.2) rfl rfl ?_
    refine Seg.ite (fun _ => ?_) (fun _ => ?_)
    · refine Seg.blk0 (f' := (1750, [.ref l0, .ref l1, .ref l2, .int l3], [.int 0, .int (mI r104.2 2000000 (Int32.toNatClampNeg (l3 + 3))), .int (mI r104.2 2000000 (Int32.toNatClampNeg (l3 + 2))), .int (mI r104.2 2000000 (Int32.toNatClampNeg (l3 + 1))), .ref l2, .long r104.1])) (h' := r104.2) rfl rfl ?_
      refine Seg.call (f1 := (1750, [.ref l0, .ref l1, .ref l2, .int l3], [.int 0, .int (mI r104.2 2000000 (Int32.toNatClampNeg (l3 + 3))), .int (mI r104.2 2000000 (Int32.toNatClampNeg (l3 + 2))), .int (mI r104.2 2000000 (Int32.toNatClampNeg (l3 + 1))), .ref l2, .long r104.1])) (h1 := r104.2) (cv := fun r => some (.long r)) rfl rfl rfl rfl (s295 r104.2 l2 (mI r104.2 2000000 (Int32.toNatClampNeg (l3 + 1))) (mI r104.2 2000000 (Int32.toNatClampNeg (l3 + 2))) (mI r104.2 2000000 (Int32.toNatClampNeg (l3 + 3))) 0) (fun r105 => ?_)
      refine Seg.blk0 (f' := (if ((lg_cmp r104.1 r105.1) : Int32) = 0 then 1887 else 1757, [.ref l0, .ref l1, .ref l2, .int l3], [])) (h' := r105.2) rfl rfl ?_
      refine Seg.ite (fun _ => ?_) (fun _ => ?_)
      · exact Seg.w (mLw.k (mLw.k (mLw.k (mLw.k mLw.nil)))) (s302_1887 r105.2 l0 l1 l2 l3)
      · refine Seg.x ?_
        exact Seg.ret (f1 := (1758, [.ref l0, .ref l1, .ref l2, .int l3], [.int 0])) (h1 := r105.2) rfl rfl rfl rfl (fun _ q => q)
    · refine Seg.blk0 (f' := (1750, [.ref l0, .ref l1, .ref l2, .int l3], [.int 1, .int (mI r104.2 2000000 (Int32.toNatClampNeg (l3 + 3))), .int (mI r104.2 2000000 (Int32.toNatClampNeg (l3 + 2))), .int (mI r104.2 2000000 (Int32.toNatClampNeg (l3 + 1))), .ref l2, .long r104.1])) (h' := r104.2) rfl rfl ?_
      refine Seg.call (f1 := (1750, [.ref l0, .ref l1, .ref l2, .int l3], [.int 1, .int (mI r104.2 2000000 (Int32.toNatClampNeg (l3 + 3))), .int (mI r104.2 2000000 (Int32.toNatClampNeg (l3 + 2))), .int (mI r104.2 2000000 (Int32.toNatClampNeg (l3 + 1))), .ref l2, .long r104.1])) (h1 := r104.2) (cv := fun r => some (.long r)) rfl rfl rfl rfl (s295 r104.2 l2 (mI r104.2 2000000 (Int32.toNatClampNeg (l3 + 1))) (mI r104.2 2000000 (Int32.toNatClampNeg (l3 + 2))) (mI r104.2 2000000 (Int32.toNatClampNeg (l3 + 3))) 1) (fun r106 => ?_)
      refine Seg.blk0 (f' := (if ((lg_cmp r104.1 r106.1) : Int32) = 0 then 1887 else 1757, [.ref l0, .ref l1, .ref l2, .int l3], [])) (h' := r106.2) rfl rfl ?_
      refine Seg.ite (fun _ => ?_) (fun _ => ?_)
      · exact Seg.w (mLw.k (mLw.k (mLw.k (mLw.k mLw.nil)))) (s302_1887 r106.2 l0 l1 l2 l3)
      · refine Seg.x ?_
        exact Seg.ret (f1 := (1758, [.ref l0, .ref l1, .ref l2, .int l3], [.int 0])) (h1 := r106.2) rfl rfl rfl rfl (fun _ q => q)
theorem s302_1759 (h : mH) (l0 : Nat) (l1 : Nat) (l2 : Nat) (l3 : Int32) : Seg 302 (1759, [.ref l0, .ref l1, .ref l2, .int l3], []) h (f302_1759 h l0 l1 l2 l3) (Sum.elim (fun s : (Int32 × mH) => Ev 302 (18, [.ref l0, .ref l1, .ref l2, .int s.1], []) s.2) (fun (q : Int32 × mH) (res : Option Value × mH) => res = (some (.int q.1), q.2))) := by
  unfold f302_1759
  refine Seg.blk (f' := (if ((mI h 2000000 (Int32.toNatClampNeg (l3 + 3))) : Int32) = 0 then 1782 else 1778, [.ref l0, .ref l1, .ref l2, .int l3], [.int (mI h 2000000 (Int32.toNatClampNeg (l3 + 2))), .int (mI h 2000000 (Int32.toNatClampNeg (l3 + 1))), .ref l1])) (h' := h) rfl rfl ?_
  refine Seg.ite (fun _ => ?_) (fun _ => ?_)
  · refine Seg.blk0 (f' := (1783, [.ref l0, .ref l1, .ref l2, .int l3], [.int 0, .int (mI h 2000000 (Int32.toNatClampNeg (l3 + 2))), .int (mI h 2000000 (Int32.toNatClampNeg (l3 + 1))), .ref l1])) (h' := h) rfl rfl ?_
    refine Seg.call (f1 := (1783, [.ref l0, .ref l1, .ref l2, .int l3], [.int 0, .int (mI h 2000000 (Int32.toNatClampNeg (l3 + 2))), .int (mI h 2000000 (Int32.toNatClampNeg (l3 + 1))), .ref l1])) (h1 := h) (cv := fun r => some (.int r)) rfl rfl rfl rfl (s168 h l1 (mI h 2000000 (Int32.toNatClampNeg (l3 + 1))) (mI h 2000000 (Int32.toNatClampNeg (l3 + 2))) 0) (fun r107 => ?_)
    refine Seg.blk (f' := (if ((mI r107.2 2000000 (Int32.toNatClampNeg (l3 + 3))) : Int32) = 0 then 1809 else 1805, [.ref l0, .ref l1, .ref l2, .int l3], [.int (mI r107.2 2000000 (Int32.toNatClampNeg (l3 + 2))), .int (mI r107.2 2000000 (Int32.toNatClampNeg (l3 + 1))), .ref l2, .int r107.1])) (h' := r107.2) rfl rfl ?_
    refine Seg.ite (fun _ => ?_) (fun _ => ?_)
    · refine Seg.blk0 (f' := (1810, [.ref l0, .ref l1, .ref l2, .int l3], [.int 0, .int (mI r107.2 2000000 (Int32.toNatClampNeg (l3 + 2))), .int (mI r107.2 2000000 (Int32.toNatClampNeg (l3 + 1))), .ref l2, .int r107.1])) (h' := r107.2) rfl rfl ?_
      refine Seg.call (f1 := (1810, [.ref l0, .ref l1, .ref l2, .int l3], [.int 0, .int (mI r107.2 2000000 (Int32.toNatClampNeg (l3 + 2))), .int (mI r107.2 2000000 (Int32.toNatClampNeg (l3 + 1))), .ref l2, .int r107.1])) (h1 := r107.2) (cv := fun r => some (.int r)) rfl rfl rfl rfl (s296 r107.2 l2 (mI r107.2 2000000 (Int32.toNatClampNeg (l3 + 1))) (mI r107.2 2000000 (Int32.toNatClampNeg (l3 + 2))) 0) (fun r108 => ?_)
      refine Seg.blk0 (f' := (if (r107.1 : Int32) = r108.1 then 1887 else 1816, [.ref l0, .ref l1, .ref l2, .int l3], [])) (h' := r108.2) rfl rfl ?_
      refine Seg.ite (fun _ => ?_) (fun _ => ?_)
      · exact Seg.w (mLw.k (mLw.k (mLw.k (mLw.k mLw.nil)))) (s302_1887 r108.2 l0 l1 l2 l3)
      · refine Seg.x ?_
        exact Seg.ret (f1 := (1817, [.ref l0, .ref l1, .ref l2, .int l3], [.int 0])) (h1 := r108.2) rfl rfl rfl rfl (fun _ q => q)
    · refine Seg.blk0 (f' := (1810, [.ref l0, .ref l1, .ref l2, .int l3], [.int 1, .int (mI r107.2 2000000 (Int32.toNatClampNeg (l3 + 2))), .int (mI r107.2 2000000 (Int32.toNatClampNeg (l3 + 1))), .ref l2, .int r107.1])) (h' := r107.2) rfl rfl ?_
      refine Seg.call (f1 := (1810, [.ref l0, .ref l1, .ref l2, .int l3], [.int 1, .int (mI r107.2 2000000 (Int32.toNatClampNeg (l3 + 2))), .int (mI r107.2 2000000 (Int32.toNatClampNeg (l3 + 1))), .ref l2, .int r107.1])) (h1 := r107.2) (cv := fun r => some (.int r)) rfl rfl rfl rfl (s296 r107.2 l2 (mI r107.2 2000000 (Int32.toNatClampNeg (l3 + 1))) (mI r107.2 2000000 (Int32.toNatClampNeg (l3 + 2))) 1) (fun r109 => ?_)
      refine Seg.blk0 (f' := (if (r107.1 : Int32) = r109.1 then 1887 else 1816, [.ref l0, .ref l1, .ref l2, .int l3], [])) (h' := r109.2) rfl rfl ?_
      refine Seg.ite (fun _ => ?_) (fun _ => ?_)
      · exact Seg.w (mLw.k (mLw.k (mLw.k (mLw.k mLw.nil)))) (s302_1887 r109.2 l0 l1 l2 l3)
      · refine Seg.x ?_
        exact Seg.ret (f1 := (1817, [.ref l0, .ref l1, .ref l2, .int l3], [.int 0])) (h1 := r109.2) rfl rfl rfl rfl (fun _ q => q)
  · refine Seg.blk0 (f' := (1783, [.ref l0, .ref l1, .ref l2, .int l3], [.int 1, .int (mI h 2000000 (Int32.toNatClampNeg (l3 + 2))), .int (mI h 2000000 (Int32.toNatClampNeg (l3 + 1))), .ref l1])) (h' := h) rfl rfl ?_
    refine Seg.call (f1 := (1783, [.ref l0, .ref l1, .ref l2, .int l3], [.int 1, .int (mI h 2000000 (Int32.toNatClampNeg (l3 + 2))), .int (mI h 2000000 (Int32.toNatClampNeg (l3 + 1))), .ref l1])) (h1 := h) (cv := fun r => some (.int r)) rfl rfl rfl rfl (s168 h l1 (mI h 2000000 (Int32.toNatClampNeg (l3 + 1))) (mI h 2000000 (Int32.toNatClampNeg (l3 + 2))) 1) (fun r110 => ?_)
    refine Seg.blk (f' := (if ((mI r110.2 2000000 (Int32.toNatClampNeg (l3 + 3))) : Int32) = 0 then 1809 else 1805, [.ref l0, .ref l1, .ref l2, .int l3], [.int (mI r110.2 2000000 (Int32.toNatClampNeg (l3 + 2))), .int (mI r110.2 2000000 (Int32.toNatClampNeg (l3 + 1))), .ref l2, .int r110.1])) (h' := r110.2) rfl rfl ?_
    refine Seg.ite (fun _ => ?_) (fun _ => ?_)
    · refine Seg.blk0 (f' := (1810, [.ref l0, .ref l1, .ref l2, .int l3], [.int 0, .int (mI r110.2 2000000 (Int32.toNatClampNeg (l3 + 2))), .int (mI r110.2 2000000 (Int32.toNatClampNeg (l3 + 1))), .ref l2, .int r110.1])) (h' := r110.2) rfl rfl ?_
      refine Seg.call (f1 := (1810, [.ref l0, .ref l1, .ref l2, .int l3], [.int 0, .int (mI r110.2 2000000 (Int32.toNatClampNeg (l3 + 2))), .int (mI r110.2 2000000 (Int32.toNatClampNeg (l3 + 1))), .ref l2, .int r110.1])) (h1 := r110.2) (cv := fun r => some (.int r)) rfl rfl rfl rfl (s296 r110.2 l2 (mI r110.2 2000000 (Int32.toNatClampNeg (l3 + 1))) (mI r110.2 2000000 (Int32.toNatClampNeg (l3 + 2))) 0) (fun r111 => ?_)
      refine Seg.blk0 (f' := (if (r110.1 : Int32) = r111.1 then 1887 else 1816, [.ref l0, .ref l1, .ref l2, .int l3], [])) (h' := r111.2) rfl rfl ?_
      refine Seg.ite (fun _ => ?_) (fun _ => ?_)
      · exact Seg.w (mLw.k (mLw.k (mLw.k (mLw.k mLw.nil)))) (s302_1887 r111.2 l0 l1 l2 l3)
      · refine Seg.x ?_
        exact Seg.ret (f1 := (1817, [.ref l0, .ref l1, .ref l2, .int l3], [.int 0])) (h1 := r111.2) rfl rfl rfl rfl (fun _ q => q)
    · refine Seg.blk0 (f' := (1810, [.ref l0, .ref l1, .ref l2, .int l3], [.int 1, .int (mI r110.2 2000000 (Int32.toNatClampNeg (l3 + 2))), .int (mI r110.2 2000000 (Int32.toNatClampNeg (l3 + 1))), .ref l2, .int r110.1])) (h' := r110.2) rfl rfl ?_
      refine Seg.call (f1 := (1810, [.ref l0, .ref l1, .ref l2, .int l3], [.int 1, .int (mI r110.2 2000000 (Int32.toNatClampNeg (l3 + 2))), .int (mI r110.2 2000000 (Int32.toNatClampNeg (l3 + 1))), .ref l2, .int r110.1])) (h1 := r110.2) (cv := fun r => some (.int r)) rfl rfl rfl rfl (s296 r110.2 l2 (mI r110.2 2000000 (Int32.toNatClampNeg (l3 + 1))) (mI r110.2 2000000 (Int32.toNatClampNeg (l3 + 2))) 1) (fun r112 => ?_)
      refine Seg.blk0 (f' := (if (r110.1 : Int32) = r112.1 then 1887 else 1816, [.ref l0, .ref l1, .ref l2, .int l3], [])) (h' := r112.2) rfl rfl ?_
      refine Seg.ite (fun _ => ?_) (fun _ => ?_)
      · exact Seg.w (mLw.k (mLw.k (mLw.k (mLw.k mLw.nil)))) (s302_1887 r112.2 l0 l1 l2 l3)
      · refine Seg.x ?_
        exact Seg.ret (f1 := (1817, [.ref l0, .ref l1, .ref l2, .int l3], [.int 0])) (h1 := r112.2) rfl rfl rfl rfl (fun _ q => q)
theorem s302_1818 (h : mH) (l0 : Nat) (l1 : Nat) (l2 : Nat) (l3 : Int32) : Seg 302 (1818, [.ref l0, .ref l1, .ref l2, .int l3], []) h (f302_1818 h l0 l1 l2 l3) (Sum.elim (fun s : (Int32 × mH) => Ev 302 (18, [.ref l0, .ref l1, .ref l2, .int s.1], []) s.2) (fun (q : Int32 × mH) (res : Option Value × mH) => res = (some (.int q.1), q.2))) := by
  unfold f302_1818
  refine Seg.callP (f1 := (1824, [.ref l0, .ref l1, .ref l2, .int l3], [.int (mI h 2000000 (Int32.toNatClampNeg (l3 + 1))), .ref l1])) (h1 := h) (cv := fun r => some (.int r)) rfl rfl rfl rfl (s171 h l1 (mI h 2000000 (Int32.toNatClampNeg (l3 + 1)))) (fun r113 => ?_)
  refine Seg.call (f1 := (1833, [.ref l0, .ref l1, .ref l2, .int l3], [.int (mI h 2000000 (Int32.toNatClampNeg (l3 + 1))), .ref l2, .int r113])) (h1 := h) (cv := fun r => some (.int r)) rfl rfl rfl rfl (s297 h l2 (mI h 2000000 (Int32.toNatClampNeg (l3 + 1)))) (fun r114 => ?_)
  refine Seg.blk0 (f' := (if (r113 : Int32) = r114.1 then 1887 else 1839, [.ref l0, .ref l1, .ref l2, .int l3], [])) (h' := r114.2) rfl rfl ?_
  refine Seg.ite (fun _ => ?_) (fun _ => ?_)
  · exact Seg.w (mLw.k (mLw.k (mLw.k (mLw.k mLw.nil)))) (s302_1887 r114.2 l0 l1 l2 l3)
  · refine Seg.x ?_
    exact Seg.ret (f1 := (1840, [.ref l0, .ref l1, .ref l2, .int l3], [.int 0])) (h1 := r114.2) rfl rfl rfl rfl (fun _ q => q)
theorem s302_1841 (h : mH) (l0 : Nat) (l1 : Nat) (l2 : Nat) (l3 : Int32) : Seg 302 (1841, [.ref l0, .ref l1, .ref l2, .int l3], []) h (f302_1841 h l0 l1 l2 l3) (Sum.elim (fun s : (Int32 × mH) => Ev 302 (18, [.ref l0, .ref l1, .ref l2, .int s.1], []) s.2) (fun (q : Int32 × mH) (res : Option Value × mH) => res = (some (.int q.1), q.2))) := by
  unfold f302_1841
  refine Seg.call (f1 := (1847, [.ref l0, .ref l1, .ref l2, .int l3], [.int (mI h 2000000 (Int32.toNatClampNeg (l3 + 1))), .ref l1])) (h1 := h) (cv := fun r => some (.int r)) rfl rfl rfl rfl (s172 h l1 (mI h 2000000 (Int32.toNatClampNeg (l3 + 1)))) (fun r115 => ?_)
  refine Seg.call (f1 := (1856, [.ref l0, .ref l1, .ref l2, .int l3], [.int (mI r115.2 2000000 (Int32.toNatClampNeg (l3 + 1))), .ref l2, .int r115.1])) (h1 := r115.2) (cv := fun r => some (.int r)) rfl rfl rfl rfl (s298 r115.2 l2 (mI r115.2 2000000 (Int32.toNatClampNeg (l3 + 1)))) (fun r116 => ?_)
  refine Seg.blk0 (f' := (if (r115.1 : Int32) = r116.1 then 1887 else 1862, [.ref l0, .ref l1, .ref l2, .int l3], [])) (h' := r116.2) rfl rfl ?_
  refine Seg.ite (fun _ => ?_) (fun _ => ?_)
  · exact Seg.w (mLw.k (mLw.k (mLw.k (mLw.k mLw.nil)))) (s302_1887 r116.2 l0 l1 l2 l3)
  · refine Seg.x ?_
    exact Seg.ret (f1 := (1863, [.ref l0, .ref l1, .ref l2, .int l3], [.int 0])) (h1 := r116.2) rfl rfl rfl rfl (fun _ q => q)
theorem s302_1864 (h : mH) (l0 : Nat) (l1 : Nat) (l2 : Nat) (l3 : Int32) : Seg 302 (1864, [.ref l0, .ref l1, .ref l2, .int l3], []) h (f302_1864 h l0 l1 l2 l3) (Sum.elim (fun s : (Int32 × mH) => Ev 302 (18, [.ref l0, .ref l1, .ref l2, .int s.1], []) s.2) (fun (q : Int32 × mH) (res : Option Value × mH) => res = (some (.int q.1), q.2))) := by
  unfold f302_1864
  refine Seg.call (f1 := (1870, [.ref l0, .ref l1, .ref l2, .int l3], [.int (mI h 2000000 (Int32.toNatClampNeg (l3 + 1))), .ref l1])) (h1 := h) (cv := fun r => some (.int r)) rfl rfl rfl rfl (s174 h l1 (mI h 2000000 (Int32.toNatClampNeg (l3 + 1)))) (fun r117 => ?_)
  refine Seg.call (f1 := (1879, [.ref l0, .ref l1, .ref l2, .int l3], [.int (mI r117.2 2000000 (Int32.toNatClampNeg (l3 + 1))), .ref l2, .int r117.1])) (h1 := r117.2) (cv := fun r => some (.int r)) rfl rfl rfl rfl (s301 r117.2 l2 (mI r117.2 2000000 (Int32.toNatClampNeg (l3 + 1)))) (fun r118 => ?_)
  refine Seg.blk0 (f' := (if (r117.1 : Int32) = r118.1 then 1887 else 1885, [.ref l0, .ref l1, .ref l2, .int l3], [])) (h' := r118.2) rfl rfl ?_
  refine Seg.ite (fun _ => ?_) (fun _ => ?_)
  · exact Seg.w (mLw.k (mLw.k (mLw.k (mLw.k mLw.nil)))) (s302_1887 r118.2 l0 l1 l2 l3)
  · refine Seg.x ?_
    exact Seg.ret (f1 := (1886, [.ref l0, .ref l1, .ref l2, .int l3], [.int 0])) (h1 := r118.2) rfl rfl rfl rfl (fun _ q => q)
theorem s302_18 (l0 : Nat) (l1 : Nat) (l2 : Nat) : ∀ (n : Nat) (s : (Int32 × mH)), Seg 302 (18, [.ref l0, .ref l1, .ref l2, .int s.1], []) s.2 (mLoop (f302_18 l0 l1 l2) n s) (fun (q : Int32 × mH) (res : Option Value × mH) => res = (some (.int q.1), q.2)) := by
  refine Seg.loop (F := fun s : (Int32 × mH) => (18, [.ref l0, .ref l1, .ref l2, .int s.1], [])) (H := fun s : (Int32 × mH) => s.2) (fun s => ?_)
  show Seg 302 (18, [.ref l0, .ref l1, .ref l2, .int s.1], []) s.2 _ (Sum.elim (fun s : (Int32 × mH) => Ev 302 (18, [.ref l0, .ref l1, .ref l2, .int s.1], []) s.2) (fun (q : Int32 × mH) (res : Option Value × mH) => res = (some (.int q.1), q.2)))
  unfold f302_18
  refine Seg.blk (f' := (if (((mI s.2 2000001 0) - 6) : Int32) < s.1 then 1893 else 27, [.ref l0, .ref l1, .ref l2, .int s.1], [])) (h' := s.2) rfl rfl ?_
  refine Seg.ite (fun _ => ?_) (fun _ => ?_)
  · refine Seg.x ?_
    exact Seg.ret (f1 := (1894, [.ref l0, .ref l1, .ref l2, .int s.1], [.int 1])) (h1 := s.2) rfl rfl rfl rfl (fun _ q => q)
  · refine Seg.blk (f' := (if (((mI s.2 2000000 (Int32.toNatClampNeg s.1)) &&& 63) : Int32) = 0 then 196 else if (((mI s.2 2000000 (Int32.toNatClampNeg s.1)) &&& 63) : Int32) = 1 then 259 else if (((mI s.2 2000000 (Int32.toNatClampNeg s.1)) &&& 63) : Int32) = 2 then 282 else if (((mI s.2 2000000 (Int32.toNatClampNeg s.1)) &&& 63) : Int32) = 3 then 315 else if (((mI s.2 2000000 (Int32.toNatClampNeg s.1)) &&& 63) : Int32) = 4 then 338 else if (((mI s.2 2000000 (Int32.toNatClampNeg s.1)) &&& 63) : Int32) = 5 then 371 else if (((mI s.2 2000000 (Int32.toNatClampNeg s.1)) &&& 63) : Int32) = 6 then 414 else if (((mI s.2 2000000 (Int32.toNatClampNeg s.1)) &&& 63) : Int32) = 7 then 447 else if (((mI s.2 2000000 (Int32.toNatClampNeg s.1)) &&& 63) : Int32) = 8 then 500 else if (((mI s.2 2000000 (Int32.toNatClampNeg s.1)) &&& 63) : Int32) = 9 then 543 else if (((mI s.2 2000000 (Int32.toNatClampNeg s.1)) &&& 63) : Int32) = 10 then 596 else if (((mI s.2 2000000 (Int32.toNatClampNeg s.1)) &&& 63) : Int32) = 11 then 655 else if (((mI s.2 2000000 (Int32.toNatClampNeg s.1)) &&& 63) : Int32) = 12 then 698 else if (((mI s.2 2000000 (Int32.toNatClampNeg s.1)) &&& 63) : Int32) = 13 then 757 else if (((mI s.2 2000000 (Int32.toNatClampNeg s.1)) &&& 63) : Int32) = 14 then 816 else if (((mI s.2 2000000 (Int32.toNatClampNeg s.1)) &&& 63) : Int32) = 15 then 896 else if (((mI s.2 2000000 (Int32.toNatClampNeg s.1)) &&& 63) : Int32) = 16 then 939 else if (((mI s.2 2000000 (Int32.toNatClampNeg s.1)) &&& 63) : Int32) = 17 then 982 else if (((mI s.2 2000000 (Int32.toNatClampNeg s.1)) &&& 63) : Int32) = 18 then 1035 else if (((mI s.2 2000000 (Int32.toNatClampNeg s.1)) &&& 63) : Int32) = 19 then 1068 else if (((mI s.2 2000000 (Int32.toNatClampNeg s.1)) &&& 63) : Int32) = 20 then 1111 else if (((mI s.2 2000000 (Int32.toNatClampNeg s.1)) &&& 63) : Int32) = 21 then 1164 else if (((mI s.2 2000000 (Int32.toNatClampNeg s.1)) &&& 63) : Int32) = 22 then 1207 else if (((mI s.2 2000000 (Int32.toNatClampNeg s.1)) &&& 63) : Int32) = 23 then 1240 else if (((mI s.2 2000000 (Int32.toNatClampNeg s.1)) &&& 63) : Int32) = 24 then 1273 else if (((mI s.2 2000000 (Int32.toNatClampNeg s.1)) &&& 63) : Int32) = 25 then 1322 else if (((mI s.2 2000000 (Int32.toNatClampNeg s.1)) &&& 63) : Int32) = 26 then 1382 else if (((mI s.2 2000000 (Int32.toNatClampNeg s.1)) &&& 63) : Int32) = 27 then 1425 else if (((mI s.2 2000000 (Int32.toNatClampNeg s.1)) &&& 63) : Int32) = 28 then 1468 else if (((mI s.2 2000000 (Int32.toNatClampNeg s.1)) &&& 63) : Int32) = 29 then 1517 else if (((mI s.2 2000000 (Int32.toNatClampNeg s.1)) &&& 63) : Int32) = 30 then 1576 else if (((mI s.2 2000000 (Int32.toNatClampNeg s.1)) &&& 63) : Int32) = 31 then 1646 else if (((mI s.2 2000000 (Int32.toNatClampNeg s.1)) &&& 63) : Int32) = 32 then 1689 else if (((mI s.2 2000000 (Int32.toNatClampNeg s.1)) &&& 63) : Int32) = 33 then 1759 else if (((mI s.2 2000000 (Int32.toNatClampNeg s.1)) &&& 63) : Int32) = 34 then 1818 else if (((mI s.2 2000000 (Int32.toNatClampNeg s.1)) &&& 63) : Int32) = 35 then 1841 else if (((mI s.2 2000000 (Int32.toNatClampNeg s.1)) &&& 63) : Int32) = 36 then 1864 else 1887, [.ref l0, .ref l1, .ref l2, .int s.1], [])) (h' := s.2) rfl rfl ?_
    refine Seg.ite (fun _ => ?_) (fun _ => ?_)
    · exact Seg.w (mLw.k (mLw.k (mLw.k (mLw.k mLw.nil)))) (s302_196 s.2 l0 l1 l2 s.1)
    refine Seg.ite (fun _ => ?_) (fun _ => ?_)
    · exact Seg.w (mLw.k (mLw.k (mLw.k (mLw.k mLw.nil)))) (s302_259 s.2 l0 l1 l2 s.1)
    refine Seg.ite (fun _ => ?_) (fun _ => ?_)
    · exact Seg.w (mLw.k (mLw.k (mLw.k (mLw.k mLw.nil)))) (s302_282 s.2 l0 l1 l2 s.1)
    refine Seg.ite (fun _ => ?_) (fun _ => ?_)
    · exact Seg.w (mLw.k (mLw.k (mLw.k (mLw.k mLw.nil)))) (s302_315 s.2 l0 l1 l2 s.1)
    refine Seg.ite (fun _ => ?_) (fun _ => ?_)
    · exact Seg.w (mLw.k (mLw.k (mLw.k (mLw.k mLw.nil)))) (s302_338 s.2 l0 l1 l2 s.1)
    refine Seg.ite (fun _ => ?_) (fun _ => ?_)
    · exact Seg.w (mLw.k (mLw.k (mLw.k (mLw.k mLw.nil)))) (s302_371 s.2 l0 l1 l2 s.1)
    refine Seg.ite (fun _ => ?_) (fun _ => ?_)
    · exact Seg.w (mLw.k (mLw.k (mLw.k (mLw.k mLw.nil)))) (s302_414 s.2 l0 l1 l2 s.1)
    refine Seg.ite (fun _ => ?_) (fun _ => ?_)
    · exact Seg.w (mLw.k (mLw.k (mLw.k (mLw.k mLw.nil)))) (s302_447 s.2 l0 l1 l2 s.1)
    refine Seg.ite (fun _ => ?_) (fun _ => ?_)
    · exact Seg.w (mLw.k (mLw.k (mLw.k (mLw.k mLw.nil)))) (s302_500 s.2 l0 l1 l2 s.1)
    refine Seg.ite (fun _ => ?_) (fun _ => ?_)
    · exact Seg.w (mLw.k (mLw.k (mLw.k (mLw.k mLw.nil)))) (s302_543 s.2 l0 l1 l2 s.1)
    refine Seg.ite (fun _ => ?_) (fun _ => ?_)
    · exact Seg.w (mLw.k (mLw.k (mLw.k (mLw.k mLw.nil)))) (s302_596 s.2 l0 l1 l2 s.1)
    refine Seg.ite (fun _ => ?_) (fun _ => ?_)
    · exact Seg.w (mLw.k (mLw.k (mLw.k (mLw.k mLw.nil)))) (s302_655 s.2 l0 l1 l2 s.1)
    refine Seg.ite (fun _ => ?_) (fun _ => ?_)
    · exact Seg.w (mLw.k (mLw.k (mLw.k (mLw.k mLw.nil)))) (s302_698 s.2 l0 l1 l2 s.1)
    refine Seg.ite (fun _ => ?_) (fun _ => ?_)
    · exact Seg.w (mLw.k (mLw.k (mLw.k (mLw.k mLw.nil)))) (s302_757 s.2 l0 l1 l2 s.1)
    refine Seg.ite (fun _ => ?_) (fun _ => ?_)
    · exact Seg.w (mLw.k (mLw.k (mLw.k (mLw.k mLw.nil)))) (s302_816 s.2 l0 l1 l2 s.1)
    refine Seg.ite (fun _ => ?_) (fun _ => ?_)
    · exact Seg.w (mLw.k (mLw.k (mLw.k (mLw.k mLw.nil)))) (s302_896 s.2 l0 l1 l2 s.1)
    refine Seg.ite (fun _ => ?_) (fun _ => ?_)
    · exact Seg.w (mLw.k (mLw.k (mLw.k (mLw.k mLw.nil)))) (s302_939 s.2 l0 l1 l2 s.1)
    refine Seg.ite (fun _ => ?_) (fun _ => ?_)
    · exact Seg.w (mLw.k (mLw.k (mLw.k (mLw.k mLw.nil)))) (s302_982 s.2 l0 l1 l2 s.1)
    refine Seg.ite (fun _ => ?_) (fun _ => ?_)
    · exact Seg.w (mLw.k (mLw.k (mLw.k (mLw.k mLw.nil)))) (s302_1035 s.2 l0 l1 l2 s.1)
    refine Seg.ite (fun _ => ?_) (fun _ => ?_)
    · exact Seg.w (mLw.k (mLw.k (mLw.k (mLw.k mLw.nil)))) (s302_1068 s.2 l0 l1 l2 s.1)
    refine Seg.ite (fun _ => ?_) (fun _ => ?_)
    · exact Seg.w (mLw.k (mLw.k (mLw.k (mLw.k mLw.nil)))) (s302_1111 s.2 l0 l1 l2 s.1)
    refine Seg.ite (fun _ => ?_) (fun _ => ?_)
    · exact Seg.w (mLw.k (mLw.k (mLw.k (mLw.k mLw.nil)))) (s302_1164 s.2 l0 l1 l2 s.1)
    refine Seg.ite (fun _ => ?_) (fun _ => ?_)
    · exact Seg.w (mLw.k (mLw.k (mLw.k (mLw.k mLw.nil)))) (s302_1207 s.2 l0 l1 l2 s.1)
    refine Seg.ite (fun _ => ?_) (fun _ => ?_)
    · exact Seg.w (mLw.k (mLw.k (mLw.k (mLw.k mLw.nil)))) (s302_1240 s.2 l0 l1 l2 s.1)
    refine Seg.ite (fun _ => ?_) (fun _ => ?_)
    · exact Seg.w (mLw.k (mLw.k (mLw.k (mLw.k mLw.nil)))) (s302_1273 s.2 l0 l1 l2 s.1)
    refine Seg.ite (fun _ => ?_) (fun _ => ?_)
    · exact Seg.w (mLw.k (mLw.k (mLw.k (mLw.k mLw.nil)))) (s302_1322 s.2 l0 l1 l2 s.1)
    refine Seg.ite (fun _ => ?_) (fun _ => ?_)
    · exact Seg.w (mLw.k (mLw.k (mLw.k (mLw.k mLw.nil)))) (s302_1382 s.2 l0 l1 l2 s.1)
    refine Seg.ite (fun _ => ?_) (fun _ => ?_)
    · exact Seg.w (mLw.k (mLw.k (mLw.k (mLw.k mLw.nil)))) (s302_1425 s.2 l0 l1 l2 s.1)
    refine Seg.ite (fun _ => ?_) (fun _ => ?_)
    · exact Seg.w (mLw.k (mLw.k (mLw.k (mLw.k mLw.nil)))) (s302_1468 s.2 l0 l1 l2 s.1)
    refine Seg.ite (fun _ => ?_) (fun _ => ?_)
    · exact Seg.w (mLw.k (mLw.k (mLw.k (mLw.k mLw.nil)))) (s302_1517 s.2 l0 l1 l2 s.1)
    refine Seg.ite (fun _ => ?_) (fun _ => ?_)
    · exact Seg.w (mLw.k (mLw.k (mLw.k (mLw.k mLw.nil)))) (s302_1576 s.2 l0 l1 l2 s.1)
    refine Seg.ite (fun _ => ?_) (fun _ => ?_)
    · exact Seg.w (mLw.k (mLw.k (mLw.k (mLw.k mLw.nil)))) (s302_1646 s.2 l0 l1 l2 s.1)
    refine Seg.ite (fun _ => ?_) (fun _ => ?_)
    · exact Seg.w (mLw.k (mLw.k (mLw.k (mLw.k mLw.nil)))) (s302_1689 s.2 l0 l1 l2 s.1)
    refine Seg.ite (fun _ => ?_) (fun _ => ?_)
    · exact Seg.w (mLw.k (mLw.k (mLw.k (mLw.k mLw.nil)))) (s302_1759 s.2 l0 l1 l2 s.1)
    refine Seg.ite (fun _ => ?_) (fun _ => ?_)
    · exact Seg.w (mLw.k (mLw.k (mLw.k (mLw.k mLw.nil)))) (s302_1818 s.2 l0 l1 l2 s.1)
    refine Seg.ite (fun _ => ?_) (fun _ => ?_)
    · exact Seg.w (mLw.k (mLw.k (mLw.k (mLw.k mLw.nil)))) (s302_1841 s.2 l0 l1 l2 s.1)
    refine Seg.ite (fun _ => ?_) (fun _ => ?_)
    · exact Seg.w (mLw.k (mLw.k (mLw.k (mLw.k mLw.nil)))) (s302_1864 s.2 l0 l1 l2 s.1)
    · exact Seg.w (mLw.k (mLw.k (mLw.k (mLw.k mLw.nil)))) (s302_1887 s.2 l0 l1 l2 s.1)
