theorem s302_1887 (h : mH) (l0 : Nat) (l1 : Nat) (l2 : Nat) (l3 : Int32) : Seg 302 (1887, [.ref l0, .ref l1, .ref l2, .int l3], []) h (f302_1887 h l0 l1 l2 l3) (Sum.elim (fun s : (Int32 × mH) => Ev 302 (18, [.ref l0, .ref l1, .ref l2, .int s.1], []) s.2) (fun (q : Int32 × mH) (res : Option Value × mH) => res = (some (.int q.1), q.2))) := by
  unfold f302_1887
  refine Seg.blk0 (f' := (18, [.ref l0, .ref l1, .ref l2, .int (l3 + 6)], [])) (h' := h) rfl rfl ?_
  exact Seg.cont (fun _ q => Ev.w (mLw.k (mLw.k (mLw.k (mLw.k mLw.nil)))) q)
theorem s302_196 (h : mH) (l0 : Nat) (l1 : Nat) (l2 : Nat) (l3 : Int32) : Seg 302 (196, [.ref l0, .ref l1, .ref l2, .int l3], []) h (f302_196 h l0 l1 l2 l3) (Sum.elim (fun s : (Int32 × mH) => Ev 302 (18, [.ref l0, .ref l1, .ref l2, .int s.1], []) s.2) (fun (q : Int32 × mH) (res : Option Value × mH) => res = (some (.int q.1), q.2))) := by
  unfold f302_196
  refine Seg.call (f1 := (222, [.ref l0, .ref l1, .ref l2, .int l3], [.int (mI h 2000000 (Int32.toNatClampNeg (l3 + 5))), .int (mI h 2000000 (Int32.toNatClampNeg (l3 + 4))), .int (mI h 2000000 (Int32.toNatClampNeg (l3 + 3))), .int (mI h 2000000 (Int32.toNatClampNeg (l3 + 2))), .int (mI h 2000000 (Int32.toNatClampNeg (l3 + 1))), .ref l1])) (h1 := h) (cv := fun r => some (.int r)) rfl rfl rfl rfl (s14 h l1 (mI h 2000000 (Int32.toNatClampNeg (l3 + 1))) (mI h 2000000 (Int32.toNatClampNeg (l3 + 2))) (mI h 2000000 (Int32.toNatClampNeg (l3 + 3))) (mI h 2000000 (Int32.toNatClampNeg (l3 + 4))) (mI h 2000000 (Int32.toNatClampNeg (l3 + 5)))) (fun r1 => ?_)
  refine Seg.call (f1 := (251, [.ref l0, .ref l1, .ref l2, .int l3], [.int (mI r1.2 2000000 (Int32.toNatClampNeg (l3 + 5))), .int (mI r1.2 2000000 (Int32.toNatClampNeg (l3 + 4))), .int (mI r1.2 2000000 (Int32.toNatClampNeg (l3 + 3))), .int (mI r1.2 2000000 (Int32.toNatClampNeg (l3 + 2))), .int (mI r1.2 2000000 (Int32.toNatClampNeg (l3 + 1))), .ref l2, .int r1.1])) (h1 := r1.2) (cv := fun r => some (.int r)) rfl rfl rfl rfl (s176 r1.2 l2 (mI r1.2 2000000 (Int32.toNatClampNeg (l3 + 1))) (mI r1.2 2000000 (Int32.toNatClampNeg (l3 + 2))) (mI r1.2 2000000 (Int32.toNatClampNeg (l3 + 3))) (mI r1.2 2000000 (Int32.toNatClampNeg (l3 + 4))) (mI r1.2 2000000 (Int32.toNatClampNeg (l3 + 5)))) (fun r2 => ?_)
  refine Seg.blk0 (f' := (if (r1.1 : Int32) = r2.1 then 1887 else 257, [.ref l0, .ref l1, .ref l2, .int l3], [])) (h' := r2.2) rfl rfl ?_
  refine Seg.ite (fun _ => ?_) (fun _ => ?_)
  · exact Seg.w (mLw.k (mLw.k (mLw.k (mLw.k mLw.nil)))) (s302_1887 r2.2 l0 l1 l2 l3)
  · refine Seg.x ?_
    exact Seg.ret (f1 := (258, [.ref l0, .ref l1, .ref l2, .int l3], [.int 0])) (h1 := r2.2) rfl rfl rfl rfl (fun _ q => q)
theorem s302_259 (h : mH) (l0 : Nat) (l1 : Nat) (l2 : Nat) (l3 : Int32) : Seg 302 (259, [.ref l0, .ref l1, .ref l2, .int l3], []) h (f302_259 h l0 l1 l2 l3) (Sum.elim (fun s : (Int32 × mH) => Ev 302 (18, [.ref l0, .ref l1, .ref l2, .int s.1], []) s.2) (fun (q : Int32 × mH) (res : Option Value × mH) => res = (some (.int q.1), q.2))) := by
  unfold f302_259
  refine Seg.call (f1 := (265, [.ref l0, .ref l1, .ref l2, .int l3], [.int (mI h 2000000 (Int32.toNatClampNeg (l3 + 1))), .ref l1])) (h1 := h) (cv := fun r => some (.int r)) rfl rfl rfl rfl (s16 h l1 (mI h 2000000 (Int32.toNatClampNeg (l3 + 1)))) (fun r3 => ?_)
  refine Seg.call (f1 := (274, [.ref l0, .ref l1, .ref l2, .int l3], [.int (mI r3.2 2000000 (Int32.toNatClampNeg (l3 + 1))), .ref l2, .int r3.1])) (h1 := r3.2) (cv := fun r => some (.int r)) rfl rfl rfl rfl (s178 r3.2 l2 (mI r3.2 2000000 (Int32.toNatClampNeg (l3 + 1)))) (fun r4 => ?_)
  refine Seg.blk0 (f' := (if (r3.1 : Int32) = r4.1 then 1887 else 280, [.ref l0, .ref l1, .ref l2, .int l3], [])) (h' := r4.2) rfl rfl ?_
  refine Seg.ite (fun _ => ?_) (fun _ => ?_)
  · exact Seg.w (mLw.k (mLw.k (mLw.k (mLw.k mLw.nil)))) (s302_1887 r4.2 l0 l1 l2 l3)
  · refine Seg.x ?_
    exact Seg.ret (f1 := (281, [.ref l0, .ref l1, .ref l2, .int l3], [.int 0])) (h1 := r4.2) rfl rfl rfl rfl (fun _ q => q)
theorem s302_282 (h : mH) (l0 : Nat) (l1 : Nat) (l2 : Nat) (l3 : Int32) : Seg 302 (282, [.ref l0, .ref l1, .ref l2, .int l3], []) h (f302_282 h l0 l1 l2 l3) (Sum.elim (fun s : (Int32 × mH) => Ev 302 (18, [.ref l0, .ref l1, .ref l2, .int s.1], []) s.2) (fun (q : Int32 × mH) (res : Option Value × mH) => res = (some (.int q.1), q.2))) := by
  unfold f302_282
  refine Seg.call (f1 := (293, [.ref l0, .ref l1, .ref l2, .int l3], [.int (mI h 2000000 (Int32.toNatClampNeg (l3 + 2))), .int (mI h 2000000 (Int32.toNatClampNeg (l3 + 1))), .ref l1])) (h1 := h) (cv := fun r => some (.int r)) rfl rfl rfl rfl (s18 h l1 (mI h 2000000 (Int32.toNatClampNeg (l3 + 1))) (mI h 2000000 (Int32.toNatClampNeg (l3 + 2)))) (fun r5 => ?_)
  refine Seg.call (f1 := (307, [.ref l0, .ref l1, .ref l2, .int l3], [.int (mI r5.2 2000000 (Int32.toNatClampNeg (l3 + 2))), .int (mI r5.2 2000000 (Int32.toNatClampNeg (l3 + 1))), .ref l2, .int r5.1])) (h1 := r5.2) (cv := fun r => some (.int r)) rfl rfl rfl rfl (s180 r5.2 l2 (mI r5.2 2000000 (Int32.toNatClampNeg (l3 + 1))) (mI r5.2 2000000 (Int32.toNatClampNeg (l3 + 2)))) (fun r6 => ?_)
  refine Seg.blk0 (f' := (if (r5.1 : Int32) = r6.1 then 1887 else 313, [.ref l0, .ref l1, .ref l2, .int l3], [])) (h' := r6.2) rfl rfl ?_
  refine Seg.ite (fun _ => ?_) (fun _ => ?_)
  · exact Seg.w (mLw.k (mLw.k (mLw.k (mLw.k mLw.nil)))) (s302_1887 r6.2 l0 l1 l2 l3)
  · refine Seg.x ?_
    exact Seg.ret (f1 := (314, [.ref l0, .ref l1, .ref l2, .int l3], [.int 0])) (h1 := r6.2) rfl rfl rfl rfl (fun _ q => q)
theorem s302_315 (h : mH) (l0 : Nat) (l1 : Nat) (l2 : Nat) (l3 : Int32) : Seg 302 (315, [.ref l0, .ref l1, .ref l2, .int l3], []) h (f302_315 h l0 l1 l2 l3) (Sum.elim (fun s : (Int32 × mH) => Ev 302 (18, [.ref l0, .ref l1, .ref l2, .int s.1], []) s.2) (fun (q : Int32 × mH) (res : Option Value × mH) => res = (some (.int q.1), q.2))) := by
  unfold f302_315
  refine Seg.callP (f1 := (321, [.ref l0, .ref l1, .ref l2, .int l3], [.int (mI h 2000000 (Int32.toNatClampNeg (l3 + 1))), .ref l1])) (h1 := h) (cv := fun r => some (.int r)) rfl rfl rfl rfl (s51 h l1 (mI h 2000000 (Int32.toNatClampNeg (l3 + 1)))) (fun r7 => ?_)
  refine Seg.call (f1 := (330, [.ref l0, .ref l1, .ref l2, .int l3], [.int (mI h 2000000 (Int32.toNatClampNeg (l3 + 1))), .ref l2, .int r7])) (h1 := h) (cv := fun r => some (.int r)) rfl rfl rfl rfl (s203 h l2 (mI h 2000000 (Int32.toNatClampNeg (l3 + 1)))) (fun r8 => ?_)
  refine Seg.blk0 (f' := (if (r7 : Int32) = r8.1 then 1887 else 336, [.ref l0, .ref l1, .ref l2, .int l3], [])) (h' := r8.2) rfl rfl ?_
  refine Seg.ite (fun _ => ?_) (fun _ => ?_)
  · exact Seg.w (mLw.k (mLw.k (mLw.k (mLw.k mLw.nil)))) (s302_1887 r8.2 l0 l1 l2 l3)
  · refine Seg.x ?_
    exact Seg.ret (f1 := (337, [.ref l0, .ref l1, .ref l2, .int l3], [.int 0])) (h1 := r8.2) rfl rfl rfl rfl (fun _ q => q)
