/-! The small machine runs the programs; printed by a program of ours. -/
theorem s201_21 (h : mH) (l0 : Nat) (l1 : Int64) (l3 : Int32) : Seg 201 (21, [.ref l0, .long l1, .retAddr 0, .int l3], []) h (f201_21 h l0 l1 l3) (fun (q : Int32 × mH) (res : Option Value × mH) => res = (some (.int q.1), q.2)) := by
  unfold f201_21
  refine Seg.call (f1 := (26, [.ref l0, .long l1, .retAddr 0, .int l3], [.int l3, .int 8, .int 0, .ref l0])) (h1 := h) (cv := fun _ => none) rfl rfl rfl rfl (s187 h l0 0 8 l3) (fun r1 => ?_)
  refine Seg.call (f1 := (30, [.ref l0, .long l1, .retAddr 0, .int l3], [.ref l0])) (h1 := r1.2) (cv := fun _ => none) rfl rfl rfl rfl (s183 r1.2 l0) (fun r2 => ?_)
  refine Seg.call (f1 := (37, [.ref l0, .long l1, .retAddr 0, .int l3], [.int 5, .int 0, .int 1, .ref l0])) (h1 := r2.2) (cv := fun r => some (.int r)) rfl rfl rfl rfl (s190 r2.2 l0 1 0 5) (fun r3 => ?_)
  refine Seg.blk0 (f' := (if (r3.1 : Int32) = 0 then 43 else 45, [.ref l0, .long l1, .retAddr 0, .int l3], [])) (h' := r3.2) rfl rfl ?_
  refine Seg.ite (fun _ => ?_) (fun _ => ?_)
  · exact Seg.ret (f1 := (44, [.ref l0, .long l1, .retAddr 0, .int l3], [.int 0])) (h1 := r3.2) rfl rfl rfl rfl (fun _ q => q)
  · refine Seg.blk (f' := (if ((lg_cmp l1 461414299507) : Int32) = 0 then 58 else 62, [.ref l0, .long l1, .retAddr 0, .int l3], [.int 0, .ref ((mR r3.2 l0 19).getD 0)])) (h' := r3.2) rfl rfl ?_
    refine Seg.ite (fun _ => ?_) (fun _ => ?_)
    · refine Seg.blk0 (f' := (63, [.ref l0, .long l1, .retAddr 0, .int l3], [.int 0, .int 0, .ref ((mR r3.2 l0 19).getD 0)])) (h' := r3.2) rfl rfl ?_
      refine Seg.blk (f' := (64, [.ref l0, .long l1, .retAddr 0, .int l3], [])) (h' := (mSI r3.2 ((mR r3.2 l0 19).getD 0) (Int32.toNatClampNeg 0) 0)) rfl rfl ?_
      refine Seg.call (f1 := (68, [.ref l0, .long l1, .retAddr 0, .int l3], [.int 8, .int 2, .ref l0])) (h1 := (mSI r3.2 ((mR r3.2 l0 19).getD 0) (Int32.toNatClampNeg 0) 0)) (cv := fun _ => none) rfl rfl rfl rfl (s200 (mSI r3.2 ((mR r3.2 l0 19).getD 0) (Int32.toNatClampNeg 0) 0) l0 2 8) (fun r4 => ?_)
      exact Seg.ret (f1 := (72, [.ref l0, .long l1, .retAddr 0, .int l3], [.int 1])) (h1 := r4.2) rfl rfl rfl rfl (fun _ q => q)
    · refine Seg.blk0 (f' := (63, [.ref l0, .long l1, .retAddr 0, .int l3], [.int 1, .int 0, .ref ((mR r3.2 l0 19).getD 0)])) (h' := r3.2) rfl rfl ?_
      refine Seg.blk (f' := (64, [.ref l0, .long l1, .retAddr 0, .int l3], [])) (h' := (mSI r3.2 ((mR r3.2 l0 19).getD 0) (Int32.toNatClampNeg 0) 1)) rfl rfl ?_
      refine Seg.call (f1 := (68, [.ref l0, .long l1, .retAddr 0, .int l3], [.int 8, .int 2, .ref l0])) (h1 := (mSI r3.2 ((mR r3.2 l0 19).getD 0) (Int32.toNatClampNeg 0) 1)) (cv := fun _ => none) rfl rfl rfl rfl (s200 (mSI r3.2 ((mR r3.2 l0 19).getD 0) (Int32.toNatClampNeg 0) 1) l0 2 8) (fun r5 => ?_)
      exact Seg.ret (f1 := (72, [.ref l0, .long l1, .retAddr 0, .int l3], [.int 1])) (h1 := r5.2) rfl rfl rfl rfl (fun _ q => q)
theorem s201 (h : mH) (l0 : Nat) (l1 : Int64) (l3 : Int32) : Seg 201 (0, [.ref l0, .long l1, .retAddr 0, .int l3], []) h (f201 h l0 l1 l3) (fun (q : Int32 × mH) (res : Option Value × mH) => res = (some (.int q.1), q.2)) := by
  unfold f201
  refine Seg.blk0 (f' := (if ((lg_cmp l1 461414299507) : Int32) = 0 then 21 else 8, [.ref l0, .long l1, .retAddr 0, .int l3], [])) (h' := h) rfl rfl ?_
  refine Seg.ite (fun _ => ?_) (fun _ => ?_)
  · exact Seg.w (mLw.k (mLw.k (mLw.k (mLw.k mLw.nil)))) (s201_21 h l0 l1 l3)
  · refine Seg.blk0 (f' := (if ((lg_cmp l1 7237492) : Int32) = 0 then 21 else 16, [.ref l0, .long l1, .retAddr 0, .int l3], [])) (h' := h) rfl rfl ?_
    refine Seg.ite (fun _ => ?_) (fun _ => ?_)
    · exact Seg.w (mLw.k (mLw.k (mLw.k (mLw.k mLw.nil)))) (s201_21 h l0 l1 l3)
    · refine Seg.call (f1 := (17, [.ref l0, .long l1, .retAddr 0, .int l3], [.ref l0])) (h1 := h) (cv := fun r => some (.int r)) rfl rfl rfl rfl (s192 h l0) (fun r6 => ?_)
      exact Seg.ret (f1 := (20, [.ref l0, .long l1, .retAddr 0, .int l3], [.int r6.1])) (h1 := r6.2) rfl rfl rfl rfl (fun _ q => q)
theorem s185_106 (h : mH) (l2 : Int32) : Seg 185 (106, [.retAddr 0, .retAddr 0, .int l2, .retAddr 0, .retAddr 0, .retAddr 0], []) h (f185_106 h l2) (fun (q : Int32 × mH) (res : Option Value × mH) => res = (some (.int q.1), q.2)) := by
  unfold f185_106
  exact Seg.ret (f1 := (107, [.retAddr 0, .retAddr 0, .int l2, .retAddr 0, .retAddr 0, .retAddr 0], [.int l2])) (h1 := h) rfl rfl rfl rfl (fun _ q => q)
theorem s185_103 (h : mH) (l0 : Nat) (l1 : Int32) (l2 : Int32) : Seg 185 (103, [.ref l0, .int l1, .int l2, .retAddr 0, .retAddr 0, .retAddr 0], []) h (f185_103 h l0 l1 l2) (Sum.elim (fun s : (Int32 × mH) => Ev 185 (2, [.ref l0, .int l1, .int s.1, .retAddr 0, .retAddr 0, .retAddr 0], []) s.2) (fun (q : Int32 × mH) (res : Option Value × mH) => res = (some (.int q.1), q.2))) := by
  unfold f185_103
  refine Seg.blk0 (f' := (2, [.ref l0, .int l1, .int l2, .retAddr 0, .retAddr 0, .retAddr 0], [])) (h' := h) rfl rfl ?_
  exact Seg.cont (fun _ q => Ev.w (mLw.k (mLw.k (mLw.k (mLw.k (mLw.k (mLw.k mLw.nil)))))) q)
theorem s185_95 (h : mH) (l0 : Nat) (l1 : Int32) (l2 : Int32) : Seg 185 (95, [.ref l0, .int l1, .int l2, .retAddr 0, .retAddr 0, .retAddr 0], []) h (f185_95 h l0 l1 l2) (Sum.elim (fun s : (Int32 × mH) => Ev 185 (2, [.ref l0, .int l1, .int s.1, .retAddr 0, .retAddr 0, .retAddr 0], []) s.2) (fun (q : Int32 × mH) (res : Option Value × mH) => res = (some (.int q.1), q.2))) := by
  unfold f185_95
  refine Seg.blk0 (f' := (if (l2 : Int32) = 0 then 103 else 99, [.ref l0, .int l1, .int l2, .retAddr 0, .retAddr 0, .retAddr 0], [])) (h' := h) rfl rfl ?_
  refine Seg.ite (fun _ => ?_) (fun _ => ?_)
  · exact Seg.w (mLw.k (mLw.k (mLw.k (mLw.k (mLw.k (mLw.k mLw.nil)))))) (s185_103 h l0 l1 l2)
  · refine Seg.call (f1 := (100, [.ref l0, .int l1, .int l2, .retAddr 0, .retAddr 0, .retAddr 0], [.ref l0])) (h1 := h) (cv := fun _ => none) rfl rfl rfl rfl (s183 h l0) (fun r2 => ?_)
    exact Seg.w (mLw.k (mLw.k (mLw.k (mLw.k (mLw.k (mLw.k mLw.nil)))))) (s185_103 r2.2 l0 l1 l2)
theorem s185_77 (h : mH) (l0 : Nat) (l1 : Int32) (q0 : Int32) : Seg 185 (77, [.ref l0, .int l1, .retAddr 0, .retAddr 0, .retAddr 0, .retAddr 0], [.int q0]) h (f185_77 h l0 l1 q0) (Sum.elim (fun s : (Int32 × mH) => Ev 185 (2, [.ref l0, .int l1, .int s.1, .retAddr 0, .retAddr 0, .retAddr 0], []) s.2) (fun (q : Int32 × mH) (res : Option Value × mH) => res = (some (.int q.1), q.2))) := by
  unfold f185_77
  refine Seg.blk0 (f' := (if (q0 : Int32) = 0 then 95 else 82, [.ref l0, .int l1, .int q0, .retAddr 0, .retAddr 0, .retAddr 0], [])) (h' := h) rfl rfl ?_
  refine Seg.ite (fun _ => ?_) (fun _ => ?_)
  · exact Seg.w (mLw.k (mLw.k (mLw.k (mLw.k (mLw.k (mLw.k mLw.nil)))))) (s185_95 h l0 l1 q0)
  · refine Seg.blk (f' := (if ((mI h l0 12) : Int32) = 4 then 95 else 90, [.ref l0, .int l1, .int q0, .retAddr 0, .retAddr 0, .retAddr 0], [])) (h' := h) rfl rfl ?_
    refine Seg.ite (fun _ => ?_) (fun _ => ?_)
    · exact Seg.w (mLw.k (mLw.k (mLw.k (mLw.k (mLw.k (mLw.k mLw.nil)))))) (s185_95 h l0 l1 q0)
    · refine Seg.call (f1 := (91, [.ref l0, .int l1, .int q0, .retAddr 0, .retAddr 0, .retAddr 0], [.ref l0])) (h1 := h) (cv := fun r => some (.int r)) rfl rfl rfl rfl (s192 h l0) (fun r3 => ?_)
      refine Seg.blk0 (f' := (95, [.ref l0, .int l1, .int r3.1, .retAddr 0, .retAddr 0, .retAddr 0], [])) (h' := r3.2) rfl rfl ?_
      exact Seg.w (mLw.k (mLw.k (mLw.k (mLw.k (mLw.k (mLw.k mLw.nil)))))) (s185_95 r3.2 l0 l1 r3.1)
theorem s185_34 (h : mH) (l0 : Nat) (l1 : Int32) (l3 : Int32) (q0 : Int64) : Seg 185 (34, [.ref l0, .int l1, .retAddr 0, .int l3, .retAddr 0, .retAddr 0], [.long q0]) h (f185_34 h l0 l1 l3 q0) (Sum.elim (fun s : (Int32 × mH) => Ev 185 (2, [.ref l0, .int l1, .int s.1, .retAddr 0, .retAddr 0, .retAddr 0], []) s.2) (fun (q : Int32 × mH) (res : Option Value × mH) => res = (some (.int q.1), q.2))) := by
  unfold f185_34
  refine Seg.blk (f' := (41, [.ref l0, .int l1, .retAddr 0, .int l3, .long q0, .retAddr 0], [])) (h' := (mSI h l0 22 1)) rfl rfl ?_
  refine Seg.blk0 (f' := (if (l1 : Int32) = 0 then 45 else 55, [.ref l0, .int l1, .retAddr 0, .int l3, .long q0, .retAddr 0], [])) (h' := (mSI h l0 22 1)) rfl rfl ?_
  refine Seg.ite (fun _ => ?_) (fun _ => ?_)
  · refine Seg.call (f1 := (49, [.ref l0, .int l1, .retAddr 0, .int l3, .long q0, .retAddr 0], [.int l3, .long q0, .ref l0])) (h1 := (mSI h l0 22 1)) (cv := fun r => some (.int r)) rfl rfl rfl rfl (s186 (mSI h l0 22 1) l0 q0 l3) (fun r1 => ?_)
    refine Seg.blk0 (f' := (77, [.ref l0, .int l1, .retAddr 0, .int l3, .long q0, .retAddr 0], [.int r1.1])) (h' := r1.2) rfl rfl ?_
    exact Seg.w (mLw.k (mLw.k (mLw.k (mLw.u (mLw.u (mLw.k mLw.nil)))))) (s185_77 r1.2 l0 l1 r1.1)
  · refine Seg.blk0 (f' := (if (l1 : Int32) = 1 then 60 else 70, [.ref l0, .int l1, .retAddr 0, .int l3, .long q0, .retAddr 0], [])) (h' := (mSI h l0 22 1)) rfl rfl ?_
    refine Seg.ite (fun _ => ?_) (fun _ => ?_)
    · refine Seg.call (f1 := (64, [.ref l0, .int l1, .retAddr 0, .int l3, .long q0, .retAddr 0], [.int l3, .long q0, .ref l0])) (h1 := (mSI h l0 22 1)) (cv := fun r => some (.int r)) rfl rfl rfl rfl (s199 (mSI h l0 22 1) l0 q0 l3) (fun r4 => ?_)
      refine Seg.blk0 (f' := (77, [.ref l0, .int l1, .retAddr 0, .int l3, .long q0, .retAddr 0], [.int r4.1])) (h' := r4.2) rfl rfl ?_
      exact Seg.w (mLw.k (mLw.k (mLw.k (mLw.u (mLw.u (mLw.k mLw.nil)))))) (s185_77 r4.2 l0 l1 r4.1)
    · refine Seg.call (f1 := (74, [.ref l0, .int l1, .retAddr 0, .int l3, .long q0, .retAddr 0], [.int l3, .long q0, .ref l0])) (h1 := (mSI h l0 22 1)) (cv := fun r => some (.int r)) rfl rfl rfl rfl (s201 (mSI h l0 22 1) l0 q0 l3) (fun r5 => ?_)
      exact Seg.w (mLw.k (mLw.k (mLw.k (mLw.u (mLw.u (mLw.k mLw.nil)))))) (s185_77 r5.2 l0 l1 r5.1)
theorem s185_2 (l0 : Nat) (l1 : Int32) : ∀ (n : Nat) (s : (Int32 × mH)), Seg 185 (2, [.ref l0, .int l1, .int s.1, .retAddr 0, .retAddr 0, .retAddr 0], []) s.2 (mLoop (f185_2 l0 l1) n s) (fun (q : Int32 × mH) (res : Option Value × mH) => res = (some (.int q.1), q.2)) := by
  refine Seg.loop (F := fun s : (Int32 × mH) => (2, [.ref l0, .int l1, .int s.1, .retAddr 0, .retAddr 0, .retAddr 0], [])) (H := fun s : (Int32 × mH) => s.2) (fun s => ?_)
  show Seg 185 (2, [.ref l0, .int l1, .int s.1, .retAddr 0, .retAddr 0, .retAddr 0], []) s.2 _ (Sum.elim (fun s : (Int32 × mH) => Ev 185 (2, [.ref l0, .int l1, .int s.1, .retAddr 0, .retAddr 0, .retAddr 0], []) s.2) (fun (q : Int32 × mH) (res : Option Value × mH) => res = (some (.int q.1), q.2)))
  unfold f185_2
  refine Seg.blk0 (f' := (if (s.1 : Int32) = 0 then 106 else 6, [.ref l0, .int l1, .int s.1, .retAddr 0, .retAddr 0, .retAddr 0], [])) (h' := s.2) rfl rfl ?_
  refine Seg.ite (fun _ => ?_) (fun _ => ?_)
  · refine Seg.x ?_
    exact Seg.w (mLw.u (mLw.u (mLw.k (mLw.k (mLw.k (mLw.k mLw.nil)))))) (s185_106 s.2 s.1)
  · refine Seg.blk (f' := (if ((mI s.2 l0 12) : Int32) = 0 then 106 else 13, [.ref l0, .int l1, .int s.1, .retAddr 0, .retAddr 0, .retAddr 0], [])) (h' := s.2) rfl rfl ?_
    refine Seg.ite (fun _ => ?_) (fun _ => ?_)
    · refine Seg.x ?_
      exact Seg.w (mLw.u (mLw.u (mLw.k (mLw.k (mLw.k (mLw.k mLw.nil)))))) (s185_106 s.2 s.1)
    · refine Seg.blk (f' := (if ((mI s.2 l0 12) : Int32) = 2 then 26 else 33, [.ref l0, .int l1, .int s.1, .int (mI s.2 l0 11), .retAddr 0, .retAddr 0], [])) (h' := s.2) rfl rfl ?_
      refine Seg.ite (fun _ => ?_) (fun _ => ?_)
      · refine Seg.blk (f' := (34, [.ref l0, .int l1, .int s.1, .int (mI s.2 l0 11), .retAddr 0, .retAddr 0], [.long (mL s.2 l0 14)])) (h' := s.2) rfl rfl ?_
        exact Seg.w (mLw.k (mLw.k (mLw.u (mLw.k (mLw.k (mLw.k mLw.nil)))))) (s185_34 s.2 l0 l1 (mI s.2 l0 11) (mL s.2 l0 14))
      · refine Seg.blk0 (f' := (34, [.ref l0, .int l1, .int s.1, .int (mI s.2 l0 11), .retAddr 0, .retAddr 0], [.long 0])) (h' := s.2) rfl rfl ?_
        exact Seg.w (mLw.k (mLw.k (mLw.u (mLw.k (mLw.k (mLw.k mLw.nil)))))) (s185_34 s.2 l0 l1 (mI s.2 l0 11) 0)
theorem s185 (h : mH) (l0 : Nat) (l1 : Int32) : Seg 185 (0, [.ref l0, .int l1, .retAddr 0, .retAddr 0, .retAddr 0, .retAddr 0], []) h (f185 h l0 l1) (fun (q : Int32 × mH) (res : Option Value × mH) => res = (some (.int q.1), q.2)) := by
  unfold f185
  refine Seg.blk0 (f' := (2, [.ref l0, .int l1, .int 1, .retAddr 0, .retAddr 0, .retAddr 0], [])) (h' := h) rfl rfl ?_
  exact Seg.w (mLw.k (mLw.k (mLw.k (mLw.k (mLw.k (mLw.k mLw.nil)))))) (s185_2 l0 l1 mFuel (1, h))
theorem s182_200 (h : mH) (q0 : Int32) : Seg 182 (200, [.retAddr 0, .retAddr 0, .retAddr 0], [.int q0]) h (f182_200 h q0) (fun (q : Int32 × mH) (res : Option Value × mH) => res = (some (.int q.1), q.2)) := by
  unfold f182_200
  exact Seg.ret (f1 := (200, [.retAddr 0, .retAddr 0, .retAddr 0], [.int q0])) (h1 := h) rfl rfl rfl rfl (fun _ q => q)
theorem s182_186 (h : mH) (l0 : Nat) : Seg 182 (186, [.ref l0, .retAddr 0, .retAddr 0], []) h (f182_186 h l0) (fun (q : Int32 × mH) (res : Option Value × mH) => res = (some (.int q.1), q.2)) := by
  unfold f182_186
  refine Seg.blk (f' := (if ((mI h ((mR h l0 3).getD 0) (Int32.toNatClampNeg 0)) : Int32) = 0 then 195 else 199, [.ref l0, .retAddr 0, .retAddr 0], [])) (h' := h) rfl rfl ?_
  refine Seg.ite (fun _ => ?_) (fun _ => ?_)
  · refine Seg.blk0 (f' := (200, [.ref l0, .retAddr 0, .retAddr 0], [.int 1])) (h' := h) rfl rfl ?_
    exact Seg.w (mLw.u (mLw.k (mLw.k mLw.nil))) (s182_200 h 1)
  · refine Seg.blk0 (f' := (200, [.ref l0, .retAddr 0, .retAddr 0], [.int 0])) (h' := h) rfl rfl ?_
    exact Seg.w (mLw.u (mLw.k (mLw.k mLw.nil))) (s182_200 h 0)
theorem s182_136 (h : mH) (l0 : Nat) (l2 : Int32) : Seg 182 (136, [.ref l0, .retAddr 0, .int l2], []) h (f182_136 h l0 l2) (fun (q : Int32 × mH) (res : Option Value × mH) => res = (some (.int q.1), q.2)) := by
  unfold f182_136
  refine Seg.blk (f' := (if (l2 : Int32) = 0 then 152 else 145, [.ref l0, .retAddr 0, .int l2], [.int 0, .ref ((mR h l0 3).getD 0)])) (h' := h) rfl rfl ?_
  refine Seg.ite (fun _ => ?_) (fun _ => ?_)
  · refine Seg.blk0 (f' := (153, [.ref l0, .retAddr 0, .int l2], [.int 1, .int 0, .ref ((mR h l0 3).getD 0)])) (h' := h) rfl rfl ?_
    refine Seg.blk (f' := (154, [.ref l0, .retAddr 0, .int l2], [])) (h' := (mSI h ((mR h l0 3).getD 0) (Int32.toNatClampNeg 0) 1)) rfl rfl ?_
    refine Seg.blk (f' := (if (l2 : Int32) = 0 then 163 else 170, [.ref l0, .retAddr 0, .int l2], [.int 0, .ref ((mR h l0 4).getD 0)])) (h' := (mSI h ((mR h l0 3).getD 0) (Int32.toNatClampNeg 0) 1)) rfl rfl ?_
    refine Seg.ite (fun _ => ?_) (fun _ => ?_)
    · refine Seg.blk (f' := (185, [.ref l0, .retAddr 0, .int l2], [.int (mI (mSI h ((mR h l0 3).getD 0) (Int32.toNatClampNeg 0) 1) l0 15), .int 0, .ref ((mR h l0 4).getD 0)])) (h' := (mSI h ((mR h l0 3).getD 0) (Int32.toNatClampNeg 0) 1)) rfl rfl ?_
      refine Seg.blk (f' := (186, [.ref l0, .retAddr 0, .int l2], [])) (h' := (mSI (mSI h ((mR h l0 3).getD 0) (Int32.toNatClampNeg 0) 1) ((mR h l0 4).getD 0) (Int32.toNatClampNeg 0) (mI (mSI h ((mR h l0 3).getD 0) (Int32.toNatClampNeg 0) 1) l0 15))) rfl rfl ?_
      exact Seg.w (mLw.k (mLw.k (mLw.u mLw.nil))) (s182_186 (mSI (mSI h ((mR h l0 3).getD 0) (Int32.toNatClampNeg 0) 1) ((mR h l0 4).getD 0) (Int32.toNatClampNeg 0) (mI (mSI h ((mR h l0 3).getD 0) (Int32.toNatClampNeg 0) 1) l0 15)) l0)
    · refine Seg.blk (f' := (if ((mI (mSI h ((mR h l0 3).getD 0) (Int32.toNatClampNeg 0) 1) l0 16) : Int32) ≤ 0 then 184 else 177, [.ref l0, .retAddr 0, .int l2], [.int 0, .ref ((mR h l0 4).getD 0)])) (h' := (mSI h ((mR h l0 3).getD 0) (Int32.toNatClampNeg 0) 1)) rfl rfl ?_
      refine Seg.ite (fun _ => ?_) (fun _ => ?_)
      · refine Seg.blk0 (f' := (185, [.ref l0, .retAddr 0, .int l2], [.int (-1), .int 0, .ref ((mR h l0 4).getD 0)])) (h' := (mSI h ((mR h l0 3).getD 0) (Int32.toNatClampNeg 0) 1)) rfl rfl ?_
        refine Seg.blk (f' := (186, [.ref l0, .retAddr 0, .int l2], [])) (h' := (mSI (mSI h ((mR h l0 3).getD 0) (Int32.toNatClampNeg 0) 1) ((mR h l0 4).getD 0) (Int32.toNatClampNeg 0) (-1))) rfl rfl ?_
        refine Seg.blk (f' := (if ((mI (mSI (mSI h ((mR h l0 3).getD 0) (Int32.toNatClampNeg 0) 1) ((mR h l0 4).getD 0) (Int32.toNatClampNeg 0) (-1)) ((mR h l0 3).getD 0) (Int32.toNatClampNeg 0)) : Int32) = 0 then 195 else 199, [.ref l0, .retAddr 0, .int l2], [])) (h' := (mSI (mSI h ((mR h l0 3).getD 0) (Int32.toNatClampNeg 0) 1) ((mR h l0 4).getD 0) (Int32.toNatClampNeg 0) (-1))) rfl rfl ?_
        refine Seg.ite (fun _ => ?_) (fun _ => ?_)
        · refine Seg.blk0 (f' := (200, [.ref l0, .retAddr 0, .int l2], [.int 1])) (h' := (mSI (mSI h ((mR h l0 3).getD 0) (Int32.toNatClampNeg 0) 1) ((mR h l0 4).getD 0) (Int32.toNatClampNeg 0) (-1))) rfl rfl ?_
          exact Seg.w (mLw.u (mLw.k (mLw.u mLw.nil))) (s182_200 (mSI (mSI h ((mR h l0 3).getD 0) (Int32.toNatClampNeg 0) 1) ((mR h l0 4).getD 0) (Int32.toNatClampNeg 0) (-1)) 1)
        · refine Seg.blk0 (f' := (200, [.ref l0, .retAddr 0, .int l2], [.int 0])) (h' := (mSI (mSI h ((mR h l0 3).getD 0) (Int32.toNatClampNeg 0) 1) ((mR h l0 4).getD 0) (Int32.toNatClampNeg 0) (-1))) rfl rfl ?_
          exact Seg.w (mLw.u (mLw.k (mLw.u mLw.nil))) (s182_200 (mSI (mSI h ((mR h l0 3).getD 0) (Int32.toNatClampNeg 0) 1) ((mR h l0 4).getD 0) (Int32.toNatClampNeg 0) (-1)) 0)
      · refine Seg.blk (f' := (185, [.ref l0, .retAddr 0, .int l2], [.int (mI (mSI h ((mR h l0 3).getD 0) (Int32.toNatClampNeg 0) 1) l0 17), .int 0, .ref ((mR h l0 4).getD 0)])) (h' := (mSI h ((mR h l0 3).getD 0) (Int32.toNatClampNeg 0) 1)) rfl rfl ?_
        refine Seg.blk (f' := (186, [.ref l0, .retAddr 0, .int l2], [])) (h' := (mSI (mSI h ((mR h l0 3).getD 0) (Int32.toNatClampNeg 0) 1) ((mR h l0 4).getD 0) (Int32.toNatClampNeg 0) (mI (mSI h ((mR h l0 3).getD 0) (Int32.toNatClampNeg 0) 1) l0 17))) rfl rfl ?_
        exact Seg.w (mLw.k (mLw.k (mLw.u mLw.nil))) (s182_186 (mSI (mSI h ((mR h l0 3).getD 0) (Int32.toNatClampNeg 0) 1) ((mR h l0 4).getD 0) (Int32.toNatClampNeg 0) (mI (mSI h ((mR h l0 3).getD 0) (Int32.toNatClampNeg 0) 1) l0 17)) l0)
  · refine Seg.blk (f' := (153, [.ref l0, .retAddr 0, .int l2], [.int (mI h l0 16), .int 0, .ref ((mR h l0 3).getD 0)])) (h' := h) rfl rfl ?_
    refine Seg.blk (f' := (154, [.ref l0, .retAddr 0, .int l2], [])) (h' := (mSI h ((mR h l0 3).getD 0) (Int32.toNatClampNeg 0) (mI h l0 16))) rfl rfl ?_
    refine Seg.blk (f' := (if (l2 : Int32) = 0 then 163 else 170, [.ref l0, .retAddr 0, .int l2], [.int 0, .ref ((mR h l0 4).getD 0)])) (h' := (mSI h ((mR h l0 3).getD 0) (Int32.toNatClampNeg 0) (mI h l0 16))) rfl rfl ?_
    refine Seg.ite (fun _ => ?_) (fun _ => ?_)
    · refine Seg.blk (f' := (185, [.ref l0, .retAddr 0, .int l2], [.int (mI (mSI h ((mR h l0 3).getD 0) (Int32.toNatClampNeg 0) (mI h l0 16)) l0 15), .int 0, .ref ((mR h l0 4).getD 0)])) (h' := (mSI h ((mR h l0 3).getD 0) (Int32.toNatClampNeg 0) (mI h l0 16))) rfl rfl ?_
      refine Seg.blk (f' := (186, [.ref l0, .retAddr 0, .int l2], [])) (h' := (mSI (mSI h ((mR h l0 3).getD 0) (Int32.toNatClampNeg 0) (mI h l0 16)) ((mR h l0 4).getD 0) (Int32.toNatClampNeg 0) (mI (mSI h ((mR h l0 3).getD 0) (Int32.toNatClampNeg 0) (mI h l0 16)) l0 15))) rfl rfl ?_
      exact Seg.w (mLw.k (mLw.k (mLw.u mLw.nil))) (s182_186 (mSI (mSI h ((mR h l0 3).getD 0) (Int32.toNatClampNeg 0) (mI h l0 16)) ((mR h l0 4).getD 0) (Int32.toNatClampNeg 0) (mI (mSI h ((mR h l0 3).getD 0) (Int32.toNatClampNeg 0) (mI h l0 16)) l0 15)) l0)
    · refine Seg.blk (f' := (if ((mI (mSI h ((mR h l0 3).getD 0) (Int32.toNatClampNeg 0) (mI h l0 16)) l0 16) : Int32) ≤ 0 then 184 else 177, [.ref l0, .retAddr 0, .int l2], [.int 0, .ref ((mR h l0 4).getD 0)])) (h' := (mSI h ((mR h l0 3).getD 0) (Int32.toNatClampNeg 0) (mI h l0 16))) rfl rfl ?_
      refine Seg.ite (fun _ => ?_) (fun _ => ?_)
      · refine Seg.blk0 (f' := (185, [.ref l0, .retAddr 0, .int l2], [.int (-1), .int 0, .ref ((mR h l0 4).getD 0)])) (h' := (mSI h ((mR h l0 3).getD 0) (Int32.toNatClampNeg 0) (mI h l0 16))) rfl rfl ?_
        refine Seg.blk (f' := (186, [.ref l0, .retAddr 0, .int l2], [])) (h' := (mSI (mSI h ((mR h l0 3).getD 0) (Int32.toNatClampNeg 0) (mI h l0 16)) ((mR h l0 4).getD 0) (Int32.toNatClampNeg 0) (-1))) rfl rfl ?_
        refine Seg.blk (f' := (if ((mI (mSI (mSI h ((mR h l0 3).getD 0) (Int32.toNatClampNeg 0) (mI h l0 16)) ((mR h l0 4).getD 0) (Int32.toNatClampNeg 0) (-1)) ((mR h l0 3).getD 0) (Int32.toNatClampNeg 0)) : Int32) = 0 then 195 else 199, [.ref l0, .retAddr 0, .int l2], [])) (h' := (mSI (mSI h ((mR h l0 3).getD 0) (Int32.toNatClampNeg 0) (mI h l0 16)) ((mR h l0 4).getD 0) (Int32.toNatClampNeg 0) (-1))) rfl rfl ?_
        refine Seg.ite (fun _ => ?_) (fun _ => ?_)
        · refine Seg.blk0 (f' := (200, [.ref l0, .retAddr 0, .int l2], [.int 1])) (h' := (mSI (mSI h ((mR h l0 3).getD 0) (Int32.toNatClampNeg 0) (mI h l0 16)) ((mR h l0 4).getD 0) (Int32.toNatClampNeg 0) (-1))) rfl rfl ?_
          exact Seg.w (mLw.u (mLw.k (mLw.u mLw.nil))) (s182_200 (mSI (mSI h ((mR h l0 3).getD 0) (Int32.toNatClampNeg 0) (mI h l0 16)) ((mR h l0 4).getD 0) (Int32.toNatClampNeg 0) (-1)) 1)
        · refine Seg.blk0 (f' := (200, [.ref l0, .retAddr 0, .int l2], [.int 0])) (h' := (mSI (mSI h ((mR h l0 3).getD 0) (Int32.toNatClampNeg 0) (mI h l0 16)) ((mR h l0 4).getD 0) (Int32.toNatClampNeg 0) (-1))) rfl rfl ?_
          exact Seg.w (mLw.u (mLw.k (mLw.u mLw.nil))) (s182_200 (mSI (mSI h ((mR h l0 3).getD 0) (Int32.toNatClampNeg 0) (mI h l0 16)) ((mR h l0 4).getD 0) (Int32.toNatClampNeg 0) (-1)) 0)
      · refine Seg.blk (f' := (185, [.ref l0, .retAddr 0, .int l2], [.int (mI (mSI h ((mR h l0 3).getD 0) (Int32.toNatClampNeg 0) (mI h l0 16)) l0 17), .int 0, .ref ((mR h l0 4).getD 0)])) (h' := (mSI h ((mR h l0 3).getD 0) (Int32.toNatClampNeg 0) (mI h l0 16))) rfl rfl ?_
        refine Seg.blk (f' := (186, [.ref l0, .retAddr 0, .int l2], [])) (h' := (mSI (mSI h ((mR h l0 3).getD 0) (Int32.toNatClampNeg 0) (mI h l0 16)) ((mR h l0 4).getD 0) (Int32.toNatClampNeg 0) (mI (mSI h ((mR h l0 3).getD 0) (Int32.toNatClampNeg 0) (mI h l0 16)) l0 17))) rfl rfl ?_
        exact Seg.w (mLw.k (mLw.k (mLw.u mLw.nil))) (s182_186 (mSI (mSI h ((mR h l0 3).getD 0) (Int32.toNatClampNeg 0) (mI h l0 16)) ((mR h l0 4).getD 0) (Int32.toNatClampNeg 0) (mI (mSI h ((mR h l0 3).getD 0) (Int32.toNatClampNeg 0) (mI h l0 16)) l0 17)) l0)
theorem s182_127 (h : mH) (l0 : Nat) (l2 : Int32) : Seg 182 (127, [.ref l0, .retAddr 0, .int l2], []) h (f182_127 h l0 l2) (fun (q : Int32 × mH) (res : Option Value × mH) => res = (some (.int q.1), q.2)) := by
  unfold f182_127
  refine Seg.call (f1 := (133, [.ref l0, .retAddr 0, .int l2], [.int (mI h l0 11), .int 4, .ref l0])) (h1 := h) (cv := fun _ => none) rfl rfl rfl rfl (s188 h l0 4 (mI h l0 11)) (fun r3 => ?_)
  exact Seg.w (mLw.k (mLw.k (mLw.k mLw.nil))) (s182_136 r3.2 l0 l2)
theorem s182_2 (l0 : Nat) (l1 : Int32) : ∀ (n : Nat) (s : (Int32 × mH)), Seg 182 (2, [.ref l0, .int l1, .int s.1], []) s.2 (mLoop (f182_2 l0 l1) n s) (fun (q : Int32 × mH) (res : Option Value × mH) => res = (some (.int q.1), q.2)) := by
  refine Seg.loop (F := fun s : (Int32 × mH) => (2, [.ref l0, .int l1, .int s.1], [])) (H := fun s : (Int32 × mH) => s.2) (fun s => ?_)
  show Seg 182 (2, [.ref l0, .int l1, .int s.1], []) s.2 _ (Sum.elim (fun s : (Int32 × mH) => Ev 182 (2, [.ref l0, .int l1, .int s.1], []) s.2) (fun (q : Int32 × mH) (res : Option Value × mH) => res = (some (.int q.1), q.2)))
  unfold f182_2
  refine Seg.blk0 (f' := (if (121 : Int32) ≤ s.1 then 40 else 8, [.ref l0, .int l1, .int s.1], [])) (h' := s.2) rfl rfl ?_
  refine Seg.ite (fun _ => ?_) (fun _ => ?_)
  · refine Seg.x ?_
    refine Seg.blk (f' := (if (l1 : Int32) = 0 then 49 else 54, [.ref l0, .int l1, .int s.1], [.int 2, .ref ((mR s.2 l0 18).getD 0)])) (h' := s.2) rfl rfl ?_
    refine Seg.ite (fun _ => ?_) (fun _ => ?_)
    · refine Seg.blk0 (f' := (55, [.ref l0, .int l1, .int s.1], [.int 6, .int 2, .ref ((mR s.2 l0 18).getD 0)])) (h' := s.2) rfl rfl ?_
      refine Seg.blk (f' := (56, [.ref l0, .int l1, .int s.1], [])) (h' := (mSI s.2 ((mR s.2 l0 18).getD 0) (Int32.toNatClampNeg 2) 6)) rfl rfl ?_
      refine Seg.blk (f' := (61, [.ref l0, .int l1, .int s.1], [])) (h' := (mSI (mSI s.2 ((mR s.2 l0 18).getD 0) (Int32.toNatClampNeg 2) 6) l0 20 (-1))) rfl rfl ?_
      refine Seg.blk (f' := (66, [.ref l0, .int l1, .int s.1], [])) (h' := (mSI (mSI (mSI s.2 ((mR s.2 l0 18).getD 0) (Int32.toNatClampNeg 2) 6) l0 20 (-1)) l0 21 (-1))) rfl rfl ?_
      refine Seg.blk (f' := (71, [.ref l0, .int l1, .int s.1], [])) (h' := (mSI (mSI (mSI (mSI s.2 ((mR s.2 l0 18).getD 0) (Int32.toNatClampNeg 2) 6) l0 20 (-1)) l0 21 (-1)) l0 9 0)) rfl rfl ?_
      refine Seg.blk (f' := (76, [.ref l0, .int l1, .int s.1], [])) (h' := (mSI (mSI (mSI (mSI (mSI s.2 ((mR s.2 l0 18).getD 0) (Int32.toNatClampNeg 2) 6) l0 20 (-1)) l0 21 (-1)) l0 9 0) l0 16 0)) rfl rfl ?_
      refine Seg.call (f1 := (77, [.ref l0, .int l1, .int s.1], [.ref l0])) (h1 := (mSI (mSI (mSI (mSI (mSI s.2 ((mR s.2 l0 18).getD 0) (Int32.toNatClampNeg 2) 6) l0 20 (-1)) l0 21 (-1)) l0 9 0) l0 16 0)) (cv := fun _ => none) rfl rfl rfl rfl (s183 (mSI (mSI (mSI (mSI (mSI s.2 ((mR s.2 l0 18).getD 0) (Int32.toNatClampNeg 2) 6) l0 20 (-1)) l0 21 (-1)) l0 9 0) l0 16 0) l0) (fun r1 => ?_)
      refine Seg.call (f1 := (82, [.ref l0, .int l1, .int s.1], [.int l1, .ref l0])) (h1 := r1.2) (cv := fun r => some (.int r)) rfl rfl rfl rfl (s185 r1.2 l0 l1) (fun r2 => ?_)
      refine Seg.blk0 (f' := (if (r2.1 : Int32) = 0 then 136 else 90, [.ref l0, .int l1, .int r2.1], [])) (h' := r2.2) rfl rfl ?_
      refine Seg.ite (fun _ => ?_) (fun _ => ?_)
      · exact Seg.w (mLw.k (mLw.u (mLw.k mLw.nil))) (s182_136 r2.2 l0 r2.1)
      · refine Seg.blk0 (f' := (if (l1 : Int32) = 0 then 94 else 136, [.ref l0, .int l1, .int r2.1], [])) (h' := r2.2) rfl rfl ?_
        refine Seg.ite (fun _ => ?_) (fun _ => ?_)
        · refine Seg.blk (f' := (if ((mI r2.2 l0 16) : Int32) = 0 then 101 else 136, [.ref l0, .int l1, .int r2.1], [])) (h' := r2.2) rfl rfl ?_
          refine Seg.ite (fun _ => ?_) (fun _ => ?_)
          · refine Seg.blk (f' := (if ((mI r2.2 ((mR r2.2 l0 18).getD 0) (Int32.toNatClampNeg 0)) : Int32) ≤ (mI r2.2 l0 20) then 127 else 114, [.ref l0, .int l1, .int r2.1], [])) (h' := r2.2) rfl rfl ?_
            refine Seg.ite (fun _ => ?_) (fun _ => ?_)
            · exact Seg.w (mLw.k (mLw.u (mLw.k mLw.nil))) (s182_127 r2.2 l0 r2.1)
            · refine Seg.blk (f' := (if ((mI r2.2 l0 21) : Int32) < (mI r2.2 ((mR r2.2 l0 18).getD 0) (Int32.toNatClampNeg 1)) then 136 else 127, [.ref l0, .int l1, .int r2.1], [])) (h' := r2.2) rfl rfl ?_
              refine Seg.ite (fun _ => ?_) (fun _ => ?_)
              · exact Seg.w (mLw.k (mLw.u (mLw.k mLw.nil))) (s182_136 r2.2 l0 r2.1)
              · exact Seg.w (mLw.k (mLw.u (mLw.k mLw.nil))) (s182_127 r2.2 l0 r2.1)
          · exact Seg.w (mLw.k (mLw.u (mLw.k mLw.nil))) (s182_136 r2.2 l0 r2.1)
        · exact Seg.w (mLw.k (mLw.u (mLw.k mLw.nil))) (s182_136 r2.2 l0 r2.1)
    · refine Seg.blk0 (f' := (55, [.ref l0, .int l1, .int s.1], [.int 0, .int 2, .ref ((mR s.2 l0 18).getD 0)])) (h' := s.2) rfl rfl ?_
      refine Seg.blk (f' := (56, [.ref l0, .int l1, .int s.1], [])) (h' := (mSI s.2 ((mR s.2 l0 18).getD 0) (Int32.toNatClampNeg 2) 0)) rfl rfl ?_
      refine Seg.blk (f' := (61, [.ref l0, .int l1, .int s.1], [])) (h' := (mSI (mSI s.2 ((mR s.2 l0 18).getD 0) (Int32.toNatClampNeg 2) 0) l0 20 (-1))) rfl rfl ?_
      refine Seg.blk (f' := (66, [.ref l0, .int l1, .int s.1], [])) (h' := (mSI (mSI (mSI s.2 ((mR s.2 l0 18).getD 0) (Int32.toNatClampNeg 2) 0) l0 20 (-1)) l0 21 (-1))) rfl rfl ?_
      refine Seg.blk (f' := (71, [.ref l0, .int l1, .int s.1], [])) (h' := (mSI (mSI (mSI (mSI s.2 ((mR s.2 l0 18).getD 0) (Int32.toNatClampNeg 2) 0) l0 20 (-1)) l0 21 (-1)) l0 9 0)) rfl rfl ?_
      refine Seg.blk (f' := (76, [.ref l0, .int l1, .int s.1], [])) (h' := (mSI (mSI (mSI (mSI (mSI s.2 ((mR s.2 l0 18).getD 0) (Int32.toNatClampNeg 2) 0) l0 20 (-1)) l0 21 (-1)) l0 9 0) l0 16 0)) rfl rfl ?_
      refine Seg.call (f1 := (77, [.ref l0, .int l1, .int s.1], [.ref l0])) (h1 := (mSI (mSI (mSI (mSI (mSI s.2 ((mR s.2 l0 18).getD 0) (Int32.toNatClampNeg 2) 0) l0 20 (-1)) l0 21 (-1)) l0 9 0) l0 16 0)) (cv := fun _ => none) rfl rfl rfl rfl (s183 (mSI (mSI (mSI (mSI (mSI s.2 ((mR s.2 l0 18).getD 0) (Int32.toNatClampNeg 2) 0) l0 20 (-1)) l0 21 (-1)) l0 9 0) l0 16 0) l0) (fun r4 => ?_)
      refine Seg.call (f1 := (82, [.ref l0, .int l1, .int s.1], [.int l1, .ref l0])) (h1 := r4.2) (cv := fun r => some (.int r)) rfl rfl rfl rfl (s185 r4.2 l0 l1) (fun r5 => ?_)
      refine Seg.blk0 (f' := (if (r5.1 : Int32) = 0 then 136 else 90, [.ref l0, .int l1, .int r5.1], [])) (h' := r5.2) rfl rfl ?_
      refine Seg.ite (fun _ => ?_) (fun _ => ?_)
      · exact Seg.w (mLw.k (mLw.u (mLw.k mLw.nil))) (s182_136 r5.2 l0 r5.1)
      · refine Seg.blk0 (f' := (if (l1 : Int32) = 0 then 94 else 136, [.ref l0, .int l1, .int r5.1], [])) (h' := r5.2) rfl rfl ?_
        refine Seg.ite (fun _ => ?_) (fun _ => ?_)
        · refine Seg.blk (f' := (if ((mI r5.2 l0 16) : Int32) = 0 then 101 else 136, [.ref l0, .int l1, .int r5.1], [])) (h' := r5.2) rfl rfl ?_
          refine Seg.ite (fun _ => ?_) (fun _ => ?_)
          · refine Seg.blk (f' := (if ((mI r5.2 ((mR r5.2 l0 18).getD 0) (Int32.toNatClampNeg 0)) : Int32) ≤ (mI r5.2 l0 20) then 127 else 114, [.ref l0, .int l1, .int r5.1], [])) (h' := r5.2) rfl rfl ?_
            refine Seg.ite (fun _ => ?_) (fun _ => ?_)
            · exact Seg.w (mLw.k (mLw.u (mLw.k mLw.nil))) (s182_127 r5.2 l0 r5.1)
            · refine Seg.blk (f' := (if ((mI r5.2 l0 21) : Int32) < (mI r5.2 ((mR r5.2 l0 18).getD 0) (Int32.toNatClampNeg 1)) then 136 else 127, [.ref l0, .int l1, .int r5.1], [])) (h' := r5.2) rfl rfl ?_
              refine Seg.ite (fun _ => ?_) (fun _ => ?_)
              · exact Seg.w (mLw.k (mLw.u (mLw.k mLw.nil))) (s182_136 r5.2 l0 r5.1)
              · exact Seg.w (mLw.k (mLw.u (mLw.k mLw.nil))) (s182_127 r5.2 l0 r5.1)
          · exact Seg.w (mLw.k (mLw.u (mLw.k mLw.nil))) (s182_136 r5.2 l0 r5.1)
        · exact Seg.w (mLw.k (mLw.u (mLw.k mLw.nil))) (s182_136 r5.2 l0 r5.1)
  · refine Seg.blk (f' := (if (l1 : Int32) = 0 then 17 else 32, [.ref l0, .int l1, .int s.1], [.int s.1, .ref ((mR s.2 l0 18).getD 0)])) (h' := s.2) rfl rfl ?_
    refine Seg.ite (fun _ => ?_) (fun _ => ?_)
    · refine Seg.callP (f1 := (22, [.ref l0, .int l1, .int s.1], [.int 32, .int 27, .int s.1, .int s.1, .ref ((mR s.2 l0 18).getD 0)])) (h1 := s.2) (cv := fun r => some (.int r)) rfl rfl rfl rfl (s179 s.2 s.1 27 32) (fun r6 => ?_)
      refine Seg.blk0 (f' := (if (r6 : Int32) = 0 then 32 else 28, [.ref l0, .int l1, .int s.1], [.int s.1, .ref ((mR s.2 l0 18).getD 0)])) (h' := s.2) rfl rfl ?_
      refine Seg.ite (fun _ => ?_) (fun _ => ?_)
      · refine Seg.blk0 (f' := (33, [.ref l0, .int l1, .int s.1], [.int 0, .int s.1, .ref ((mR s.2 l0 18).getD 0)])) (h' := s.2) rfl rfl ?_
        refine Seg.blk (f' := (34, [.ref l0, .int l1, .int s.1], [])) (h' := (mSI s.2 ((mR s.2 l0 18).getD 0) (Int32.toNatClampNeg s.1) 0)) rfl rfl ?_
        refine Seg.blk0 (f' := (2, [.ref l0, .int l1, .int (s.1 + 1)], [])) (h' := (mSI s.2 ((mR s.2 l0 18).getD 0) (Int32.toNatClampNeg s.1) 0)) rfl rfl ?_
        exact Seg.cont (fun _ q => Ev.w (mLw.k (mLw.k (mLw.k mLw.nil))) q)
      · refine Seg.blk0 (f' := (33, [.ref l0, .int l1, .int s.1], [.int 5, .int s.1, .ref ((mR s.2 l0 18).getD 0)])) (h' := s.2) rfl rfl ?_
        refine Seg.blk (f' := (34, [.ref l0, .int l1, .int s.1], [])) (h' := (mSI s.2 ((mR s.2 l0 18).getD 0) (Int32.toNatClampNeg s.1) 5)) rfl rfl ?_
        refine Seg.blk0 (f' := (2, [.ref l0, .int l1, .int (s.1 + 1)], [])) (h' := (mSI s.2 ((mR s.2 l0 18).getD 0) (Int32.toNatClampNeg s.1) 5)) rfl rfl ?_
        exact Seg.cont (fun _ q => Ev.w (mLw.k (mLw.k (mLw.k mLw.nil))) q)
    · refine Seg.blk0 (f' := (33, [.ref l0, .int l1, .int s.1], [.int 0, .int s.1, .ref ((mR s.2 l0 18).getD 0)])) (h' := s.2) rfl rfl ?_
      refine Seg.blk (f' := (34, [.ref l0, .int l1, .int s.1], [])) (h' := (mSI s.2 ((mR s.2 l0 18).getD 0) (Int32.toNatClampNeg s.1) 0)) rfl rfl ?_
      refine Seg.blk0 (f' := (2, [.ref l0, .int l1, .int (s.1 + 1)], [])) (h' := (mSI s.2 ((mR s.2 l0 18).getD 0) (Int32.toNatClampNeg s.1) 0)) rfl rfl ?_
      exact Seg.cont (fun _ q => Ev.w (mLw.k (mLw.k (mLw.k mLw.nil))) q)
theorem s182 (h : mH) (l0 : Nat) (l1 : Int32) : Seg 182 (0, [.ref l0, .int l1, .retAddr 0], []) h (f182 h l0 l1) (fun (q : Int32 × mH) (res : Option Value × mH) => res = (some (.int q.1), q.2)) := by
  unfold f182
  refine Seg.blk0 (f' := (2, [.ref l0, .int l1, .int 0], [])) (h' := h) rfl rfl ?_
  exact Seg.w (mLw.k (mLw.k (mLw.k mLw.nil))) (s182_2 l0 l1 mFuel (0, h))
theorem s202_3 (l0 : Nat) (l1 : Nat) (l2 : Int32) (l3 : Int32) : ∀ (n : Nat) (s : (Int32 × mH)), Seg 202 (3, [.ref l0, .ref l1, .int l2, .int l3, .int s.1], []) s.2 (mLoop (f202_3 l0 l1 l2 l3) n s) (fun (q : Unit × mH) (res : Option Value × mH) => res = (none, q.2)) := by
  refine Seg.loop (F := fun s : (Int32 × mH) => (3, [.ref l0, .ref l1, .int l2, .int l3, .int s.1], [])) (H := fun s : (Int32 × mH) => s.2) (fun s => ?_)
  show Seg 202 (3, [.ref l0, .ref l1, .int l2, .int l3, .int s.1], []) s.2 _ (Sum.elim (fun s : (Int32 × mH) => Ev 202 (3, [.ref l0, .ref l1, .int l2, .int l3, .int s.1], []) s.2) (fun (q : Unit × mH) (res : Option Value × mH) => res = (none, q.2)))
  unfold f202_3
  refine Seg.blk0 (f' := (if (l2 : Int32) ≤ s.1 then 30 else 9, [.ref l0, .ref l1, .int l2, .int l3, .int s.1], [])) (h' := s.2) rfl rfl ?_
  refine Seg.ite (fun _ => ?_) (fun _ => ?_)
  · refine Seg.x ?_
    exact Seg.ret (f1 := (30, [.ref l0, .ref l1, .int l2, .int l3, .int s.1], [])) (h1 := s.2) rfl rfl rfl rfl (fun _ q => q)
  · refine Seg.blk (f' := (24, [.ref l0, .ref l1, .int l2, .int l3, .int s.1], [])) (h' := (mSI s.2 l1 (Int32.toNatClampNeg ((l2 * l3) + s.1)) (mI s.2 ((mR s.2 l0 18).getD 0) (Int32.toNatClampNeg s.1)))) rfl rfl ?_
    refine Seg.blk0 (f' := (3, [.ref l0, .ref l1, .int l2, .int l3, .int (s.1 + 1)], [])) (h' := (mSI s.2 l1 (Int32.toNatClampNeg ((l2 * l3) + s.1)) (mI s.2 ((mR s.2 l0 18).getD 0) (Int32.toNatClampNeg s.1)))) rfl rfl ?_
    exact Seg.cont (fun _ q => Ev.w (mLw.k (mLw.k (mLw.k (mLw.k (mLw.k mLw.nil))))) q)
theorem s202 (h : mH) (l0 : Nat) (l1 : Nat) (l2 : Int32) (l3 : Int32) : Seg 202 (0, [.ref l0, .ref l1, .int l2, .int l3, .retAddr 0], []) h (f202 h l0 l1 l2 l3) (fun (q : Unit × mH) (res : Option Value × mH) => res = (none, q.2)) := by
  unfold f202
  refine Seg.blk0 (f' := (3, [.ref l0, .ref l1, .int l2, .int l3, .int 0], [])) (h' := h) rfl rfl ?_
  exact Seg.w (mLw.k (mLw.k (mLw.k (mLw.k (mLw.k mLw.nil))))) (s202_3 l0 l1 l2 l3 mFuel (0, h))
theorem s180_72 (h : mH) : Seg 180 (72, [.retAddr 0, .retAddr 0, .retAddr 0, .retAddr 0], []) h (f180_72 h) (fun (q : Int32 × mH) (res : Option Value × mH) => res = (some (.int q.1), q.2)) := by
  unfold f180_72
  exact Seg.ret (f1 := (74, [.retAddr 0, .retAddr 0, .retAddr 0, .retAddr 0], [.int (-2)])) (h1 := h) rfl rfl rfl rfl (fun _ q => q)
theorem s180_168 (h : mH) (l3 : Int32) : Seg 180 (168, [.retAddr 0, .retAddr 0, .retAddr 0, .int l3], []) h (f180_168 h l3) (fun (q : Int32 × mH) (res : Option Value × mH) => res = (some (.int q.1), q.2)) := by
  unfold f180_168
  exact Seg.ret (f1 := (169, [.retAddr 0, .retAddr 0, .retAddr 0, .int l3], [.int l3])) (h1 := h) rfl rfl rfl rfl (fun _ q => q)
theorem s180_100 (h : mH) (l0 : Nat) (l1 : Int32) (l2 : Int32) (q0 : Int32) : Seg 180 (100, [.ref l0, .int l1, .int l2, .retAddr 0], [.int q0]) h (f180_100 h l0 l1 l2 q0) (fun (q : Int32 × mH) (res : Option Value × mH) => res = (some (.int q.1), q.2)) := by
  unfold f180_100
  refine Seg.blk (f' := (if (l2 : Int32) = (-1) then 113 else 117, [.ref l0, .int l1, .int l2, .int q0], [.int (mI h ((mR h l0 5).getD 0) (Int32.toNatClampNeg l1)), .int l1, .ref ((mR h l0 5).getD 0)])) (h' := h) rfl rfl ?_
  refine Seg.ite (fun _ => ?_) (fun _ => ?_)
  · refine Seg.blk0 (f' := (118, [.ref l0, .int l1, .int l2, .int q0], [.int 1, .int (mI h ((mR h l0 5).getD 0) (Int32.toNatClampNeg l1)), .int l1, .ref ((mR h l0 5).getD 0)])) (h' := h) rfl rfl ?_
    refine Seg.blk (f' := (120, [.ref l0, .int l1, .int l2, .int q0], [])) (h' := (mSI h ((mR h l0 5).getD 0) (Int32.toNatClampNeg l1) ((mI h ((mR h l0 5).getD 0) (Int32.toNatClampNeg l1)) + 1))) rfl rfl ?_
    refine Seg.blk0 (f' := (if (l1 : Int32) = 0 then 124 else 138, [.ref l0, .int l1, .int l2, .int q0], [])) (h' := (mSI h ((mR h l0 5).getD 0) (Int32.toNatClampNeg l1) ((mI h ((mR h l0 5).getD 0) (Int32.toNatClampNeg l1)) + 1))) rfl rfl ?_
    refine Seg.ite (fun _ => ?_) (fun _ => ?_)
    · refine Seg.call (f1 := (132, [.ref l0, .int l1, .int l2, .int q0], [.int q0, .int 45, .ref ((mR h l0 6).getD 0), .ref l0])) (h1 := (mSI h ((mR h l0 5).getD 0) (Int32.toNatClampNeg l1) ((mI h ((mR h l0 5).getD 0) (Int32.toNatClampNeg l1)) + 1))) (cv := fun _ => none) rfl rfl rfl rfl (s202 (mSI h ((mR h l0 5).getD 0) (Int32.toNatClampNeg l1) ((mI h ((mR h l0 5).getD 0) (Int32.toNatClampNeg l1)) + 1)) l0 ((mR h l0 6).getD 0) 45 q0) (fun r3 => ?_)
      refine Seg.blk0 (f' := (168, [.ref l0, .int l1, .int l2, .int q0], [])) (h' := r3.2) rfl rfl ?_
      exact Seg.w (mLw.u (mLw.u (mLw.u (mLw.k mLw.nil)))) (s180_168 r3.2 q0)
    · refine Seg.blk0 (f' := (if (l1 : Int32) = 1 then 143 else 157, [.ref l0, .int l1, .int l2, .int q0], [])) (h' := (mSI h ((mR h l0 5).getD 0) (Int32.toNatClampNeg l1) ((mI h ((mR h l0 5).getD 0) (Int32.toNatClampNeg l1)) + 1))) rfl rfl ?_
      refine Seg.ite (fun _ => ?_) (fun _ => ?_)
      · refine Seg.call (f1 := (151, [.ref l0, .int l1, .int l2, .int q0], [.int q0, .int 121, .ref ((mR h l0 7).getD 0), .ref l0])) (h1 := (mSI h ((mR h l0 5).getD 0) (Int32.toNatClampNeg l1) ((mI h ((mR h l0 5).getD 0) (Int32.toNatClampNeg l1)) + 1))) (cv := fun _ => none) rfl rfl rfl rfl (s202 (mSI h ((mR h l0 5).getD 0) (Int32.toNatClampNeg l1) ((mI h ((mR h l0 5).getD 0) (Int32.toNatClampNeg l1)) + 1)) l0 ((mR h l0 7).getD 0) 121 q0) (fun r4 => ?_)
        refine Seg.blk0 (f' := (168, [.ref l0, .int l1, .int l2, .int q0], [])) (h' := r4.2) rfl rfl ?_
        exact Seg.w (mLw.u (mLw.u (mLw.u (mLw.k mLw.nil)))) (s180_168 r4.2 q0)
      · refine Seg.call (f1 := (165, [.ref l0, .int l1, .int l2, .int q0], [.int q0, .int 17, .ref ((mR h l0 8).getD 0), .ref l0])) (h1 := (mSI h ((mR h l0 5).getD 0) (Int32.toNatClampNeg l1) ((mI h ((mR h l0 5).getD 0) (Int32.toNatClampNeg l1)) + 1))) (cv := fun _ => none) rfl rfl rfl rfl (s202 (mSI h ((mR h l0 5).getD 0) (Int32.toNatClampNeg l1) ((mI h ((mR h l0 5).getD 0) (Int32.toNatClampNeg l1)) + 1)) l0 ((mR h l0 8).getD 0) 17 q0) (fun r5 => ?_)
        exact Seg.w (mLw.u (mLw.u (mLw.u (mLw.k mLw.nil)))) (s180_168 r5.2 q0)
  · refine Seg.blk0 (f' := (118, [.ref l0, .int l1, .int l2, .int q0], [.int 0, .int (mI h ((mR h l0 5).getD 0) (Int32.toNatClampNeg l1)), .int l1, .ref ((mR h l0 5).getD 0)])) (h' := h) rfl rfl ?_
    refine Seg.blk (f' := (120, [.ref l0, .int l1, .int l2, .int q0], [])) (h' := (mSI h ((mR h l0 5).getD 0) (Int32.toNatClampNeg l1) ((mI h ((mR h l0 5).getD 0) (Int32.toNatClampNeg l1)) + 0))) rfl rfl ?_
    refine Seg.blk0 (f' := (if (l1 : Int32) = 0 then 124 else 138, [.ref l0, .int l1, .int l2, .int q0], [])) (h' := (mSI h ((mR h l0 5).getD 0) (Int32.toNatClampNeg l1) ((mI h ((mR h l0 5).getD 0) (Int32.toNatClampNeg l1)) + 0))) rfl rfl ?_
    refine Seg.ite (fun _ => ?_) (fun _ => ?_)
    · refine Seg.call (f1 := (132, [.ref l0, .int l1, .int l2, .int q0], [.int q0, .int 45, .ref ((mR h l0 6).getD 0), .ref l0])) (h1 := (mSI h ((mR h l0 5).getD 0) (Int32.toNatClampNeg l1) ((mI h ((mR h l0 5).getD 0) (Int32.toNatClampNeg l1)) + 0))) (cv := fun _ => none) rfl rfl rfl rfl (s202 (mSI h ((mR h l0 5).getD 0) (Int32.toNatClampNeg l1) ((mI h ((mR h l0 5).getD 0) (Int32.toNatClampNeg l1)) + 0)) l0 ((mR h l0 6).getD 0) 45 q0) (fun r6 => ?_)
      refine Seg.blk0 (f' := (168, [.ref l0, .int l1, .int l2, .int q0], [])) (h' := r6.2) rfl rfl ?_
      exact Seg.w (mLw.u (mLw.u (mLw.u (mLw.k mLw.nil)))) (s180_168 r6.2 q0)
    · refine Seg.blk0 (f' := (if (l1 : Int32) = 1 then 143 else 157, [.ref l0, .int l1, .int l2, .int q0], [])) (h' := (mSI h ((mR h l0 5).getD 0) (Int32.toNatClampNeg l1) ((mI h ((mR h l0 5).getD 0) (Int32.toNatClampNeg l1)) + 0))) rfl rfl ?_
      refine Seg.ite (fun _ => ?_) (fun _ => ?_)
      · refine Seg.call (f1 := (151, [.ref l0, .int l1, .int l2, .int q0], [.int q0, .int 121, .ref ((mR h l0 7).getD 0), .ref l0])) (h1 := (mSI h ((mR h l0 5).getD 0) (Int32.toNatClampNeg l1) ((mI h ((mR h l0 5).getD 0) (Int32.toNatClampNeg l1)) + 0))) (cv := fun _ => none) rfl rfl rfl rfl (s202 (mSI h ((mR h l0 5).getD 0) (Int32.toNatClampNeg l1) ((mI h ((mR h l0 5).getD 0) (Int32.toNatClampNeg l1)) + 0)) l0 ((mR h l0 7).getD 0) 121 q0) (fun r7 => ?_)
        refine Seg.blk0 (f' := (168, [.ref l0, .int l1, .int l2, .int q0], [])) (h' := r7.2) rfl rfl ?_
        exact Seg.w (mLw.u (mLw.u (mLw.u (mLw.k mLw.nil)))) (s180_168 r7.2 q0)
      · refine Seg.call (f1 := (165, [.ref l0, .int l1, .int l2, .int q0], [.int q0, .int 17, .ref ((mR h l0 8).getD 0), .ref l0])) (h1 := (mSI h ((mR h l0 5).getD 0) (Int32.toNatClampNeg l1) ((mI h ((mR h l0 5).getD 0) (Int32.toNatClampNeg l1)) + 0))) (cv := fun _ => none) rfl rfl rfl rfl (s202 (mSI h ((mR h l0 5).getD 0) (Int32.toNatClampNeg l1) ((mI h ((mR h l0 5).getD 0) (Int32.toNatClampNeg l1)) + 0)) l0 ((mR h l0 8).getD 0) 17 q0) (fun r8 => ?_)
        exact Seg.w (mLw.u (mLw.u (mLw.u (mLw.k mLw.nil)))) (s180_168 r8.2 q0)
theorem s180_75 (h : mH) (l0 : Nat) (l1 : Int32) (l2 : Int32) : Seg 180 (75, [.ref l0, .int l1, .int l2, .retAddr 0], []) h (f180_75 h l0 l1 l2) (fun (q : Int32 × mH) (res : Option Value × mH) => res = (some (.int q.1), q.2)) := by
  unfold f180_75
  refine Seg.call (f1 := (77, [.ref l0, .int l1, .int l2, .retAddr 0], [.int l1, .ref l0])) (h1 := h) (cv := fun r => some (.int r)) rfl rfl rfl rfl (s182 h l0 l1) (fun r2 => ?_)
  refine Seg.blk0 (f' := (if (r2.1 : Int32) = 0 then 83 else 85, [.ref l0, .int l1, .int l2, .retAddr 0], [])) (h' := r2.2) rfl rfl ?_
  refine Seg.ite (fun _ => ?_) (fun _ => ?_)
  · exact Seg.ret (f1 := (84, [.ref l0, .int l1, .int l2, .retAddr 0], [.int (-1)])) (h1 := r2.2) rfl rfl rfl rfl (fun _ q => q)
  · refine Seg.blk0 (f' := (if (l2 : Int32) = (-1) then 90 else 99, [.ref l0, .int l1, .int l2, .retAddr 0], [])) (h' := r2.2) rfl rfl ?_
    refine Seg.ite (fun _ => ?_) (fun _ => ?_)
    · refine Seg.blk (f' := (100, [.ref l0, .int l1, .int l2, .retAddr 0], [.int (mI r2.2 ((mR r2.2 l0 5).getD 0) (Int32.toNatClampNeg l1))])) (h' := r2.2) rfl rfl ?_
      exact Seg.w (mLw.k (mLw.k (mLw.k (mLw.k mLw.nil)))) (s180_100 r2.2 l0 l1 l2 (mI r2.2 ((mR r2.2 l0 5).getD 0) (Int32.toNatClampNeg l1)))
    · refine Seg.blk0 (f' := (100, [.ref l0, .int l1, .int l2, .retAddr 0], [.int l2])) (h' := r2.2) rfl rfl ?_
      exact Seg.w (mLw.k (mLw.k (mLw.k (mLw.k mLw.nil)))) (s180_100 r2.2 l0 l1 l2 l2)
theorem s180_29 (h : mH) (l0 : Nat) (l1 : Int32) (l2 : Int32) : Seg 180 (29, [.ref l0, .int l1, .int l2, .retAddr 0], []) h (f180_29 h l0 l1 l2) (fun (q : Int32 × mH) (res : Option Value × mH) => res = (some (.int q.1), q.2)) := by
  unfold f180_29
  refine Seg.blk (f' := (36, [.ref l0, .int l1, .int l2, .retAddr 0], [])) (h' := (mSI h ((mR h l0 4).getD 0) (Int32.toNatClampNeg 0) (-1))) rfl rfl ?_
  refine Seg.callP (f1 := (39, [.ref l0, .int l1, .int l2, .retAddr 0], [.int 2, .int 0, .int l1])) (h1 := (mSI h ((mR h l0 4).getD 0) (Int32.toNatClampNeg 0) (-1))) (cv := fun r => some (.int r)) rfl rfl rfl rfl (s179 (mSI h ((mR h l0 4).getD 0) (Int32.toNatClampNeg 0) (-1)) l1 0 2) (fun r1 => ?_)
  refine Seg.blk0 (f' := (if (r1 : Int32) = 0 then 72 else 45, [.ref l0, .int l1, .int l2, .retAddr 0], [])) (h' := (mSI h ((mR h l0 4).getD 0) (Int32.toNatClampNeg 0) (-1))) rfl rfl ?_
  refine Seg.ite (fun _ => ?_) (fun _ => ?_)
  · exact Seg.w (mLw.u (mLw.u (mLw.u (mLw.k mLw.nil)))) (s180_72 (mSI h ((mR h l0 4).getD 0) (Int32.toNatClampNeg 0) (-1)))
  · refine Seg.blk0 (f' := (if (l2 : Int32) = (-1) then 50 else 63, [.ref l0, .int l1, .int l2, .retAddr 0], [])) (h' := (mSI h ((mR h l0 4).getD 0) (Int32.toNatClampNeg 0) (-1))) rfl rfl ?_
    refine Seg.ite (fun _ => ?_) (fun _ => ?_)
    · refine Seg.blk (f' := (if ((mI (mSI h ((mR h l0 4).getD 0) (Int32.toNatClampNeg 0) (-1)) ((mR h l0 5).getD 0) (Int32.toNatClampNeg l1)) : Int32) = 2 then 60 else 75, [.ref l0, .int l1, .int l2, .retAddr 0], [])) (h' := (mSI h ((mR h l0 4).getD 0) (Int32.toNatClampNeg 0) (-1))) rfl rfl ?_
      refine Seg.ite (fun _ => ?_) (fun _ => ?_)
      · refine Seg.blk0 (f' := (72, [.ref l0, .int l1, .int l2, .retAddr 0], [])) (h' := (mSI h ((mR h l0 4).getD 0) (Int32.toNatClampNeg 0) (-1))) rfl rfl ?_
        exact Seg.w (mLw.u (mLw.u (mLw.u (mLw.k mLw.nil)))) (s180_72 (mSI h ((mR h l0 4).getD 0) (Int32.toNatClampNeg 0) (-1)))
      · exact Seg.w (mLw.k (mLw.k (mLw.k (mLw.k mLw.nil)))) (s180_75 (mSI h ((mR h l0 4).getD 0) (Int32.toNatClampNeg 0) (-1)) l0 l1 l2)
    · refine Seg.callP (f1 := (66, [.ref l0, .int l1, .int l2, .retAddr 0], [.int l2, .int l1, .ref l0])) (h1 := (mSI h ((mR h l0 4).getD 0) (Int32.toNatClampNeg 0) (-1))) (cv := fun r => some (.int r)) rfl rfl rfl rfl (s181 (mSI h ((mR h l0 4).getD 0) (Int32.toNatClampNeg 0) (-1)) l0 l1 l2) (fun r9 => ?_)
      refine Seg.blk0 (f' := (if (r9 : Int32) = 0 then 72 else 75, [.ref l0, .int l1, .int l2, .retAddr 0], [])) (h' := (mSI h ((mR h l0 4).getD 0) (Int32.toNatClampNeg 0) (-1))) rfl rfl ?_
      refine Seg.ite (fun _ => ?_) (fun _ => ?_)
      · exact Seg.w (mLw.u (mLw.u (mLw.u (mLw.k mLw.nil)))) (s180_72 (mSI h ((mR h l0 4).getD 0) (Int32.toNatClampNeg 0) (-1)))
      · exact Seg.w (mLw.k (mLw.k (mLw.k (mLw.k mLw.nil)))) (s180_75 (mSI h ((mR h l0 4).getD 0) (Int32.toNatClampNeg 0) (-1)) l0 l1 l2)
theorem s180 (h : mH) (l0 : Nat) (l1 : Int32) (l2 : Int32) : Seg 180 (0, [.ref l0, .int l1, .int l2, .retAddr 0], []) h (f180 h l0 l1 l2) (fun (q : Int32 × mH) (res : Option Value × mH) => res = (some (.int q.1), q.2)) := by
  unfold f180
  refine Seg.blk (f' := (5, [.ref l0, .int l1, .int l2, .retAddr 0], [])) (h' := (mSI h l0 0 0)) rfl rfl ?_
  refine Seg.blk (f' := (15, [.ref l0, .int l1, .int l2, .retAddr 0], [])) (h' := (mSI (mSI h l0 0 0) l0 10 (mI (mSI h l0 0 0) ((mR h l0 2).getD 0) (Int32.toNatClampNeg 0)))) rfl rfl ?_
  refine Seg.blk (f' := (22, [.ref l0, .int l1, .int l2, .retAddr 0], [])) (h' := (mSI (mSI (mSI h l0 0 0) l0 10 (mI (mSI h l0 0 0) ((mR h l0 2).getD 0) (Int32.toNatClampNeg 0))) ((mR h l0 2).getD 0) (Int32.toNatClampNeg 0) 0)) rfl rfl ?_
  refine Seg.blk (f' := (29, [.ref l0, .int l1, .int l2, .retAddr 0], [])) (h' := (mSI (mSI (mSI (mSI h l0 0 0) l0 10 (mI (mSI h l0 0 0) ((mR h l0 2).getD 0) (Int32.toNatClampNeg 0))) ((mR h l0 2).getD 0) (Int32.toNatClampNeg 0) 0) ((mR h l0 3).getD 0) (Int32.toNatClampNeg 0) 0)) rfl rfl ?_
  exact Seg.w (mLw.k (mLw.k (mLw.k (mLw.k mLw.nil)))) (s180_29 (mSI (mSI (mSI (mSI h l0 0 0) l0 10 (mI (mSI h l0 0 0) ((mR h l0 2).getD 0) (Int32.toNatClampNeg 0))) ((mR h l0 2).getD 0) (Int32.toNatClampNeg 0) 0) ((mR h l0 3).getD 0) (Int32.toNatClampNeg 0) 0) l0 l1 l2)
theorem s203_33 (h : mH) (q0 : Int32) : Seg 203 (33, [.retAddr 0, .retAddr 0], [.int q0]) h (f203_33 h q0) (fun (q : Int32 × mH) (res : Option Value × mH) => res = (some (.int q.1), q.2)) := by
  unfold f203_33
  exact Seg.ret (f1 := (33, [.retAddr 0, .retAddr 0], [.int q0])) (h1 := h) rfl rfl rfl rfl (fun _ q => q)
theorem s203 (h : mH) (l0 : Nat) (l1 : Int32) : Seg 203 (0, [.ref l0, .int l1], []) h (f203 h l0 l1) (fun (q : Int32 × mH) (res : Option Value × mH) => res = (some (.int q.1), q.2)) := by
  unfold f203
  refine Seg.blk (f' := (5, [.ref l0, .int l1], [])) (h' := (mSI h l0 0 0)) rfl rfl ?_
  refine Seg.blk0 (f' := (if (l1 : Int32) = 0 then 9 else 18, [.ref l0, .int l1], [])) (h' := (mSI h l0 0 0)) rfl rfl ?_
  refine Seg.ite (fun _ => ?_) (fun _ => ?_)
  · refine Seg.blk (f' := (33, [.ref l0, .int l1], [.int (mI (mSI h l0 0 0) ((mR h l0 3).getD 0) (Int32.toNatClampNeg 0))])) (h' := (mSI h l0 0 0)) rfl rfl ?_
    exact Seg.w (mLw.u (mLw.u mLw.nil)) (s203_33 (mSI h l0 0 0) (mI (mSI h l0 0 0) ((mR h l0 3).getD 0) (Int32.toNatClampNeg 0)))
  · refine Seg.blk0 (f' := (if (l1 : Int32) = 1 then 23 else 32, [.ref l0, .int l1], [])) (h' := (mSI h l0 0 0)) rfl rfl ?_
    refine Seg.ite (fun _ => ?_) (fun _ => ?_)
    · refine Seg.blk (f' := (33, [.ref l0, .int l1], [.int (mI (mSI h l0 0 0) ((mR h l0 4).getD 0) (Int32.toNatClampNeg 0))])) (h' := (mSI h l0 0 0)) rfl rfl ?_
      exact Seg.w (mLw.u (mLw.u mLw.nil)) (s203_33 (mSI h l0 0 0) (mI (mSI h l0 0 0) ((mR h l0 4).getD 0) (Int32.toNatClampNeg 0)))
    · refine Seg.blk0 (f' := (33, [.ref l0, .int l1], [.int (-1)])) (h' := (mSI h l0 0 0)) rfl rfl ?_
      exact Seg.w (mLw.u (mLw.u mLw.nil)) (s203_33 (mSI h l0 0 0) (-1))
theorem s206 (h : mH) (l0 : Nat) (l1 : Int32) : Seg 206 (0, [.ref l0, .int l1], []) h (f206 h l0 l1) (fun (q : Int32) (res : Option Value × mH) => res = (some (.int q), h)) := by
  unfold f206
  exact Seg.ret (f1 := (14, [.ref l0, .int l1], [.int (mI h ((mR h l0 6).getD 0) (Int32.toNatClampNeg ((45 * (mI h l0 23)) + l1)))])) (h1 := h) rfl rfl rfl rfl (fun _ q => q)
theorem s207_64 (l0 : Nat) : ∀ (n : Nat) (s : (Int32 × mH)), Seg 207 (64, [.ref l0, .int s.1], []) s.2 (mLoop (f207_64 l0) n s) (fun (q : Unit × mH) (res : Option Value × mH) => res = (none, q.2)) := by
  refine Seg.loop (F := fun s : (Int32 × mH) => (64, [.ref l0, .int s.1], [])) (H := fun s : (Int32 × mH) => s.2) (fun s => ?_)
  show Seg 207 (64, [.ref l0, .int s.1], []) s.2 _ (Sum.elim (fun s : (Int32 × mH) => Ev 207 (64, [.ref l0, .int s.1], []) s.2) (fun (q : Unit × mH) (res : Option Value × mH) => res = (none, q.2)))
  unfold f207_64
  refine Seg.blk0 (f' := (if (48 : Int32) ≤ s.1 then 83 else 70, [.ref l0, .int s.1], [])) (h' := s.2) rfl rfl ?_
  refine Seg.ite (fun _ => ?_) (fun _ => ?_)
  · refine Seg.x ?_
    exact Seg.ret (f1 := (83, [.ref l0, .int s.1], [])) (h1 := s.2) rfl rfl rfl rfl (fun _ q => q)
  · refine Seg.blk (f' := (77, [.ref l0, .int s.1], [])) (h' := (mSI s.2 ((mR s.2 l0 33).getD 0) (Int32.toNatClampNeg s.1) (-1))) rfl rfl ?_
    refine Seg.blk0 (f' := (64, [.ref l0, .int (s.1 + 1)], [])) (h' := (mSI s.2 ((mR s.2 l0 33).getD 0) (Int32.toNatClampNeg s.1) (-1))) rfl rfl ?_
    exact Seg.cont (fun _ q => Ev.w (mLw.k (mLw.k mLw.nil)) q)
theorem s207_36 (l0 : Nat) : ∀ (n : Nat) (s : (Int32 × mH)), Seg 207 (36, [.ref l0, .int s.1], []) s.2 (mLoop (f207_36 l0) n s) (fun (q : Unit × mH) (res : Option Value × mH) => res = (none, q.2)) := by
  refine Seg.loop (F := fun s : (Int32 × mH) => (36, [.ref l0, .int s.1], [])) (H := fun s : (Int32 × mH) => s.2) (fun s => ?_)
  show Seg 207 (36, [.ref l0, .int s.1], []) s.2 _ (Sum.elim (fun s : (Int32 × mH) => Ev 207 (36, [.ref l0, .int s.1], []) s.2) (fun (q : Unit × mH) (res : Option Value × mH) => res = (none, q.2)))
  unfold f207_36
  refine Seg.blk0 (f' := (if (6 : Int32) ≤ s.1 then 62 else 42, [.ref l0, .int s.1], [])) (h' := s.2) rfl rfl ?_
  refine Seg.ite (fun _ => ?_) (fun _ => ?_)
  · refine Seg.x ?_
    refine Seg.blk0 (f' := (64, [.ref l0, .int 0], [])) (h' := s.2) rfl rfl ?_
    exact Seg.w (mLw.k (mLw.k mLw.nil)) (s207_64 l0 mFuel (0, s.2))
  · refine Seg.callP (f1 := (52, [.ref l0, .int s.1], [.int (27 + s.1), .ref l0, .int s.1, .ref ((mR s.2 l0 32).getD 0)])) (h1 := s.2) (cv := fun r => some (.int r)) rfl rfl rfl rfl (s206 s.2 l0 (27 + s.1)) (fun r2 => ?_)
    refine Seg.blk (f' := (56, [.ref l0, .int s.1], [])) (h' := (mSI s.2 ((mR s.2 l0 32).getD 0) (Int32.toNatClampNeg s.1) r2)) rfl rfl ?_
    refine Seg.blk0 (f' := (36, [.ref l0, .int (s.1 + 1)], [])) (h' := (mSI s.2 ((mR s.2 l0 32).getD 0) (Int32.toNatClampNeg s.1) r2)) rfl rfl ?_
    exact Seg.cont (fun _ q => Ev.w (mLw.k (mLw.k mLw.nil)) q)
theorem s207 (h : mH) (l0 : Nat) : Seg 207 (0, [.ref l0, .retAddr 0], []) h (f207 h l0) (fun (q : Unit × mH) (res : Option Value × mH) => res = (none, q.2)) := by
  unfold f207
  refine Seg.blk (f' := (5, [.ref l0, .retAddr 0], [])) (h' := (mSI h l0 26 0)) rfl rfl ?_
  refine Seg.blk (f' := (10, [.ref l0, .retAddr 0], [])) (h' := (mSI (mSI h l0 26 0) l0 27 0)) rfl rfl ?_
  refine Seg.callP (f1 := (13, [.ref l0, .retAddr 0], [.int 2, .ref l0, .ref l0])) (h1 := (mSI (mSI h l0 26 0) l0 27 0)) (cv := fun r => some (.int r)) rfl rfl rfl rfl (s206 (mSI (mSI h l0 26 0) l0 27 0) l0 2) (fun r1 => ?_)
  refine Seg.blk (f' := (19, [.ref l0, .retAddr 0], [])) (h' := (mSI (mSI (mSI h l0 26 0) l0 27 0) l0 28 r1)) rfl rfl ?_
  refine Seg.blk (f' := (24, [.ref l0, .retAddr 0], [])) (h' := (mSI (mSI (mSI (mSI h l0 26 0) l0 27 0) l0 28 r1) l0 29 0)) rfl rfl ?_
  refine Seg.blk (f' := (29, [.ref l0, .retAddr 0], [])) (h' := (mSI (mSI (mSI (mSI (mSI h l0 26 0) l0 27 0) l0 28 r1) l0 29 0) l0 30 0)) rfl rfl ?_
  refine Seg.blk (f' := (34, [.ref l0, .retAddr 0], [])) (h' := (mSI (mSI (mSI (mSI (mSI (mSI h l0 26 0) l0 27 0) l0 28 r1) l0 29 0) l0 30 0) l0 31 0)) rfl rfl ?_
  refine Seg.blk0 (f' := (36, [.ref l0, .int 0], [])) (h' := (mSI (mSI (mSI (mSI (mSI (mSI h l0 26 0) l0 27 0) l0 28 r1) l0 29 0) l0 30 0) l0 31 0)) rfl rfl ?_
  exact Seg.w (mLw.k (mLw.k mLw.nil)) (s207_36 l0 mFuel (0, (mSI (mSI (mSI (mSI (mSI (mSI h l0 26 0) l0 27 0) l0 28 r1) l0 29 0) l0 30 0) l0 31 0)))
theorem s205 (h : mH) (l0 : Nat) (l1 : Int32) : Seg 205 (0, [.ref l0, .int l1], []) h (f205 h l0 l1) (fun (q : Int32 × mH) (res : Option Value × mH) => res = (some (.int q.1), q.2)) := by
  unfold f205
  refine Seg.callP (f1 := (3, [.ref l0, .int l1], [.int l1, .int 0, .ref l0])) (h1 := h) (cv := fun r => some (.int r)) rfl rfl rfl rfl (s181 h l0 0 l1) (fun r1 => ?_)
  refine Seg.blk0 (f' := (if (r1 : Int32) = 0 then 9 else 11, [.ref l0, .int l1], [])) (h' := h) rfl rfl ?_
  refine Seg.ite (fun _ => ?_) (fun _ => ?_)
  · exact Seg.ret (f1 := (10, [.ref l0, .int l1], [.int 0])) (h1 := h) rfl rfl rfl rfl (fun _ q => q)
  · refine Seg.blk (f' := (16, [.ref l0, .int l1], [])) (h' := (mSI h l0 23 l1)) rfl rfl ?_
    refine Seg.callP (f1 := (19, [.ref l0, .int l1], [.int 0, .ref l0, .ref l0])) (h1 := (mSI h l0 23 l1)) (cv := fun r => some (.int r)) rfl rfl rfl rfl (s206 (mSI h l0 23 l1) l0 0) (fun r2 => ?_)
    refine Seg.blk (f' := (25, [.ref l0, .int l1], [])) (h' := (mSI (mSI h l0 23 l1) l0 24 r2)) rfl rfl ?_
    refine Seg.callP (f1 := (28, [.ref l0, .int l1], [.int 1, .ref l0, .ref l0])) (h1 := (mSI (mSI h l0 23 l1) l0 24 r2)) (cv := fun r => some (.int r)) rfl rfl rfl rfl (s206 (mSI (mSI h l0 23 l1) l0 24 r2) l0 1) (fun r3 => ?_)
    refine Seg.blk (f' := (34, [.ref l0, .int l1], [])) (h' := (mSI (mSI (mSI h l0 23 l1) l0 24 r2) l0 25 r3)) rfl rfl ?_
    refine Seg.call (f1 := (35, [.ref l0, .int l1], [.ref l0])) (h1 := (mSI (mSI (mSI h l0 23 l1) l0 24 r2) l0 25 r3)) (cv := fun _ => none) rfl rfl rfl rfl (s207 (mSI (mSI (mSI h l0 23 l1) l0 24 r2) l0 25 r3) l0) (fun r4 => ?_)
    exact Seg.ret (f1 := (39, [.ref l0, .int l1], [.int 1])) (h1 := r4.2) rfl rfl rfl rfl (fun _ q => q)
theorem s204_86 (h : mH) (q0 : Int32) : Seg 204 (86, [.retAddr 0, .retAddr 0, .retAddr 0, .retAddr 0], [.int q0]) h (f204_86 h q0) (fun (q : Int32 × mH) (res : Option Value × mH) => res = (some (.int q.1), q.2)) := by
  unfold f204_86
  exact Seg.ret (f1 := (86, [.retAddr 0, .retAddr 0, .retAddr 0, .retAddr 0], [.int q0])) (h1 := h) rfl rfl rfl rfl (fun _ q => q)
theorem s204_116 (h : mH) (q0 : Int32) : Seg 204 (116, [.retAddr 0, .retAddr 0, .retAddr 0, .retAddr 0], [.int q0]) h (f204_116 h q0) (fun (q : Int32 × mH) (res : Option Value × mH) => res = (some (.int q.1), q.2)) := by
  unfold f204_116
  exact Seg.ret (f1 := (116, [.retAddr 0, .retAddr 0, .retAddr 0, .retAddr 0], [.int q0])) (h1 := h) rfl rfl rfl rfl (fun _ q => q)
theorem s204_87 (h : mH) (l0 : Nat) (l2 : Int32) (l3 : Int32) : Seg 204 (87, [.ref l0, .retAddr 0, .int l2, .int l3], []) h (f204_87 h l0 l2 l3) (fun (q : Int32 × mH) (res : Option Value × mH) => res = (some (.int q.1), q.2)) := by
  unfold f204_87
  refine Seg.blk (f' := (if ((mI h l0 24) : Int32) ≤ l3 then 115 else 95, [.ref l0, .retAddr 0, .int l2, .int l3], [])) (h' := h) rfl rfl ?_
  refine Seg.ite (fun _ => ?_) (fun _ => ?_)
  · refine Seg.blk0 (f' := (116, [.ref l0, .retAddr 0, .int l2, .int l3], [.int (-1)])) (h' := h) rfl rfl ?_
    exact Seg.w (mLw.u (mLw.k (mLw.u (mLw.u mLw.nil)))) (s204_116 h (-1))
  · refine Seg.callP (f1 := (109, [.ref l0, .retAddr 0, .int l2, .int l3], [.int ((3 + (8 * ((l2 / 10) - 1))) + l3), .ref l0])) (h1 := h) (cv := fun r => some (.int r)) rfl rfl rfl rfl (s206 h l0 ((3 + (8 * ((l2 / 10) - 1))) + l3)) (fun r4 => ?_)
    refine Seg.blk0 (f' := (116, [.ref l0, .retAddr 0, .int l2, .int l3], [.int r4])) (h' := h) rfl rfl ?_
    exact Seg.w (mLw.u (mLw.k (mLw.u (mLw.u mLw.nil)))) (s204_116 h r4)
theorem s204_135 (h : mH) (q0 : Int32) : Seg 204 (135, [.retAddr 0, .retAddr 0, .retAddr 0, .retAddr 0], [.int q0]) h (f204_135 h q0) (fun (q : Int32 × mH) (res : Option Value × mH) => res = (some (.int q.1), q.2)) := by
  unfold f204_135
  exact Seg.ret (f1 := (135, [.retAddr 0, .retAddr 0, .retAddr 0, .retAddr 0], [.int q0])) (h1 := h) rfl rfl rfl rfl (fun _ q => q)
theorem s204_167 (h : mH) (q0 : Int32) : Seg 204 (167, [.retAddr 0, .retAddr 0, .retAddr 0, .retAddr 0], [.int q0]) h (f204_167 h q0) (fun (q : Int32 × mH) (res : Option Value × mH) => res = (some (.int q.1), q.2)) := by
  unfold f204_167
  exact Seg.ret (f1 := (167, [.retAddr 0, .retAddr 0, .retAddr 0, .retAddr 0], [.int q0])) (h1 := h) rfl rfl rfl rfl (fun _ q => q)
theorem s204_136 (h : mH) (l0 : Nat) (l2 : Int32) (l3 : Int32) : Seg 204 (136, [.ref l0, .retAddr 0, .int l2, .int l3], []) h (f204_136 h l0 l2 l3) (fun (q : Int32 × mH) (res : Option Value × mH) => res = (some (.int q.1), q.2)) := by
  unfold f204_136
  refine Seg.blk (f' := (if ((mI h l0 25) : Int32) ≤ l3 then 166 else 144, [.ref l0, .retAddr 0, .int l2, .int l3], [])) (h' := h) rfl rfl ?_
  refine Seg.ite (fun _ => ?_) (fun _ => ?_)
  · refine Seg.blk0 (f' := (167, [.ref l0, .retAddr 0, .int l2, .int l3], [.int (-1)])) (h' := h) rfl rfl ?_
    exact Seg.w (mLw.u (mLw.k (mLw.u (mLw.u mLw.nil)))) (s204_167 h (-1))
  · refine Seg.blk0 (f' := (if (60 : Int32) ≤ l2 then 156 else 151, [.ref l0, .retAddr 0, .int l2, .int l3], [.ref l0])) (h' := h) rfl rfl ?_
    refine Seg.ite (fun _ => ?_) (fun _ => ?_)
    · refine Seg.blk0 (f' := (158, [.ref l0, .retAddr 0, .int l2, .int l3], [.int 39, .ref l0])) (h' := h) rfl rfl ?_
      refine Seg.callP (f1 := (160, [.ref l0, .retAddr 0, .int l2, .int l3], [.int (39 + l3), .ref l0])) (h1 := h) (cv := fun r => some (.int r)) rfl rfl rfl rfl (s206 h l0 (39 + l3)) (fun r6 => ?_)
      refine Seg.blk0 (f' := (167, [.ref l0, .retAddr 0, .int l2, .int l3], [.int r6])) (h' := h) rfl rfl ?_
      exact Seg.w (mLw.u (mLw.k (mLw.u (mLw.u mLw.nil)))) (s204_167 h r6)
    · refine Seg.blk0 (f' := (158, [.ref l0, .retAddr 0, .int l2, .int l3], [.int 33, .ref l0])) (h' := h) rfl rfl ?_
      refine Seg.callP (f1 := (160, [.ref l0, .retAddr 0, .int l2, .int l3], [.int (33 + l3), .ref l0])) (h1 := h) (cv := fun r => some (.int r)) rfl rfl rfl rfl (s206 h l0 (33 + l3)) (fun r7 => ?_)
      refine Seg.blk0 (f' := (167, [.ref l0, .retAddr 0, .int l2, .int l3], [.int r7])) (h' := h) rfl rfl ?_
      exact Seg.w (mLw.u (mLw.k (mLw.u (mLw.u mLw.nil)))) (s204_167 h r7)
theorem s204 (h : mH) (l0 : Nat) (l1 : Int32) (l2 : Int32) : Seg 204 (0, [.ref l0, .int l1, .int l2, .retAddr 0], []) h (f204 h l0 l1 l2) (fun (q : Int32 × mH) (res : Option Value × mH) => res = (some (.int q.1), q.2)) := by
  unfold f204
  refine Seg.blk (f' := (5, [.ref l0, .int l1, .int l2, .retAddr 0], [])) (h' := (mSI h l0 0 0)) rfl rfl ?_
  refine Seg.call (f1 := (7, [.ref l0, .int l1, .int l2, .retAddr 0], [.int l1, .ref l0])) (h1 := (mSI h l0 0 0)) (cv := fun r => some (.int r)) rfl rfl rfl rfl (s205 (mSI h l0 0 0) l0 l1) (fun r1 => ?_)
  refine Seg.blk0 (f' := (if (r1.1 : Int32) = 0 then 13 else 15, [.ref l0, .int l1, .int l2, .retAddr 0], [])) (h' := r1.2) rfl rfl ?_
  refine Seg.ite (fun _ => ?_) (fun _ => ?_)
  · exact Seg.ret (f1 := (14, [.ref l0, .int l1, .int l2, .retAddr 0], [.int (-1)])) (h1 := r1.2) rfl rfl rfl rfl (fun _ q => q)
  · refine Seg.blk (f' := (if ((l2 / 10) : Int32) = 0 then 68 else if ((l2 / 10) : Int32) = 1 then 87 else if ((l2 / 10) : Int32) = 2 then 87 else if ((l2 / 10) : Int32) = 3 then 87 else if ((l2 / 10) : Int32) = 4 then 117 else if ((l2 / 10) : Int32) = 5 then 136 else if ((l2 / 10) : Int32) = 6 then 136 else 168, [.ref l0, .int l1, .int l2, .int (l2 - l2 / 10 * 10)], [])) (h' := r1.2) rfl rfl ?_
    refine Seg.ite (fun _ => ?_) (fun _ => ?_)
    · refine Seg.callP (f1 := (71, [.ref l0, .int l1, .int l2, .int (l2 - l2 / 10 * 10)], [.int 2, .int 0, .int l2])) (h1 := r1.2) (cv := fun r => some (.int r)) rfl rfl rfl rfl (s179 r1.2 l2 0 2) (fun r2 => ?_)
      refine Seg.blk0 (f' := (if (r2 : Int32) = 0 then 85 else 77, [.ref l0, .int l1, .int l2, .int (l2 - l2 / 10 * 10)], [])) (h' := r1.2) rfl rfl ?_
      refine Seg.ite (fun _ => ?_) (fun _ => ?_)
      · refine Seg.blk0 (f' := (86, [.ref l0, .int l1, .int l2, .int (l2 - l2 / 10 * 10)], [.int (-1)])) (h' := r1.2) rfl rfl ?_
        exact Seg.w (mLw.u (mLw.u (mLw.u (mLw.u mLw.nil)))) (s204_86 r1.2 (-1))
      · refine Seg.callP (f1 := (79, [.ref l0, .int l1, .int l2, .int (l2 - l2 / 10 * 10)], [.int l2, .ref l0])) (h1 := r1.2) (cv := fun r => some (.int r)) rfl rfl rfl rfl (s206 r1.2 l0 l2) (fun r3 => ?_)
        refine Seg.blk0 (f' := (86, [.ref l0, .int l1, .int l2, .int (l2 - l2 / 10 * 10)], [.int r3])) (h' := r1.2) rfl rfl ?_
        exact Seg.w (mLw.u (mLw.u (mLw.u (mLw.u mLw.nil)))) (s204_86 r1.2 r3)
    refine Seg.ite (fun _ => ?_) (fun _ => ?_)
    · exact Seg.w (mLw.k (mLw.u (mLw.k (mLw.k mLw.nil)))) (s204_87 r1.2 l0 l2 (l2 - l2 / 10 * 10))
    refine Seg.ite (fun _ => ?_) (fun _ => ?_)
    · exact Seg.w (mLw.k (mLw.u (mLw.k (mLw.k mLw.nil)))) (s204_87 r1.2 l0 l2 (l2 - l2 / 10 * 10))
    refine Seg.ite (fun _ => ?_) (fun _ => ?_)
    · exact Seg.w (mLw.k (mLw.u (mLw.k (mLw.k mLw.nil)))) (s204_87 r1.2 l0 l2 (l2 - l2 / 10 * 10))
    refine Seg.ite (fun _ => ?_) (fun _ => ?_)
    · refine Seg.blk0 (f' := (if (6 : Int32) ≤ (l2 - l2 / 10 * 10) then 134 else 123, [.ref l0, .int l1, .int l2, .int (l2 - l2 / 10 * 10)], [])) (h' := r1.2) rfl rfl ?_
      refine Seg.ite (fun _ => ?_) (fun _ => ?_)
      · refine Seg.blk0 (f' := (135, [.ref l0, .int l1, .int l2, .int (l2 - l2 / 10 * 10)], [.int (-1)])) (h' := r1.2) rfl rfl ?_
        exact Seg.w (mLw.u (mLw.u (mLw.u (mLw.u mLw.nil)))) (s204_135 r1.2 (-1))
      · refine Seg.callP (f1 := (128, [.ref l0, .int l1, .int l2, .int (l2 - l2 / 10 * 10)], [.int (27 + (l2 - l2 / 10 * 10)), .ref l0])) (h1 := r1.2) (cv := fun r => some (.int r)) rfl rfl rfl rfl (s206 r1.2 l0 (27 + (l2 - l2 / 10 * 10))) (fun r5 => ?_)
        refine Seg.blk0 (f' := (135, [.ref l0, .int l1, .int l2, .int (l2 - l2 / 10 * 10)], [.int r5])) (h' := r1.2) rfl rfl ?_
        exact Seg.w (mLw.u (mLw.u (mLw.u (mLw.u mLw.nil)))) (s204_135 r1.2 r5)
    refine Seg.ite (fun _ => ?_) (fun _ => ?_)
    · exact Seg.w (mLw.k (mLw.u (mLw.k (mLw.k mLw.nil)))) (s204_136 r1.2 l0 l2 (l2 - l2 / 10 * 10))
    refine Seg.ite (fun _ => ?_) (fun _ => ?_)
    · exact Seg.w (mLw.k (mLw.u (mLw.k (mLw.k mLw.nil)))) (s204_136 r1.2 l0 l2 (l2 - l2 / 10 * 10))
    · exact Seg.ret (f1 := (169, [.ref l0, .int l1, .int l2, .int (l2 - l2 / 10 * 10)], [.int (-1)])) (h1 := r1.2) rfl rfl rfl rfl (fun _ q => q)
theorem s209 (h : mH) (l0 : Nat) (l1 : Int32) : Seg 209 (0, [.ref l0, .int l1], []) h (f209 h l0 l1) (fun (q : Int32 × mH) (res : Option Value × mH) => res = (some (.int q.1), q.2)) := by
  unfold f209
  refine Seg.blk (f' := (5, [.ref l0, .int l1], [])) (h' := (mSI h l0 35 l1)) rfl rfl ?_
  refine Seg.callP (f1 := (8, [.ref l0, .int l1], [.int l1, .int 1, .ref l0])) (h1 := (mSI h l0 35 l1)) (cv := fun r => some (.int r)) rfl rfl rfl rfl (s181 (mSI h l0 35 l1) l0 1 l1) (fun r1 => ?_)
  exact Seg.ret (f1 := (11, [.ref l0, .int l1], [.int r1])) (h1 := (mSI h l0 35 l1)) rfl rfl rfl rfl (fun _ q => q)
theorem s210 (h : mH) (l0 : Nat) : Seg 210 (0, [.ref l0], []) h (f210 h l0) (fun (q : Int32) (res : Option Value × mH) => res = (some (.int q), h)) := by
  unfold f210
  exact Seg.ret (f1 := (12, [.ref l0], [.int (mI h ((mR h l0 7).getD 0) (Int32.toNatClampNeg (121 * (mI h l0 35))))])) (h1 := h) rfl rfl rfl rfl (fun _ q => q)
theorem s211 (h : mH) (l0 : Nat) (l1 : Int32) (l2 : Int32) : Seg 211 (0, [.ref l0, .int l1, .int l2], []) h (f211 h l0 l1 l2) (fun (q : Int32) (res : Option Value × mH) => res = (some (.int q), h)) := by
  unfold f211
  exact Seg.ret (f1 := (20, [.ref l0, .int l1, .int l2], [.int (mI h ((mR h l0 7).getD 0) (Int32.toNatClampNeg ((((121 * (mI h l0 35)) + 1) + (3 * l1)) + l2)))])) (h1 := h) rfl rfl rfl rfl (fun _ q => q)
theorem s208_34 (h : mH) (q0 : Int32) : Seg 208 (34, [.retAddr 0, .retAddr 0, .retAddr 0, .retAddr 0], [.int q0]) h (f208_34 h q0) (fun (q : Int32 × mH) (res : Option Value × mH) => res = (some (.int q.1), q.2)) := by
  unfold f208_34
  exact Seg.ret (f1 := (34, [.retAddr 0, .retAddr 0, .retAddr 0, .retAddr 0], [.int q0])) (h1 := h) rfl rfl rfl rfl (fun _ q => q)
theorem s208_69 (h : mH) (q0 : Int32) : Seg 208 (69, [.retAddr 0, .retAddr 0, .retAddr 0, .retAddr 0], [.int q0]) h (f208_69 h q0) (fun (q : Int32 × mH) (res : Option Value × mH) => res = (some (.int q.1), q.2)) := by
  unfold f208_69
  exact Seg.ret (f1 := (69, [.retAddr 0, .retAddr 0, .retAddr 0, .retAddr 0], [.int q0])) (h1 := h) rfl rfl rfl rfl (fun _ q => q)
theorem s208_67 (h : mH) : Seg 208 (67, [.retAddr 0, .retAddr 0, .retAddr 0, .retAddr 0], []) h (f208_67 h) (fun (q : Int32 × mH) (res : Option Value × mH) => res = (some (.int q.1), q.2)) := by
  unfold f208_67
  refine Seg.blk0 (f' := (69, [.retAddr 0, .retAddr 0, .retAddr 0, .retAddr 0], [.int (-2)])) (h' := h) rfl rfl ?_
  exact Seg.w (mLw.k (mLw.k (mLw.k (mLw.k mLw.nil)))) (s208_69 h (-2))
theorem s208 (h : mH) (l0 : Nat) (l1 : Int32) (l2 : Int32) (l3 : Int32) : Seg 208 (0, [.ref l0, .int l1, .int l2, .int l3], []) h (f208 h l0 l1 l2 l3) (fun (q : Int32 × mH) (res : Option Value × mH) => res = (some (.int q.1), q.2)) := by
  unfold f208
  refine Seg.blk (f' := (5, [.ref l0, .int l1, .int l2, .int l3], [])) (h' := (mSI h l0 0 0)) rfl rfl ?_
  refine Seg.call (f1 := (7, [.ref l0, .int l1, .int l2, .int l3], [.int l1, .ref l0])) (h1 := (mSI h l0 0 0)) (cv := fun r => some (.int r)) rfl rfl rfl rfl (s209 (mSI h l0 0 0) l0 l1) (fun r1 => ?_)
  refine Seg.blk0 (f' := (if (r1.1 : Int32) = 0 then 13 else 16, [.ref l0, .int l1, .int l2, .int l3], [])) (h' := r1.2) rfl rfl ?_
  refine Seg.ite (fun _ => ?_) (fun _ => ?_)
  · exact Seg.ret (f1 := (15, [.ref l0, .int l1, .int l2, .int l3], [.int (-2)])) (h1 := r1.2) rfl rfl rfl rfl (fun _ q => q)
  · refine Seg.blk0 (f' := (if (l2 : Int32) = (-1) then 21 else 35, [.ref l0, .int l1, .int l2, .int l3], [])) (h' := r1.2) rfl rfl ?_
    refine Seg.ite (fun _ => ?_) (fun _ => ?_)
    · refine Seg.blk0 (f' := (if (l3 : Int32) = 0 then 25 else 32, [.ref l0, .int l1, .int l2, .int l3], [])) (h' := r1.2) rfl rfl ?_
      refine Seg.ite (fun _ => ?_) (fun _ => ?_)
      · refine Seg.callP (f1 := (26, [.ref l0, .int l1, .int l2, .int l3], [.ref l0])) (h1 := r1.2) (cv := fun r => some (.int r)) rfl rfl rfl rfl (s210 r1.2 l0) (fun r2 => ?_)
        refine Seg.blk0 (f' := (34, [.ref l0, .int l1, .int l2, .int l3], [.int r2])) (h' := r1.2) rfl rfl ?_
        exact Seg.w (mLw.u (mLw.u (mLw.u (mLw.u mLw.nil)))) (s208_34 r1.2 r2)
      · refine Seg.blk0 (f' := (34, [.ref l0, .int l1, .int l2, .int l3], [.int (-2)])) (h' := r1.2) rfl rfl ?_
        exact Seg.w (mLw.u (mLw.u (mLw.u (mLw.u mLw.nil)))) (s208_34 r1.2 (-2))
    · refine Seg.callP (f1 := (38, [.ref l0, .int l1, .int l2, .int l3], [.ref l0, .int 0, .int l2])) (h1 := r1.2) (cv := fun r => some (.int r)) rfl rfl rfl rfl (s210 r1.2 l0) (fun r3 => ?_)
      refine Seg.callP (f1 := (43, [.ref l0, .int l1, .int l2, .int l3], [.int (r3 - 1), .int 0, .int l2])) (h1 := r1.2) (cv := fun r => some (.int r)) rfl rfl rfl rfl (s179 r1.2 l2 0 (r3 - 1)) (fun r4 => ?_)
      refine Seg.blk0 (f' := (if (r4 : Int32) = 0 then 67 else 49, [.ref l0, .int l1, .int l2, .int l3], [])) (h' := r1.2) rfl rfl ?_
      refine Seg.ite (fun _ => ?_) (fun _ => ?_)
      · exact Seg.w (mLw.u (mLw.u (mLw.u (mLw.u mLw.nil)))) (s208_67 r1.2)
      · refine Seg.callP (f1 := (52, [.ref l0, .int l1, .int l2, .int l3], [.int 2, .int 0, .int l3])) (h1 := r1.2) (cv := fun r => some (.int r)) rfl rfl rfl rfl (s179 r1.2 l3 0 2) (fun r5 => ?_)
        refine Seg.blk0 (f' := (if (r5 : Int32) = 0 then 67 else 58, [.ref l0, .int l1, .int l2, .int l3], [])) (h' := r1.2) rfl rfl ?_
        refine Seg.ite (fun _ => ?_) (fun _ => ?_)
        · exact Seg.w (mLw.u (mLw.u (mLw.u (mLw.u mLw.nil)))) (s208_67 r1.2)
        · refine Seg.callP (f1 := (61, [.ref l0, .int l1, .int l2, .int l3], [.int l3, .int l2, .ref l0])) (h1 := r1.2) (cv := fun r => some (.int r)) rfl rfl rfl rfl (s211 r1.2 l0 l2 l3) (fun r6 => ?_)
          refine Seg.blk0 (f' := (69, [.ref l0, .int l1, .int l2, .int l3], [.int r6])) (h' := r1.2) rfl rfl ?_
          exact Seg.w (mLw.u (mLw.u (mLw.u (mLw.u mLw.nil)))) (s208_69 r1.2 r6)
theorem s213_21 (h : mH) (q0 : Int32) : Seg 213 (21, [.retAddr 0, .retAddr 0, .retAddr 0], [.int q0]) h (f213_21 h q0) (fun (q : Int32 × mH) (res : Option Value × mH) => res = (some (.int q.1), q.2)) := by
  unfold f213_21
  exact Seg.ret (f1 := (21, [.retAddr 0, .retAddr 0, .retAddr 0], [.int q0])) (h1 := h) rfl rfl rfl rfl (fun _ q => q)
theorem s213_20 (h : mH) : Seg 213 (20, [.retAddr 0, .retAddr 0, .retAddr 0], []) h (f213_20 h) (fun (q : Int32 × mH) (res : Option Value × mH) => res = (some (.int q.1), q.2)) := by
  unfold f213_20
  refine Seg.blk0 (f' := (21, [.retAddr 0, .retAddr 0, .retAddr 0], [.int 0])) (h' := h) rfl rfl ?_
  exact Seg.w (mLw.k (mLw.k (mLw.k mLw.nil))) (s213_21 h 0)
theorem s213 (h : mH) (l0 : Nat) (l1 : Int32) (l2 : Int32) : Seg 213 (0, [.ref l0, .int l1, .int l2], []) h (f213 h l0 l1 l2) (fun (q : Int32 × mH) (res : Option Value × mH) => res = (some (.int q.1), q.2)) := by
  unfold f213
  refine Seg.call (f1 := (2, [.ref l0, .int l1, .int l2], [.int l2, .ref l0])) (h1 := h) (cv := fun r => some (.int r)) rfl rfl rfl rfl (s209 h l0 l2) (fun r1 => ?_)
  refine Seg.blk0 (f' := (if (r1.1 : Int32) = 0 then 20 else 8, [.ref l0, .int l1, .int l2], [])) (h' := r1.2) rfl rfl ?_
  refine Seg.ite (fun _ => ?_) (fun _ => ?_)
  · exact Seg.w (mLw.u (mLw.u (mLw.u mLw.nil))) (s213_20 r1.2)
  · refine Seg.call (f1 := (10, [.ref l0, .int l1, .int l2], [.int l1, .ref l0])) (h1 := r1.2) (cv := fun r => some (.int r)) rfl rfl rfl rfl (s205 r1.2 l0 l1) (fun r2 => ?_)
    refine Seg.blk0 (f' := (if (r2.1 : Int32) = 0 then 20 else 16, [.ref l0, .int l1, .int l2], [])) (h' := r2.2) rfl rfl ?_
    refine Seg.ite (fun _ => ?_) (fun _ => ?_)
    · exact Seg.w (mLw.u (mLw.u (mLw.u mLw.nil))) (s213_20 r2.2)
    · refine Seg.blk0 (f' := (21, [.ref l0, .int l1, .int l2], [.int 1])) (h' := r2.2) rfl rfl ?_
      exact Seg.w (mLw.u (mLw.u (mLw.u mLw.nil))) (s213_21 r2.2 1)
