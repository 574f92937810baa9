/-! The small machine runs the programs; printed by a program of ours. -/
theorem s133_72 (h : mH) (l0 : Nat) (l1 : Nat) (l2 : Int32) (l3 : Int32) (l4 : Int32) : Seg 133 (72, [.ref l0, .ref l1, .int l2, .int l3, .int l4, .retAddr 0], []) h (f133_72 h l0 l1 l2 l3 l4) (Sum.elim (fun s : (Int32 × Int32) => Ev 133 (22, [.ref l0, .ref l1, .int l2, .int s.1, .int s.2, .retAddr 0], []) h) (Sum.elim (fun s : (Int32 × mH) => Ev 133 (9, [.ref l0, .ref l1, .int s.1, .retAddr 0, .retAddr 0, .retAddr 0], []) s.2) (fun (q : Int32 × mH) (res : Option Value × mH) => res = (some (.int q.1), q.2)))) := by
  unfold f133_72
  refine Seg.blk0 (f' := (22, [.ref l0, .ref l1, .int l2, .int l3, .int (l4 + 1), .retAddr 0], [])) (h' := h) rfl rfl ?_
  exact Seg.cont (fun _ q => Ev.w (mLw.k (mLw.k (mLw.k (mLw.k (mLw.k (mLw.k mLw.nil)))))) q)
theorem s133_22 (h : mH) (l0 : Nat) (l1 : Nat) (l2 : Int32) : ∀ (n : Nat) (s : (Int32 × Int32)), Seg 133 (22, [.ref l0, .ref l1, .int l2, .int s.1, .int s.2, .retAddr 0], []) h (mLoop (f133_22 h l0 l1 l2) n s) (Sum.elim (fun s : (Int32 × mH) => Ev 133 (9, [.ref l0, .ref l1, .int s.1, .retAddr 0, .retAddr 0, .retAddr 0], []) s.2) (fun (q : Int32 × mH) (res : Option Value × mH) => res = (some (.int q.1), q.2))) := by
  refine Seg.loop (F := fun s : (Int32 × Int32) => (22, [.ref l0, .ref l1, .int l2, .int s.1, .int s.2, .retAddr 0], [])) (H := fun s : (Int32 × Int32) => h) (fun s => ?_)
  show Seg 133 (22, [.ref l0, .ref l1, .int l2, .int s.1, .int s.2, .retAddr 0], []) h _ (Sum.elim (fun s : (Int32 × Int32) => Ev 133 (22, [.ref l0, .ref l1, .int l2, .int s.1, .int s.2, .retAddr 0], []) h) (Sum.elim (fun s : (Int32 × mH) => Ev 133 (9, [.ref l0, .ref l1, .int s.1, .retAddr 0, .retAddr 0, .retAddr 0], []) s.2) (fun (q : Int32 × mH) (res : Option Value × mH) => res = (some (.int q.1), q.2))))
  unfold f133_22
  refine Seg.blk (f' := (if ((mI h l1 6) : Int32) ≤ s.2 then 78 else 31, [.ref l0, .ref l1, .int l2, .int s.1, .int s.2, .retAddr 0], [])) (h' := h) rfl rfl ?_
  refine Seg.ite (fun _ => ?_) (fun _ => ?_)
  · refine Seg.x ?_
    refine Seg.blk (f' := (85, [.ref l0, .ref l1, .int l2, .int s.1, .int s.2, .retAddr 0], [])) (h' := (mSI h ((mR h l0 4).getD 0) (Int32.toNatClampNeg l2) s.1)) rfl rfl ?_
    refine Seg.blk0 (f' := (9, [.ref l0, .ref l1, .int (l2 + 1), .int s.1, .int s.2, .retAddr 0], [])) (h' := (mSI h ((mR h l0 4).getD 0) (Int32.toNatClampNeg l2) s.1)) rfl rfl ?_
    exact Seg.cont (fun _ q => Ev.w (mLw.k (mLw.k (mLw.k (mLw.u (mLw.u (mLw.k mLw.nil)))))) q)
  · refine Seg.blk0 (f' := (if ((l2 &&& (((1 : Int32) <<< (s.2 &&& (31 : Int32))) ^^^ (-1))) : Int32) = l2 then 72 else 47, [.ref l0, .ref l1, .int l2, .int s.1, .int s.2, .int (l2 &&& (((1 : Int32) <<< (s.2 &&& (31 : Int32))) ^^^ (-1)))], [])) (h' := h) rfl rfl ?_
    refine Seg.ite (fun _ => ?_) (fun _ => ?_)
    · exact Seg.w (mLw.k (mLw.k (mLw.k (mLw.k (mLw.k (mLw.u mLw.nil)))))) (s133_72 h l0 l1 l2 s.1 s.2)
    · refine Seg.blk (f' := (if (((mI h ((mR h l1 2).getD 0) (Int32.toNatClampNeg s.2)) &&& ((l2 &&& (((1 : Int32) <<< (s.2 &&& (31 : Int32))) ^^^ (-1))) ^^^ (-1))) : Int32) = 0 then 62 else 72, [.ref l0, .ref l1, .int l2, .int s.1, .int s.2, .int (l2 &&& (((1 : Int32) <<< (s.2 &&& (31 : Int32))) ^^^ (-1)))], [])) (h' := h) rfl rfl ?_
      refine Seg.ite (fun _ => ?_) (fun _ => ?_)
      · refine Seg.blk (f' := (72, [.ref l0, .ref l1, .int l2, .int (s.1 + (mI h ((mR h l0 4).getD 0) (Int32.toNatClampNeg (l2 &&& (((1 : Int32) <<< (s.2 &&& (31 : Int32))) ^^^ (-1)))))), .int s.2, .int (l2 &&& (((1 : Int32) <<< (s.2 &&& (31 : Int32))) ^^^ (-1)))], [])) (h' := h) rfl rfl ?_
        exact Seg.w (mLw.k (mLw.k (mLw.k (mLw.k (mLw.k (mLw.u mLw.nil)))))) (s133_72 h l0 l1 l2 (s.1 + (mI h ((mR h l0 4).getD 0) (Int32.toNatClampNeg (l2 &&& (((1 : Int32) <<< (s.2 &&& (31 : Int32))) ^^^ (-1)))))) s.2)
      · exact Seg.w (mLw.k (mLw.k (mLw.k (mLw.k (mLw.k (mLw.u mLw.nil)))))) (s133_72 h l0 l1 l2 s.1 s.2)
theorem s133_9 (l0 : Nat) (l1 : Nat) : ∀ (n : Nat) (s : (Int32 × mH)), Seg 133 (9, [.ref l0, .ref l1, .int s.1, .retAddr 0, .retAddr 0, .retAddr 0], []) s.2 (mLoop (f133_9 l0 l1) n s) (fun (q : Int32 × mH) (res : Option Value × mH) => res = (some (.int q.1), q.2)) := by
  refine Seg.loop (F := fun s : (Int32 × mH) => (9, [.ref l0, .ref l1, .int s.1, .retAddr 0, .retAddr 0, .retAddr 0], [])) (H := fun s : (Int32 × mH) => s.2) (fun s => ?_)
  show Seg 133 (9, [.ref l0, .ref l1, .int s.1, .retAddr 0, .retAddr 0, .retAddr 0], []) s.2 _ (Sum.elim (fun s : (Int32 × mH) => Ev 133 (9, [.ref l0, .ref l1, .int s.1, .retAddr 0, .retAddr 0, .retAddr 0], []) s.2) (fun (q : Int32 × mH) (res : Option Value × mH) => res = (some (.int q.1), q.2)))
  unfold f133_9
  refine Seg.callP (f1 := (11, [.ref l0, .ref l1, .int s.1, .retAddr 0, .retAddr 0, .retAddr 0], [.ref l1, .int s.1])) (h1 := s.2) (cv := fun r => some (.int r)) rfl rfl rfl rfl (s94 s.2 l1) (fun r1 => ?_)
  refine Seg.blk0 (f' := (if (r1 : Int32) < s.1 then 91 else 17, [.ref l0, .ref l1, .int s.1, .retAddr 0, .retAddr 0, .retAddr 0], [])) (h' := s.2) rfl rfl ?_
  refine Seg.ite (fun _ => ?_) (fun _ => ?_)
  · refine Seg.x ?_
    refine Seg.callP (f1 := (96, [.ref l0, .ref l1, .int s.1, .retAddr 0, .retAddr 0, .retAddr 0], [.ref l1, .ref ((mR s.2 l0 4).getD 0)])) (h1 := s.2) (cv := fun r => some (.int r)) rfl rfl rfl rfl (s94 s.2 l1) (fun r2 => ?_)
    exact Seg.ret (f1 := (100, [.ref l0, .ref l1, .int s.1, .retAddr 0, .retAddr 0, .retAddr 0], [.int (mI s.2 ((mR s.2 l0 4).getD 0) (Int32.toNatClampNeg r2))])) (h1 := s.2) rfl rfl rfl rfl (fun _ q => q)
  · refine Seg.blk0 (f' := (22, [.ref l0, .ref l1, .int s.1, .int 0, .int 0, .retAddr 0], [])) (h' := s.2) rfl rfl ?_
    exact Seg.w (mLw.k (mLw.k (mLw.k (mLw.k (mLw.k (mLw.k mLw.nil)))))) (s133_22 s.2 l0 l1 s.1 mFuel (0, 0))
theorem s133 (h : mH) (l0 : Nat) (l1 : Nat) : Seg 133 (0, [.ref l0, .ref l1, .retAddr 0, .retAddr 0, .retAddr 0, .retAddr 0], []) h (f133 h l0 l1) (fun (q : Int32 × mH) (res : Option Value × mH) => res = (some (.int q.1), q.2)) := by
  unfold f133
  refine Seg.blk (f' := (7, [.ref l0, .ref l1, .retAddr 0, .retAddr 0, .retAddr 0, .retAddr 0], [])) (h' := (mSI h ((mR h l0 4).getD 0) (Int32.toNatClampNeg 0) 1)) rfl rfl ?_
  refine Seg.blk0 (f' := (9, [.ref l0, .ref l1, .int 1, .retAddr 0, .retAddr 0, .retAddr 0], [])) (h' := (mSI h ((mR h l0 4).getD 0) (Int32.toNatClampNeg 0) 1)) rfl rfl ?_
  exact Seg.w (mLw.k (mLw.k (mLw.k (mLw.k (mLw.k (mLw.k mLw.nil)))))) (s133_9 l0 l1 mFuel (1, (mSI h ((mR h l0 4).getD 0) (Int32.toNatClampNeg 0) 1)))
theorem s135 (h : mH) (l0 : Nat) (l1 : Int32) : Seg 135 (0, [.ref l0, .int l1], []) h (f135 h l0 l1) (fun (q : Int32) (res : Option Value × mH) => res = (some (.int q), h)) := by
  unfold f135
  refine Seg.callP (f1 := (2, [.ref l0, .int l1], [.ref l0, .ref l0])) (h1 := h) (cv := fun r => some (.int r)) rfl rfl rfl rfl (s94 h l0) (fun r1 => ?_)
  refine Seg.callP (f1 := (5, [.ref l0, .int l1], [.int r1, .ref l0])) (h1 := h) (cv := fun r => some (.int r)) rfl rfl rfl rfl (s95 h l0 r1) (fun r2 => ?_)
  refine Seg.callP (f1 := (11, [.ref l0, .int l1], [.int l1, .ref l0, .int 2, .int r2])) (h1 := h) (cv := fun r => some (.int r)) rfl rfl rfl rfl (s95 h l0 l1) (fun r3 => ?_)
  exact Seg.ret (f1 := (19, [.ref l0, .int l1], [.int (if (0 : Int32) ≤ (r2 - (2 * r3)) then (r2 - (2 * r3)) else 0 - (r2 - (2 * r3)))])) (h1 := h) rfl rfl rfl rfl (fun _ q => q)
theorem s134_54 (h : mH) (l1 : Int32) : Seg 134 (54, [.retAddr 0, .int l1, .retAddr 0, .retAddr 0, .retAddr 0], []) h (f134_54 h l1) (fun (q : Int32) (res : Option Value × mH) => res = (some (.int q), h)) := by
  unfold f134_54
  exact Seg.ret (f1 := (55, [.retAddr 0, .int l1, .retAddr 0, .retAddr 0, .retAddr 0], [.int l1])) (h1 := h) rfl rfl rfl rfl (fun _ q => q)
theorem s134_48 (h : mH) (l0 : Nat) (l1 : Int32) (l2 : Int32) (l3 : Int32) : Seg 134 (48, [.ref l0, .int l1, .int l2, .int l3, .retAddr 0], []) h (f134_48 h l0 l1 l2 l3) (Sum.elim (fun s : (Int32 × Int32 × Int32) => Ev 134 (10, [.ref l0, .int s.1, .int s.2.1, .int s.2.2, .retAddr 0], []) h) (fun (q : Int32) (res : Option Value × mH) => res = (some (.int q), h))) := by
  unfold f134_48
  refine Seg.blk0 (f' := (10, [.ref l0, .int l1, .int l2, .int (l3 + 1), .retAddr 0], [])) (h' := h) rfl rfl ?_
  exact Seg.cont (fun _ q => Ev.w (mLw.k (mLw.k (mLw.k (mLw.k (mLw.k mLw.nil))))) q)
theorem s134_10 (h : mH) (l0 : Nat) : ∀ (n : Nat) (s : (Int32 × Int32 × Int32)), Seg 134 (10, [.ref l0, .int s.1, .int s.2.1, .int s.2.2, .retAddr 0], []) h (mLoop (f134_10 h l0) n s) (fun (q : Int32) (res : Option Value × mH) => res = (some (.int q), h)) := by
  refine Seg.loop (F := fun s : (Int32 × Int32 × Int32) => (10, [.ref l0, .int s.1, .int s.2.1, .int s.2.2, .retAddr 0], [])) (H := fun s : (Int32 × Int32 × Int32) => h) (fun s => ?_)
  show Seg 134 (10, [.ref l0, .int s.1, .int s.2.1, .int s.2.2, .retAddr 0], []) h _ (Sum.elim (fun s : (Int32 × Int32 × Int32) => Ev 134 (10, [.ref l0, .int s.1, .int s.2.1, .int s.2.2, .retAddr 0], []) h) (fun (q : Int32) (res : Option Value × mH) => res = (some (.int q), h)))
  unfold f134_10
  refine Seg.blk (f' := (if (((1 : Int32) <<< (((mI h l0 6) - 1) &&& (31 : Int32))) : Int32) ≤ s.2.2 then 54 else 22, [.ref l0, .int s.1, .int s.2.1, .int s.2.2, .retAddr 0], [])) (h' := h) rfl rfl ?_
  refine Seg.ite (fun _ => ?_) (fun _ => ?_)
  · refine Seg.x ?_
    exact Seg.w (mLw.u (mLw.k (mLw.u (mLw.u (mLw.k mLw.nil))))) (s134_54 h s.1)
  · refine Seg.blk (f' := (if ((mI h l0 6) : Int32) ≤ 1 then 54 else 30, [.ref l0, .int s.1, .int s.2.1, .int s.2.2, .retAddr 0], [])) (h' := h) rfl rfl ?_
    refine Seg.ite (fun _ => ?_) (fun _ => ?_)
    · refine Seg.x ?_
      exact Seg.w (mLw.u (mLw.k (mLw.u (mLw.u (mLw.k mLw.nil))))) (s134_54 h s.1)
    · refine Seg.callP (f1 := (32, [.ref l0, .int s.1, .int s.2.1, .int s.2.2, .retAddr 0], [.int s.2.2, .ref l0])) (h1 := h) (cv := fun r => some (.int r)) rfl rfl rfl rfl (s135 h l0 s.2.2) (fun r2 => ?_)
      refine Seg.blk0 (f' := (if (s.2.1 : Int32) ≤ r2 then 48 else 43, [.ref l0, .int s.1, .int s.2.1, .int s.2.2, .int r2], [])) (h' := h) rfl rfl ?_
      refine Seg.ite (fun _ => ?_) (fun _ => ?_)
      · exact Seg.w (mLw.k (mLw.k (mLw.k (mLw.k (mLw.u mLw.nil))))) (s134_48 h l0 s.1 s.2.1 s.2.2)
      · refine Seg.blk0 (f' := (48, [.ref l0, .int s.2.2, .int r2, .int s.2.2, .int r2], [])) (h' := h) rfl rfl ?_
        exact Seg.w (mLw.k (mLw.k (mLw.k (mLw.k (mLw.u mLw.nil))))) (s134_48 h l0 s.2.2 r2 s.2.2)
theorem s134 (h : mH) (l0 : Nat) : Seg 134 (0, [.ref l0, .retAddr 0, .retAddr 0, .retAddr 0, .retAddr 0], []) h (f134 h l0) (fun (q : Int32) (res : Option Value × mH) => res = (some (.int q), h)) := by
  unfold f134
  refine Seg.callP (f1 := (4, [.ref l0, .int 0, .retAddr 0, .retAddr 0, .retAddr 0], [.int 0, .ref l0])) (h1 := h) (cv := fun r => some (.int r)) rfl rfl rfl rfl (s135 h l0 0) (fun r1 => ?_)
  refine Seg.blk0 (f' := (10, [.ref l0, .int 0, .int r1, .int 1, .retAddr 0], [])) (h' := h) rfl rfl ?_
  exact Seg.w (mLw.k (mLw.k (mLw.k (mLw.k (mLw.k mLw.nil))))) (s134_10 h l0 mFuel (0, r1, 1))
theorem s136_44 (h : mH) (l0 : Nat) (l2 : Int32) (l3 : Int32) : Seg 136 (44, [.ref l0, .retAddr 0, .int l2, .int l3], []) h (f136_44 h l0 l2 l3) (Sum.elim (fun s : (Int32 × Int32) => Ev 136 (23, [.ref l0, .retAddr 0, .int s.1, .int s.2], []) h) (fun (q : Int32) (res : Option Value × mH) => res = (some (.int q), h))) := by
  unfold f136_44
  refine Seg.blk0 (f' := (23, [.ref l0, .retAddr 0, .int l2, .int (l3 + (-1))], [])) (h' := h) rfl rfl ?_
  exact Seg.cont (fun _ q => Ev.w (mLw.k (mLw.k (mLw.k (mLw.k mLw.nil)))) q)
theorem s136_23 (h : mH) (l0 : Nat) : ∀ (n : Nat) (s : (Int32 × Int32)), Seg 136 (23, [.ref l0, .retAddr 0, .int s.1, .int s.2], []) h (mLoop (f136_23 h l0) n s) (fun (q : Int32) (res : Option Value × mH) => res = (some (.int q), h)) := by
  refine Seg.loop (F := fun s : (Int32 × Int32) => (23, [.ref l0, .retAddr 0, .int s.1, .int s.2], [])) (H := fun s : (Int32 × Int32) => h) (fun s => ?_)
  show Seg 136 (23, [.ref l0, .retAddr 0, .int s.1, .int s.2], []) h _ (Sum.elim (fun s : (Int32 × Int32) => Ev 136 (23, [.ref l0, .retAddr 0, .int s.1, .int s.2], []) h) (fun (q : Int32) (res : Option Value × mH) => res = (some (.int q), h)))
  unfold f136_23
  refine Seg.blk0 (f' := (if (s.2 : Int32) < 0 then 50 else 27, [.ref l0, .retAddr 0, .int s.1, .int s.2], [])) (h' := h) rfl rfl ?_
  refine Seg.ite (fun _ => ?_) (fun _ => ?_)
  · refine Seg.x ?_
    exact Seg.ret (f1 := (51, [.ref l0, .retAddr 0, .int s.1, .int s.2], [.int s.1])) (h1 := h) rfl rfl rfl rfl (fun _ q => q)
  · refine Seg.callP (f1 := (29, [.ref l0, .retAddr 0, .int s.1, .int s.2], [.int s.2, .int s.1])) (h1 := h) (cv := fun r => some (.int r)) rfl rfl rfl rfl (s71 h s.1 s.2) (fun r2 => ?_)
    refine Seg.blk0 (f' := (if (r2 : Int32) = 0 then 44 else 35, [.ref l0, .retAddr 0, .int s.1, .int s.2], [])) (h' := h) rfl rfl ?_
    refine Seg.ite (fun _ => ?_) (fun _ => ?_)
    · exact Seg.w (mLw.k (mLw.k (mLw.k (mLw.k mLw.nil)))) (s136_44 h l0 s.1 s.2)
    · refine Seg.blk (f' := (44, [.ref l0, .retAddr 0, .int (s.1 ||| (mI h ((mR h l0 2).getD 0) (Int32.toNatClampNeg s.2))), .int s.2], [])) (h' := h) rfl rfl ?_
      exact Seg.w (mLw.k (mLw.k (mLw.k (mLw.k mLw.nil)))) (s136_44 h l0 (s.1 ||| (mI h ((mR h l0 2).getD 0) (Int32.toNatClampNeg s.2))) s.2)
theorem s136_18 (h : mH) (l0 : Nat) (l1 : Int32) (q0 : Int32) : Seg 136 (18, [.ref l0, .int l1, .retAddr 0, .retAddr 0], [.int q0]) h (f136_18 h l0 l1 q0) (fun (q : Int32) (res : Option Value × mH) => res = (some (.int q), h)) := by
  unfold f136_18
  refine Seg.blk0 (f' := (23, [.ref l0, .int l1, .int q0, .int (l1 - 1)], [])) (h' := h) rfl rfl ?_
  exact Seg.w (mLw.k (mLw.u (mLw.k (mLw.k mLw.nil)))) (s136_23 h l0 mFuel (q0, (l1 - 1)))
theorem s136 (h : mH) (l0 : Nat) (l1 : Int32) : Seg 136 (0, [.ref l0, .int l1, .retAddr 0, .retAddr 0], []) h (f136 h l0 l1) (fun (q : Int32) (res : Option Value × mH) => res = (some (.int q), h)) := by
  unfold f136
  refine Seg.callP (f1 := (2, [.ref l0, .int l1, .retAddr 0, .retAddr 0], [.int l1, .ref l0])) (h1 := h) (cv := fun r => some (.int r)) rfl rfl rfl rfl (s56 h l0 l1) (fun r1 => ?_)
  refine Seg.blk0 (f' := (if (r1 : Int32) = 0 then 17 else 8, [.ref l0, .int l1, .retAddr 0, .retAddr 0], [])) (h' := h) rfl rfl ?_
  refine Seg.ite (fun _ => ?_) (fun _ => ?_)
  · refine Seg.blk0 (f' := (18, [.ref l0, .int l1, .retAddr 0, .retAddr 0], [.int 0])) (h' := h) rfl rfl ?_
    exact Seg.w (mLw.k (mLw.k (mLw.k (mLw.k mLw.nil)))) (s136_18 h l0 l1 0)
  · refine Seg.blk (f' := (18, [.ref l0, .int l1, .retAddr 0, .retAddr 0], [.int (mI h ((mR h l0 2).getD 0) (Int32.toNatClampNeg l1))])) (h' := h) rfl rfl ?_
    exact Seg.w (mLw.k (mLw.k (mLw.k (mLw.k mLw.nil)))) (s136_18 h l0 l1 (mI h ((mR h l0 2).getD 0) (Int32.toNatClampNeg l1)))
theorem s125_166 (h : mH) (q0 : Int32) : Seg 125 (166, [.retAddr 0, .retAddr 0, .retAddr 0, .retAddr 0], [.int q0]) h (f125_166 h q0) (fun (q : Int32 × mH) (res : Option Value × mH) => res = (some (.int q.1), q.2)) := by
  unfold f125_166
  exact Seg.ret (f1 := (166, [.retAddr 0, .retAddr 0, .retAddr 0, .retAddr 0], [.int q0])) (h1 := h) rfl rfl rfl rfl (fun _ q => q)
theorem s125_164 (h : mH) : Seg 125 (164, [.retAddr 0, .retAddr 0, .retAddr 0, .retAddr 0], []) h (f125_164 h) (fun (q : Int32 × mH) (res : Option Value × mH) => res = (some (.int q.1), q.2)) := by
  unfold f125_164
  refine Seg.blk0 (f' := (166, [.retAddr 0, .retAddr 0, .retAddr 0, .retAddr 0], [.int (-2)])) (h' := h) rfl rfl ?_
  exact Seg.w (mLw.k (mLw.k (mLw.k (mLw.k mLw.nil)))) (s125_166 h (-2))
theorem s125 (h : mH) (l0 : Nat) (l1 : Int32) (l2 : Int32) : Seg 125 (0, [.ref l0, .int l1, .int l2, .retAddr 0], []) h (f125 h l0 l1 l2) (fun (q : Int32 × mH) (res : Option Value × mH) => res = (some (.int q.1), q.2)) := by
  unfold f125
  refine Seg.callP (f1 := (5, [.ref l0, .int l1, .int l2, .retAddr 0], [.int l1, .ref ((mR h l0 0).getD 0)])) (h1 := h) (cv := fun r => some (va_rf r)) rfl rfl rfl rfl (s53 h ((mR h l0 0).getD 0) l1) (fun r1 => ?_)
  cases r1 with
  | none =>
    refine Seg.blk0 (f' := (13, [.ref l0, .int l1, .int l2, .null], [])) (h' := h) rfl rfl ?_
    exact Seg.ret (f1 := (15, [.ref l0, .int l1, .int l2, .null], [.int (-2)])) (h1 := h) rfl rfl rfl rfl (fun _ q => q)
  | some a1 =>
    refine Seg.blk0 (f' := (16, [.ref l0, .int l1, .int l2, .ref a1], [])) (h' := h) rfl rfl ?_
    refine Seg.blk0 (f' := (if (l2 : Int32) = 0 then 64 else if (l2 : Int32) = 1 then 73 else if (l2 : Int32) = 2 then 82 else if (l2 : Int32) = 3 then 87 else if (l2 : Int32) = 4 then 96 else if (l2 : Int32) = 5 then 113 else if (l2 : Int32) = 6 then 122 else if (l2 : Int32) = 7 then 131 else 136, [.ref l0, .int l1, .int l2, .ref a1], [])) (h' := h) rfl rfl ?_
    refine Seg.ite (fun _ => ?_) (fun _ => ?_)
    · refine Seg.call (f1 := (69, [.ref l0, .int l1, .int l2, .ref a1], [.ref a1, .ref ((mR h l0 5).getD 0)])) (h1 := h) (cv := fun r => some (.int r)) rfl rfl rfl rfl (s126 h ((mR h l0 5).getD 0) a1) (fun r2 => ?_)
      exact Seg.ret (f1 := (72, [.ref l0, .int l1, .int l2, .ref a1], [.int r2.1])) (h1 := r2.2) rfl rfl rfl rfl (fun _ q => q)
    refine Seg.ite (fun _ => ?_) (fun _ => ?_)
    · refine Seg.call (f1 := (78, [.ref l0, .int l1, .int l2, .ref a1], [.ref a1, .ref ((mR h l0 5).getD 0)])) (h1 := h) (cv := fun r => some (.int r)) rfl rfl rfl rfl (s127 h ((mR h l0 5).getD 0) a1) (fun r3 => ?_)
      exact Seg.ret (f1 := (81, [.ref l0, .int l1, .int l2, .ref a1], [.int r3.1])) (h1 := r3.2) rfl rfl rfl rfl (fun _ q => q)
    refine Seg.ite (fun _ => ?_) (fun _ => ?_)
    · refine Seg.callP (f1 := (83, [.ref l0, .int l1, .int l2, .ref a1], [.ref a1])) (h1 := h) (cv := fun r => some (.int r)) rfl rfl rfl rfl (s128 h a1) (fun r4 => ?_)
      exact Seg.ret (f1 := (86, [.ref l0, .int l1, .int l2, .ref a1], [.int r4])) (h1 := h) rfl rfl rfl rfl (fun _ q => q)
    refine Seg.ite (fun _ => ?_) (fun _ => ?_)
    · refine Seg.callP (f1 := (89, [.ref l0, .int l1, .int l2, .ref a1], [.ref a1, .ref a1])) (h1 := h) (cv := fun r => some (.int r)) rfl rfl rfl rfl (s128 h a1) (fun r5 => ?_)
      refine Seg.callP (f1 := (92, [.ref l0, .int l1, .int l2, .ref a1], [.int r5, .ref a1])) (h1 := h) (cv := fun r => some (.int r)) rfl rfl rfl rfl (s129 h a1 r5) (fun r6 => ?_)
      exact Seg.ret (f1 := (95, [.ref l0, .int l1, .int l2, .ref a1], [.int r6])) (h1 := h) rfl rfl rfl rfl (fun _ q => q)
    refine Seg.ite (fun _ => ?_) (fun _ => ?_)
    · refine Seg.callP (f1 := (102, [.ref l0, .int l1, .int l2, .ref a1], [.ref a1, .ref a1, .ref ((mR h l0 6).getD 0)])) (h1 := h) (cv := fun r => some (.int r)) rfl rfl rfl rfl (s94 h a1) (fun r7 => ?_)
      refine Seg.call (f1 := (109, [.ref l0, .int l1, .int l2, .ref a1], [.int (mI h a1 8), .int r7, .ref a1, .ref ((mR h l0 6).getD 0)])) (h1 := h) (cv := fun r => some (.int r)) rfl rfl rfl rfl (s131 h ((mR h l0 6).getD 0) a1 r7 (mI h a1 8)) (fun r8 => ?_)
      exact Seg.ret (f1 := (112, [.ref l0, .int l1, .int l2, .ref a1], [.int r8.1])) (h1 := r8.2) rfl rfl rfl rfl (fun _ q => q)
    refine Seg.ite (fun _ => ?_) (fun _ => ?_)
    · refine Seg.call (f1 := (118, [.ref l0, .int l1, .int l2, .ref a1], [.ref a1, .ref ((mR h l0 6).getD 0)])) (h1 := h) (cv := fun r => some (.int r)) rfl rfl rfl rfl (s133 h ((mR h l0 6).getD 0) a1) (fun r9 => ?_)
      exact Seg.ret (f1 := (121, [.ref l0, .int l1, .int l2, .ref a1], [.int r9.1])) (h1 := r9.2) rfl rfl rfl rfl (fun _ q => q)
    refine Seg.ite (fun _ => ?_) (fun _ => ?_)
    · refine Seg.callP (f1 := (124, [.ref l0, .int l1, .int l2, .ref a1], [.ref a1, .ref a1])) (h1 := h) (cv := fun r => some (.int r)) rfl rfl rfl rfl (s134 h a1) (fun r10 => ?_)
      refine Seg.callP (f1 := (127, [.ref l0, .int l1, .int l2, .ref a1], [.int r10, .ref a1])) (h1 := h) (cv := fun r => some (.int r)) rfl rfl rfl rfl (s135 h a1 r10) (fun r11 => ?_)
      exact Seg.ret (f1 := (130, [.ref l0, .int l1, .int l2, .ref a1], [.int r11])) (h1 := h) rfl rfl rfl rfl (fun _ q => q)
    refine Seg.ite (fun _ => ?_) (fun _ => ?_)
    · refine Seg.callP (f1 := (132, [.ref l0, .int l1, .int l2, .ref a1], [.ref a1])) (h1 := h) (cv := fun r => some (.int r)) rfl rfl rfl rfl (s134 h a1) (fun r12 => ?_)
      exact Seg.ret (f1 := (135, [.ref l0, .int l1, .int l2, .ref a1], [.int r12])) (h1 := h) rfl rfl rfl rfl (fun _ q => q)
    · refine Seg.blk0 (f' := (if (l2 : Int32) < 10 then 164 else 142, [.ref l0, .int l1, .int l2, .ref a1], [])) (h' := h) rfl rfl ?_
      refine Seg.ite (fun _ => ?_) (fun _ => ?_)
      · exact Seg.w (mLw.u (mLw.u (mLw.u (mLw.u mLw.nil)))) (s125_164 h)
      · refine Seg.callP (f1 := (147, [.ref l0, .int l1, .int l2, .ref a1], [.int (l2 - 10), .ref a1])) (h1 := h) (cv := fun r => some (.int r)) rfl rfl rfl rfl (s56 h a1 (l2 - 10)) (fun r13 => ?_)
        refine Seg.blk0 (f' := (if (r13 : Int32) = 0 then 164 else 153, [.ref l0, .int l1, .int l2, .ref a1], [])) (h' := h) rfl rfl ?_
        refine Seg.ite (fun _ => ?_) (fun _ => ?_)
        · exact Seg.w (mLw.u (mLw.u (mLw.u (mLw.u mLw.nil)))) (s125_164 h)
        · refine Seg.callP (f1 := (158, [.ref l0, .int l1, .int l2, .ref a1], [.int (l2 - 10), .ref a1])) (h1 := h) (cv := fun r => some (.int r)) rfl rfl rfl rfl (s136 h a1 (l2 - 10)) (fun r14 => ?_)
          refine Seg.blk0 (f' := (166, [.ref l0, .int l1, .int l2, .ref a1], [.int r14])) (h' := h) rfl rfl ?_
          exact Seg.w (mLw.u (mLw.u (mLw.u (mLw.u mLw.nil)))) (s125_166 h r14)
theorem s139_101 (h : mH) (l3 : Int32) : Seg 139 (101, [.retAddr 0, .retAddr 0, .retAddr 0, .int l3, .retAddr 0, .retAddr 0, .retAddr 0, .retAddr 0], []) h (f139_101 h l3) (fun (q : Int32) (res : Option Value × mH) => res = (some (.int q), h)) := by
  unfold f139_101
  exact Seg.ret (f1 := (102, [.retAddr 0, .retAddr 0, .retAddr 0, .int l3, .retAddr 0, .retAddr 0, .retAddr 0, .retAddr 0], [.int l3])) (h1 := h) rfl rfl rfl rfl (fun _ q => q)
theorem s139_63 (h : mH) (l0 : Nat) (l1 : Nat) (l2 : Int32) (l3 : Int32) (l4 : Int32) (l5 : Int32) : ∀ (n : Nat) (s : (Int32 × Int32)), Seg 139 (63, [.ref l0, .ref l1, .int l2, .int l3, .int l4, .int l5, .int s.1, .int s.2], []) h (mLoop (f139_63 h l0 l1 l2 l3 l4 l5) n s) (Sum.elim (fun s : (Int32 × Int32) => Ev 139 (5, [.ref l0, .ref l1, .int l2, .int s.1, .int s.2, .retAddr 0, .retAddr 0, .retAddr 0], []) h) (fun (q : Int32) (res : Option Value × mH) => res = (some (.int q), h))) := by
  refine Seg.loop (F := fun s : (Int32 × Int32) => (63, [.ref l0, .ref l1, .int l2, .int l3, .int l4, .int l5, .int s.1, .int s.2], [])) (H := fun s : (Int32 × Int32) => h) (fun s => ?_)
  show Seg 139 (63, [.ref l0, .ref l1, .int l2, .int l3, .int l4, .int l5, .int s.1, .int s.2], []) h _ (Sum.elim (fun s : (Int32 × Int32) => Ev 139 (63, [.ref l0, .ref l1, .int l2, .int l3, .int l4, .int l5, .int s.1, .int s.2], []) h) (Sum.elim (fun s : (Int32 × Int32) => Ev 139 (5, [.ref l0, .ref l1, .int l2, .int s.1, .int s.2, .retAddr 0, .retAddr 0, .retAddr 0], []) h) (fun (q : Int32) (res : Option Value × mH) => res = (some (.int q), h))))
  unfold f139_63
  refine Seg.blk0 (f' := (if (l5 : Int32) ≤ s.2 then 88 else 70, [.ref l0, .ref l1, .int l2, .int l3, .int l4, .int l5, .int s.1, .int s.2], [])) (h' := h) rfl rfl ?_
  refine Seg.ite (fun _ => ?_) (fun _ => ?_)
  · refine Seg.x ?_
    refine Seg.blk0 (f' := (5, [.ref l0, .ref l1, .int l2, .int (if (l3 : Int32) < s.1 then s.1 else l3), .int (l4 + 1), .int l5, .int s.1, .int s.2], [])) (h' := h) rfl rfl ?_
    exact Seg.cont (fun _ q => Ev.w (mLw.k (mLw.k (mLw.k (mLw.k (mLw.k (mLw.u (mLw.u (mLw.u mLw.nil)))))))) q)
  · refine Seg.blk (f' := (63, [.ref l0, .ref l1, .int l2, .int l3, .int l4, .int l5, .int (s.1 + (mI h ((mR h l1 0).getD 0) (Int32.toNatClampNeg s.2))), .int (s.2 + 1)], [])) (h' := h) rfl rfl ?_
    exact Seg.cont (fun _ q => Ev.w (mLw.k (mLw.k (mLw.k (mLw.k (mLw.k (mLw.k (mLw.k (mLw.k mLw.nil)))))))) q)
theorem s139_49 (h : mH) (l0 : Nat) (l1 : Nat) (l2 : Int32) (l3 : Int32) (l4 : Int32) (q0 : Int32) : Seg 139 (49, [.ref l0, .ref l1, .int l2, .int l3, .int l4, .retAddr 0, .retAddr 0, .retAddr 0], [.int q0]) h (f139_49 h l0 l1 l2 l3 l4 q0) (Sum.elim (fun s : (Int32 × Int32) => Ev 139 (5, [.ref l0, .ref l1, .int l2, .int s.1, .int s.2, .retAddr 0, .retAddr 0, .retAddr 0], []) h) (fun (q : Int32) (res : Option Value × mH) => res = (some (.int q), h))) := by
  unfold f139_49
  refine Seg.blk (f' := (63, [.ref l0, .ref l1, .int l2, .int l3, .int l4, .int q0, .int 0, .int (mI h ((mR h l0 1).getD 0) (Int32.toNatClampNeg l4))], [])) (h' := h) rfl rfl ?_
  exact Seg.w (mLw.k (mLw.k (mLw.k (mLw.k (mLw.k (mLw.k (mLw.k (mLw.k mLw.nil)))))))) (s139_63 h l0 l1 l2 l3 l4 q0 mFuel (0, (mI h ((mR h l0 1).getD 0) (Int32.toNatClampNeg l4))))
theorem s139_45 (h : mH) (l0 : Nat) (l1 : Nat) (l2 : Int32) (l3 : Int32) (l4 : Int32) : Seg 139 (45, [.ref l0, .ref l1, .int l2, .int l3, .int l4, .retAddr 0, .retAddr 0, .retAddr 0], []) h (f139_45 h l0 l1 l2 l3 l4) (Sum.elim (fun s : (Int32 × Int32) => Ev 139 (5, [.ref l0, .ref l1, .int l2, .int s.1, .int s.2, .retAddr 0, .retAddr 0, .retAddr 0], []) h) (fun (q : Int32) (res : Option Value × mH) => res = (some (.int q), h))) := by
  unfold f139_45
  refine Seg.blk (f' := (49, [.ref l0, .ref l1, .int l2, .int l3, .int l4, .retAddr 0, .retAddr 0, .retAddr 0], [.int (mI h l1 6)])) (h' := h) rfl rfl ?_
  exact Seg.w (mLw.k (mLw.k (mLw.k (mLw.k (mLw.k (mLw.k (mLw.k (mLw.k mLw.nil)))))))) (s139_49 h l0 l1 l2 l3 l4 (mI h l1 6))
theorem s139_5 (h : mH) (l0 : Nat) (l1 : Nat) (l2 : Int32) : ∀ (n : Nat) (s : (Int32 × Int32)), Seg 139 (5, [.ref l0, .ref l1, .int l2, .int s.1, .int s.2, .retAddr 0, .retAddr 0, .retAddr 0], []) h (mLoop (f139_5 h l0 l1 l2) n s) (fun (q : Int32) (res : Option Value × mH) => res = (some (.int q), h)) := by
  refine Seg.loop (F := fun s : (Int32 × Int32) => (5, [.ref l0, .ref l1, .int l2, .int s.1, .int s.2, .retAddr 0, .retAddr 0, .retAddr 0], [])) (H := fun s : (Int32 × Int32) => h) (fun s => ?_)
  show Seg 139 (5, [.ref l0, .ref l1, .int l2, .int s.1, .int s.2, .retAddr 0, .retAddr 0, .retAddr 0], []) h _ (Sum.elim (fun s : (Int32 × Int32) => Ev 139 (5, [.ref l0, .ref l1, .int l2, .int s.1, .int s.2, .retAddr 0, .retAddr 0, .retAddr 0], []) h) (fun (q : Int32) (res : Option Value × mH) => res = (some (.int q), h)))
  unfold f139_5
  refine Seg.blk0 (f' := (if (l2 : Int32) ≤ s.2 then 101 else 11, [.ref l0, .ref l1, .int l2, .int s.1, .int s.2, .retAddr 0, .retAddr 0, .retAddr 0], [])) (h' := h) rfl rfl ?_
  refine Seg.ite (fun _ => ?_) (fun _ => ?_)
  · refine Seg.x ?_
    exact Seg.w (mLw.u (mLw.u (mLw.u (mLw.k (mLw.u (mLw.k (mLw.k (mLw.k mLw.nil)))))))) (s139_101 h s.1)
  · refine Seg.blk0 (f' := (if (4 : Int32) ≤ s.2 then 101 else 17, [.ref l0, .ref l1, .int l2, .int s.1, .int s.2, .retAddr 0, .retAddr 0, .retAddr 0], [])) (h' := h) rfl rfl ?_
    refine Seg.ite (fun _ => ?_) (fun _ => ?_)
    · refine Seg.x ?_
      exact Seg.w (mLw.u (mLw.u (mLw.u (mLw.k (mLw.u (mLw.k (mLw.k (mLw.k mLw.nil)))))))) (s139_101 h s.1)
    · refine Seg.blk0 (f' := (if (l2 : Int32) ≤ (s.2 + 1) then 45 else 25, [.ref l0, .ref l1, .int l2, .int s.1, .int s.2, .retAddr 0, .retAddr 0, .retAddr 0], [])) (h' := h) rfl rfl ?_
      refine Seg.ite (fun _ => ?_) (fun _ => ?_)
      · exact Seg.w (mLw.k (mLw.k (mLw.k (mLw.k (mLw.k (mLw.k (mLw.k (mLw.k mLw.nil)))))))) (s139_45 h l0 l1 l2 s.1 s.2)
      · refine Seg.blk0 (f' := (if (4 : Int32) ≤ (s.2 + 1) then 45 else 33, [.ref l0, .ref l1, .int l2, .int s.1, .int s.2, .retAddr 0, .retAddr 0, .retAddr 0], [])) (h' := h) rfl rfl ?_
        refine Seg.ite (fun _ => ?_) (fun _ => ?_)
        · exact Seg.w (mLw.k (mLw.k (mLw.k (mLw.k (mLw.k (mLw.k (mLw.k (mLw.k mLw.nil)))))))) (s139_45 h l0 l1 l2 s.1 s.2)
        · refine Seg.blk (f' := (49, [.ref l0, .ref l1, .int l2, .int s.1, .int s.2, .retAddr 0, .retAddr 0, .retAddr 0], [.int (mI h ((mR h l0 1).getD 0) (Int32.toNatClampNeg (s.2 + 1)))])) (h' := h) rfl rfl ?_
          exact Seg.w (mLw.k (mLw.k (mLw.k (mLw.k (mLw.k (mLw.k (mLw.k (mLw.k mLw.nil)))))))) (s139_49 h l0 l1 l2 s.1 s.2 (mI h ((mR h l0 1).getD 0) (Int32.toNatClampNeg (s.2 + 1))))
theorem s139 (h : mH) (l0 : Nat) (l1 : Nat) (l2 : Int32) : Seg 139 (0, [.ref l0, .ref l1, .int l2, .retAddr 0, .retAddr 0, .retAddr 0, .retAddr 0, .retAddr 0], []) h (f139 h l0 l1 l2) (fun (q : Int32) (res : Option Value × mH) => res = (some (.int q), h)) := by
  unfold f139
  refine Seg.blk0 (f' := (5, [.ref l0, .ref l1, .int l2, .int 0, .int 0, .retAddr 0, .retAddr 0, .retAddr 0], [])) (h' := h) rfl rfl ?_
  exact Seg.w (mLw.k (mLw.k (mLw.k (mLw.k (mLw.k (mLw.k (mLw.k (mLw.k mLw.nil)))))))) (s139_5 h l0 l1 l2 mFuel (0, 0))
theorem s140_76 (h : mH) : Seg 140 (76, [.retAddr 0, .retAddr 0, .retAddr 0, .retAddr 0, .retAddr 0, .retAddr 0], []) h (f140_76 h) (fun (q : Int32 × mH) (res : Option Value × mH) => res = (some (.int q.1), q.2)) := by
  unfold f140_76
  exact Seg.ret (f1 := (77, [.retAddr 0, .retAddr 0, .retAddr 0, .retAddr 0, .retAddr 0, .retAddr 0], [.int 1])) (h1 := h) rfl rfl rfl rfl (fun _ q => q)
theorem s140_49 (l0 : Nat) (l2 : Int32) (l4 : Int32) : ∀ (n : Nat) (s : (Int32 × mH)), Seg 140 (49, [.ref l0, .retAddr 0, .int l2, .retAddr 0, .int l4, .int s.1], []) s.2 (mLoop (f140_49 l0 l2 l4) n s) (fun (q : Int32 × mH) (res : Option Value × mH) => res = (some (.int q.1), q.2)) := by
  refine Seg.loop (F := fun s : (Int32 × mH) => (49, [.ref l0, .retAddr 0, .int l2, .retAddr 0, .int l4, .int s.1], [])) (H := fun s : (Int32 × mH) => s.2) (fun s => ?_)
  show Seg 140 (49, [.ref l0, .retAddr 0, .int l2, .retAddr 0, .int l4, .int s.1], []) s.2 _ (Sum.elim (fun s : (Int32 × mH) => Ev 140 (49, [.ref l0, .retAddr 0, .int l2, .retAddr 0, .int l4, .int s.1], []) s.2) (fun (q : Int32 × mH) (res : Option Value × mH) => res = (some (.int q.1), q.2)))
  unfold f140_49
  refine Seg.blk0 (f' := (if (l2 : Int32) ≤ s.1 then 76 else 55, [.ref l0, .retAddr 0, .int l2, .retAddr 0, .int l4, .int s.1], [])) (h' := s.2) rfl rfl ?_
  refine Seg.ite (fun _ => ?_) (fun _ => ?_)
  · refine Seg.x ?_
    exact Seg.w (mLw.u (mLw.k (mLw.u (mLw.k (mLw.u (mLw.u mLw.nil)))))) (s140_76 s.2)
  · refine Seg.blk0 (f' := (if (4 : Int32) ≤ s.1 then 76 else 61, [.ref l0, .retAddr 0, .int l2, .retAddr 0, .int l4, .int s.1], [])) (h' := s.2) rfl rfl ?_
    refine Seg.ite (fun _ => ?_) (fun _ => ?_)
    · refine Seg.x ?_
      exact Seg.w (mLw.u (mLw.k (mLw.u (mLw.k (mLw.u (mLw.u mLw.nil)))))) (s140_76 s.2)
    · refine Seg.blk (f' := (70, [.ref l0, .retAddr 0, .int l2, .retAddr 0, .int l4, .int s.1], [])) (h' := (mSI s.2 ((mR s.2 l0 1).getD 0) (Int32.toNatClampNeg s.1) l4)) rfl rfl ?_
      refine Seg.blk0 (f' := (49, [.ref l0, .retAddr 0, .int l2, .retAddr 0, .int l4, .int (s.1 + 1)], [])) (h' := (mSI s.2 ((mR s.2 l0 1).getD 0) (Int32.toNatClampNeg s.1) l4)) rfl rfl ?_
      exact Seg.cont (fun _ q => Ev.w (mLw.k (mLw.k (mLw.k (mLw.k (mLw.k (mLw.k mLw.nil)))))) q)
theorem s140_29 (h : mH) (l0 : Nat) (l2 : Int32) (l3 : Int32) : Seg 140 (29, [.ref l0, .retAddr 0, .int l2, .int l3, .retAddr 0, .retAddr 0], []) h (f140_29 h l0 l2 l3) (fun (q : Int32 × mH) (res : Option Value × mH) => res = (some (.int q.1), q.2)) := by
  unfold f140_29
  refine Seg.blk0 (f' := (if (1 : Int32) ≤ l3 then 36 else 34, [.ref l0, .retAddr 0, .int l2, .int l3, .retAddr 0, .retAddr 0], [])) (h' := h) rfl rfl ?_
  refine Seg.ite (fun _ => ?_) (fun _ => ?_)
  · refine Seg.blk (f' := (49, [.ref l0, .retAddr 0, .int l2, .int l3, .int ((mI h ((mR h l0 1).getD 0) (Int32.toNatClampNeg l3)) + 1), .int l3], [])) (h' := h) rfl rfl ?_
    exact Seg.w (mLw.k (mLw.k (mLw.k (mLw.u (mLw.k (mLw.k mLw.nil)))))) (s140_49 l0 l2 ((mI h ((mR h l0 1).getD 0) (Int32.toNatClampNeg l3)) + 1) mFuel (l3, h))
  · exact Seg.ret (f1 := (35, [.ref l0, .retAddr 0, .int l2, .int l3, .retAddr 0, .retAddr 0], [.int 0])) (h1 := h) rfl rfl rfl rfl (fun _ q => q)
theorem s140_8 (h : mH) (l0 : Nat) (l1 : Int32) (l2 : Int32) : ∀ (n : Nat) (s : (Int32)), Seg 140 (8, [.ref l0, .int l1, .int l2, .int s, .retAddr 0, .retAddr 0], []) h (mLoop (f140_8 h l0 l1 l2) n s) (fun (q : Int32 × mH) (res : Option Value × mH) => res = (some (.int q.1), q.2)) := by
  refine Seg.loop (F := fun s : (Int32) => (8, [.ref l0, .int l1, .int l2, .int s, .retAddr 0, .retAddr 0], [])) (H := fun s : (Int32) => h) (fun s => ?_)
  show Seg 140 (8, [.ref l0, .int l1, .int l2, .int s, .retAddr 0, .retAddr 0], []) h _ (Sum.elim (fun s : (Int32) => Ev 140 (8, [.ref l0, .int l1, .int l2, .int s, .retAddr 0, .retAddr 0], []) h) (fun (q : Int32 × mH) (res : Option Value × mH) => res = (some (.int q.1), q.2)))
  unfold f140_8
  refine Seg.blk0 (f' := (if (s : Int32) < 1 then 29 else 13, [.ref l0, .int l1, .int l2, .int s, .retAddr 0, .retAddr 0], [])) (h' := h) rfl rfl ?_
  refine Seg.ite (fun _ => ?_) (fun _ => ?_)
  · refine Seg.x ?_
    exact Seg.w (mLw.k (mLw.u (mLw.k (mLw.k (mLw.k (mLw.k mLw.nil)))))) (s140_29 h l0 l2 s)
  · refine Seg.blk (f' := (if ((mI h ((mR h l0 1).getD 0) (Int32.toNatClampNeg s)) : Int32) = l1 then 23 else 29, [.ref l0, .int l1, .int l2, .int s, .retAddr 0, .retAddr 0], [])) (h' := h) rfl rfl ?_
    refine Seg.ite (fun _ => ?_) (fun _ => ?_)
    · refine Seg.blk0 (f' := (8, [.ref l0, .int l1, .int l2, .int (s + (-1)), .retAddr 0, .retAddr 0], [])) (h' := h) rfl rfl ?_
      exact Seg.cont (fun _ q => Ev.w (mLw.k (mLw.k (mLw.k (mLw.k (mLw.k (mLw.k mLw.nil)))))) q)
    · refine Seg.x ?_
      exact Seg.w (mLw.k (mLw.u (mLw.k (mLw.k (mLw.k (mLw.k mLw.nil)))))) (s140_29 h l0 l2 s)
theorem s140 (h : mH) (l0 : Nat) (l1 : Int32) (l2 : Int32) : Seg 140 (0, [.ref l0, .int l1, .int l2, .retAddr 0, .retAddr 0, .retAddr 0], []) h (f140 h l0 l1 l2) (fun (q : Int32 × mH) (res : Option Value × mH) => res = (some (.int q.1), q.2)) := by
  unfold f140
  refine Seg.blk0 (f' := (8, [.ref l0, .int l1, .int l2, .int ((if (4 : Int32) < l2 then 4 else l2) - 1), .retAddr 0, .retAddr 0], [])) (h' := h) rfl rfl ?_
  exact Seg.w (mLw.k (mLw.k (mLw.k (mLw.k (mLw.k (mLw.k mLw.nil)))))) (s140_8 h l0 l1 l2 mFuel (((if (4 : Int32) < l2 then 4 else l2) - 1)))
theorem s138_82 (h : mH) (l3 : Int32) : Seg 138 (82, [.retAddr 0, .retAddr 0, .retAddr 0, .int l3, .retAddr 0, .retAddr 0, .retAddr 0], []) h (f138_82 h l3) (fun (q : Int32 × mH) (res : Option Value × mH) => res = (some (.int q.1), q.2)) := by
  unfold f138_82
  exact Seg.ret (f1 := (83, [.retAddr 0, .retAddr 0, .retAddr 0, .int l3, .retAddr 0, .retAddr 0, .retAddr 0], [.int l3])) (h1 := h) rfl rfl rfl rfl (fun _ q => q)
theorem s138_65 (h : mH) (l0 : Nat) (l1 : Nat) (l2 : Int32) (l3 : Int32) (l5 : Int32) : Seg 138 (65, [.ref l0, .ref l1, .int l2, .int l3, .retAddr 0, .int l5, .retAddr 0], []) h (f138_65 h l0 l1 l2 l3 l5) (Sum.elim (fun s : (Int32 × Int32 × Int32 × mH) => Ev 138 (16, [.ref l0, .ref l1, .int l2, .int s.1, .int s.2.1, .int s.2.2.1, .retAddr 0], []) s.2.2.2) (fun (q : Int32 × mH) (res : Option Value × mH) => res = (some (.int q.1), q.2))) := by
  unfold f138_65
  refine Seg.call (f1 := (71, [.ref l0, .ref l1, .int l2, .int l3, .retAddr 0, .int l5, .retAddr 0], [.int l2, .int (mI h l1 6), .ref l0])) (h1 := h) (cv := fun r => some (.int r)) rfl rfl rfl rfl (s140 h l0 (mI h l1 6) l2) (fun r3 => ?_)
  refine Seg.blk0 (f' := (16, [.ref l0, .ref l1, .int l2, .int l3, .int r3.1, .int (l5 + 1), .retAddr 0], [])) (h' := r3.2) rfl rfl ?_
  exact Seg.cont (fun _ q => Ev.w (mLw.k (mLw.k (mLw.k (mLw.k (mLw.k (mLw.k (mLw.k mLw.nil))))))) q)
theorem s138_48 (h : mH) (l0 : Nat) (l1 : Nat) (l2 : Int32) (l5 : Int32) (l6 : Int32) : Seg 138 (48, [.ref l0, .ref l1, .int l2, .retAddr 0, .retAddr 0, .int l5, .int l6], []) h (f138_48 h l0 l1 l2 l5 l6) (Sum.elim (fun s : (Int32 × Int32 × Int32 × mH) => Ev 138 (16, [.ref l0, .ref l1, .int l2, .int s.1, .int s.2.1, .int s.2.2.1, .retAddr 0], []) s.2.2.2) (fun (q : Int32 × mH) (res : Option Value × mH) => res = (some (.int q.1), q.2))) := by
  unfold f138_48
  refine Seg.blk (f' := (65, [.ref l0, .ref l1, .int l2, .int l6, .retAddr 0, .int l5, .int l6], [])) (h' := (mCp h ((mR h l0 1).getD 0) (Int32.toNatClampNeg 0) ((mR h l0 0).getD 0) (Int32.toNatClampNeg 0) (Int32.toNatClampNeg 4))) rfl rfl ?_
  exact Seg.w (mLw.k (mLw.k (mLw.k (mLw.k (mLw.k (mLw.k (mLw.u mLw.nil))))))) (s138_65 (mCp h ((mR h l0 1).getD 0) (Int32.toNatClampNeg 0) ((mR h l0 0).getD 0) (Int32.toNatClampNeg 0) (Int32.toNatClampNeg 4)) l0 l1 l2 l6 l5)
theorem s138_16 (l0 : Nat) (l1 : Nat) (l2 : Int32) : ∀ (n : Nat) (s : (Int32 × Int32 × Int32 × mH)), Seg 138 (16, [.ref l0, .ref l1, .int l2, .int s.1, .int s.2.1, .int s.2.2.1, .retAddr 0], []) s.2.2.2 (mLoop (f138_16 l0 l1 l2) n s) (fun (q : Int32 × mH) (res : Option Value × mH) => res = (some (.int q.1), q.2)) := by
  refine Seg.loop (F := fun s : (Int32 × Int32 × Int32 × mH) => (16, [.ref l0, .ref l1, .int l2, .int s.1, .int s.2.1, .int s.2.2.1, .retAddr 0], [])) (H := fun s : (Int32 × Int32 × Int32 × mH) => s.2.2.2) (fun s => ?_)
  show Seg 138 (16, [.ref l0, .ref l1, .int l2, .int s.1, .int s.2.1, .int s.2.2.1, .retAddr 0], []) s.2.2.2 _ (Sum.elim (fun s : (Int32 × Int32 × Int32 × mH) => Ev 138 (16, [.ref l0, .ref l1, .int l2, .int s.1, .int s.2.1, .int s.2.2.1, .retAddr 0], []) s.2.2.2) (fun (q : Int32 × mH) (res : Option Value × mH) => res = (some (.int q.1), q.2)))
  unfold f138_16
  refine Seg.blk0 (f' := (if (1000 : Int32) ≤ s.2.2.1 then 82 else 24, [.ref l0, .ref l1, .int l2, .int s.1, .int s.2.1, .int s.2.2.1, .retAddr 0], [])) (h' := s.2.2.2) rfl rfl ?_
  refine Seg.ite (fun _ => ?_) (fun _ => ?_)
  · refine Seg.x ?_
    exact Seg.w (mLw.u (mLw.u (mLw.u (mLw.k (mLw.u (mLw.u (mLw.k mLw.nil))))))) (s138_82 s.2.2.2 s.1)
  · refine Seg.blk0 (f' := (if (s.2.1 : Int32) = 0 then 82 else 29, [.ref l0, .ref l1, .int l2, .int s.1, .int s.2.1, .int s.2.2.1, .retAddr 0], [])) (h' := s.2.2.2) rfl rfl ?_
    refine Seg.ite (fun _ => ?_) (fun _ => ?_)
    · refine Seg.x ?_
      exact Seg.w (mLw.u (mLw.u (mLw.u (mLw.k (mLw.u (mLw.u (mLw.k mLw.nil))))))) (s138_82 s.2.2.2 s.1)
    · refine Seg.callP (f1 := (32, [.ref l0, .ref l1, .int l2, .int s.1, .int s.2.1, .int s.2.2.1, .retAddr 0], [.int l2, .ref l1, .ref l0])) (h1 := s.2.2.2) (cv := fun r => some (.int r)) rfl rfl rfl rfl (s139 s.2.2.2 l0 l1 l2) (fun r2 => ?_)
      refine Seg.blk0 (f' := (if (s.1 : Int32) = (-1) then 48 else 42, [.ref l0, .ref l1, .int l2, .int s.1, .int s.2.1, .int s.2.2.1, .int r2], [])) (h' := s.2.2.2) rfl rfl ?_
      refine Seg.ite (fun _ => ?_) (fun _ => ?_)
      · exact Seg.w (mLw.k (mLw.k (mLw.k (mLw.u (mLw.u (mLw.k (mLw.k mLw.nil))))))) (s138_48 s.2.2.2 l0 l1 l2 s.2.2.1 r2)
      · refine Seg.blk0 (f' := (if (s.1 : Int32) ≤ r2 then 65 else 48, [.ref l0, .ref l1, .int l2, .int s.1, .int s.2.1, .int s.2.2.1, .int r2], [])) (h' := s.2.2.2) rfl rfl ?_
        refine Seg.ite (fun _ => ?_) (fun _ => ?_)
        · exact Seg.w (mLw.k (mLw.k (mLw.k (mLw.k (mLw.u (mLw.k (mLw.u mLw.nil))))))) (s138_65 s.2.2.2 l0 l1 l2 s.1 s.2.2.1)
        · exact Seg.w (mLw.k (mLw.k (mLw.k (mLw.u (mLw.u (mLw.k (mLw.k mLw.nil))))))) (s138_48 s.2.2.2 l0 l1 l2 s.2.2.1 r2)
theorem s138 (h : mH) (l0 : Nat) (l1 : Nat) (l2 : Int32) : Seg 138 (0, [.ref l0, .ref l1, .int l2, .retAddr 0, .retAddr 0, .retAddr 0, .retAddr 0], []) h (f138 h l0 l1 l2) (fun (q : Int32 × mH) (res : Option Value × mH) => res = (some (.int q.1), q.2)) := by
  unfold f138
  refine Seg.call (f1 := (5, [.ref l0, .ref l1, .int l2, .retAddr 0, .retAddr 0, .retAddr 0, .retAddr 0], [.int 0, .ref ((mR h l0 1).getD 0)])) (h1 := h) (cv := fun _ => none) rfl rfl rfl rfl (s4 h ((mR h l0 1).getD 0) 0) (fun r1 => ?_)
  refine Seg.blk0 (f' := (16, [.ref l0, .ref l1, .int l2, .int (-1), .int 1, .int 0, .retAddr 0], [])) (h' := r1.2) rfl rfl ?_
  exact Seg.w (mLw.k (mLw.k (mLw.k (mLw.k (mLw.k (mLw.k (mLw.k mLw.nil))))))) (s138_16 l0 l1 l2 mFuel ((-1), 1, 0, r1.2))
theorem s137_24 (h : mH) : Seg 137 (24, [.retAddr 0, .retAddr 0, .retAddr 0, .retAddr 0, .retAddr 0, .retAddr 0], []) h (f137_24 h) (fun (q : Int32 × mH) (res : Option Value × mH) => res = (some (.int q.1), q.2)) := by
  unfold f137_24
  exact Seg.ret (f1 := (25, [.retAddr 0, .retAddr 0, .retAddr 0, .retAddr 0, .retAddr 0, .retAddr 0], [.int (-1)])) (h1 := h) rfl rfl rfl rfl (fun _ q => q)
theorem s137_70 (h : mH) (q0 : Int32) : Seg 137 (70, [.retAddr 0, .retAddr 0, .retAddr 0, .retAddr 0, .retAddr 0, .retAddr 0], [.int q0]) h (f137_70 h q0) (fun (q : Int32 × mH) (res : Option Value × mH) => res = (some (.int q.1), q.2)) := by
  unfold f137_70
  exact Seg.ret (f1 := (70, [.retAddr 0, .retAddr 0, .retAddr 0, .retAddr 0, .retAddr 0, .retAddr 0], [.int q0])) (h1 := h) rfl rfl rfl rfl (fun _ q => q)
theorem s137 (h : mH) (l0 : Nat) (l1 : Int32) (l2 : Int32) (l3 : Int32) : Seg 137 (0, [.ref l0, .int l1, .int l2, .int l3, .retAddr 0, .retAddr 0], []) h (f137 h l0 l1 l2 l3) (fun (q : Int32 × mH) (res : Option Value × mH) => res = (some (.int q.1), q.2)) := by
  unfold f137
  refine Seg.callP (f1 := (5, [.ref l0, .int l1, .int l2, .int l3, .retAddr 0, .retAddr 0], [.int l1, .ref ((mR h l0 0).getD 0)])) (h1 := h) (cv := fun r => some (va_rf r)) rfl rfl rfl rfl (s53 h ((mR h l0 0).getD 0) l1) (fun r1 => ?_)
  cases r1 with
  | none =>
    refine Seg.blk0 (f' := (24, [.ref l0, .int l1, .int l2, .int l3, .null, .retAddr 0], [])) (h' := h) rfl rfl ?_
    exact Seg.w (mLw.u (mLw.u (mLw.u (mLw.u (mLw.u (mLw.k mLw.nil)))))) (s137_24 h)
  | some a1 =>
    refine Seg.blk0 (f' := (15, [.ref l0, .int l1, .int l2, .int l3, .ref a1, .retAddr 0], [])) (h' := h) rfl rfl ?_
    refine Seg.callP (f1 := (18, [.ref l0, .int l1, .int l2, .int l3, .ref a1, .retAddr 0], [.int 4, .int 1, .int l2])) (h1 := h) (cv := fun r => some (.int r)) rfl rfl rfl rfl (s17 h l2 1 4) (fun r2 => ?_)
    refine Seg.blk0 (f' := (if (r2 : Int32) = 0 then 24 else 26, [.ref l0, .int l1, .int l2, .int l3, .ref a1, .retAddr 0], [])) (h' := h) rfl rfl ?_
    refine Seg.ite (fun _ => ?_) (fun _ => ?_)
    · exact Seg.w (mLw.u (mLw.u (mLw.u (mLw.u (mLw.u (mLw.k mLw.nil)))))) (s137_24 h)
    · refine Seg.call (f1 := (33, [.ref l0, .int l1, .int l2, .int l3, .ref a1, .retAddr 0], [.int l2, .ref a1, .ref ((mR h l0 7).getD 0)])) (h1 := h) (cv := fun r => some (.int r)) rfl rfl rfl rfl (s138 h ((mR h l0 7).getD 0) a1 l2) (fun r3 => ?_)
      refine Seg.blk0 (f' := (if (l3 : Int32) = (-1) then 43 else 46, [.ref l0, .int l1, .int l2, .int l3, .ref a1, .int r3.1], [])) (h' := r3.2) rfl rfl ?_
      refine Seg.ite (fun _ => ?_) (fun _ => ?_)
      · exact Seg.ret (f1 := (45, [.ref l0, .int l1, .int l2, .int l3, .ref a1, .int r3.1], [.int r3.1])) (h1 := r3.2) rfl rfl rfl rfl (fun _ q => q)
      · refine Seg.callP (f1 := (51, [.ref l0, .int l1, .int l2, .int l3, .ref a1, .int r3.1], [.int (l2 - 1), .int 0, .int l3])) (h1 := r3.2) (cv := fun r => some (.int r)) rfl rfl rfl rfl (s17 r3.2 l3 0 (l2 - 1)) (fun r4 => ?_)
        refine Seg.blk0 (f' := (if (r4 : Int32) = 0 then 69 else 57, [.ref l0, .int l1, .int l2, .int l3, .ref a1, .int r3.1], [])) (h' := r3.2) rfl rfl ?_
        refine Seg.ite (fun _ => ?_) (fun _ => ?_)
        · refine Seg.blk0 (f' := (70, [.ref l0, .int l1, .int l2, .int l3, .ref a1, .int r3.1], [.int (-1)])) (h' := r3.2) rfl rfl ?_
          exact Seg.w (mLw.u (mLw.u (mLw.u (mLw.u (mLw.u (mLw.u mLw.nil)))))) (s137_70 r3.2 (-1))
        · refine Seg.blk (f' := (70, [.ref l0, .int l1, .int l2, .int l3, .ref a1, .int r3.1], [.int (mI r3.2 ((mR r3.2 ((mR r3.2 l0 7).getD 0) 0).getD 0) (Int32.toNatClampNeg l3))])) (h' := r3.2) rfl rfl ?_
          exact Seg.w (mLw.u (mLw.u (mLw.u (mLw.u (mLw.u (mLw.u mLw.nil)))))) (s137_70 r3.2 (mI r3.2 ((mR r3.2 ((mR r3.2 l0 7).getD 0) 0).getD 0) (Int32.toNatClampNeg l3)))
theorem s142_79 (h : mH) (l4 : Int32) : Seg 142 (79, [.retAddr 0, .retAddr 0, .retAddr 0, .retAddr 0, .int l4, .retAddr 0, .retAddr 0], []) h (f142_79 h l4) (fun (q : Int32 × mH) (res : Option Value × mH) => res = (some (.int q.1), q.2)) := by
  unfold f142_79
  exact Seg.ret (f1 := (81, [.retAddr 0, .retAddr 0, .retAddr 0, .retAddr 0, .int l4, .retAddr 0, .retAddr 0], [.int l4])) (h1 := h) rfl rfl rfl rfl (fun _ q => q)
theorem s142_66 (h : mH) (l0 : Nat) (l1 : Nat) (l2 : Int32) (l3 : Int32) (l4 : Int32) (l6 : Int32) : Seg 142 (66, [.ref l0, .ref l1, .int l2, .int l3, .int l4, .retAddr 0, .int l6], []) h (f142_66 h l0 l1 l2 l3 l4 l6) (Sum.elim (fun s : (Int32 × Int32 × Int32 × mH) => Ev 142 (17, [.ref l0, .ref l1, .int l2, .int l3, .int s.1, .int s.2.1, .int s.2.2.1], []) s.2.2.2) (fun (q : Int32 × mH) (res : Option Value × mH) => res = (some (.int q.1), q.2))) := by
  unfold f142_66
  refine Seg.call (f1 := (68, [.ref l0, .ref l1, .int l2, .int l3, .int l4, .retAddr 0, .int l6], [.int l3, .ref l0])) (h1 := h) (cv := fun r => some (.int r)) rfl rfl rfl rfl (s91 h l0 l3) (fun r3 => ?_)
  refine Seg.blk0 (f' := (17, [.ref l0, .ref l1, .int l2, .int l3, .int l4, .int r3.1, .int (l6 + 1)], [])) (h' := r3.2) rfl rfl ?_
  exact Seg.cont (fun _ q => Ev.w (mLw.k (mLw.k (mLw.k (mLw.k (mLw.k (mLw.k (mLw.k mLw.nil))))))) q)
theorem s142_17 (l0 : Nat) (l1 : Nat) (l2 : Int32) (l3 : Int32) : ∀ (n : Nat) (s : (Int32 × Int32 × Int32 × mH)), Seg 142 (17, [.ref l0, .ref l1, .int l2, .int l3, .int s.1, .int s.2.1, .int s.2.2.1], []) s.2.2.2 (mLoop (f142_17 l0 l1 l2 l3) n s) (fun (q : Int32 × mH) (res : Option Value × mH) => res = (some (.int q.1), q.2)) := by
  refine Seg.loop (F := fun s : (Int32 × Int32 × Int32 × mH) => (17, [.ref l0, .ref l1, .int l2, .int l3, .int s.1, .int s.2.1, .int s.2.2.1], [])) (H := fun s : (Int32 × Int32 × Int32 × mH) => s.2.2.2) (fun s => ?_)
  show Seg 142 (17, [.ref l0, .ref l1, .int l2, .int l3, .int s.1, .int s.2.1, .int s.2.2.1], []) s.2.2.2 _ (Sum.elim (fun s : (Int32 × Int32 × Int32 × mH) => Ev 142 (17, [.ref l0, .ref l1, .int l2, .int l3, .int s.1, .int s.2.1, .int s.2.2.1], []) s.2.2.2) (fun (q : Int32 × mH) (res : Option Value × mH) => res = (some (.int q.1), q.2)))
  unfold f142_17
  refine Seg.blk0 (f' := (if (1000 : Int32) ≤ s.2.2.1 then 79 else 25, [.ref l0, .ref l1, .int l2, .int l3, .int s.1, .int s.2.1, .int s.2.2.1], [])) (h' := s.2.2.2) rfl rfl ?_
  refine Seg.ite (fun _ => ?_) (fun _ => ?_)
  · refine Seg.x ?_
    exact Seg.w (mLw.u (mLw.u (mLw.u (mLw.u (mLw.k (mLw.u (mLw.u mLw.nil))))))) (s142_79 s.2.2.2 s.1)
  · refine Seg.blk0 (f' := (if (s.2.1 : Int32) = 0 then 79 else 30, [.ref l0, .ref l1, .int l2, .int l3, .int s.1, .int s.2.1, .int s.2.2.1], [])) (h' := s.2.2.2) rfl rfl ?_
    refine Seg.ite (fun _ => ?_) (fun _ => ?_)
    · refine Seg.x ?_
      exact Seg.w (mLw.u (mLw.u (mLw.u (mLw.u (mLw.k (mLw.u (mLw.u mLw.nil))))))) (s142_79 s.2.2.2 s.1)
    · refine Seg.call (f1 := (34, [.ref l0, .ref l1, .int l2, .int l3, .int s.1, .int s.2.1, .int s.2.2.1], [.int l3, .int l2, .ref l1, .ref l0])) (h1 := s.2.2.2) (cv := fun _ => none) rfl rfl rfl rfl (s84 s.2.2.2 l0 l1 l2 l3) (fun r2 => ?_)
      refine Seg.blk (f' := (if ((mI r2.2 l0 3) : Int32) ≤ s.1 then 66 else 46, [.ref l0, .ref l1, .int l2, .int l3, .int s.1, .int s.2.1, .int s.2.2.1], [])) (h' := r2.2) rfl rfl ?_
      refine Seg.ite (fun _ => ?_) (fun _ => ?_)
      · exact Seg.w (mLw.k (mLw.k (mLw.k (mLw.k (mLw.k (mLw.u (mLw.k mLw.nil))))))) (s142_66 r2.2 l0 l1 l2 l3 s.1 s.2.2.1)
      · refine Seg.blk (f' := (66, [.ref l0, .ref l1, .int l2, .int l3, .int (mI r2.2 l0 3), .int s.2.1, .int s.2.2.1], [])) (h' := (mCp r2.2 ((mR r2.2 l0 1).getD 0) (Int32.toNatClampNeg 0) ((mR r2.2 l0 2).getD 0) (Int32.toNatClampNeg 0) (Int32.toNatClampNeg 4))) rfl rfl ?_
        exact Seg.w (mLw.k (mLw.k (mLw.k (mLw.k (mLw.k (mLw.u (mLw.k mLw.nil))))))) (s142_66 (mCp r2.2 ((mR r2.2 l0 1).getD 0) (Int32.toNatClampNeg 0) ((mR r2.2 l0 2).getD 0) (Int32.toNatClampNeg 0) (Int32.toNatClampNeg 4)) l0 l1 l2 l3 (mI r2.2 l0 3) s.2.2.1)
theorem s142 (h : mH) (l0 : Nat) (l1 : Nat) (l2 : Int32) (l3 : Int32) : Seg 142 (0, [.ref l0, .ref l1, .int l2, .int l3, .retAddr 0, .retAddr 0, .retAddr 0], []) h (f142 h l0 l1 l2 l3) (fun (q : Int32 × mH) (res : Option Value × mH) => res = (some (.int q.1), q.2)) := by
  unfold f142
  refine Seg.call (f1 := (8, [.ref l0, .ref l1, .int l2, .int l3, .int (-1), .retAddr 0, .retAddr 0], [.int 0, .ref ((mR h l0 1).getD 0)])) (h1 := h) (cv := fun _ => none) rfl rfl rfl rfl (s4 h ((mR h l0 1).getD 0) 0) (fun r1 => ?_)
  refine Seg.blk0 (f' := (17, [.ref l0, .ref l1, .int l2, .int l3, .int (-1), .int 1, .int 0], [])) (h' := r1.2) rfl rfl ?_
  exact Seg.w (mLw.k (mLw.k (mLw.k (mLw.k (mLw.k (mLw.k (mLw.k mLw.nil))))))) (s142_17 l0 l1 l2 l3 mFuel ((-1), 1, 0, r1.2))
theorem s141_34 (h : mH) : Seg 141 (34, [.retAddr 0, .retAddr 0, .retAddr 0, .retAddr 0, .retAddr 0, .retAddr 0, .retAddr 0], []) h (f141_34 h) (fun (q : Int32 × mH) (res : Option Value × mH) => res = (some (.int q.1), q.2)) := by
  unfold f141_34
  exact Seg.ret (f1 := (35, [.retAddr 0, .retAddr 0, .retAddr 0, .retAddr 0, .retAddr 0, .retAddr 0, .retAddr 0], [.int (-1)])) (h1 := h) rfl rfl rfl rfl (fun _ q => q)
theorem s141_84 (h : mH) (q0 : Int32) : Seg 141 (84, [.retAddr 0, .retAddr 0, .retAddr 0, .retAddr 0, .retAddr 0, .retAddr 0, .retAddr 0], [.int q0]) h (f141_84 h q0) (fun (q : Int32 × mH) (res : Option Value × mH) => res = (some (.int q.1), q.2)) := by
  unfold f141_84
  exact Seg.ret (f1 := (84, [.retAddr 0, .retAddr 0, .retAddr 0, .retAddr 0, .retAddr 0, .retAddr 0, .retAddr 0], [.int q0])) (h1 := h) rfl rfl rfl rfl (fun _ q => q)
theorem s141 (h : mH) (l0 : Nat) (l1 : Int32) (l2 : Int32) (l3 : Int32) (l4 : Int32) : Seg 141 (0, [.ref l0, .int l1, .int l2, .int l3, .int l4, .retAddr 0, .retAddr 0], []) h (f141 h l0 l1 l2 l3 l4) (fun (q : Int32 × mH) (res : Option Value × mH) => res = (some (.int q.1), q.2)) := by
  unfold f141
  refine Seg.callP (f1 := (5, [.ref l0, .int l1, .int l2, .int l3, .int l4, .retAddr 0, .retAddr 0], [.int l1, .ref ((mR h l0 0).getD 0)])) (h1 := h) (cv := fun r => some (va_rf r)) rfl rfl rfl rfl (s53 h ((mR h l0 0).getD 0) l1) (fun r1 => ?_)
  cases r1 with
  | none =>
    refine Seg.blk0 (f' := (34, [.ref l0, .int l1, .int l2, .int l3, .int l4, .null, .retAddr 0], [])) (h' := h) rfl rfl ?_
    exact Seg.w (mLw.u (mLw.u (mLw.u (mLw.u (mLw.u (mLw.u (mLw.k mLw.nil))))))) (s141_34 h)
  | some a1 =>
    refine Seg.blk0 (f' := (15, [.ref l0, .int l1, .int l2, .int l3, .int l4, .ref a1, .retAddr 0], [])) (h' := h) rfl rfl ?_
    refine Seg.callP (f1 := (19, [.ref l0, .int l1, .int l2, .int l3, .int l4, .ref a1, .retAddr 0], [.int 20, .int 0, .int l2])) (h1 := h) (cv := fun r => some (.int r)) rfl rfl rfl rfl (s17 h l2 0 20) (fun r2 => ?_)
    refine Seg.blk0 (f' := (if (r2 : Int32) = 0 then 34 else 25, [.ref l0, .int l1, .int l2, .int l3, .int l4, .ref a1, .retAddr 0], [])) (h' := h) rfl rfl ?_
    refine Seg.ite (fun _ => ?_) (fun _ => ?_)
    · exact Seg.w (mLw.u (mLw.u (mLw.u (mLw.u (mLw.u (mLw.u (mLw.k mLw.nil))))))) (s141_34 h)
    · refine Seg.callP (f1 := (28, [.ref l0, .int l1, .int l2, .int l3, .int l4, .ref a1, .retAddr 0], [.int 3, .int 0, .int l3])) (h1 := h) (cv := fun r => some (.int r)) rfl rfl rfl rfl (s17 h l3 0 3) (fun r3 => ?_)
      refine Seg.blk0 (f' := (if (r3 : Int32) = 0 then 34 else 36, [.ref l0, .int l1, .int l2, .int l3, .int l4, .ref a1, .retAddr 0], [])) (h' := h) rfl rfl ?_
      refine Seg.ite (fun _ => ?_) (fun _ => ?_)
      · exact Seg.w (mLw.u (mLw.u (mLw.u (mLw.u (mLw.u (mLw.u (mLw.k mLw.nil))))))) (s141_34 h)
      · refine Seg.call (f1 := (44, [.ref l0, .int l1, .int l2, .int l3, .int l4, .ref a1, .retAddr 0], [.int l3, .int l2, .ref a1, .ref ((mR h l0 5).getD 0)])) (h1 := h) (cv := fun r => some (.int r)) rfl rfl rfl rfl (s142 h ((mR h l0 5).getD 0) a1 l2 l3) (fun r4 => ?_)
        refine Seg.blk0 (f' := (if (l4 : Int32) = (-1) then 55 else 58, [.ref l0, .int l1, .int l2, .int l3, .int l4, .ref a1, .int r4.1], [])) (h' := r4.2) rfl rfl ?_
        refine Seg.ite (fun _ => ?_) (fun _ => ?_)
        · exact Seg.ret (f1 := (57, [.ref l0, .int l1, .int l2, .int l3, .int l4, .ref a1, .int r4.1], [.int r4.1])) (h1 := r4.2) rfl rfl rfl rfl (fun _ q => q)
        · refine Seg.callP (f1 := (64, [.ref l0, .int l1, .int l2, .int l3, .int l4, .ref a1, .int r4.1], [.int (l3 - 1), .int 0, .int l4])) (h1 := r4.2) (cv := fun r => some (.int r)) rfl rfl rfl rfl (s17 r4.2 l4 0 (l3 - 1)) (fun r5 => ?_)
          refine Seg.blk0 (f' := (if (r5 : Int32) = 0 then 83 else 70, [.ref l0, .int l1, .int l2, .int l3, .int l4, .ref a1, .int r4.1], [])) (h' := r4.2) rfl rfl ?_
          refine Seg.ite (fun _ => ?_) (fun _ => ?_)
          · refine Seg.blk0 (f' := (84, [.ref l0, .int l1, .int l2, .int l3, .int l4, .ref a1, .int r4.1], [.int (-1)])) (h' := r4.2) rfl rfl ?_
            exact Seg.w (mLw.u (mLw.u (mLw.u (mLw.u (mLw.u (mLw.u (mLw.u mLw.nil))))))) (s141_84 r4.2 (-1))
          · refine Seg.blk (f' := (84, [.ref l0, .int l1, .int l2, .int l3, .int l4, .ref a1, .int r4.1], [.int (mI r4.2 ((mR r4.2 ((mR r4.2 l0 5).getD 0) 2).getD 0) (Int32.toNatClampNeg l4))])) (h' := r4.2) rfl rfl ?_
            exact Seg.w (mLw.u (mLw.u (mLw.u (mLw.u (mLw.u (mLw.u (mLw.u mLw.nil))))))) (s141_84 r4.2 (mI r4.2 ((mR r4.2 ((mR r4.2 l0 5).getD 0) 2).getD 0) (Int32.toNatClampNeg l4)))
theorem s144 (h : mH) (l0 : Nat) (l1 : Nat) (l2 : Int32) (l3 : Int32) : Seg 144 (0, [.ref l0, .ref l1, .int l2, .int l3, .retAddr 0], []) h (f144 h l0 l1 l2 l3) (fun (q : Int32 × mH) (res : Option Value × mH) => res = (some (.int q.1), q.2)) := by
  unfold f144
  refine Seg.call (f1 := (4, [.ref l0, .ref l1, .int l2, .int l3, .retAddr 0], [.int 0, .int l3, .ref l1, .ref l0])) (h1 := h) (cv := fun _ => none) rfl rfl rfl rfl (s84 h l0 l1 l3 0) (fun r1 => ?_)
  refine Seg.blk (f' := (20, [.ref l0, .ref l1, .int l2, .int l3, .int (mI r1.2 l0 3)], [])) (h' := (mSI r1.2 ((mR r1.2 l0 1).getD 0) (Int32.toNatClampNeg 0) l2)) rfl rfl ?_
  refine Seg.call (f1 := (24, [.ref l0, .ref l1, .int l2, .int l3, .int (mI r1.2 l0 3)], [.int 1, .int l3, .ref l1, .ref l0])) (h1 := (mSI r1.2 ((mR r1.2 l0 1).getD 0) (Int32.toNatClampNeg 0) l2)) (cv := fun _ => none) rfl rfl rfl rfl (s84 (mSI r1.2 ((mR r1.2 l0 1).getD 0) (Int32.toNatClampNeg 0) l2) l0 l1 l3 1) (fun r2 => ?_)
  exact Seg.ret (f1 := (34, [.ref l0, .ref l1, .int l2, .int l3, .int (mI r1.2 l0 3)], [.int ((mI r2.2 l0 3) - (mI r1.2 l0 3))])) (h1 := r2.2) rfl rfl rfl rfl (fun _ q => q)
theorem s143_34 (h : mH) : Seg 143 (34, [.retAddr 0, .retAddr 0, .retAddr 0, .retAddr 0, .retAddr 0], []) h (f143_34 h) (fun (q : Int32 × mH) (res : Option Value × mH) => res = (some (.int q.1), q.2)) := by
  unfold f143_34
  exact Seg.ret (f1 := (36, [.retAddr 0, .retAddr 0, .retAddr 0, .retAddr 0, .retAddr 0], [.int (-99)])) (h1 := h) rfl rfl rfl rfl (fun _ q => q)
theorem s143 (h : mH) (l0 : Nat) (l1 : Int32) (l2 : Int32) (l3 : Int32) : Seg 143 (0, [.ref l0, .int l1, .int l2, .int l3, .retAddr 0], []) h (f143 h l0 l1 l2 l3) (fun (q : Int32 × mH) (res : Option Value × mH) => res = (some (.int q.1), q.2)) := by
  unfold f143
  refine Seg.callP (f1 := (5, [.ref l0, .int l1, .int l2, .int l3, .retAddr 0], [.int l1, .ref ((mR h l0 0).getD 0)])) (h1 := h) (cv := fun r => some (va_rf r)) rfl rfl rfl rfl (s53 h ((mR h l0 0).getD 0) l1) (fun r1 => ?_)
  cases r1 with
  | none =>
    refine Seg.blk0 (f' := (34, [.ref l0, .int l1, .int l2, .int l3, .null], [])) (h' := h) rfl rfl ?_
    exact Seg.w (mLw.u (mLw.u (mLw.u (mLw.u (mLw.u mLw.nil))))) (s143_34 h)
  | some a1 =>
    refine Seg.blk0 (f' := (15, [.ref l0, .int l1, .int l2, .int l3, .ref a1], [])) (h' := h) rfl rfl ?_
    refine Seg.callP (f1 := (18, [.ref l0, .int l1, .int l2, .int l3, .ref a1], [.int 5, .int 0, .int l2])) (h1 := h) (cv := fun r => some (.int r)) rfl rfl rfl rfl (s17 h l2 0 5) (fun r2 => ?_)
    refine Seg.blk0 (f' := (if (r2 : Int32) = 0 then 34 else 24, [.ref l0, .int l1, .int l2, .int l3, .ref a1], [])) (h' := h) rfl rfl ?_
    refine Seg.ite (fun _ => ?_) (fun _ => ?_)
    · exact Seg.w (mLw.u (mLw.u (mLw.u (mLw.u (mLw.u mLw.nil))))) (s143_34 h)
    · refine Seg.callP (f1 := (28, [.ref l0, .int l1, .int l2, .int l3, .ref a1], [.int 20, .int 0, .int l3])) (h1 := h) (cv := fun r => some (.int r)) rfl rfl rfl rfl (s17 h l3 0 20) (fun r3 => ?_)
      refine Seg.blk0 (f' := (if (r3 : Int32) = 0 then 34 else 37, [.ref l0, .int l1, .int l2, .int l3, .ref a1], [])) (h' := h) rfl rfl ?_
      refine Seg.ite (fun _ => ?_) (fun _ => ?_)
      · exact Seg.w (mLw.u (mLw.u (mLw.u (mLw.u (mLw.u mLw.nil))))) (s143_34 h)
      · refine Seg.call (f1 := (45, [.ref l0, .int l1, .int l2, .int l3, .ref a1], [.int l3, .int l2, .ref a1, .ref ((mR h l0 5).getD 0)])) (h1 := h) (cv := fun r => some (.int r)) rfl rfl rfl rfl (s144 h ((mR h l0 5).getD 0) a1 l2 l3) (fun r4 => ?_)
        exact Seg.ret (f1 := (48, [.ref l0, .int l1, .int l2, .int l3, .ref a1], [.int r4.1])) (h1 := r4.2) rfl rfl rfl rfl (fun _ q => q)
theorem s147_87 (h : mH) : Seg 147 (87, [.retAddr 0, .retAddr 0, .retAddr 0, .retAddr 0, .retAddr 0], []) h (f147_87 h) (fun (q : Unit × mH) (res : Option Value × mH) => res = (none, q.2)) := by
  unfold f147_87
  exact Seg.ret (f1 := (87, [.retAddr 0, .retAddr 0, .retAddr 0, .retAddr 0, .retAddr 0], [])) (h1 := h) rfl rfl rfl rfl (fun _ q => q)
theorem s147_81 (h : mH) (l0 : Nat) (l1 : Nat) (l2 : Int32) (l3 : Int32) : Seg 147 (81, [.ref l0, .ref l1, .int l2, .int l3, .retAddr 0], []) h (f147_81 h l0 l1 l2 l3) (Sum.elim (fun s : (Int32 × Int32 × mH) => Ev 147 (4, [.ref l0, .ref l1, .int s.1, .int s.2.1, .retAddr 0], []) s.2.2) (fun (q : Unit × mH) (res : Option Value × mH) => res = (none, q.2))) := by
  unfold f147_81
  refine Seg.blk0 (f' := (4, [.ref l0, .ref l1, .int l2, .int (l3 + 1), .retAddr 0], [])) (h' := h) rfl rfl ?_
  exact Seg.cont (fun _ q => Ev.w (mLw.k (mLw.k (mLw.k (mLw.k (mLw.k mLw.nil))))) q)
theorem s147_49 (h : mH) (l0 : Nat) (l1 : Nat) (l2 : Int32) (l3 : Int32) (q0 : Int32) : Seg 147 (49, [.ref l0, .ref l1, .int l2, .int l3, .retAddr 0], [.int q0]) h (f147_49 h l0 l1 l2 l3 q0) (Sum.elim (fun s : (Int32 × Int32 × mH) => Ev 147 (4, [.ref l0, .ref l1, .int s.1, .int s.2.1, .retAddr 0], []) s.2.2) (fun (q : Unit × mH) (res : Option Value × mH) => res = (none, q.2))) := by
  unfold f147_49
  refine Seg.blk0 (f' := (if (q0 : Int32) = 0 then 81 else 56, [.ref l0, .ref l1, .int l2, .int l3, .int q0], [])) (h' := h) rfl rfl ?_
  refine Seg.ite (fun _ => ?_) (fun _ => ?_)
  · exact Seg.w (mLw.k (mLw.k (mLw.k (mLw.k (mLw.u mLw.nil))))) (s147_81 h l0 l1 l2 l3)
  · refine Seg.blk (f' := (if ((mI h ((mR h l0 6).getD 0) (Int32.toNatClampNeg l3)) : Int32) = ((mI h l0 1) - l2) then 71 else 81, [.ref l0, .ref l1, .int l2, .int l3, .int q0], [])) (h' := h) rfl rfl ?_
    refine Seg.ite (fun _ => ?_) (fun _ => ?_)
    · refine Seg.blk (f' := (78, [.ref l0, .ref l1, .int l2, .int l3, .int q0], [])) (h' := (mSI h ((mR h l0 0).getD 0) (Int32.toNatClampNeg l2) l3)) rfl rfl ?_
      refine Seg.blk0 (f' := (81, [.ref l0, .ref l1, .int (l2 + 1), .int l3, .int q0], [])) (h' := (mSI h ((mR h l0 0).getD 0) (Int32.toNatClampNeg l2) l3)) rfl rfl ?_
      exact Seg.w (mLw.k (mLw.k (mLw.k (mLw.k (mLw.u mLw.nil))))) (s147_81 (mSI h ((mR h l0 0).getD 0) (Int32.toNatClampNeg l2) l3) l0 l1 (l2 + 1) l3)
    · exact Seg.w (mLw.k (mLw.k (mLw.k (mLw.k (mLw.u mLw.nil))))) (s147_81 h l0 l1 l2 l3)
theorem s147_44 (h : mH) (l0 : Nat) (l1 : Nat) (l2 : Int32) (l3 : Int32) : Seg 147 (44, [.ref l0, .ref l1, .int l2, .int l3, .retAddr 0], []) h (f147_44 h l0 l1 l2 l3) (Sum.elim (fun s : (Int32 × Int32 × mH) => Ev 147 (4, [.ref l0, .ref l1, .int s.1, .int s.2.1, .retAddr 0], []) s.2.2) (fun (q : Unit × mH) (res : Option Value × mH) => res = (none, q.2))) := by
  unfold f147_44
  refine Seg.blk0 (f' := (49, [.ref l0, .ref l1, .int l2, .int l3, .retAddr 0], [.int 1])) (h' := h) rfl rfl ?_
  exact Seg.w (mLw.k (mLw.k (mLw.k (mLw.k (mLw.k mLw.nil))))) (s147_49 h l0 l1 l2 l3 1)
theorem s147_4 (l0 : Nat) (l1 : Nat) : ∀ (n : Nat) (s : (Int32 × Int32 × mH)), Seg 147 (4, [.ref l0, .ref l1, .int s.1, .int s.2.1, .retAddr 0], []) s.2.2 (mLoop (f147_4 l0 l1) n s) (fun (q : Unit × mH) (res : Option Value × mH) => res = (none, q.2)) := by
  refine Seg.loop (F := fun s : (Int32 × Int32 × mH) => (4, [.ref l0, .ref l1, .int s.1, .int s.2.1, .retAddr 0], [])) (H := fun s : (Int32 × Int32 × mH) => s.2.2) (fun s => ?_)
  show Seg 147 (4, [.ref l0, .ref l1, .int s.1, .int s.2.1, .retAddr 0], []) s.2.2 _ (Sum.elim (fun s : (Int32 × Int32 × mH) => Ev 147 (4, [.ref l0, .ref l1, .int s.1, .int s.2.1, .retAddr 0], []) s.2.2) (fun (q : Unit × mH) (res : Option Value × mH) => res = (none, q.2)))
  unfold f147_4
  refine Seg.blk (f' := (if ((mI s.2.2 l1 6) : Int32) ≤ s.2.1 then 87 else 12, [.ref l0, .ref l1, .int s.1, .int s.2.1, .retAddr 0], [])) (h' := s.2.2) rfl rfl ?_
  refine Seg.ite (fun _ => ?_) (fun _ => ?_)
  · refine Seg.x ?_
    exact Seg.w (mLw.u (mLw.u (mLw.u (mLw.u (mLw.k mLw.nil))))) (s147_87 s.2.2)
  · refine Seg.blk (f' := (if ((mI s.2.2 l0 1) : Int32) ≤ s.1 then 87 else 20, [.ref l0, .ref l1, .int s.1, .int s.2.1, .retAddr 0], [])) (h' := s.2.2) rfl rfl ?_
    refine Seg.ite (fun _ => ?_) (fun _ => ?_)
    · refine Seg.x ?_
      exact Seg.w (mLw.u (mLw.u (mLw.u (mLw.u (mLw.k mLw.nil))))) (s147_87 s.2.2)
    · refine Seg.blk0 (f' := (if (s.1 : Int32) = 0 then 44 else 24, [.ref l0, .ref l1, .int s.1, .int s.2.1, .retAddr 0], [])) (h' := s.2.2) rfl rfl ?_
      refine Seg.ite (fun _ => ?_) (fun _ => ?_)
      · exact Seg.w (mLw.k (mLw.k (mLw.k (mLw.k (mLw.k mLw.nil))))) (s147_44 s.2.2 l0 l1 s.1 s.2.1)
      · refine Seg.callP (f1 := (38, [.ref l0, .ref l1, .int s.1, .int s.2.1, .retAddr 0], [.int (mI s.2.2 ((mR s.2.2 l0 0).getD 0) (Int32.toNatClampNeg (s.1 - 1))), .int (mI s.2.2 ((mR s.2.2 l1 2).getD 0) (Int32.toNatClampNeg s.2.1))])) (h1 := s.2.2) (cv := fun r => some (.int r)) rfl rfl rfl rfl (s71 s.2.2 (mI s.2.2 ((mR s.2.2 l1 2).getD 0) (Int32.toNatClampNeg s.2.1)) (mI s.2.2 ((mR s.2.2 l0 0).getD 0) (Int32.toNatClampNeg (s.1 - 1)))) (fun r1 => ?_)
        refine Seg.blk0 (f' := (if (r1 : Int32) = 0 then 48 else 44, [.ref l0, .ref l1, .int s.1, .int s.2.1, .retAddr 0], [])) (h' := s.2.2) rfl rfl ?_
        refine Seg.ite (fun _ => ?_) (fun _ => ?_)
        · refine Seg.blk0 (f' := (49, [.ref l0, .ref l1, .int s.1, .int s.2.1, .retAddr 0], [.int 0])) (h' := s.2.2) rfl rfl ?_
          exact Seg.w (mLw.k (mLw.k (mLw.k (mLw.k (mLw.k mLw.nil))))) (s147_49 s.2.2 l0 l1 s.1 s.2.1 0)
        · exact Seg.w (mLw.k (mLw.k (mLw.k (mLw.k (mLw.k mLw.nil))))) (s147_44 s.2.2 l0 l1 s.1 s.2.1)
theorem s147 (h : mH) (l0 : Nat) (l1 : Nat) : Seg 147 (0, [.ref l0, .ref l1, .retAddr 0, .retAddr 0, .retAddr 0], []) h (f147 h l0 l1) (fun (q : Unit × mH) (res : Option Value × mH) => res = (none, q.2)) := by
  unfold f147
  refine Seg.blk0 (f' := (4, [.ref l0, .ref l1, .int 0, .int 0, .retAddr 0], [])) (h' := h) rfl rfl ?_
  exact Seg.w (mLw.k (mLw.k (mLw.k (mLw.k (mLw.k mLw.nil))))) (s147_4 l0 l1 mFuel (0, 0, h))
theorem s146_94 (h : mH) (l0 : Nat) (l1 : Nat) (l2 : Int32) : Seg 146 (94, [.ref l0, .ref l1, .int l2, .retAddr 0], []) h (f146_94 h l0 l1 l2) (Sum.elim (fun s : (Int32 × mH) => Ev 146 (12, [.ref l0, .ref l1, .int s.1, .retAddr 0], []) s.2) (fun (q : Unit × mH) (res : Option Value × mH) => res = (none, q.2))) := by
  unfold f146_94
  refine Seg.blk0 (f' := (12, [.ref l0, .ref l1, .int (l2 + (-1)), .retAddr 0], [])) (h' := h) rfl rfl ?_
  exact Seg.cont (fun _ q => Ev.w (mLw.k (mLw.k (mLw.k (mLw.k mLw.nil)))) q)
theorem s146_71 (h : mH) (l0 : Nat) (l1 : Nat) (l2 : Int32) (l3 : Int32) : Seg 146 (71, [.ref l0, .ref l1, .int l2, .int l3], []) h (f146_71 h l0 l1 l2 l3) (Sum.elim (fun s : (Int32 × mH) => Ev 146 (27, [.ref l0, .ref l1, .int l2, .int s.1], []) s.2) (Sum.elim (fun s : (Int32 × mH) => Ev 146 (12, [.ref l0, .ref l1, .int s.1, .retAddr 0], []) s.2) (fun (q : Unit × mH) (res : Option Value × mH) => res = (none, q.2)))) := by
  unfold f146_71
  refine Seg.blk0 (f' := (27, [.ref l0, .ref l1, .int l2, .int (l3 + 1)], [])) (h' := h) rfl rfl ?_
  exact Seg.cont (fun _ q => Ev.w (mLw.k (mLw.k (mLw.k (mLw.k mLw.nil)))) q)
theorem s146_27 (l0 : Nat) (l1 : Nat) (l2 : Int32) : ∀ (n : Nat) (s : (Int32 × mH)), Seg 146 (27, [.ref l0, .ref l1, .int l2, .int s.1], []) s.2 (mLoop (f146_27 l0 l1 l2) n s) (Sum.elim (fun s : (Int32 × mH) => Ev 146 (12, [.ref l0, .ref l1, .int s.1, .retAddr 0], []) s.2) (fun (q : Unit × mH) (res : Option Value × mH) => res = (none, q.2))) := by
  refine Seg.loop (F := fun s : (Int32 × mH) => (27, [.ref l0, .ref l1, .int l2, .int s.1], [])) (H := fun s : (Int32 × mH) => s.2) (fun s => ?_)
  show Seg 146 (27, [.ref l0, .ref l1, .int l2, .int s.1], []) s.2 _ (Sum.elim (fun s : (Int32 × mH) => Ev 146 (27, [.ref l0, .ref l1, .int l2, .int s.1], []) s.2) (Sum.elim (fun s : (Int32 × mH) => Ev 146 (12, [.ref l0, .ref l1, .int s.1, .retAddr 0], []) s.2) (fun (q : Unit × mH) (res : Option Value × mH) => res = (none, q.2))))
  unfold f146_27
  refine Seg.blk (f' := (if ((mI s.2 l1 6) : Int32) ≤ s.1 then 77 else 35, [.ref l0, .ref l1, .int l2, .int s.1], [])) (h' := s.2) rfl rfl ?_
  refine Seg.ite (fun _ => ?_) (fun _ => ?_)
  · refine Seg.x ?_
    refine Seg.blk (f' := (94, [.ref l0, .ref l1, .int l2, .int s.1], [])) (h' := (mSI s.2 l0 1 (if ((mI s.2 l0 1) : Int32) < (mI s.2 ((mR s.2 l0 6).getD 0) (Int32.toNatClampNeg l2)) then (mI s.2 ((mR s.2 l0 6).getD 0) (Int32.toNatClampNeg l2)) else (mI s.2 l0 1)))) rfl rfl ?_
    exact Seg.w (mLw.k (mLw.k (mLw.k (mLw.u mLw.nil)))) (s146_94 (mSI s.2 l0 1 (if ((mI s.2 l0 1) : Int32) < (mI s.2 ((mR s.2 l0 6).getD 0) (Int32.toNatClampNeg l2)) then (mI s.2 ((mR s.2 l0 6).getD 0) (Int32.toNatClampNeg l2)) else (mI s.2 l0 1))) l0 l1 l2)
  · refine Seg.callP (f1 := (42, [.ref l0, .ref l1, .int l2, .int s.1], [.int l2, .int (mI s.2 ((mR s.2 l1 2).getD 0) (Int32.toNatClampNeg s.1))])) (h1 := s.2) (cv := fun r => some (.int r)) rfl rfl rfl rfl (s71 s.2 (mI s.2 ((mR s.2 l1 2).getD 0) (Int32.toNatClampNeg s.1)) l2) (fun r2 => ?_)
    refine Seg.blk0 (f' := (if (r2 : Int32) = 0 then 71 else 48, [.ref l0, .ref l1, .int l2, .int s.1], [])) (h' := s.2) rfl rfl ?_
    refine Seg.ite (fun _ => ?_) (fun _ => ?_)
    · exact Seg.w (mLw.k (mLw.k (mLw.k (mLw.k mLw.nil)))) (s146_71 s.2 l0 l1 l2 s.1)
    · refine Seg.blk (f' := (71, [.ref l0, .ref l1, .int l2, .int s.1], [])) (h' := (mSI s.2 ((mR s.2 l0 6).getD 0) (Int32.toNatClampNeg l2) (if ((mI s.2 ((mR s.2 l0 6).getD 0) (Int32.toNatClampNeg l2)) : Int32) < ((mI s.2 ((mR s.2 l0 6).getD 0) (Int32.toNatClampNeg s.1)) + 1) then ((mI s.2 ((mR s.2 l0 6).getD 0) (Int32.toNatClampNeg s.1)) + 1) else (mI s.2 ((mR s.2 l0 6).getD 0) (Int32.toNatClampNeg l2))))) rfl rfl ?_
      exact Seg.w (mLw.k (mLw.k (mLw.k (mLw.k mLw.nil)))) (s146_71 (mSI s.2 ((mR s.2 l0 6).getD 0) (Int32.toNatClampNeg l2) (if ((mI s.2 ((mR s.2 l0 6).getD 0) (Int32.toNatClampNeg l2)) : Int32) < ((mI s.2 ((mR s.2 l0 6).getD 0) (Int32.toNatClampNeg s.1)) + 1) then ((mI s.2 ((mR s.2 l0 6).getD 0) (Int32.toNatClampNeg s.1)) + 1) else (mI s.2 ((mR s.2 l0 6).getD 0) (Int32.toNatClampNeg l2)))) l0 l1 l2 s.1)
theorem s146_12 (l0 : Nat) (l1 : Nat) : ∀ (n : Nat) (s : (Int32 × mH)), Seg 146 (12, [.ref l0, .ref l1, .int s.1, .retAddr 0], []) s.2 (mLoop (f146_12 l0 l1) n s) (fun (q : Unit × mH) (res : Option Value × mH) => res = (none, q.2)) := by
  refine Seg.loop (F := fun s : (Int32 × mH) => (12, [.ref l0, .ref l1, .int s.1, .retAddr 0], [])) (H := fun s : (Int32 × mH) => s.2) (fun s => ?_)
  show Seg 146 (12, [.ref l0, .ref l1, .int s.1, .retAddr 0], []) s.2 _ (Sum.elim (fun s : (Int32 × mH) => Ev 146 (12, [.ref l0, .ref l1, .int s.1, .retAddr 0], []) s.2) (fun (q : Unit × mH) (res : Option Value × mH) => res = (none, q.2)))
  unfold f146_12
  refine Seg.blk0 (f' := (if (s.1 : Int32) < 0 then 100 else 16, [.ref l0, .ref l1, .int s.1, .retAddr 0], [])) (h' := s.2) rfl rfl ?_
  refine Seg.ite (fun _ => ?_) (fun _ => ?_)
  · refine Seg.x ?_
    refine Seg.call (f1 := (102, [.ref l0, .ref l1, .int s.1, .retAddr 0], [.ref l1, .ref l0])) (h1 := s.2) (cv := fun _ => none) rfl rfl rfl rfl (s147 s.2 l0 l1) (fun r1 => ?_)
    exact Seg.ret (f1 := (105, [.ref l0, .ref l1, .int s.1, .retAddr 0], [])) (h1 := r1.2) rfl rfl rfl rfl (fun _ q => q)
  · refine Seg.blk (f' := (23, [.ref l0, .ref l1, .int s.1, .retAddr 0], [])) (h' := (mSI s.2 ((mR s.2 l0 6).getD 0) (Int32.toNatClampNeg s.1) 1)) rfl rfl ?_
    refine Seg.blk0 (f' := (27, [.ref l0, .ref l1, .int s.1, .int (s.1 + 1)], [])) (h' := (mSI s.2 ((mR s.2 l0 6).getD 0) (Int32.toNatClampNeg s.1) 1)) rfl rfl ?_
    exact Seg.w (mLw.k (mLw.k (mLw.k (mLw.k mLw.nil)))) (s146_27 l0 l1 s.1 mFuel ((s.1 + 1), (mSI s.2 ((mR s.2 l0 6).getD 0) (Int32.toNatClampNeg s.1) 1)))
theorem s146 (h : mH) (l0 : Nat) (l1 : Nat) : Seg 146 (0, [.ref l0, .ref l1, .retAddr 0, .retAddr 0], []) h (f146 h l0 l1) (fun (q : Unit × mH) (res : Option Value × mH) => res = (none, q.2)) := by
  unfold f146
  refine Seg.blk (f' := (5, [.ref l0, .ref l1, .retAddr 0, .retAddr 0], [])) (h' := (mSI h l0 1 0)) rfl rfl ?_
  refine Seg.blk (f' := (12, [.ref l0, .ref l1, .int ((mI (mSI h l0 1 0) l1 6) - 1), .retAddr 0], [])) (h' := (mSI h l0 1 0)) rfl rfl ?_
  exact Seg.w (mLw.k (mLw.k (mLw.k (mLw.k mLw.nil)))) (s146_12 l0 l1 mFuel (((mI (mSI h l0 1 0) l1 6) - 1), (mSI h l0 1 0)))
theorem s145 (h : mH) (l0 : Nat) (l1 : Int32) (l2 : Int32) : Seg 145 (0, [.ref l0, .int l1, .int l2, .retAddr 0], []) h (f145 h l0 l1 l2) (fun (q : Int32 × mH) (res : Option Value × mH) => res = (some (.int q.1), q.2)) := by
  unfold f145
  refine Seg.callP (f1 := (5, [.ref l0, .int l1, .int l2, .retAddr 0], [.int l1, .ref ((mR h l0 0).getD 0)])) (h1 := h) (cv := fun r => some (va_rf r)) rfl rfl rfl rfl (s53 h ((mR h l0 0).getD 0) l1) (fun r1 => ?_)
  cases r1 with
  | none =>
    refine Seg.blk0 (f' := (13, [.ref l0, .int l1, .int l2, .null], [])) (h' := h) rfl rfl ?_
    exact Seg.ret (f1 := (14, [.ref l0, .int l1, .int l2, .null], [.int (-1)])) (h1 := h) rfl rfl rfl rfl (fun _ q => q)
  | some a1 =>
    refine Seg.blk0 (f' := (15, [.ref l0, .int l1, .int l2, .ref a1], [])) (h' := h) rfl rfl ?_
    refine Seg.call (f1 := (20, [.ref l0, .int l1, .int l2, .ref a1], [.ref a1, .ref ((mR h l0 6).getD 0)])) (h1 := h) (cv := fun _ => none) rfl rfl rfl rfl (s146 h ((mR h l0 6).getD 0) a1) (fun r2 => ?_)
    refine Seg.callP (f1 := (38, [.ref l0, .int l1, .int l2, .ref a1], [.int l2, .int (mI r2.2 ((mR r2.2 l0 6).getD 0) 1), .ref ((mR r2.2 ((mR r2.2 l0 6).getD 0) 0).getD 0)])) (h1 := r2.2) (cv := fun r => some (.int r)) rfl rfl rfl rfl (s88 r2.2 ((mR r2.2 ((mR r2.2 l0 6).getD 0) 0).getD 0) (mI r2.2 ((mR r2.2 l0 6).getD 0) 1) l2) (fun r3 => ?_)
    exact Seg.ret (f1 := (41, [.ref l0, .int l1, .int l2, .ref a1], [.int r3])) (h1 := r2.2) rfl rfl rfl rfl (fun _ q => q)
