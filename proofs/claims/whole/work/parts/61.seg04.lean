/-! The small machine runs the programs; printed by a program of ours. -/
theorem s111 (h : mH) (l0 : Nat) (l1 : Int32) : Seg 111 (0, [.ref l0, .int l1], []) h (f111 h l0 l1) (fun (q : Option Nat) (res : Option Value × mH) => res = (some (va_rf q), h)) := by
  unfold f111
  refine Seg.callP (f1 := (10, [.ref l0, .int l1], [.int ((mI h ((mR h l0 1).getD 0) (Int32.toNatClampNeg 2)) - 1), .int 0, .int l1])) (h1 := h) (cv := fun r => some (.int r)) rfl rfl rfl rfl (s17 h l1 0 ((mI h ((mR h l0 1).getD 0) (Int32.toNatClampNeg 2)) - 1)) (fun r1 => ?_)
  refine Seg.blk0 (f' := (if (r1 : Int32) = 0 then 25 else 16, [.ref l0, .int l1], [])) (h' := h) rfl rfl ?_
  refine Seg.ite (fun _ => ?_) (fun _ => ?_)
  · refine Seg.blk0 (f' := (26, [.ref l0, .int l1], [.null])) (h' := h) rfl rfl ?_
    exact Seg.ret (f1 := (26, [.ref l0, .int l1], [.null])) (h1 := h) rfl rfl rfl rfl (fun _ q => q)
  · refine Seg.blk (f' := (26, [.ref l0, .int l1], [.ref ((mR h ((mR h l0 4).getD 0) (Int32.toNatClampNeg l1)).getD 0)])) (h' := h) rfl rfl ?_
    exact Seg.ret (f1 := (26, [.ref l0, .int l1], [.ref ((mR h ((mR h l0 4).getD 0) (Int32.toNatClampNeg l1)).getD 0)])) (h1 := h) rfl rfl rfl rfl (fun _ q => q)
theorem s112_14 (h : mH) (l0 : Nat) (l1 : Int32) (l2 : Int32) : Seg 112 (14, [.ref l0, .int l1, .int l2], []) h (f112_14 h l0 l1 l2) (fun (q : Int32) (res : Option Value × mH) => res = (some (.int q), h)) := by
  unfold f112_14
  refine Seg.callP (f1 := (22, [.ref l0, .int l1, .int l2], [.int ((mI h l0 2) - 1), .int 0, .int l1])) (h1 := h) (cv := fun r => some (.int r)) rfl rfl rfl rfl (s17 h l1 0 ((mI h l0 2) - 1)) (fun r1 => ?_)
  refine Seg.blk0 (f' := (if (r1 : Int32) = 0 then 28 else 31, [.ref l0, .int l1, .int l2], [])) (h' := h) rfl rfl ?_
  refine Seg.ite (fun _ => ?_) (fun _ => ?_)
  · exact Seg.ret (f1 := (30, [.ref l0, .int l1, .int l2], [.int (-2)])) (h1 := h) rfl rfl rfl rfl (fun _ q => q)
  · refine Seg.blk0 (f' := (if (l2 : Int32) = 0 then 60 else if (l2 : Int32) = 1 then 70 else 77, [.ref l0, .int l1, .int l2], [])) (h' := h) rfl rfl ?_
    refine Seg.ite (fun _ => ?_) (fun _ => ?_)
    · exact Seg.ret (f1 := (69, [.ref l0, .int l1, .int l2], [.int ((mI h ((mR h l0 0).getD 0) (Int32.toNatClampNeg l1)) - 12)])) (h1 := h) rfl rfl rfl rfl (fun _ q => q)
    refine Seg.ite (fun _ => ?_) (fun _ => ?_)
    · exact Seg.ret (f1 := (76, [.ref l0, .int l1, .int l2], [.int (mI h ((mR h l0 1).getD 0) (Int32.toNatClampNeg l1))])) (h1 := h) rfl rfl rfl rfl (fun _ q => q)
    · exact Seg.ret (f1 := (79, [.ref l0, .int l1, .int l2], [.int (-2)])) (h1 := h) rfl rfl rfl rfl (fun _ q => q)
theorem s112 (h : mH) (l0 : Nat) (l1 : Int32) (l2 : Int32) : Seg 112 (0, [.ref l0, .int l1, .int l2], []) h (f112 h l0 l1 l2) (fun (q : Int32) (res : Option Value × mH) => res = (some (.int q), h)) := by
  unfold f112
  refine Seg.blk0 (f' := (if (l1 : Int32) = (-1) then 5 else 14, [.ref l0, .int l1, .int l2], [])) (h' := h) rfl rfl ?_
  refine Seg.ite (fun _ => ?_) (fun _ => ?_)
  · refine Seg.blk0 (f' := (if (l2 : Int32) = 0 then 9 else 14, [.ref l0, .int l1, .int l2], [])) (h' := h) rfl rfl ?_
    refine Seg.ite (fun _ => ?_) (fun _ => ?_)
    · exact Seg.ret (f1 := (13, [.ref l0, .int l1, .int l2], [.int (mI h l0 2)])) (h1 := h) rfl rfl rfl rfl (fun _ q => q)
    · exact Seg.w (mLw.k (mLw.k (mLw.k mLw.nil))) (s112_14 h l0 l1 l2)
  · exact Seg.w (mLw.k (mLw.k (mLw.k mLw.nil))) (s112_14 h l0 l1 l2)
theorem s110_27 (h : mH) (q0 : Int32) : Seg 110 (27, [.retAddr 0, .retAddr 0, .retAddr 0, .retAddr 0, .retAddr 0], [.int q0]) h (f110_27 h q0) (fun (q : Int32) (res : Option Value × mH) => res = (some (.int q), h)) := by
  unfold f110_27
  exact Seg.ret (f1 := (27, [.retAddr 0, .retAddr 0, .retAddr 0, .retAddr 0, .retAddr 0], [.int q0])) (h1 := h) rfl rfl rfl rfl (fun _ q => q)
theorem s110 (h : mH) (l0 : Nat) (l1 : Int32) (l2 : Int32) (l3 : Int32) : Seg 110 (0, [.ref l0, .int l1, .int l2, .int l3, .retAddr 0], []) h (f110 h l0 l1 l2 l3) (fun (q : Int32) (res : Option Value × mH) => res = (some (.int q), h)) := by
  unfold f110
  refine Seg.callP (f1 := (5, [.ref l0, .int l1, .int l2, .int l3, .retAddr 0], [.int l1, .ref ((mR h l0 0).getD 0)])) (h1 := h) (cv := fun r => some (va_rf r)) rfl rfl rfl rfl (s111 h ((mR h l0 0).getD 0) l1) (fun r1 => ?_)
  cases r1 with
  | none =>
    refine Seg.blk0 (f' := (15, [.ref l0, .int l1, .int l2, .int l3, .null], [])) (h' := h) rfl rfl ?_
    refine Seg.blk0 (f' := (27, [.ref l0, .int l1, .int l2, .int l3, .null], [.int (-2)])) (h' := h) rfl rfl ?_
    exact Seg.w (mLw.u (mLw.u (mLw.u (mLw.u (mLw.u mLw.nil))))) (s110_27 h (-2))
  | some a1 =>
    refine Seg.blk0 (f' := (20, [.ref l0, .int l1, .int l2, .int l3, .ref a1], [])) (h' := h) rfl rfl ?_
    refine Seg.callP (f1 := (24, [.ref l0, .int l1, .int l2, .int l3, .ref a1], [.int l3, .int l2, .ref a1])) (h1 := h) (cv := fun r => some (.int r)) rfl rfl rfl rfl (s112 h a1 l2 l3) (fun r2 => ?_)
    exact Seg.w (mLw.u (mLw.u (mLw.u (mLw.u (mLw.u mLw.nil))))) (s110_27 h r2)
theorem s116_2 (h : mH) (l0 : Nat) (l1 : Nat) : ∀ (n : Nat) (s : (Int32)), Seg 116 (2, [.ref l0, .ref l1, .int s], []) h (mLoop (f116_2 h l0 l1) n s) (fun (q : Int32) (res : Option Value × mH) => res = (some (.int q), h)) := by
  refine Seg.loop (F := fun s : (Int32) => (2, [.ref l0, .ref l1, .int s], [])) (H := fun s : (Int32) => h) (fun s => ?_)
  show Seg 116 (2, [.ref l0, .ref l1, .int s], []) h _ (Sum.elim (fun s : (Int32) => Ev 116 (2, [.ref l0, .ref l1, .int s], []) h) (fun (q : Int32) (res : Option Value × mH) => res = (some (.int q), h)))
  unfold f116_2
  refine Seg.blk (f' := (if ((mI h l0 2) : Int32) ≤ s then 31 else 10, [.ref l0, .ref l1, .int s], [])) (h' := h) rfl rfl ?_
  refine Seg.ite (fun _ => ?_) (fun _ => ?_)
  · refine Seg.x ?_
    exact Seg.ret (f1 := (32, [.ref l0, .ref l1, .int s], [.int 0])) (h1 := h) rfl rfl rfl rfl (fun _ q => q)
  · refine Seg.callP (f1 := (17, [.ref l0, .ref l1, .int s], [.int (mI h ((mR h l0 1).getD 0) (Int32.toNatClampNeg s)), .ref l1])) (h1 := h) (cv := fun r => some (.int r)) rfl rfl rfl rfl (s57 h l1 (mI h ((mR h l0 1).getD 0) (Int32.toNatClampNeg s))) (fun r1 => ?_)
    refine Seg.blk0 (f' := (if (r1 : Int32) = 0 then 23 else 25, [.ref l0, .ref l1, .int s], [])) (h' := h) rfl rfl ?_
    refine Seg.ite (fun _ => ?_) (fun _ => ?_)
    · refine Seg.x ?_
      exact Seg.ret (f1 := (24, [.ref l0, .ref l1, .int s], [.int 1])) (h1 := h) rfl rfl rfl rfl (fun _ q => q)
    · refine Seg.blk0 (f' := (2, [.ref l0, .ref l1, .int (s + 1)], [])) (h' := h) rfl rfl ?_
      exact Seg.cont (fun _ q => Ev.w (mLw.k (mLw.k (mLw.k mLw.nil))) q)
theorem s116 (h : mH) (l0 : Nat) (l1 : Nat) : Seg 116 (0, [.ref l0, .ref l1, .retAddr 0], []) h (f116 h l0 l1) (fun (q : Int32) (res : Option Value × mH) => res = (some (.int q), h)) := by
  unfold f116
  refine Seg.blk0 (f' := (2, [.ref l0, .ref l1, .int 0], [])) (h' := h) rfl rfl ?_
  exact Seg.w (mLw.k (mLw.k (mLw.k mLw.nil))) (s116_2 h l0 l1 mFuel (0))
theorem s117_36 (h : mH) (l0 : Nat) (l1 : Int32) (l2 : Int32) (q0 : Int32) (q1 : Int32) : Seg 117 (36, [.ref l0, .int l1, .int l2], [.int q1, .int q0]) h (f117_36 h l0 l1 l2 q0 q1) (Sum.elim (fun s : (Int32) => Ev 117 (2, [.ref l0, .int l1, .int s], []) h) (fun (q : Int32) (res : Option Value × mH) => res = (some (.int q), h))) := by
  unfold f117_36
  refine Seg.blk0 (f' := (if (q0 : Int32) = q1 then 41 else 39, [.ref l0, .int l1, .int l2], [])) (h' := h) rfl rfl ?_
  refine Seg.ite (fun _ => ?_) (fun _ => ?_)
  · refine Seg.blk0 (f' := (2, [.ref l0, .int l1, .int (l2 + 1)], [])) (h' := h) rfl rfl ?_
    exact Seg.cont (fun _ q => Ev.w (mLw.k (mLw.k (mLw.k mLw.nil))) q)
  · refine Seg.x ?_
    exact Seg.ret (f1 := (40, [.ref l0, .int l1, .int l2], [.int 0])) (h1 := h) rfl rfl rfl rfl (fun _ q => q)
theorem s117_2 (h : mH) (l0 : Nat) (l1 : Int32) : ∀ (n : Nat) (s : (Int32)), Seg 117 (2, [.ref l0, .int l1, .int s], []) h (mLoop (f117_2 h l0 l1) n s) (fun (q : Int32) (res : Option Value × mH) => res = (some (.int q), h)) := by
  refine Seg.loop (F := fun s : (Int32) => (2, [.ref l0, .int l1, .int s], [])) (H := fun s : (Int32) => h) (fun s => ?_)
  show Seg 117 (2, [.ref l0, .int l1, .int s], []) h _ (Sum.elim (fun s : (Int32) => Ev 117 (2, [.ref l0, .int l1, .int s], []) h) (fun (q : Int32) (res : Option Value × mH) => res = (some (.int q), h)))
  unfold f117_2
  refine Seg.blk (f' := (if ((mI h l0 2) : Int32) ≤ s then 47 else 10, [.ref l0, .int l1, .int s], [])) (h' := h) rfl rfl ?_
  refine Seg.ite (fun _ => ?_) (fun _ => ?_)
  · refine Seg.x ?_
    exact Seg.ret (f1 := (48, [.ref l0, .int l1, .int s], [.int 1])) (h1 := h) rfl rfl rfl rfl (fun _ q => q)
  · refine Seg.callP (f1 := (17, [.ref l0, .int l1, .int s], [.int (mI h ((mR h l0 1).getD 0) (Int32.toNatClampNeg s)), .int l1])) (h1 := h) (cv := fun r => some (.int r)) rfl rfl rfl rfl (s71 h l1 (mI h ((mR h l0 1).getD 0) (Int32.toNatClampNeg s))) (fun r1 => ?_)
    refine Seg.blk (f' := (if ((mI h ((mR h l0 0).getD 0) (Int32.toNatClampNeg s)) : Int32) = 12 then 31 else 35, [.ref l0, .int l1, .int s], [.int r1])) (h' := h) rfl rfl ?_
    refine Seg.ite (fun _ => ?_) (fun _ => ?_)
    · refine Seg.blk0 (f' := (36, [.ref l0, .int l1, .int s], [.int 1, .int r1])) (h' := h) rfl rfl ?_
      exact Seg.w (mLw.k (mLw.k (mLw.k mLw.nil))) (s117_36 h l0 l1 s r1 1)
    · refine Seg.blk0 (f' := (36, [.ref l0, .int l1, .int s], [.int 0, .int r1])) (h' := h) rfl rfl ?_
      exact Seg.w (mLw.k (mLw.k (mLw.k mLw.nil))) (s117_36 h l0 l1 s r1 0)
theorem s117 (h : mH) (l0 : Nat) (l1 : Int32) : Seg 117 (0, [.ref l0, .int l1, .retAddr 0], []) h (f117 h l0 l1) (fun (q : Int32) (res : Option Value × mH) => res = (some (.int q), h)) := by
  unfold f117
  refine Seg.blk0 (f' := (2, [.ref l0, .int l1, .int 0], [])) (h' := h) rfl rfl ?_
  exact Seg.w (mLw.k (mLw.k (mLw.k mLw.nil))) (s117_2 h l0 l1 mFuel (0))
theorem s115_103 (h : mH) (l0 : Nat) (l1 : Nat) (l2 : Nat) (l3 : Int32) (l4 : Int32) (l5 : Int32) : Seg 115 (103, [.ref l0, .ref l1, .ref l2, .int l3, .int l4, .int l5], []) h (f115_103 h l0 l1 l2 l3 l4 l5) (Sum.elim (fun s : (Int32 × Int32 × mH) => Ev 115 (41, [.ref l0, .ref l1, .ref l2, .int l3, .int s.1, .int s.2.1], []) s.2.2) (Sum.elim (fun s : (Int32 × mH) => Ev 115 (25, [.ref l0, .ref l1, .ref l2, .int s.1, .retAddr 0, .retAddr 0], []) s.2) (fun (q : Int32 × mH) (res : Option Value × mH) => res = (some (.int q.1), q.2)))) := by
  unfold f115_103
  refine Seg.callP (f1 := (108, [.ref l0, .ref l1, .ref l2, .int l3, .int l4, .int l5], [.ref l1, .int 1, .int l4, .ref l1])) (h1 := h) (cv := fun r => some (.int r)) rfl rfl rfl rfl (s98 h l1) (fun r3 => ?_)
  refine Seg.callP (f1 := (111, [.ref l0, .ref l1, .ref l2, .int l3, .int l4, .int l5], [.int r3, .int 1, .int l4, .ref l1])) (h1 := h) (cv := fun r => some (.int r)) rfl rfl rfl rfl (s99 h l1 l4 1 r3) (fun r4 => ?_)
  refine Seg.blk0 (f' := (41, [.ref l0, .ref l1, .ref l2, .int l3, .int r4, .int (l5 + 1)], [])) (h' := h) rfl rfl ?_
  exact Seg.cont (fun _ q => Ev.w (mLw.k (mLw.k (mLw.k (mLw.k (mLw.k (mLw.k mLw.nil)))))) q)
theorem s115_93 (h : mH) (l0 : Nat) (l1 : Nat) (l2 : Nat) (l3 : Int32) (l4 : Int32) (l5 : Int32) : Seg 115 (93, [.ref l0, .ref l1, .ref l2, .int l3, .int l4, .int l5], []) h (f115_93 h l0 l1 l2 l3 l4 l5) (Sum.elim (fun s : (Int32 × Int32 × mH) => Ev 115 (41, [.ref l0, .ref l1, .ref l2, .int l3, .int s.1, .int s.2.1], []) s.2.2) (Sum.elim (fun s : (Int32 × mH) => Ev 115 (25, [.ref l0, .ref l1, .ref l2, .int s.1, .retAddr 0, .retAddr 0], []) s.2) (fun (q : Int32 × mH) (res : Option Value × mH) => res = (some (.int q.1), q.2)))) := by
  unfold f115_93
  refine Seg.blk (f' := (103, [.ref l0, .ref l1, .ref l2, .int l3, .int l4, .int l5], [])) (h' := (mSI h l0 1 ((mI h l0 1) + 1))) rfl rfl ?_
  exact Seg.w (mLw.k (mLw.k (mLw.k (mLw.k (mLw.k (mLw.k mLw.nil)))))) (s115_103 (mSI h l0 1 ((mI h l0 1) + 1)) l0 l1 l2 l3 l4 l5)
theorem s115_41 (l0 : Nat) (l1 : Nat) (l2 : Nat) (l3 : Int32) : ∀ (n : Nat) (s : (Int32 × Int32 × mH)), Seg 115 (41, [.ref l0, .ref l1, .ref l2, .int l3, .int s.1, .int s.2.1], []) s.2.2 (mLoop (f115_41 l0 l1 l2 l3) n s) (Sum.elim (fun s : (Int32 × mH) => Ev 115 (25, [.ref l0, .ref l1, .ref l2, .int s.1, .retAddr 0, .retAddr 0], []) s.2) (fun (q : Int32 × mH) (res : Option Value × mH) => res = (some (.int q.1), q.2))) := by
  refine Seg.loop (F := fun s : (Int32 × Int32 × mH) => (41, [.ref l0, .ref l1, .ref l2, .int l3, .int s.1, .int s.2.1], [])) (H := fun s : (Int32 × Int32 × mH) => s.2.2) (fun s => ?_)
  show Seg 115 (41, [.ref l0, .ref l1, .ref l2, .int l3, .int s.1, .int s.2.1], []) s.2.2 _ (Sum.elim (fun s : (Int32 × Int32 × mH) => Ev 115 (41, [.ref l0, .ref l1, .ref l2, .int l3, .int s.1, .int s.2.1], []) s.2.2) (Sum.elim (fun s : (Int32 × mH) => Ev 115 (25, [.ref l0, .ref l1, .ref l2, .int s.1, .retAddr 0, .retAddr 0], []) s.2) (fun (q : Int32 × mH) (res : Option Value × mH) => res = (some (.int q.1), q.2))))
  unfold f115_41
  refine Seg.blk0 (f' := (if (9 : Int32) < s.2.1 then 122 else 48, [.ref l0, .ref l1, .ref l2, .int l3, .int s.1, .int s.2.1], [])) (h' := s.2.2) rfl rfl ?_
  refine Seg.ite (fun _ => ?_) (fun _ => ?_)
  · refine Seg.x ?_
    refine Seg.blk0 (f' := (25, [.ref l0, .ref l1, .ref l2, .int (l3 + 1), .int s.1, .int s.2.1], [])) (h' := s.2.2) rfl rfl ?_
    exact Seg.cont (fun _ q => Ev.w (mLw.k (mLw.k (mLw.k (mLw.k (mLw.u (mLw.u mLw.nil)))))) q)
  · refine Seg.callP (f1 := (51, [.ref l0, .ref l1, .ref l2, .int l3, .int s.1, .int s.2.1], [.int s.1, .ref l2])) (h1 := s.2.2) (cv := fun r => some (.int r)) rfl rfl rfl rfl (s117 s.2.2 l2 s.1) (fun r2 => ?_)
    refine Seg.blk0 (f' := (if (r2 : Int32) = 0 then 103 else 57, [.ref l0, .ref l1, .ref l2, .int l3, .int s.1, .int s.2.1], [])) (h' := s.2.2) rfl rfl ?_
    refine Seg.ite (fun _ => ?_) (fun _ => ?_)
    · exact Seg.w (mLw.k (mLw.k (mLw.k (mLw.k (mLw.k (mLw.k mLw.nil)))))) (s115_103 s.2.2 l0 l1 l2 l3 s.1 s.2.1)
    · refine Seg.blk (f' := (if (60 : Int32) ≤ (mI s.2.2 l0 1) then 103 else 66, [.ref l0, .ref l1, .ref l2, .int l3, .int s.1, .int s.2.1], [])) (h' := s.2.2) rfl rfl ?_
      refine Seg.ite (fun _ => ?_) (fun _ => ?_)
      · exact Seg.w (mLw.k (mLw.k (mLw.k (mLw.k (mLw.k (mLw.k mLw.nil)))))) (s115_103 s.2.2 l0 l1 l2 l3 s.1 s.2.1)
      · refine Seg.blk (f' := (82, [.ref l0, .ref l1, .ref l2, .int l3, .int s.1, .int s.2.1], [])) (h' := (mSI s.2.2 ((mR s.2.2 l0 0).getD 0) (Int32.toNatClampNeg (mI s.2.2 l0 1)) ((10 * l3) + s.2.1))) rfl rfl ?_
        refine Seg.blk (f' := (93, [.ref l0, .ref l1, .ref l2, .int l3, .int s.1, .int s.2.1], [])) (h' := (mSI (mSI s.2.2 ((mR s.2.2 l0 0).getD 0) (Int32.toNatClampNeg (mI s.2.2 l0 1)) ((10 * l3) + s.2.1)) ((mR s.2.2 l0 2).getD 0) (Int32.toNatClampNeg (mI (mSI s.2.2 ((mR s.2.2 l0 0).getD 0) (Int32.toNatClampNeg (mI s.2.2 l0 1)) ((10 * l3) + s.2.1)) l0 1)) s.1)) rfl rfl ?_
        exact Seg.w (mLw.k (mLw.k (mLw.k (mLw.k (mLw.k (mLw.k mLw.nil)))))) (s115_93 (mSI (mSI s.2.2 ((mR s.2.2 l0 0).getD 0) (Int32.toNatClampNeg (mI s.2.2 l0 1)) ((10 * l3) + s.2.1)) ((mR s.2.2 l0 2).getD 0) (Int32.toNatClampNeg (mI (mSI s.2.2 ((mR s.2.2 l0 0).getD 0) (Int32.toNatClampNeg (mI s.2.2 l0 1)) ((10 * l3) + s.2.1)) l0 1)) s.1) l0 l1 l2 l3 s.1 s.2.1)
theorem s115_25 (l0 : Nat) (l1 : Nat) (l2 : Nat) : ∀ (n : Nat) (s : (Int32 × mH)), Seg 115 (25, [.ref l0, .ref l1, .ref l2, .int s.1, .retAddr 0, .retAddr 0], []) s.2 (mLoop (f115_25 l0 l1 l2) n s) (fun (q : Int32 × mH) (res : Option Value × mH) => res = (some (.int q.1), q.2)) := by
  refine Seg.loop (F := fun s : (Int32 × mH) => (25, [.ref l0, .ref l1, .ref l2, .int s.1, .retAddr 0, .retAddr 0], [])) (H := fun s : (Int32 × mH) => s.2) (fun s => ?_)
  show Seg 115 (25, [.ref l0, .ref l1, .ref l2, .int s.1, .retAddr 0, .retAddr 0], []) s.2 _ (Sum.elim (fun s : (Int32 × mH) => Ev 115 (25, [.ref l0, .ref l1, .ref l2, .int s.1, .retAddr 0, .retAddr 0], []) s.2) (fun (q : Int32 × mH) (res : Option Value × mH) => res = (some (.int q.1), q.2)))
  unfold f115_25
  refine Seg.blk (f' := (if ((mI s.2 l0 3) : Int32) ≤ s.1 then 128 else 33, [.ref l0, .ref l1, .ref l2, .int s.1, .retAddr 0, .retAddr 0], [])) (h' := s.2) rfl rfl ?_
  refine Seg.ite (fun _ => ?_) (fun _ => ?_)
  · refine Seg.x ?_
    exact Seg.ret (f1 := (129, [.ref l0, .ref l1, .ref l2, .int s.1, .retAddr 0, .retAddr 0], [.int 1])) (h1 := s.2) rfl rfl rfl rfl (fun _ q => q)
  · refine Seg.blk0 (f' := (41, [.ref l0, .ref l1, .ref l2, .int s.1, .int ((1 : Int32) <<< (s.1 &&& (31 : Int32))), .int 0], [])) (h' := s.2) rfl rfl ?_
    exact Seg.w (mLw.k (mLw.k (mLw.k (mLw.k (mLw.k (mLw.k mLw.nil)))))) (s115_41 l0 l1 l2 s.1 mFuel (((1 : Int32) <<< (s.1 &&& (31 : Int32))), 0, s.2))
theorem s115 (h : mH) (l0 : Nat) (l1 : Nat) (l2 : Nat) : Seg 115 (0, [.ref l0, .ref l1, .ref l2, .retAddr 0, .retAddr 0, .retAddr 0], []) h (f115 h l0 l1 l2) (fun (q : Int32 × mH) (res : Option Value × mH) => res = (some (.int q.1), q.2)) := by
  unfold f115
  refine Seg.blk (f' := (5, [.ref l0, .ref l1, .ref l2, .retAddr 0, .retAddr 0, .retAddr 0], [])) (h' := (mSI h l0 1 0)) rfl rfl ?_
  refine Seg.blk (f' := (13, [.ref l0, .ref l1, .ref l2, .retAddr 0, .retAddr 0, .retAddr 0], [])) (h' := (mSI (mSI h l0 1 0) l0 3 (mI (mSI h l0 1 0) l1 7))) rfl rfl ?_
  refine Seg.callP (f1 := (15, [.ref l0, .ref l1, .ref l2, .retAddr 0, .retAddr 0, .retAddr 0], [.ref l1, .ref l2])) (h1 := (mSI (mSI h l0 1 0) l0 3 (mI (mSI h l0 1 0) l1 7))) (cv := fun r => some (.int r)) rfl rfl rfl rfl (s116 (mSI (mSI h l0 1 0) l0 3 (mI (mSI h l0 1 0) l1 7)) l2 l1) (fun r1 => ?_)
  refine Seg.blk0 (f' := (if (r1 : Int32) = 0 then 23 else 21, [.ref l0, .ref l1, .ref l2, .retAddr 0, .retAddr 0, .retAddr 0], [])) (h' := (mSI (mSI h l0 1 0) l0 3 (mI (mSI h l0 1 0) l1 7))) rfl rfl ?_
  refine Seg.ite (fun _ => ?_) (fun _ => ?_)
  · refine Seg.blk0 (f' := (25, [.ref l0, .ref l1, .ref l2, .int 0, .retAddr 0, .retAddr 0], [])) (h' := (mSI (mSI h l0 1 0) l0 3 (mI (mSI h l0 1 0) l1 7))) rfl rfl ?_
    exact Seg.w (mLw.k (mLw.k (mLw.k (mLw.k (mLw.k (mLw.k mLw.nil)))))) (s115_25 l0 l1 l2 mFuel (0, (mSI (mSI h l0 1 0) l0 3 (mI (mSI h l0 1 0) l1 7))))
  · exact Seg.ret (f1 := (22, [.ref l0, .ref l1, .ref l2, .retAddr 0, .retAddr 0, .retAddr 0], [.int 0])) (h1 := (mSI (mSI h l0 1 0) l0 3 (mI (mSI h l0 1 0) l1 7))) rfl rfl rfl rfl (fun _ q => q)
theorem s114_46 (h : mH) (q0 : Int32) : Seg 114 (46, [.retAddr 0, .retAddr 0, .retAddr 0, .retAddr 0, .retAddr 0], [.int q0]) h (f114_46 h q0) (fun (q : Int32 × mH) (res : Option Value × mH) => res = (some (.int q.1), q.2)) := by
  unfold f114_46
  exact Seg.ret (f1 := (46, [.retAddr 0, .retAddr 0, .retAddr 0, .retAddr 0, .retAddr 0], [.int q0])) (h1 := h) rfl rfl rfl rfl (fun _ q => q)
theorem s114_45 (h : mH) : Seg 114 (45, [.retAddr 0, .retAddr 0, .retAddr 0, .retAddr 0, .retAddr 0], []) h (f114_45 h) (fun (q : Int32 × mH) (res : Option Value × mH) => res = (some (.int q.1), q.2)) := by
  unfold f114_45
  refine Seg.blk0 (f' := (46, [.retAddr 0, .retAddr 0, .retAddr 0, .retAddr 0, .retAddr 0], [.int 0])) (h' := h) rfl rfl ?_
  exact Seg.w (mLw.k (mLw.k (mLw.k (mLw.k (mLw.k mLw.nil))))) (s114_46 h 0)
theorem s114 (h : mH) (l0 : Nat) (l1 : Int32) (l2 : Int32) : Seg 114 (0, [.ref l0, .int l1, .int l2, .retAddr 0, .retAddr 0], []) h (f114 h l0 l1 l2) (fun (q : Int32 × mH) (res : Option Value × mH) => res = (some (.int q.1), q.2)) := by
  unfold f114
  refine Seg.callP (f1 := (5, [.ref l0, .int l1, .int l2, .retAddr 0, .retAddr 0], [.int l1, .ref ((mR h l0 0).getD 0)])) (h1 := h) (cv := fun r => some (va_rf r)) rfl rfl rfl rfl (s53 h ((mR h l0 0).getD 0) l1) (fun r1 => ?_)
  cases r1 with
  | none =>
    refine Seg.callP (f1 := (14, [.ref l0, .int l1, .int l2, .null, .retAddr 0], [.int l2, .ref ((mR h l0 0).getD 0)])) (h1 := h) (cv := fun r => some (va_rf r)) rfl rfl rfl rfl (s111 h ((mR h l0 0).getD 0) l2) (fun r2 => ?_)
    cases r2 with
    | none =>
      refine Seg.blk0 (f' := (45, [.ref l0, .int l1, .int l2, .null, .null], [])) (h' := h) rfl rfl ?_
      exact Seg.w (mLw.u (mLw.u (mLw.u (mLw.u (mLw.u mLw.nil))))) (s114_45 h)
    | some a2 =>
      refine Seg.blk0 (f' := (45, [.ref l0, .int l1, .int l2, .null, .ref a2], [])) (h' := h) rfl rfl ?_
      exact Seg.w (mLw.u (mLw.u (mLw.u (mLw.u (mLw.u mLw.nil))))) (s114_45 h)
  | some a1 =>
    refine Seg.callP (f1 := (14, [.ref l0, .int l1, .int l2, .ref a1, .retAddr 0], [.int l2, .ref ((mR h l0 0).getD 0)])) (h1 := h) (cv := fun r => some (va_rf r)) rfl rfl rfl rfl (s111 h ((mR h l0 0).getD 0) l2) (fun r3 => ?_)
    cases r3 with
    | none =>
      refine Seg.blk0 (f' := (23, [.ref l0, .int l1, .int l2, .ref a1, .null], [])) (h' := h) rfl rfl ?_
      refine Seg.blk0 (f' := (45, [.ref l0, .int l1, .int l2, .ref a1, .null], [])) (h' := h) rfl rfl ?_
      exact Seg.w (mLw.u (mLw.u (mLw.u (mLw.u (mLw.u mLw.nil))))) (s114_45 h)
    | some a3 =>
      refine Seg.blk0 (f' := (23, [.ref l0, .int l1, .int l2, .ref a1, .ref a3], [])) (h' := h) rfl rfl ?_
      refine Seg.blk0 (f' := (28, [.ref l0, .int l1, .int l2, .ref a1, .ref a3], [])) (h' := h) rfl rfl ?_
      refine Seg.call (f1 := (35, [.ref l0, .int l1, .int l2, .ref a1, .ref a3], [.ref a3, .ref a1, .ref ((mR h l0 8).getD 0)])) (h1 := h) (cv := fun r => some (.int r)) rfl rfl rfl rfl (s115 h ((mR h l0 8).getD 0) a1 a3) (fun r4 => ?_)
      refine Seg.blk0 (f' := (if (r4.1 : Int32) = 0 then 45 else 41, [.ref l0, .int l1, .int l2, .ref a1, .ref a3], [])) (h' := r4.2) rfl rfl ?_
      refine Seg.ite (fun _ => ?_) (fun _ => ?_)
      · exact Seg.w (mLw.u (mLw.u (mLw.u (mLw.u (mLw.u mLw.nil))))) (s114_45 r4.2)
      · refine Seg.blk0 (f' := (46, [.ref l0, .int l1, .int l2, .ref a1, .ref a3], [.int 1])) (h' := r4.2) rfl rfl ?_
        exact Seg.w (mLw.u (mLw.u (mLw.u (mLw.u (mLw.u mLw.nil))))) (s114_46 r4.2 1)
theorem s118_33 (h : mH) : Seg 118 (33, [.retAddr 0], []) h (f118_33 h) (fun (q : Int32) (res : Option Value × mH) => res = (some (.int q), h)) := by
  unfold f118_33
  exact Seg.ret (f1 := (34, [.retAddr 0], [.int (-1)])) (h1 := h) rfl rfl rfl rfl (fun _ q => q)
theorem s118 (h : mH) (l0 : Nat) : Seg 118 (0, [.ref l0], []) h (f118 h l0) (fun (q : Int32) (res : Option Value × mH) => res = (some (.int q), h)) := by
  unfold f118
  refine Seg.blk (f' := (if ((mI h l0 1) : Int32) = 0 then 33 else 7, [.ref l0], [])) (h' := h) rfl rfl ?_
  refine Seg.ite (fun _ => ?_) (fun _ => ?_)
  · exact Seg.w (mLw.u mLw.nil) (s118_33 h)
  · refine Seg.blk (f' := (if (((mI h ((mR h l0 0).getD 0) (Int32.toNatClampNeg 0)) / 10) : Int32) = ((mI h ((mR h l0 0).getD 0) (Int32.toNatClampNeg ((mI h l0 1) - 1))) / 10) then 35 else 33, [.ref l0], [])) (h' := h) rfl rfl ?_
    refine Seg.ite (fun _ => ?_) (fun _ => ?_)
    · exact Seg.ret (f1 := (44, [.ref l0], [.int ((mI h ((mR h l0 0).getD 0) (Int32.toNatClampNeg 0)) / 10)])) (h1 := h) rfl rfl rfl rfl (fun _ q => q)
    · exact Seg.w (mLw.u mLw.nil) (s118_33 h)
theorem s120_28 (h : mH) (l0 : Nat) (l1 : Int32) (l2 : Int32) (l3 : Int32) : Seg 120 (28, [.ref l0, .int l1, .int l2, .int l3], []) h (f120_28 h l0 l1 l2 l3) (Sum.elim (fun s : (Int32 × Int32) => Ev 120 (4, [.ref l0, .int l1, .int s.1, .int s.2], []) h) (fun (q : Int32) (res : Option Value × mH) => res = (some (.int q), h))) := by
  unfold f120_28
  refine Seg.blk0 (f' := (4, [.ref l0, .int l1, .int l2, .int (l3 + 1)], [])) (h' := h) rfl rfl ?_
  exact Seg.cont (fun _ q => Ev.w (mLw.k (mLw.k (mLw.k (mLw.k mLw.nil)))) q)
theorem s120_4 (h : mH) (l0 : Nat) (l1 : Int32) : ∀ (n : Nat) (s : (Int32 × Int32)), Seg 120 (4, [.ref l0, .int l1, .int s.1, .int s.2], []) h (mLoop (f120_4 h l0 l1) n s) (fun (q : Int32) (res : Option Value × mH) => res = (some (.int q), h)) := by
  refine Seg.loop (F := fun s : (Int32 × Int32) => (4, [.ref l0, .int l1, .int s.1, .int s.2], [])) (H := fun s : (Int32 × Int32) => h) (fun s => ?_)
  show Seg 120 (4, [.ref l0, .int l1, .int s.1, .int s.2], []) h _ (Sum.elim (fun s : (Int32 × Int32) => Ev 120 (4, [.ref l0, .int l1, .int s.1, .int s.2], []) h) (fun (q : Int32) (res : Option Value × mH) => res = (some (.int q), h)))
  unfold f120_4
  refine Seg.blk (f' := (if ((mI h l0 1) : Int32) ≤ s.2 then 34 else 12, [.ref l0, .int l1, .int s.1, .int s.2], [])) (h' := h) rfl rfl ?_
  refine Seg.ite (fun _ => ?_) (fun _ => ?_)
  · refine Seg.x ?_
    exact Seg.ret (f1 := (35, [.ref l0, .int l1, .int s.1, .int s.2], [.int s.1])) (h1 := h) rfl rfl rfl rfl (fun _ q => q)
  · refine Seg.callP (f1 := (19, [.ref l0, .int l1, .int s.1, .int s.2], [.int l1, .int (mI h ((mR h l0 2).getD 0) (Int32.toNatClampNeg s.2))])) (h1 := h) (cv := fun r => some (.int r)) rfl rfl rfl rfl (s71 h (mI h ((mR h l0 2).getD 0) (Int32.toNatClampNeg s.2)) l1) (fun r1 => ?_)
    refine Seg.blk0 (f' := (if (r1 : Int32) = 0 then 28 else 25, [.ref l0, .int l1, .int s.1, .int s.2], [])) (h' := h) rfl rfl ?_
    refine Seg.ite (fun _ => ?_) (fun _ => ?_)
    · exact Seg.w (mLw.k (mLw.k (mLw.k (mLw.k mLw.nil)))) (s120_28 h l0 l1 s.1 s.2)
    · refine Seg.blk0 (f' := (28, [.ref l0, .int l1, .int (s.1 + 1), .int s.2], [])) (h' := h) rfl rfl ?_
      exact Seg.w (mLw.k (mLw.k (mLw.k (mLw.k mLw.nil)))) (s120_28 h l0 l1 (s.1 + 1) s.2)
theorem s120 (h : mH) (l0 : Nat) (l1 : Int32) : Seg 120 (0, [.ref l0, .int l1, .retAddr 0, .retAddr 0], []) h (f120 h l0 l1) (fun (q : Int32) (res : Option Value × mH) => res = (some (.int q), h)) := by
  unfold f120
  refine Seg.blk0 (f' := (4, [.ref l0, .int l1, .int 0, .int 0], [])) (h' := h) rfl rfl ?_
  exact Seg.w (mLw.k (mLw.k (mLw.k (mLw.k mLw.nil)))) (s120_4 h l0 l1 mFuel (0, 0))
theorem s119_59 (h : mH) (l1 : Int32) : Seg 119 (59, [.retAddr 0, .int l1, .retAddr 0, .retAddr 0, .retAddr 0], []) h (f119_59 h l1) (fun (q : Int32) (res : Option Value × mH) => res = (some (.int q), h)) := by
  unfold f119_59
  exact Seg.ret (f1 := (60, [.retAddr 0, .int l1, .retAddr 0, .retAddr 0, .retAddr 0], [.int l1])) (h1 := h) rfl rfl rfl rfl (fun _ q => q)
theorem s119_53 (h : mH) (l0 : Nat) (l1 : Int32) (l2 : Int32) (l3 : Int32) : Seg 119 (53, [.ref l0, .int l1, .int l2, .int l3, .retAddr 0], []) h (f119_53 h l0 l1 l2 l3) (Sum.elim (fun s : (Int32 × Int32 × Int32) => Ev 119 (7, [.ref l0, .int s.1, .int s.2.1, .int s.2.2, .retAddr 0], []) h) (fun (q : Int32) (res : Option Value × mH) => res = (some (.int q), h))) := by
  unfold f119_53
  refine Seg.blk0 (f' := (7, [.ref l0, .int l1, .int l2, .int (l3 + 1), .retAddr 0], [])) (h' := h) rfl rfl ?_
  exact Seg.cont (fun _ q => Ev.w (mLw.k (mLw.k (mLw.k (mLw.k (mLw.k mLw.nil))))) q)
theorem s119_7 (h : mH) (l0 : Nat) : ∀ (n : Nat) (s : (Int32 × Int32 × Int32)), Seg 119 (7, [.ref l0, .int s.1, .int s.2.1, .int s.2.2, .retAddr 0], []) h (mLoop (f119_7 h l0) n s) (fun (q : Int32) (res : Option Value × mH) => res = (some (.int q), h)) := by
  refine Seg.loop (F := fun s : (Int32 × Int32 × Int32) => (7, [.ref l0, .int s.1, .int s.2.1, .int s.2.2, .retAddr 0], [])) (H := fun s : (Int32 × Int32 × Int32) => h) (fun s => ?_)
  show Seg 119 (7, [.ref l0, .int s.1, .int s.2.1, .int s.2.2, .retAddr 0], []) h _ (Sum.elim (fun s : (Int32 × Int32 × Int32) => Ev 119 (7, [.ref l0, .int s.1, .int s.2.1, .int s.2.2, .retAddr 0], []) h) (fun (q : Int32) (res : Option Value × mH) => res = (some (.int q), h)))
  unfold f119_7
  refine Seg.blk (f' := (if ((mI h l0 3) : Int32) ≤ s.2.2 then 59 else 15, [.ref l0, .int s.1, .int s.2.1, .int s.2.2, .retAddr 0], [])) (h' := h) rfl rfl ?_
  refine Seg.ite (fun _ => ?_) (fun _ => ?_)
  · refine Seg.x ?_
    exact Seg.w (mLw.u (mLw.k (mLw.u (mLw.u (mLw.k mLw.nil))))) (s119_59 h s.1)
  · refine Seg.blk (f' := (if ((mI h l0 1) : Int32) ≤ 0 then 59 else 22, [.ref l0, .int s.1, .int s.2.1, .int s.2.2, .retAddr 0], [])) (h' := h) rfl rfl ?_
    refine Seg.ite (fun _ => ?_) (fun _ => ?_)
    · refine Seg.x ?_
      exact Seg.w (mLw.u (mLw.k (mLw.u (mLw.u (mLw.k mLw.nil))))) (s119_59 h s.1)
    · refine Seg.callP (f1 := (24, [.ref l0, .int s.1, .int s.2.1, .int s.2.2, .retAddr 0], [.int s.2.2, .ref l0])) (h1 := h) (cv := fun r => some (.int r)) rfl rfl rfl rfl (s120 h l0 s.2.2) (fun r1 => ?_)
      refine Seg.callP (f1 := (33, [.ref l0, .int s.1, .int s.2.1, .int s.2.2, .retAddr 0], [.int s.2.2, .ref l0, .int (mI h l0 1), .int r1])) (h1 := h) (cv := fun r => some (.int r)) rfl rfl rfl rfl (s120 h l0 s.2.2) (fun r2 => ?_)
      refine Seg.blk0 (f' := (if (s.2.1 : Int32) ≤ (if (r1 : Int32) < ((mI h l0 1) - r2) then ((mI h l0 1) - r2) else r1) then 53 else 48, [.ref l0, .int s.1, .int s.2.1, .int s.2.2, .int (if (r1 : Int32) < ((mI h l0 1) - r2) then ((mI h l0 1) - r2) else r1)], [])) (h' := h) rfl rfl ?_
      refine Seg.ite (fun _ => ?_) (fun _ => ?_)
      · exact Seg.w (mLw.k (mLw.k (mLw.k (mLw.k (mLw.u mLw.nil))))) (s119_53 h l0 s.1 s.2.1 s.2.2)
      · refine Seg.blk0 (f' := (53, [.ref l0, .int s.2.2, .int (if (r1 : Int32) < ((mI h l0 1) - r2) then ((mI h l0 1) - r2) else r1), .int s.2.2, .int (if (r1 : Int32) < ((mI h l0 1) - r2) then ((mI h l0 1) - r2) else r1)], [])) (h' := h) rfl rfl ?_
        exact Seg.w (mLw.k (mLw.k (mLw.k (mLw.k (mLw.u mLw.nil))))) (s119_53 h l0 s.2.2 (if (r1 : Int32) < ((mI h l0 1) - r2) then ((mI h l0 1) - r2) else r1) s.2.2)
theorem s119 (h : mH) (l0 : Nat) : Seg 119 (0, [.ref l0, .retAddr 0, .retAddr 0, .retAddr 0, .retAddr 0], []) h (f119 h l0) (fun (q : Int32) (res : Option Value × mH) => res = (some (.int q), h)) := by
  unfold f119
  refine Seg.blk0 (f' := (7, [.ref l0, .int (-1), .int 61, .int 0, .retAddr 0], [])) (h' := h) rfl rfl ?_
  exact Seg.w (mLw.k (mLw.k (mLw.k (mLw.k (mLw.k mLw.nil))))) (s119_7 h l0 mFuel ((-1), 61, 0))
theorem s113_101 (h : mH) (q0 : Int32) : Seg 113 (101, [.retAddr 0, .retAddr 0, .retAddr 0, .retAddr 0], [.int q0]) h (f113_101 h q0) (fun (q : Int32 × mH) (res : Option Value × mH) => res = (some (.int q.1), q.2)) := by
  unfold f113_101
  exact Seg.ret (f1 := (101, [.retAddr 0, .retAddr 0, .retAddr 0, .retAddr 0], [.int q0])) (h1 := h) rfl rfl rfl rfl (fun _ q => q)
theorem s113_99 (h : mH) : Seg 113 (99, [.retAddr 0, .retAddr 0, .retAddr 0, .retAddr 0], []) h (f113_99 h) (fun (q : Int32 × mH) (res : Option Value × mH) => res = (some (.int q.1), q.2)) := by
  unfold f113_99
  refine Seg.blk0 (f' := (101, [.retAddr 0, .retAddr 0, .retAddr 0, .retAddr 0], [.int (-2)])) (h' := h) rfl rfl ?_
  exact Seg.w (mLw.k (mLw.k (mLw.k (mLw.k mLw.nil)))) (s113_101 h (-2))
theorem s113 (h : mH) (l0 : Nat) (l1 : Int32) (l2 : Int32) (l3 : Int32) : Seg 113 (0, [.ref l0, .int l1, .int l2, .int l3], []) h (f113 h l0 l1 l2 l3) (fun (q : Int32 × mH) (res : Option Value × mH) => res = (some (.int q.1), q.2)) := by
  unfold f113
  refine Seg.call (f1 := (3, [.ref l0, .int l1, .int l2, .int l3], [.int l2, .int l1, .ref l0])) (h1 := h) (cv := fun r => some (.int r)) rfl rfl rfl rfl (s114 h l0 l1 l2) (fun r1 => ?_)
  refine Seg.blk0 (f' := (if (r1.1 : Int32) = 0 then 9 else 12, [.ref l0, .int l1, .int l2, .int l3], [])) (h' := r1.2) rfl rfl ?_
  refine Seg.ite (fun _ => ?_) (fun _ => ?_)
  · exact Seg.ret (f1 := (11, [.ref l0, .int l1, .int l2, .int l3], [.int (-2)])) (h1 := r1.2) rfl rfl rfl rfl (fun _ q => q)
  · refine Seg.blk0 (f' := (if (l3 : Int32) = 0 then 40 else if (l3 : Int32) = 1 then 48 else if (l3 : Int32) = 2 then 56 else 64, [.ref l0, .int l1, .int l2, .int l3], [])) (h' := r1.2) rfl rfl ?_
    refine Seg.ite (fun _ => ?_) (fun _ => ?_)
    · exact Seg.ret (f1 := (47, [.ref l0, .int l1, .int l2, .int l3], [.int (mI r1.2 ((mR r1.2 l0 8).getD 0) 1)])) (h1 := r1.2) rfl rfl rfl rfl (fun _ q => q)
    refine Seg.ite (fun _ => ?_) (fun _ => ?_)
    · refine Seg.callP (f1 := (52, [.ref l0, .int l1, .int l2, .int l3], [.ref ((mR r1.2 l0 8).getD 0)])) (h1 := r1.2) (cv := fun r => some (.int r)) rfl rfl rfl rfl (s118 r1.2 ((mR r1.2 l0 8).getD 0)) (fun r2 => ?_)
      exact Seg.ret (f1 := (55, [.ref l0, .int l1, .int l2, .int l3], [.int r2])) (h1 := r1.2) rfl rfl rfl rfl (fun _ q => q)
    refine Seg.ite (fun _ => ?_) (fun _ => ?_)
    · refine Seg.callP (f1 := (60, [.ref l0, .int l1, .int l2, .int l3], [.ref ((mR r1.2 l0 8).getD 0)])) (h1 := r1.2) (cv := fun r => some (.int r)) rfl rfl rfl rfl (s119 r1.2 ((mR r1.2 l0 8).getD 0)) (fun r3 => ?_)
      exact Seg.ret (f1 := (63, [.ref l0, .int l1, .int l2, .int l3], [.int r3])) (h1 := r1.2) rfl rfl rfl rfl (fun _ q => q)
    · refine Seg.blk0 (f' := (if (l3 : Int32) < 10 then 99 else 70, [.ref l0, .int l1, .int l2, .int l3], [])) (h' := r1.2) rfl rfl ?_
      refine Seg.ite (fun _ => ?_) (fun _ => ?_)
      · exact Seg.w (mLw.u (mLw.u (mLw.u (mLw.u mLw.nil)))) (s113_99 r1.2)
      · refine Seg.blk (f' := (if ((mI r1.2 ((mR r1.2 l0 8).getD 0) 1) : Int32) ≤ (l3 - 10) then 99 else 84, [.ref l0, .int l1, .int l2, .int l3], [])) (h' := r1.2) rfl rfl ?_
        refine Seg.ite (fun _ => ?_) (fun _ => ?_)
        · exact Seg.w (mLw.u (mLw.u (mLw.u (mLw.u mLw.nil)))) (s113_99 r1.2)
        · refine Seg.blk (f' := (101, [.ref l0, .int l1, .int l2, .int l3], [.int (mI r1.2 ((mR r1.2 ((mR r1.2 l0 8).getD 0) 0).getD 0) (Int32.toNatClampNeg (l3 - 10)))])) (h' := r1.2) rfl rfl ?_
          exact Seg.w (mLw.u (mLw.u (mLw.u (mLw.u mLw.nil)))) (s113_101 r1.2 (mI r1.2 ((mR r1.2 ((mR r1.2 l0 8).getD 0) 0).getD 0) (Int32.toNatClampNeg (l3 - 10))))
theorem s123_33 (h : mH) (q0 : Int32) : Seg 123 (33, [.retAddr 0, .retAddr 0], [.int q0]) h (f123_33 h q0) (fun (q : Int32 × mH) (res : Option Value × mH) => res = (some (.int q.1), q.2)) := by
  unfold f123_33
  exact Seg.ret (f1 := (33, [.retAddr 0, .retAddr 0], [.int q0])) (h1 := h) rfl rfl rfl rfl (fun _ q => q)
theorem s123 (h : mH) (l0 : Nat) (l1 : Int32) : Seg 123 (0, [.ref l0, .int l1], []) h (f123 h l0 l1) (fun (q : Int32 × mH) (res : Option Value × mH) => res = (some (.int q.1), q.2)) := by
  unfold f123
  refine Seg.blk (f' := (15, [.ref l0, .int l1], [])) (h' := (mSI h l0 14 (((mI h l0 14) * 1103515245) + 12345))) rfl rfl ?_
  refine Seg.blk0 (f' := (if (1 : Int32) ≤ l1 then 24 else 20, [.ref l0, .int l1], [])) (h' := (mSI h l0 14 (((mI h l0 14) * 1103515245) + 12345))) rfl rfl ?_
  refine Seg.ite (fun _ => ?_) (fun _ => ?_)
  · refine Seg.blk (f' := (33, [.ref l0, .int l1], [.int (((Int32.toUInt32 (mI (mSI h l0 14 (((mI h l0 14) * 1103515245) + 12345)) l0 14) >>> (Int32.toUInt32 16 &&& Int32.toUInt32 31)).toInt32) - ((Int32.toUInt32 (mI (mSI h l0 14 (((mI h l0 14) * 1103515245) + 12345)) l0 14) >>> (Int32.toUInt32 16 &&& Int32.toUInt32 31)).toInt32) / l1 * l1)])) (h' := (mSI h l0 14 (((mI h l0 14) * 1103515245) + 12345))) rfl rfl ?_
    exact Seg.w (mLw.u (mLw.u mLw.nil)) (s123_33 (mSI h l0 14 (((mI h l0 14) * 1103515245) + 12345)) (((Int32.toUInt32 (mI (mSI h l0 14 (((mI h l0 14) * 1103515245) + 12345)) l0 14) >>> (Int32.toUInt32 16 &&& Int32.toUInt32 31)).toInt32) - ((Int32.toUInt32 (mI (mSI h l0 14 (((mI h l0 14) * 1103515245) + 12345)) l0 14) >>> (Int32.toUInt32 16 &&& Int32.toUInt32 31)).toInt32) / l1 * l1))
  · refine Seg.blk0 (f' := (33, [.ref l0, .int l1], [.int 0])) (h' := (mSI h l0 14 (((mI h l0 14) * 1103515245) + 12345))) rfl rfl ?_
    exact Seg.w (mLw.u (mLw.u mLw.nil)) (s123_33 (mSI h l0 14 (((mI h l0 14) * 1103515245) + 12345)) 0)
theorem s124_176 (h : mH) : Seg 124 (176, [.retAddr 0, .retAddr 0, .retAddr 0, .retAddr 0], []) h (f124_176 h) (fun (q : Unit × mH) (res : Option Value × mH) => res = (none, q.2)) := by
  unfold f124_176
  exact Seg.ret (f1 := (176, [.retAddr 0, .retAddr 0, .retAddr 0, .retAddr 0], [])) (h1 := h) rfl rfl rfl rfl (fun _ q => q)
theorem s124_60 (h : mH) (l0 : Nat) (l1 : Int32) (l2 : Int32) : Seg 124 (60, [.ref l0, .int l1, .int l2, .retAddr 0], []) h (f124_60 h l0 l1 l2) (fun (q : Unit × mH) (res : Option Value × mH) => res = (none, q.2)) := by
  unfold f124_60
  refine Seg.blk0 (f' := (if (l2 : Int32) = 0 then 64 else 176, [.ref l0, .int l1, .int l2, .retAddr 0], [])) (h' := h) rfl rfl ?_
  refine Seg.ite (fun _ => ?_) (fun _ => ?_)
  · refine Seg.blk0 (f' := (if (l1 : Int32) = 2 then 70 else 74, [.ref l0, .int l1, .int l2, .retAddr 0], [.ref l0])) (h' := h) rfl rfl ?_
    refine Seg.ite (fun _ => ?_) (fun _ => ?_)
    · refine Seg.blk0 (f' := (75, [.ref l0, .int l1, .int l2, .retAddr 0], [.int 1, .ref l0])) (h' := h) rfl rfl ?_
      refine Seg.call (f1 := (83, [.ref l0, .int l1, .int l2, .retAddr 0], [.int (mI h ((mR h l0 3).getD 0) 6), .ref l0, .int 1, .ref l0])) (h1 := h) (cv := fun r => some (.int r)) rfl rfl rfl rfl (s123 h l0 (mI h ((mR h l0 3).getD 0) 6)) (fun r1 => ?_)
      refine Seg.call (f1 := (87, [.ref l0, .int l1, .int l2, .retAddr 0], [.int (-1), .int r1.1, .int 1, .ref l0])) (h1 := r1.2) (cv := fun r => some (.int r)) rfl rfl rfl rfl (s67 r1.2 l0 1 r1.1 (-1)) (fun r2 => ?_)
      refine Seg.blk0 (f' := (176, [.ref l0, .int l1, .int l2, .retAddr 0], [])) (h' := r2.2) rfl rfl ?_
      exact Seg.w (mLw.u (mLw.u (mLw.u (mLw.k mLw.nil)))) (s124_176 r2.2)
    · refine Seg.blk0 (f' := (75, [.ref l0, .int l1, .int l2, .retAddr 0], [.int 0, .ref l0])) (h' := h) rfl rfl ?_
      refine Seg.call (f1 := (83, [.ref l0, .int l1, .int l2, .retAddr 0], [.int (mI h ((mR h l0 3).getD 0) 6), .ref l0, .int 0, .ref l0])) (h1 := h) (cv := fun r => some (.int r)) rfl rfl rfl rfl (s123 h l0 (mI h ((mR h l0 3).getD 0) 6)) (fun r3 => ?_)
      refine Seg.call (f1 := (87, [.ref l0, .int l1, .int l2, .retAddr 0], [.int (-1), .int r3.1, .int 0, .ref l0])) (h1 := r3.2) (cv := fun r => some (.int r)) rfl rfl rfl rfl (s67 r3.2 l0 0 r3.1 (-1)) (fun r4 => ?_)
      refine Seg.blk0 (f' := (176, [.ref l0, .int l1, .int l2, .retAddr 0], [])) (h' := r4.2) rfl rfl ?_
      exact Seg.w (mLw.u (mLw.u (mLw.u (mLw.k mLw.nil)))) (s124_176 r4.2)
  · exact Seg.w (mLw.u (mLw.u (mLw.u (mLw.k mLw.nil)))) (s124_176 h)
theorem s124_110 (h : mH) (l0 : Nat) (l2 : Int32) : Seg 124 (110, [.ref l0, .retAddr 0, .int l2, .retAddr 0], []) h (f124_110 h l0 l2) (fun (q : Unit × mH) (res : Option Value × mH) => res = (none, q.2)) := by
  unfold f124_110
  refine Seg.blk0 (f' := (if (l2 : Int32) = 0 then 114 else 176, [.ref l0, .retAddr 0, .int l2, .retAddr 0], [])) (h' := h) rfl rfl ?_
  refine Seg.ite (fun _ => ?_) (fun _ => ?_)
  · refine Seg.blk (f' := (if ((mI h ((mR h l0 3).getD 0) 7) : Int32) ≤ 0 then 176 else 124, [.ref l0, .retAddr 0, .int l2, .retAddr 0], [])) (h' := h) rfl rfl ?_
    refine Seg.ite (fun _ => ?_) (fun _ => ?_)
    · exact Seg.w (mLw.u (mLw.k (mLw.u (mLw.k mLw.nil)))) (s124_176 h)
    · refine Seg.call (f1 := (132, [.ref l0, .retAddr 0, .int l2, .retAddr 0], [.int (mI h ((mR h l0 3).getD 0) 6), .ref l0])) (h1 := h) (cv := fun r => some (.int r)) rfl rfl rfl rfl (s123 h l0 (mI h ((mR h l0 3).getD 0) 6)) (fun r7 => ?_)
      refine Seg.call (f1 := (147, [.ref l0, .retAddr 0, .int l2, .int r7.1], [.int (mI r7.2 ((mR r7.2 l0 3).getD 0) 7), .ref l0, .int r7.1, .int 3, .ref l0])) (h1 := r7.2) (cv := fun r => some (.int r)) rfl rfl rfl rfl (s123 r7.2 l0 (mI r7.2 ((mR r7.2 l0 3).getD 0) 7)) (fun r8 => ?_)
      refine Seg.call (f1 := (150, [.ref l0, .retAddr 0, .int l2, .int r7.1], [.int r8.1, .int r7.1, .int 3, .ref l0])) (h1 := r8.2) (cv := fun r => some (.int r)) rfl rfl rfl rfl (s67 r8.2 l0 3 r7.1 r8.1) (fun r9 => ?_)
      refine Seg.blk0 (f' := (176, [.ref l0, .retAddr 0, .int l2, .int r7.1], [])) (h' := r9.2) rfl rfl ?_
      exact Seg.w (mLw.u (mLw.k (mLw.u (mLw.u mLw.nil)))) (s124_176 r9.2)
  · exact Seg.w (mLw.u (mLw.k (mLw.u (mLw.k mLw.nil)))) (s124_176 h)
theorem s124_15 (h : mH) (l0 : Nat) (l1 : Int32) (q0 : Int32) : Seg 124 (15, [.ref l0, .int l1, .retAddr 0, .retAddr 0], [.int q0]) h (f124_15 h l0 l1 q0) (fun (q : Unit × mH) (res : Option Value × mH) => res = (none, q.2)) := by
  unfold f124_15
  refine Seg.blk0 (f' := (if (l1 : Int32) = 0 then 60 else if (l1 : Int32) = 1 then 60 else if (l1 : Int32) = 2 then 60 else if (l1 : Int32) = 3 then 94 else if (l1 : Int32) = 4 then 110 else if (l1 : Int32) = 5 then 110 else if (l1 : Int32) = 6 then 157 else 168, [.ref l0, .int l1, .int q0, .retAddr 0], [])) (h' := h) rfl rfl ?_
  refine Seg.ite (fun _ => ?_) (fun _ => ?_)
  · exact Seg.w (mLw.k (mLw.k (mLw.k (mLw.k mLw.nil)))) (s124_60 h l0 l1 q0)
  refine Seg.ite (fun _ => ?_) (fun _ => ?_)
  · exact Seg.w (mLw.k (mLw.k (mLw.k (mLw.k mLw.nil)))) (s124_60 h l0 l1 q0)
  refine Seg.ite (fun _ => ?_) (fun _ => ?_)
  · exact Seg.w (mLw.k (mLw.k (mLw.k (mLw.k mLw.nil)))) (s124_60 h l0 l1 q0)
  refine Seg.ite (fun _ => ?_) (fun _ => ?_)
  · refine Seg.call (f1 := (99, [.ref l0, .int l1, .int q0, .retAddr 0], [.int 6, .ref l0, .int 2, .ref l0])) (h1 := h) (cv := fun r => some (.int r)) rfl rfl rfl rfl (s123 h l0 6) (fun r5 => ?_)
    refine Seg.call (f1 := (103, [.ref l0, .int l1, .int q0, .retAddr 0], [.int (-1), .int r5.1, .int 2, .ref l0])) (h1 := r5.2) (cv := fun r => some (.int r)) rfl rfl rfl rfl (s67 r5.2 l0 2 r5.1 (-1)) (fun r6 => ?_)
    refine Seg.blk0 (f' := (176, [.ref l0, .int l1, .int q0, .retAddr 0], [])) (h' := r6.2) rfl rfl ?_
    exact Seg.w (mLw.u (mLw.u (mLw.u (mLw.k mLw.nil)))) (s124_176 r6.2)
  refine Seg.ite (fun _ => ?_) (fun _ => ?_)
  · exact Seg.w (mLw.k (mLw.u (mLw.k (mLw.k mLw.nil)))) (s124_110 h l0 q0)
  refine Seg.ite (fun _ => ?_) (fun _ => ?_)
  · exact Seg.w (mLw.k (mLw.u (mLw.k (mLw.k mLw.nil)))) (s124_110 h l0 q0)
  refine Seg.ite (fun _ => ?_) (fun _ => ?_)
  · refine Seg.call (f1 := (161, [.ref l0, .int l1, .int q0, .retAddr 0], [.int (-1), .int (-1), .int 4, .ref l0])) (h1 := h) (cv := fun r => some (.int r)) rfl rfl rfl rfl (s67 h l0 4 (-1) (-1)) (fun r10 => ?_)
    refine Seg.blk0 (f' := (176, [.ref l0, .int l1, .int q0, .retAddr 0], [])) (h' := r10.2) rfl rfl ?_
    exact Seg.w (mLw.u (mLw.u (mLw.u (mLw.k mLw.nil)))) (s124_176 r10.2)
  · refine Seg.call (f1 := (172, [.ref l0, .int l1, .int q0, .retAddr 0], [.int (-1), .int (-1), .int 5, .ref l0])) (h1 := h) (cv := fun r => some (.int r)) rfl rfl rfl rfl (s67 h l0 5 (-1) (-1)) (fun r11 => ?_)
    refine Seg.blk0 (f' := (176, [.ref l0, .int l1, .int q0, .retAddr 0], [])) (h' := r11.2) rfl rfl ?_
    exact Seg.w (mLw.u (mLw.u (mLw.u (mLw.k mLw.nil)))) (s124_176 r11.2)
theorem s124 (h : mH) (l0 : Nat) (l1 : Int32) : Seg 124 (0, [.ref l0, .int l1, .retAddr 0, .retAddr 0], []) h (f124 h l0 l1) (fun (q : Unit × mH) (res : Option Value × mH) => res = (none, q.2)) := by
  unfold f124
  refine Seg.blk (f' := (if ((mI h ((mR h l0 3).getD 0) 6) : Int32) = 0 then 10 else 14, [.ref l0, .int l1, .retAddr 0, .retAddr 0], [])) (h' := h) rfl rfl ?_
  refine Seg.ite (fun _ => ?_) (fun _ => ?_)
  · refine Seg.blk0 (f' := (15, [.ref l0, .int l1, .retAddr 0, .retAddr 0], [.int 1])) (h' := h) rfl rfl ?_
    exact Seg.w (mLw.k (mLw.k (mLw.k (mLw.k mLw.nil)))) (s124_15 h l0 l1 1)
  · refine Seg.blk0 (f' := (15, [.ref l0, .int l1, .retAddr 0, .retAddr 0], [.int 0])) (h' := h) rfl rfl ?_
    exact Seg.w (mLw.k (mLw.k (mLw.k (mLw.k mLw.nil)))) (s124_15 h l0 l1 0)
theorem s122_13 (l0 : Nat) (l3 : Int32) : ∀ (n : Nat) (s : (Int32 × mH)), Seg 122 (13, [.ref l0, .retAddr 0, .retAddr 0, .int l3, .int s.1], []) s.2 (mLoop (f122_13 l0 l3) n s) (fun (q : Unit × mH) (res : Option Value × mH) => res = (none, q.2)) := by
  refine Seg.loop (F := fun s : (Int32 × mH) => (13, [.ref l0, .retAddr 0, .retAddr 0, .int l3, .int s.1], [])) (H := fun s : (Int32 × mH) => s.2) (fun s => ?_)
  show Seg 122 (13, [.ref l0, .retAddr 0, .retAddr 0, .int l3, .int s.1], []) s.2 _ (Sum.elim (fun s : (Int32 × mH) => Ev 122 (13, [.ref l0, .retAddr 0, .retAddr 0, .int l3, .int s.1], []) s.2) (fun (q : Unit × mH) (res : Option Value × mH) => res = (none, q.2)))
  unfold f122_13
  refine Seg.blk0 (f' := (if (l3 : Int32) ≤ s.1 then 35 else 19, [.ref l0, .retAddr 0, .retAddr 0, .int l3, .int s.1], [])) (h' := s.2) rfl rfl ?_
  refine Seg.ite (fun _ => ?_) (fun _ => ?_)
  · refine Seg.x ?_
    exact Seg.ret (f1 := (35, [.ref l0, .retAddr 0, .retAddr 0, .int l3, .int s.1], [])) (h1 := s.2) rfl rfl rfl rfl (fun _ q => q)
  · refine Seg.call (f1 := (23, [.ref l0, .retAddr 0, .retAddr 0, .int l3, .int s.1], [.int 8, .ref l0, .ref l0])) (h1 := s.2) (cv := fun r => some (.int r)) rfl rfl rfl rfl (s123 s.2 l0 8) (fun r2 => ?_)
    refine Seg.call (f1 := (26, [.ref l0, .retAddr 0, .retAddr 0, .int l3, .int s.1], [.int r2.1, .ref l0])) (h1 := r2.2) (cv := fun _ => none) rfl rfl rfl rfl (s124 r2.2 l0 r2.1) (fun r3 => ?_)
    refine Seg.blk0 (f' := (13, [.ref l0, .retAddr 0, .retAddr 0, .int l3, .int (s.1 + 1)], [])) (h' := r3.2) rfl rfl ?_
    exact Seg.cont (fun _ q => Ev.w (mLw.k (mLw.k (mLw.k (mLw.k (mLw.k mLw.nil))))) q)
theorem s122 (h : mH) (l0 : Nat) (l1 : Nat) (l2 : Int32) (l3 : Int32) : Seg 122 (0, [.ref l0, .ref l1, .int l2, .int l3, .retAddr 0], []) h (f122 h l0 l1 l2 l3) (fun (q : Unit × mH) (res : Option Value × mH) => res = (none, q.2)) := by
  unfold f122
  refine Seg.call (f1 := (2, [.ref l0, .ref l1, .int l2, .int l3, .retAddr 0], [.ref l1, .ref l0])) (h1 := h) (cv := fun _ => none) rfl rfl rfl rfl (s63 h l0 l1) (fun r1 => ?_)
  refine Seg.blk (f' := (10, [.ref l0, .ref l1, .int l2, .int l3, .retAddr 0], [])) (h' := (mSI r1.2 l0 14 l2)) rfl rfl ?_
  refine Seg.blk0 (f' := (13, [.ref l0, .ref l1, .int l2, .int l3, .int 0], [])) (h' := (mSI r1.2 l0 14 l2)) rfl rfl ?_
  exact Seg.w (mLw.k (mLw.u (mLw.u (mLw.k (mLw.k mLw.nil))))) (s122_13 l0 l3 mFuel (0, (mSI r1.2 l0 14 l2)))
theorem s121_25 (h : mH) : Seg 121 (25, [.retAddr 0, .retAddr 0, .retAddr 0, .retAddr 0, .retAddr 0, .retAddr 0], []) h (f121_25 h) (fun (q : Int32 × mH) (res : Option Value × mH) => res = (some (.int q.1), q.2)) := by
  unfold f121_25
  exact Seg.ret (f1 := (27, [.retAddr 0, .retAddr 0, .retAddr 0, .retAddr 0, .retAddr 0, .retAddr 0], [.int (-2)])) (h1 := h) rfl rfl rfl rfl (fun _ q => q)
theorem s121 (h : mH) (l0 : Nat) (l1 : Int32) (l2 : Int32) (l3 : Int32) (l4 : Int32) : Seg 121 (0, [.ref l0, .int l1, .int l2, .int l3, .int l4, .retAddr 0], []) h (f121 h l0 l1 l2 l3 l4) (fun (q : Int32 × mH) (res : Option Value × mH) => res = (some (.int q.1), q.2)) := by
  unfold f121
  refine Seg.callP (f1 := (5, [.ref l0, .int l1, .int l2, .int l3, .int l4, .retAddr 0], [.int l1, .ref ((mR h l0 0).getD 0)])) (h1 := h) (cv := fun r => some (va_rf r)) rfl rfl rfl rfl (s53 h ((mR h l0 0).getD 0) l1) (fun r1 => ?_)
  cases r1 with
  | none =>
    refine Seg.blk0 (f' := (25, [.ref l0, .int l1, .int l2, .int l3, .int l4, .null], [])) (h' := h) rfl rfl ?_
    exact Seg.w (mLw.u (mLw.u (mLw.u (mLw.u (mLw.u (mLw.u mLw.nil)))))) (s121_25 h)
  | some a1 =>
    refine Seg.blk0 (f' := (15, [.ref l0, .int l1, .int l2, .int l3, .int l4, .ref a1], [])) (h' := h) rfl rfl ?_
    refine Seg.callP (f1 := (19, [.ref l0, .int l1, .int l2, .int l3, .int l4, .ref a1], [.int 60, .int 0, .int l3])) (h1 := h) (cv := fun r => some (.int r)) rfl rfl rfl rfl (s17 h l3 0 60) (fun r2 => ?_)
    refine Seg.blk0 (f' := (if (r2 : Int32) = 0 then 25 else 28, [.ref l0, .int l1, .int l2, .int l3, .int l4, .ref a1], [])) (h' := h) rfl rfl ?_
    refine Seg.ite (fun _ => ?_) (fun _ => ?_)
    · exact Seg.w (mLw.u (mLw.u (mLw.u (mLw.u (mLw.u (mLw.u mLw.nil)))))) (s121_25 h)
    · refine Seg.call (f1 := (36, [.ref l0, .int l1, .int l2, .int l3, .int l4, .ref a1], [.int l3, .int l2, .ref a1, .ref ((mR h l0 4).getD 0)])) (h1 := h) (cv := fun _ => none) rfl rfl rfl rfl (s122 h ((mR h l0 4).getD 0) a1 l2 l3) (fun r3 => ?_)
      refine Seg.callP (f1 := (45, [.ref l0, .int l1, .int l2, .int l3, .int l4, .ref a1], [.int l4, .ref ((mR r3.2 l0 4).getD 0)])) (h1 := r3.2) (cv := fun r => some (.int r)) rfl rfl rfl rfl (s81 r3.2 ((mR r3.2 l0 4).getD 0) l4) (fun r4 => ?_)
      exact Seg.ret (f1 := (48, [.ref l0, .int l1, .int l2, .int l3, .int l4, .ref a1], [.int r4])) (h1 := r3.2) rfl rfl rfl rfl (fun _ q => q)
theorem s126_27 (h : mH) (q0 : Int32) : Seg 126 (27, [.retAddr 0, .retAddr 0], [.int q0]) h (f126_27 h q0) (fun (q : Int32 × mH) (res : Option Value × mH) => res = (some (.int q.1), q.2)) := by
  unfold f126_27
  exact Seg.ret (f1 := (27, [.retAddr 0, .retAddr 0], [.int q0])) (h1 := h) rfl rfl rfl rfl (fun _ q => q)
theorem s126 (h : mH) (l0 : Nat) (l1 : Nat) : Seg 126 (0, [.ref l0, .ref l1], []) h (f126 h l0 l1) (fun (q : Int32 × mH) (res : Option Value × mH) => res = (some (.int q.1), q.2)) := by
  unfold f126
  refine Seg.call (f1 := (5, [.ref l0, .ref l1], [.int 0, .int 99, .ref l1, .ref l0])) (h1 := h) (cv := fun _ => none) rfl rfl rfl rfl (s84 h l0 l1 99 0) (fun r1 => ?_)
  refine Seg.blk (f' := (if ((mI r1.2 l0 3) : Int32) = (mI r1.2 l1 6) then 19 else 26, [.ref l0, .ref l1], [])) (h' := r1.2) rfl rfl ?_
  refine Seg.ite (fun _ => ?_) (fun _ => ?_)
  · refine Seg.blk (f' := (27, [.ref l0, .ref l1], [.int (mI r1.2 l0 5)])) (h' := r1.2) rfl rfl ?_
    exact Seg.w (mLw.u (mLw.u mLw.nil)) (s126_27 r1.2 (mI r1.2 l0 5))
  · refine Seg.blk0 (f' := (27, [.ref l0, .ref l1], [.int (-1)])) (h' := r1.2) rfl rfl ?_
    exact Seg.w (mLw.u (mLw.u mLw.nil)) (s126_27 r1.2 (-1))
theorem s127 (h : mH) (l0 : Nat) (l1 : Nat) : Seg 127 (0, [.ref l0, .ref l1], []) h (f127 h l0 l1) (fun (q : Int32 × mH) (res : Option Value × mH) => res = (some (.int q.1), q.2)) := by
  unfold f127
  refine Seg.call (f1 := (5, [.ref l0, .ref l1], [.int 0, .int 99, .ref l1, .ref l0])) (h1 := h) (cv := fun _ => none) rfl rfl rfl rfl (s84 h l0 l1 99 0) (fun r1 => ?_)
  refine Seg.callP (f1 := (9, [.ref l0, .ref l1], [.ref l1])) (h1 := r1.2) (cv := fun r => some (.int r)) rfl rfl rfl rfl (s94 r1.2 l1) (fun r2 => ?_)
  exact Seg.ret (f1 := (22, [.ref l0, .ref l1], [.int (r2 &&& ((mI r1.2 ((mR r1.2 l0 4).getD 0) 1) ^^^ (-1)))])) (h1 := r1.2) rfl rfl rfl rfl (fun _ q => q)
theorem s130_33 (h : mH) (l0 : Nat) (l2 : Int32) (l3 : Int32) : Seg 130 (33, [.ref l0, .retAddr 0, .int l2, .int l3], []) h (f130_33 h l0 l2 l3) (Sum.elim (fun s : (Int32 × Int32) => Ev 130 (8, [.ref l0, .retAddr 0, .int s.1, .int s.2], []) h) (fun (q : Int32) (res : Option Value × mH) => res = (some (.int q), h))) := by
  unfold f130_33
  refine Seg.blk0 (f' := (8, [.ref l0, .retAddr 0, .int l2, .int (l3 + 1)], [])) (h' := h) rfl rfl ?_
  exact Seg.cont (fun _ q => Ev.w (mLw.k (mLw.k (mLw.k (mLw.k mLw.nil)))) q)
theorem s130_8 (h : mH) (l0 : Nat) : ∀ (n : Nat) (s : (Int32 × Int32)), Seg 130 (8, [.ref l0, .retAddr 0, .int s.1, .int s.2], []) h (mLoop (f130_8 h l0) n s) (fun (q : Int32) (res : Option Value × mH) => res = (some (.int q), h)) := by
  refine Seg.loop (F := fun s : (Int32 × Int32) => (8, [.ref l0, .retAddr 0, .int s.1, .int s.2], [])) (H := fun s : (Int32 × Int32) => h) (fun s => ?_)
  show Seg 130 (8, [.ref l0, .retAddr 0, .int s.1, .int s.2], []) h _ (Sum.elim (fun s : (Int32 × Int32) => Ev 130 (8, [.ref l0, .retAddr 0, .int s.1, .int s.2], []) h) (fun (q : Int32) (res : Option Value × mH) => res = (some (.int q), h)))
  unfold f130_8
  refine Seg.blk (f' := (if ((mI h l0 6) : Int32) ≤ s.2 then 39 else 16, [.ref l0, .retAddr 0, .int s.1, .int s.2], [])) (h' := h) rfl rfl ?_
  refine Seg.ite (fun _ => ?_) (fun _ => ?_)
  · refine Seg.x ?_
    exact Seg.ret (f1 := (40, [.ref l0, .retAddr 0, .int s.1, .int s.2], [.int s.1])) (h1 := h) rfl rfl rfl rfl (fun _ q => q)
  · refine Seg.blk (f' := (if (((mI h ((mR h l0 2).getD 0) (Int32.toNatClampNeg s.2)) &&& s.1) : Int32) = 0 then 33 else 27, [.ref l0, .retAddr 0, .int s.1, .int s.2], [])) (h' := h) rfl rfl ?_
    refine Seg.ite (fun _ => ?_) (fun _ => ?_)
    · exact Seg.w (mLw.k (mLw.k (mLw.k (mLw.k mLw.nil)))) (s130_33 h l0 s.1 s.2)
    · refine Seg.blk0 (f' := (33, [.ref l0, .retAddr 0, .int (s.1 ||| ((1 : Int32) <<< (s.2 &&& (31 : Int32)))), .int s.2], [])) (h' := h) rfl rfl ?_
      exact Seg.w (mLw.k (mLw.k (mLw.k (mLw.k mLw.nil)))) (s130_33 h l0 (s.1 ||| ((1 : Int32) <<< (s.2 &&& (31 : Int32)))) s.2)
theorem s130 (h : mH) (l0 : Nat) (l1 : Int32) : Seg 130 (0, [.ref l0, .int l1, .retAddr 0, .retAddr 0], []) h (f130 h l0 l1) (fun (q : Int32) (res : Option Value × mH) => res = (some (.int q), h)) := by
  unfold f130
  refine Seg.blk0 (f' := (8, [.ref l0, .int l1, .int ((1 : Int32) <<< (l1 &&& (31 : Int32))), .int (l1 + 1)], [])) (h' := h) rfl rfl ?_
  exact Seg.w (mLw.k (mLw.u (mLw.k (mLw.k mLw.nil)))) (s130_8 h l0 mFuel (((1 : Int32) <<< (l1 &&& (31 : Int32))), (l1 + 1)))
theorem s129_22 (h : mH) (q0 : Int32) : Seg 129 (22, [.retAddr 0, .retAddr 0], [.int q0]) h (f129_22 h q0) (fun (q : Int32) (res : Option Value × mH) => res = (some (.int q), h)) := by
  unfold f129_22
  exact Seg.ret (f1 := (22, [.retAddr 0, .retAddr 0], [.int q0])) (h1 := h) rfl rfl rfl rfl (fun _ q => q)
theorem s129 (h : mH) (l0 : Nat) (l1 : Int32) : Seg 129 (0, [.ref l0, .int l1], []) h (f129 h l0 l1) (fun (q : Int32) (res : Option Value × mH) => res = (some (.int q), h)) := by
  unfold f129
  refine Seg.callP (f1 := (2, [.ref l0, .int l1], [.int l1, .ref l0])) (h1 := h) (cv := fun r => some (.int r)) rfl rfl rfl rfl (s56 h l0 l1) (fun r1 => ?_)
  refine Seg.blk0 (f' := (if (r1 : Int32) = 0 then 21 else 8, [.ref l0, .int l1], [])) (h' := h) rfl rfl ?_
  refine Seg.ite (fun _ => ?_) (fun _ => ?_)
  · refine Seg.blk0 (f' := (22, [.ref l0, .int l1], [.int (-1)])) (h' := h) rfl rfl ?_
    exact Seg.w (mLw.u (mLw.u mLw.nil)) (s129_22 h (-1))
  · refine Seg.callP (f1 := (10, [.ref l0, .int l1], [.int l1, .ref l0])) (h1 := h) (cv := fun r => some (.int r)) rfl rfl rfl rfl (s130 h l0 l1) (fun r2 => ?_)
    refine Seg.callP (f1 := (13, [.ref l0, .int l1], [.int r2])) (h1 := h) (cv := fun r => some (.int r)) rfl rfl rfl rfl (s66 h r2) (fun r3 => ?_)
    refine Seg.blk0 (f' := (22, [.ref l0, .int l1], [.int (r3 - 1)])) (h' := h) rfl rfl ?_
    exact Seg.w (mLw.u (mLw.u mLw.nil)) (s129_22 h (r3 - 1))
theorem s128_32 (h : mH) (l0 : Nat) (l1 : Int32) (l2 : Int32) : Seg 128 (32, [.ref l0, .int l1, .int l2], []) h (f128_32 h l0 l1 l2) (Sum.elim (fun s : (Int32 × Int32) => Ev 128 (4, [.ref l0, .int s.1, .int s.2], []) h) (fun (q : Int32) (res : Option Value × mH) => res = (some (.int q), h))) := by
  unfold f128_32
  refine Seg.blk0 (f' := (4, [.ref l0, .int l1, .int (l2 + 1)], [])) (h' := h) rfl rfl ?_
  exact Seg.cont (fun _ q => Ev.w (mLw.k (mLw.k (mLw.k mLw.nil))) q)
theorem s128_30 (h : mH) (l0 : Nat) (l2 : Int32) : Seg 128 (30, [.ref l0, .retAddr 0, .int l2], []) h (f128_30 h l0 l2) (Sum.elim (fun s : (Int32 × Int32) => Ev 128 (4, [.ref l0, .int s.1, .int s.2], []) h) (fun (q : Int32) (res : Option Value × mH) => res = (some (.int q), h))) := by
  unfold f128_30
  refine Seg.blk0 (f' := (32, [.ref l0, .int l2, .int l2], [])) (h' := h) rfl rfl ?_
  exact Seg.w (mLw.k (mLw.k (mLw.k mLw.nil))) (s128_32 h l0 l2 l2)
theorem s128_4 (h : mH) (l0 : Nat) : ∀ (n : Nat) (s : (Int32 × Int32)), Seg 128 (4, [.ref l0, .int s.1, .int s.2], []) h (mLoop (f128_4 h l0) n s) (fun (q : Int32) (res : Option Value × mH) => res = (some (.int q), h)) := by
  refine Seg.loop (F := fun s : (Int32 × Int32) => (4, [.ref l0, .int s.1, .int s.2], [])) (H := fun s : (Int32 × Int32) => h) (fun s => ?_)
  show Seg 128 (4, [.ref l0, .int s.1, .int s.2], []) h _ (Sum.elim (fun s : (Int32 × Int32) => Ev 128 (4, [.ref l0, .int s.1, .int s.2], []) h) (fun (q : Int32) (res : Option Value × mH) => res = (some (.int q), h)))
  unfold f128_4
  refine Seg.blk (f' := (if ((mI h l0 6) : Int32) ≤ s.2 then 38 else 12, [.ref l0, .int s.1, .int s.2], [])) (h' := h) rfl rfl ?_
  refine Seg.ite (fun _ => ?_) (fun _ => ?_)
  · refine Seg.x ?_
    exact Seg.ret (f1 := (39, [.ref l0, .int s.1, .int s.2], [.int s.1])) (h1 := h) rfl rfl rfl rfl (fun _ q => q)
  · refine Seg.blk0 (f' := (if (s.1 : Int32) = (-1) then 30 else 17, [.ref l0, .int s.1, .int s.2], [])) (h' := h) rfl rfl ?_
    refine Seg.ite (fun _ => ?_) (fun _ => ?_)
    · exact Seg.w (mLw.k (mLw.u (mLw.k mLw.nil))) (s128_30 h l0 s.2)
    · refine Seg.callP (f1 := (19, [.ref l0, .int s.1, .int s.2], [.int s.2, .ref l0])) (h1 := h) (cv := fun r => some (.int r)) rfl rfl rfl rfl (s129 h l0 s.2) (fun r1 => ?_)
      refine Seg.callP (f1 := (24, [.ref l0, .int s.1, .int s.2], [.int s.1, .ref l0, .int r1])) (h1 := h) (cv := fun r => some (.int r)) rfl rfl rfl rfl (s129 h l0 s.1) (fun r2 => ?_)
      refine Seg.blk0 (f' := (if (r1 : Int32) ≤ r2 then 32 else 30, [.ref l0, .int s.1, .int s.2], [])) (h' := h) rfl rfl ?_
      refine Seg.ite (fun _ => ?_) (fun _ => ?_)
      · exact Seg.w (mLw.k (mLw.k (mLw.k mLw.nil))) (s128_32 h l0 s.1 s.2)
      · exact Seg.w (mLw.k (mLw.u (mLw.k mLw.nil))) (s128_30 h l0 s.2)
theorem s128 (h : mH) (l0 : Nat) : Seg 128 (0, [.ref l0, .retAddr 0, .retAddr 0], []) h (f128 h l0) (fun (q : Int32) (res : Option Value × mH) => res = (some (.int q), h)) := by
  unfold f128
  refine Seg.blk0 (f' := (4, [.ref l0, .int (-1), .int 0], [])) (h' := h) rfl rfl ?_
  exact Seg.w (mLw.k (mLw.k (mLw.k mLw.nil))) (s128_4 h l0 mFuel ((-1), 0))
theorem s132_129 (h : mH) (l0 : Nat) (l1 : Nat) (l2 : Int32) (l3 : Int32) (l4 : Int32) (l5 : Int32) : Seg 132 (129, [.ref l0, .ref l1, .int l2, .int l3, .int l4, .int l5, .retAddr 0, .retAddr 0, .retAddr 0, .retAddr 0], []) h (f132_129 h l0 l1 l2 l3 l4 l5) (Sum.elim (fun s : (Int32 × Int32) => Ev 132 (8, [.ref l0, .ref l1, .int l2, .int l3, .int s.1, .int s.2, .retAddr 0, .retAddr 0, .retAddr 0, .retAddr 0], []) h) (fun (q : Int32) (res : Option Value × mH) => res = (some (.int q), h))) := by
  unfold f132_129
  refine Seg.blk0 (f' := (8, [.ref l0, .ref l1, .int l2, .int l3, .int l4, .int (l5 + 1), .retAddr 0, .retAddr 0, .retAddr 0, .retAddr 0], [])) (h' := h) rfl rfl ?_
  exact Seg.cont (fun _ q => Ev.w (mLw.k (mLw.k (mLw.k (mLw.k (mLw.k (mLw.k (mLw.k (mLw.k (mLw.k (mLw.k mLw.nil)))))))))) q)
theorem s132_120 (h : mH) (l0 : Nat) (l1 : Nat) (l2 : Int32) (l3 : Int32) (l4 : Int32) (l5 : Int32) (l9 : Int32) : Seg 132 (120, [.ref l0, .ref l1, .int l2, .int l3, .int l4, .int l5, .retAddr 0, .retAddr 0, .retAddr 0, .int l9], []) h (f132_120 h l0 l1 l2 l3 l4 l5 l9) (Sum.elim (fun s : (Int32 × Int32) => Ev 132 (8, [.ref l0, .ref l1, .int l2, .int l3, .int s.1, .int s.2, .retAddr 0, .retAddr 0, .retAddr 0, .retAddr 0], []) h) (fun (q : Int32) (res : Option Value × mH) => res = (some (.int q), h))) := by
  unfold f132_120
  refine Seg.blk0 (f' := (129, [.ref l0, .ref l1, .int l2, .int l3, .int (if (l9 : Int32) < l4 then l9 else l4), .int l5, .retAddr 0, .retAddr 0, .retAddr 0, .int l9], [])) (h' := h) rfl rfl ?_
  exact Seg.w (mLw.k (mLw.k (mLw.k (mLw.k (mLw.k (mLw.k (mLw.k (mLw.k (mLw.k (mLw.u mLw.nil)))))))))) (s132_129 h l0 l1 l2 l3 (if (l9 : Int32) < l4 then l9 else l4) l5)
theorem s132_118 (h : mH) (l0 : Nat) (l1 : Nat) (l2 : Int32) (l3 : Int32) (l4 : Int32) (l5 : Int32) (q0 : Int32) : Seg 132 (118, [.ref l0, .ref l1, .int l2, .int l3, .int l4, .int l5, .retAddr 0, .retAddr 0, .retAddr 0, .retAddr 0], [.int q0]) h (f132_118 h l0 l1 l2 l3 l4 l5 q0) (Sum.elim (fun s : (Int32 × Int32) => Ev 132 (8, [.ref l0, .ref l1, .int l2, .int l3, .int s.1, .int s.2, .retAddr 0, .retAddr 0, .retAddr 0, .retAddr 0], []) h) (fun (q : Int32) (res : Option Value × mH) => res = (some (.int q), h))) := by
  unfold f132_118
  refine Seg.blk0 (f' := (120, [.ref l0, .ref l1, .int l2, .int l3, .int l4, .int l5, .retAddr 0, .retAddr 0, .retAddr 0, .int q0], [])) (h' := h) rfl rfl ?_
  exact Seg.w (mLw.k (mLw.k (mLw.k (mLw.k (mLw.k (mLw.k (mLw.k (mLw.k (mLw.k (mLw.k mLw.nil)))))))))) (s132_120 h l0 l1 l2 l3 l4 l5 q0)
theorem s132_81 (h : mH) (l0 : Nat) (l1 : Nat) (l2 : Int32) (l3 : Int32) (l4 : Int32) (l5 : Int32) (l7 : Int32) (l8 : Int32) : Seg 132 (81, [.ref l0, .ref l1, .int l2, .int l3, .int l4, .int l5, .retAddr 0, .int l7, .int l8, .retAddr 0], []) h (f132_81 h l0 l1 l2 l3 l4 l5 l7 l8) (Sum.elim (fun s : (Int32 × Int32) => Ev 132 (8, [.ref l0, .ref l1, .int l2, .int l3, .int s.1, .int s.2, .retAddr 0, .retAddr 0, .retAddr 0, .retAddr 0], []) h) (fun (q : Int32) (res : Option Value × mH) => res = (some (.int q), h))) := by
  unfold f132_81
  refine Seg.blk0 (f' := (if (l8 : Int32) = 0 then 99 else 86, [.ref l0, .ref l1, .int l2, .int l3, .int l4, .int l5, .retAddr 0, .int l7, .int l8, .retAddr 0], [])) (h' := h) rfl rfl ?_
  refine Seg.ite (fun _ => ?_) (fun _ => ?_)
  · refine Seg.blk (f' := (118, [.ref l0, .ref l1, .int l2, .int l3, .int l4, .int l5, .retAddr 0, .int l7, .int l8, .retAddr 0], [.int ((((l7 / 16) * 16) + 16) + (mI h ((mR h l1 0).getD 0) (Int32.toNatClampNeg l5)))])) (h' := h) rfl rfl ?_
    exact Seg.w (mLw.k (mLw.k (mLw.k (mLw.k (mLw.k (mLw.k (mLw.k (mLw.u (mLw.u (mLw.k mLw.nil)))))))))) (s132_118 h l0 l1 l2 l3 l4 l5 ((((l7 / 16) * 16) + 16) + (mI h ((mR h l1 0).getD 0) (Int32.toNatClampNeg l5))))
  · refine Seg.blk (f' := (118, [.ref l0, .ref l1, .int l2, .int l3, .int l4, .int l5, .retAddr 0, .int l7, .int l8, .retAddr 0], [.int (l7 + (mI h ((mR h l1 0).getD 0) (Int32.toNatClampNeg l5)))])) (h' := h) rfl rfl ?_
    exact Seg.w (mLw.k (mLw.k (mLw.k (mLw.k (mLw.k (mLw.k (mLw.k (mLw.u (mLw.u (mLw.k mLw.nil)))))))))) (s132_118 h l0 l1 l2 l3 l4 l5 (l7 + (mI h ((mR h l1 0).getD 0) (Int32.toNatClampNeg l5))))
theorem s132_79 (h : mH) (l0 : Nat) (l1 : Nat) (l2 : Int32) (l3 : Int32) (l4 : Int32) (l5 : Int32) (l7 : Int32) (q0 : Int32) : Seg 132 (79, [.ref l0, .ref l1, .int l2, .int l3, .int l4, .int l5, .retAddr 0, .int l7, .retAddr 0, .retAddr 0], [.int q0]) h (f132_79 h l0 l1 l2 l3 l4 l5 l7 q0) (Sum.elim (fun s : (Int32 × Int32) => Ev 132 (8, [.ref l0, .ref l1, .int l2, .int l3, .int s.1, .int s.2, .retAddr 0, .retAddr 0, .retAddr 0, .retAddr 0], []) h) (fun (q : Int32) (res : Option Value × mH) => res = (some (.int q), h))) := by
  unfold f132_79
  refine Seg.blk0 (f' := (81, [.ref l0, .ref l1, .int l2, .int l3, .int l4, .int l5, .retAddr 0, .int l7, .int q0, .retAddr 0], [])) (h' := h) rfl rfl ?_
  exact Seg.w (mLw.k (mLw.k (mLw.k (mLw.k (mLw.k (mLw.k (mLw.k (mLw.k (mLw.k (mLw.k mLw.nil)))))))))) (s132_81 h l0 l1 l2 l3 l4 l5 l7 q0)
theorem s132_57 (h : mH) (l0 : Nat) (l1 : Nat) (l2 : Int32) (l3 : Int32) (l4 : Int32) (l5 : Int32) (l7 : Int32) : Seg 132 (57, [.ref l0, .ref l1, .int l2, .int l3, .int l4, .int l5, .retAddr 0, .int l7, .retAddr 0, .retAddr 0], []) h (f132_57 h l0 l1 l2 l3 l4 l5 l7) (Sum.elim (fun s : (Int32 × Int32) => Ev 132 (8, [.ref l0, .ref l1, .int l2, .int l3, .int s.1, .int s.2, .retAddr 0, .retAddr 0, .retAddr 0, .retAddr 0], []) h) (fun (q : Int32) (res : Option Value × mH) => res = (some (.int q), h))) := by
  unfold f132_57
  refine Seg.blk (f' := (if (l3 : Int32) < ((l7 - l7 / 16 * 16) + (mI h ((mR h l1 0).getD 0) (Int32.toNatClampNeg l5))) then 78 else 74, [.ref l0, .ref l1, .int l2, .int l3, .int l4, .int l5, .retAddr 0, .int l7, .retAddr 0, .retAddr 0], [])) (h' := h) rfl rfl ?_
  refine Seg.ite (fun _ => ?_) (fun _ => ?_)
  · refine Seg.blk0 (f' := (79, [.ref l0, .ref l1, .int l2, .int l3, .int l4, .int l5, .retAddr 0, .int l7, .retAddr 0, .retAddr 0], [.int 0])) (h' := h) rfl rfl ?_
    exact Seg.w (mLw.k (mLw.k (mLw.k (mLw.k (mLw.k (mLw.k (mLw.k (mLw.k (mLw.k (mLw.k mLw.nil)))))))))) (s132_79 h l0 l1 l2 l3 l4 l5 l7 0)
  · refine Seg.blk0 (f' := (79, [.ref l0, .ref l1, .int l2, .int l3, .int l4, .int l5, .retAddr 0, .int l7, .retAddr 0, .retAddr 0], [.int 1])) (h' := h) rfl rfl ?_
    exact Seg.w (mLw.k (mLw.k (mLw.k (mLw.k (mLw.k (mLw.k (mLw.k (mLw.k (mLw.k (mLw.k mLw.nil)))))))))) (s132_79 h l0 l1 l2 l3 l4 l5 l7 1)
theorem s132_27 (h : mH) (l0 : Nat) (l1 : Nat) (l2 : Int32) (l3 : Int32) (l4 : Int32) (l5 : Int32) (l6 : Int32) : Seg 132 (27, [.ref l0, .ref l1, .int l2, .int l3, .int l4, .int l5, .int l6, .retAddr 0, .retAddr 0, .retAddr 0], []) h (f132_27 h l0 l1 l2 l3 l4 l5 l6) (Sum.elim (fun s : (Int32 × Int32) => Ev 132 (8, [.ref l0, .ref l1, .int l2, .int l3, .int s.1, .int s.2, .retAddr 0, .retAddr 0, .retAddr 0, .retAddr 0], []) h) (fun (q : Int32) (res : Option Value × mH) => res = (some (.int q), h))) := by
  unfold f132_27
  refine Seg.blk0 (f' := (if (l6 : Int32) = l2 then 129 else 33, [.ref l0, .ref l1, .int l2, .int l3, .int l4, .int l5, .int l6, .retAddr 0, .retAddr 0, .retAddr 0], [])) (h' := h) rfl rfl ?_
  refine Seg.ite (fun _ => ?_) (fun _ => ?_)
  · exact Seg.w (mLw.k (mLw.k (mLw.k (mLw.k (mLw.k (mLw.k (mLw.u (mLw.k (mLw.k (mLw.k mLw.nil)))))))))) (s132_129 h l0 l1 l2 l3 l4 l5)
  · refine Seg.blk (f' := (if (((mI h ((mR h l1 2).getD 0) (Int32.toNatClampNeg l5)) &&& (l6 ^^^ (-1))) : Int32) = 0 then 48 else 129, [.ref l0, .ref l1, .int l2, .int l3, .int l4, .int l5, .int l6, .retAddr 0, .retAddr 0, .retAddr 0], [])) (h' := h) rfl rfl ?_
    refine Seg.ite (fun _ => ?_) (fun _ => ?_)
    · refine Seg.blk (f' := (57, [.ref l0, .ref l1, .int l2, .int l3, .int l4, .int l5, .int l6, .int (mI h ((mR h l0 4).getD 0) (Int32.toNatClampNeg l6)), .retAddr 0, .retAddr 0], [])) (h' := h) rfl rfl ?_
      exact Seg.w (mLw.k (mLw.k (mLw.k (mLw.k (mLw.k (mLw.k (mLw.u (mLw.k (mLw.k (mLw.k mLw.nil)))))))))) (s132_57 h l0 l1 l2 l3 l4 l5 (mI h ((mR h l0 4).getD 0) (Int32.toNatClampNeg l6)))
    · exact Seg.w (mLw.k (mLw.k (mLw.k (mLw.k (mLw.k (mLw.k (mLw.u (mLw.k (mLw.k (mLw.k mLw.nil)))))))))) (s132_129 h l0 l1 l2 l3 l4 l5)
theorem s132_8 (h : mH) (l0 : Nat) (l1 : Nat) (l2 : Int32) (l3 : Int32) : ∀ (n : Nat) (s : (Int32 × Int32)), Seg 132 (8, [.ref l0, .ref l1, .int l2, .int l3, .int s.1, .int s.2, .retAddr 0, .retAddr 0, .retAddr 0, .retAddr 0], []) h (mLoop (f132_8 h l0 l1 l2 l3) n s) (fun (q : Int32) (res : Option Value × mH) => res = (some (.int q), h)) := by
  refine Seg.loop (F := fun s : (Int32 × Int32) => (8, [.ref l0, .ref l1, .int l2, .int l3, .int s.1, .int s.2, .retAddr 0, .retAddr 0, .retAddr 0, .retAddr 0], [])) (H := fun s : (Int32 × Int32) => h) (fun s => ?_)
  show Seg 132 (8, [.ref l0, .ref l1, .int l2, .int l3, .int s.1, .int s.2, .retAddr 0, .retAddr 0, .retAddr 0, .retAddr 0], []) h _ (Sum.elim (fun s : (Int32 × Int32) => Ev 132 (8, [.ref l0, .ref l1, .int l2, .int l3, .int s.1, .int s.2, .retAddr 0, .retAddr 0, .retAddr 0, .retAddr 0], []) h) (fun (q : Int32) (res : Option Value × mH) => res = (some (.int q), h)))
  unfold f132_8
  refine Seg.blk (f' := (if ((mI h l1 6) : Int32) ≤ s.2 then 135 else 17, [.ref l0, .ref l1, .int l2, .int l3, .int s.1, .int s.2, .retAddr 0, .retAddr 0, .retAddr 0, .retAddr 0], [])) (h' := h) rfl rfl ?_
  refine Seg.ite (fun _ => ?_) (fun _ => ?_)
  · refine Seg.x ?_
    exact Seg.ret (f1 := (137, [.ref l0, .ref l1, .int l2, .int l3, .int s.1, .int s.2, .retAddr 0, .retAddr 0, .retAddr 0, .retAddr 0], [.int s.1])) (h1 := h) rfl rfl rfl rfl (fun _ q => q)
  · refine Seg.blk0 (f' := (27, [.ref l0, .ref l1, .int l2, .int l3, .int s.1, .int s.2, .int (l2 &&& (((1 : Int32) <<< (s.2 &&& (31 : Int32))) ^^^ (-1))), .retAddr 0, .retAddr 0, .retAddr 0], [])) (h' := h) rfl rfl ?_
    exact Seg.w (mLw.k (mLw.k (mLw.k (mLw.k (mLw.k (mLw.k (mLw.k (mLw.k (mLw.k (mLw.k mLw.nil)))))))))) (s132_27 h l0 l1 l2 l3 s.1 s.2 (l2 &&& (((1 : Int32) <<< (s.2 &&& (31 : Int32))) ^^^ (-1))))
theorem s132_5 (h : mH) (l0 : Nat) (l1 : Nat) (l2 : Int32) (l3 : Int32) (l4 : Int32) : Seg 132 (5, [.ref l0, .ref l1, .int l2, .int l3, .int l4, .retAddr 0, .retAddr 0, .retAddr 0, .retAddr 0, .retAddr 0], []) h (f132_5 h l0 l1 l2 l3 l4) (fun (q : Int32) (res : Option Value × mH) => res = (some (.int q), h)) := by
  unfold f132_5
  refine Seg.blk0 (f' := (8, [.ref l0, .ref l1, .int l2, .int l3, .int l4, .int 0, .retAddr 0, .retAddr 0, .retAddr 0, .retAddr 0], [])) (h' := h) rfl rfl ?_
  exact Seg.w (mLw.k (mLw.k (mLw.k (mLw.k (mLw.k (mLw.k (mLw.k (mLw.k (mLw.k (mLw.k mLw.nil)))))))))) (s132_8 h l0 l1 l2 l3 mFuel (l4, 0))
theorem s132 (h : mH) (l0 : Nat) (l1 : Nat) (l2 : Int32) (l3 : Int32) : Seg 132 (0, [.ref l0, .ref l1, .int l2, .int l3, .retAddr 0, .retAddr 0, .retAddr 0, .retAddr 0, .retAddr 0, .retAddr 0], []) h (f132 h l0 l1 l2 l3) (fun (q : Int32) (res : Option Value × mH) => res = (some (.int q), h)) := by
  unfold f132
  refine Seg.blk0 (f' := (5, [.ref l0, .ref l1, .int l2, .int l3, .int 1584, .retAddr 0, .retAddr 0, .retAddr 0, .retAddr 0, .retAddr 0], [])) (h' := h) rfl rfl ?_
  exact Seg.w (mLw.k (mLw.k (mLw.k (mLw.k (mLw.k (mLw.k (mLw.k (mLw.k (mLw.k (mLw.k mLw.nil)))))))))) (s132_5 h l0 l1 l2 l3 1584)
theorem s131_80 (h : mH) (l0 : Nat) (l1 : Nat) (l2 : Int32) (l3 : Int32) (l4 : Int32) : Seg 131 (80, [.ref l0, .ref l1, .int l2, .int l3, .int l4], []) h (f131_80 h l0 l1 l2 l3 l4) (Sum.elim (fun s : (Int32 × mH) => Ev 131 (50, [.ref l0, .ref l1, .int l2, .int l3, .int s.1], []) s.2) (fun (q : Int32 × mH) (res : Option Value × mH) => res = (some (.int q.1), q.2))) := by
  unfold f131_80
  refine Seg.blk0 (f' := (50, [.ref l0, .ref l1, .int l2, .int l3, .int (l4 + 1)], [])) (h' := h) rfl rfl ?_
  exact Seg.cont (fun _ q => Ev.w (mLw.k (mLw.k (mLw.k (mLw.k (mLw.k mLw.nil))))) q)
theorem s131_50 (l0 : Nat) (l1 : Nat) (l2 : Int32) (l3 : Int32) : ∀ (n : Nat) (s : (Int32 × mH)), Seg 131 (50, [.ref l0, .ref l1, .int l2, .int l3, .int s.1], []) s.2 (mLoop (f131_50 l0 l1 l2 l3) n s) (fun (q : Int32 × mH) (res : Option Value × mH) => res = (some (.int q.1), q.2)) := by
  refine Seg.loop (F := fun s : (Int32 × mH) => (50, [.ref l0, .ref l1, .int l2, .int l3, .int s.1], [])) (H := fun s : (Int32 × mH) => s.2) (fun s => ?_)
  show Seg 131 (50, [.ref l0, .ref l1, .int l2, .int l3, .int s.1], []) s.2 _ (Sum.elim (fun s : (Int32 × mH) => Ev 131 (50, [.ref l0, .ref l1, .int l2, .int l3, .int s.1], []) s.2) (fun (q : Int32 × mH) (res : Option Value × mH) => res = (some (.int q.1), q.2)))
  unfold f131_50
  refine Seg.blk0 (f' := (if (l2 : Int32) < s.1 then 86 else 56, [.ref l0, .ref l1, .int l2, .int l3, .int s.1], [])) (h' := s.2) rfl rfl ?_
  refine Seg.ite (fun _ => ?_) (fun _ => ?_)
  · refine Seg.x ?_
    exact Seg.ret (f1 := (95, [.ref l0, .ref l1, .int l2, .int l3, .int s.1], [.int ((mI s.2 ((mR s.2 l0 4).getD 0) (Int32.toNatClampNeg l2)) / 16)])) (h1 := s.2) rfl rfl rfl rfl (fun _ q => q)
  · refine Seg.blk0 (f' := (if ((s.1 &&& (l2 ^^^ (-1))) : Int32) = 0 then 65 else 80, [.ref l0, .ref l1, .int l2, .int l3, .int s.1], [])) (h' := s.2) rfl rfl ?_
    refine Seg.ite (fun _ => ?_) (fun _ => ?_)
    · refine Seg.callP (f1 := (76, [.ref l0, .ref l1, .int l2, .int l3, .int s.1], [.int l3, .int s.1, .ref l1, .ref l0, .int s.1, .ref ((mR s.2 l0 4).getD 0)])) (h1 := s.2) (cv := fun r => some (.int r)) rfl rfl rfl rfl (s132 s.2 l0 l1 s.1 l3) (fun r1 => ?_)
      refine Seg.blk (f' := (80, [.ref l0, .ref l1, .int l2, .int l3, .int s.1], [])) (h' := (mSI s.2 ((mR s.2 l0 4).getD 0) (Int32.toNatClampNeg s.1) r1)) rfl rfl ?_
      exact Seg.w (mLw.k (mLw.k (mLw.k (mLw.k (mLw.k mLw.nil))))) (s131_80 (mSI s.2 ((mR s.2 l0 4).getD 0) (Int32.toNatClampNeg s.1) r1) l0 l1 l2 l3 s.1)
    · exact Seg.w (mLw.k (mLw.k (mLw.k (mLw.k (mLw.k mLw.nil))))) (s131_80 s.2 l0 l1 l2 l3 s.1)
theorem s131_34 (h : mH) (l0 : Nat) (l1 : Nat) (l2 : Int32) (l3 : Int32) (l4 : Int32) : Seg 131 (34, [.ref l0, .ref l1, .int l2, .int l3, .int l4], []) h (f131_34 h l0 l1 l2 l3 l4) (Sum.elim (fun s : (Int32) => Ev 131 (3, [.ref l0, .ref l1, .int l2, .int l3, .int s], []) h) (fun (q : Int32 × mH) (res : Option Value × mH) => res = (some (.int q.1), q.2))) := by
  unfold f131_34
  refine Seg.blk0 (f' := (3, [.ref l0, .ref l1, .int l2, .int l3, .int (l4 + 1)], [])) (h' := h) rfl rfl ?_
  exact Seg.cont (fun _ q => Ev.w (mLw.k (mLw.k (mLw.k (mLw.k (mLw.k mLw.nil))))) q)
theorem s131_3 (h : mH) (l0 : Nat) (l1 : Nat) (l2 : Int32) (l3 : Int32) : ∀ (n : Nat) (s : (Int32)), Seg 131 (3, [.ref l0, .ref l1, .int l2, .int l3, .int s], []) h (mLoop (f131_3 h l0 l1 l2 l3) n s) (fun (q : Int32 × mH) (res : Option Value × mH) => res = (some (.int q.1), q.2)) := by
  refine Seg.loop (F := fun s : (Int32) => (3, [.ref l0, .ref l1, .int l2, .int l3, .int s], [])) (H := fun s : (Int32) => h) (fun s => ?_)
  show Seg 131 (3, [.ref l0, .ref l1, .int l2, .int l3, .int s], []) h _ (Sum.elim (fun s : (Int32) => Ev 131 (3, [.ref l0, .ref l1, .int l2, .int l3, .int s], []) h) (fun (q : Int32 × mH) (res : Option Value × mH) => res = (some (.int q.1), q.2)))
  unfold f131_3
  refine Seg.blk (f' := (if ((mI h l1 6) : Int32) ≤ s then 40 else 12, [.ref l0, .ref l1, .int l2, .int l3, .int s], [])) (h' := h) rfl rfl ?_
  refine Seg.ite (fun _ => ?_) (fun _ => ?_)
  · refine Seg.x ?_
    refine Seg.blk (f' := (47, [.ref l0, .ref l1, .int l2, .int l3, .int s], [])) (h' := (mSI h ((mR h l0 4).getD 0) (Int32.toNatClampNeg 0) l3)) rfl rfl ?_
    refine Seg.blk0 (f' := (50, [.ref l0, .ref l1, .int l2, .int l3, .int 1], [])) (h' := (mSI h ((mR h l0 4).getD 0) (Int32.toNatClampNeg 0) l3)) rfl rfl ?_
    exact Seg.w (mLw.k (mLw.k (mLw.k (mLw.k (mLw.k mLw.nil))))) (s131_50 l0 l1 l2 l3 mFuel (1, (mSI h ((mR h l0 4).getD 0) (Int32.toNatClampNeg 0) l3)))
  · refine Seg.callP (f1 := (15, [.ref l0, .ref l1, .int l2, .int l3, .int s], [.int s, .int l2])) (h1 := h) (cv := fun r => some (.int r)) rfl rfl rfl rfl (s71 h l2 s) (fun r2 => ?_)
    refine Seg.blk0 (f' := (if (r2 : Int32) = 0 then 34 else 21, [.ref l0, .ref l1, .int l2, .int l3, .int s], [])) (h' := h) rfl rfl ?_
    refine Seg.ite (fun _ => ?_) (fun _ => ?_)
    · exact Seg.w (mLw.k (mLw.k (mLw.k (mLw.k (mLw.k mLw.nil))))) (s131_34 h l0 l1 l2 l3 s)
    · refine Seg.blk (f' := (if ((mI h ((mR h l1 0).getD 0) (Int32.toNatClampNeg s)) : Int32) ≤ l3 then 34 else 32, [.ref l0, .ref l1, .int l2, .int l3, .int s], [])) (h' := h) rfl rfl ?_
      refine Seg.ite (fun _ => ?_) (fun _ => ?_)
      · exact Seg.w (mLw.k (mLw.k (mLw.k (mLw.k (mLw.k mLw.nil))))) (s131_34 h l0 l1 l2 l3 s)
      · refine Seg.x ?_
        exact Seg.ret (f1 := (33, [.ref l0, .ref l1, .int l2, .int l3, .int s], [.int (-1)])) (h1 := h) rfl rfl rfl rfl (fun _ q => q)
theorem s131 (h : mH) (l0 : Nat) (l1 : Nat) (l2 : Int32) (l3 : Int32) : Seg 131 (0, [.ref l0, .ref l1, .int l2, .int l3, .retAddr 0], []) h (f131 h l0 l1 l2 l3) (fun (q : Int32 × mH) (res : Option Value × mH) => res = (some (.int q.1), q.2)) := by
  unfold f131
  refine Seg.blk0 (f' := (3, [.ref l0, .ref l1, .int l2, .int l3, .int 0], [])) (h' := h) rfl rfl ?_
  exact Seg.w (mLw.k (mLw.k (mLw.k (mLw.k (mLw.k mLw.nil))))) (s131_3 h l0 l1 l2 l3 mFuel (0))
