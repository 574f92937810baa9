/-! The small machine runs the programs; printed by a program of ours. -/
theorem s148_23 (h : mH) : Seg 148 (23, [.retAddr 0, .retAddr 0, .retAddr 0, .retAddr 0, .retAddr 0, .retAddr 0], []) h (f148_23 h) (fun (q : Int32 × mH) (res : Option Value × mH) => res = (some (.int q.1), q.2)) := by
  unfold f148_23
  exact Seg.ret (f1 := (24, [.retAddr 0, .retAddr 0, .retAddr 0, .retAddr 0, .retAddr 0, .retAddr 0], [.int (-1)])) (h1 := h) rfl rfl rfl rfl (fun _ q => q)
theorem s148_66 (h : mH) (l0 : Nat) (l2 : Int32) (l3 : Nat) (l4 : Int32) : Seg 148 (66, [.ref l0, .retAddr 0, .int l2, .ref l3, .int l4, .retAddr 0], []) h (f148_66 h l0 l2 l3 l4) (Sum.elim (fun s : (Int32 × mH) => Ev 148 (28, [.ref l0, .retAddr 0, .int l2, .ref l3, .int s.1, .retAddr 0], []) s.2) (fun (q : Int32 × mH) (res : Option Value × mH) => res = (some (.int q.1), q.2))) := by
  unfold f148_66
  refine Seg.blk0 (f' := (28, [.ref l0, .retAddr 0, .int l2, .ref l3, .int (l4 + 1), .retAddr 0], [])) (h' := h) rfl rfl ?_
  exact Seg.cont (fun _ q => Ev.w (mLw.k (mLw.k (mLw.k (mLw.k (mLw.k (mLw.k mLw.nil)))))) q)
theorem s148_28 (l0 : Nat) (l2 : Int32) (l3 : Nat) : ∀ (n : Nat) (s : (Int32 × mH)), Seg 148 (28, [.ref l0, .retAddr 0, .int l2, .ref l3, .int s.1, .retAddr 0], []) s.2 (mLoop (f148_28 l0 l2 l3) n s) (fun (q : Int32 × mH) (res : Option Value × mH) => res = (some (.int q.1), q.2)) := by
  refine Seg.loop (F := fun s : (Int32 × mH) => (28, [.ref l0, .retAddr 0, .int l2, .ref l3, .int s.1, .retAddr 0], [])) (H := fun s : (Int32 × mH) => s.2) (fun s => ?_)
  show Seg 148 (28, [.ref l0, .retAddr 0, .int l2, .ref l3, .int s.1, .retAddr 0], []) s.2 _ (Sum.elim (fun s : (Int32 × mH) => Ev 148 (28, [.ref l0, .retAddr 0, .int l2, .ref l3, .int s.1, .retAddr 0], []) s.2) (fun (q : Int32 × mH) (res : Option Value × mH) => res = (some (.int q.1), q.2)))
  unfold f148_28
  refine Seg.blk0 (f' := (if (12 : Int32) < s.1 then 72 else 35, [.ref l0, .retAddr 0, .int l2, .ref l3, .int s.1, .retAddr 0], [])) (h' := s.2) rfl rfl ?_
  refine Seg.ite (fun _ => ?_) (fun _ => ?_)
  · refine Seg.x ?_
    exact Seg.ret (f1 := (73, [.ref l0, .retAddr 0, .int l2, .ref l3, .int s.1, .retAddr 0], [.int (-1)])) (h1 := s.2) rfl rfl rfl rfl (fun _ q => q)
  · refine Seg.callP (f1 := (41, [.ref l0, .retAddr 0, .int l2, .ref l3, .int s.1, .retAddr 0], [.ref l3, .ref l3, .ref ((mR s.2 l0 6).getD 0)])) (h1 := s.2) (cv := fun r => some (.int r)) rfl rfl rfl rfl (s94 s.2 l3) (fun r3 => ?_)
    refine Seg.call (f1 := (46, [.ref l0, .retAddr 0, .int l2, .ref l3, .int s.1, .retAddr 0], [.int s.1, .int r3, .ref l3, .ref ((mR s.2 l0 6).getD 0)])) (h1 := s.2) (cv := fun r => some (.int r)) rfl rfl rfl rfl (s131 s.2 ((mR s.2 l0 6).getD 0) l3 r3 s.1) (fun r4 => ?_)
    refine Seg.blk0 (f' := (if (r4.1 : Int32) = (-1) then 66 else 57, [.ref l0, .retAddr 0, .int l2, .ref l3, .int s.1, .int r4.1], [])) (h' := r4.2) rfl rfl ?_
    refine Seg.ite (fun _ => ?_) (fun _ => ?_)
    · exact Seg.w (mLw.k (mLw.k (mLw.k (mLw.k (mLw.k (mLw.u mLw.nil)))))) (s148_66 r4.2 l0 l2 l3 s.1)
    · refine Seg.blk0 (f' := (if (l2 : Int32) < r4.1 then 66 else 63, [.ref l0, .retAddr 0, .int l2, .ref l3, .int s.1, .int r4.1], [])) (h' := r4.2) rfl rfl ?_
      refine Seg.ite (fun _ => ?_) (fun _ => ?_)
      · exact Seg.w (mLw.k (mLw.k (mLw.k (mLw.k (mLw.k (mLw.u mLw.nil)))))) (s148_66 r4.2 l0 l2 l3 s.1)
      · refine Seg.x ?_
        exact Seg.ret (f1 := (65, [.ref l0, .retAddr 0, .int l2, .ref l3, .int s.1, .int r4.1], [.int s.1])) (h1 := r4.2) rfl rfl rfl rfl (fun _ q => q)
theorem s148 (h : mH) (l0 : Nat) (l1 : Int32) (l2 : Int32) : Seg 148 (0, [.ref l0, .int l1, .int l2, .retAddr 0, .retAddr 0, .retAddr 0], []) h (f148 h l0 l1 l2) (fun (q : Int32 × mH) (res : Option Value × mH) => res = (some (.int q.1), q.2)) := by
  unfold f148
  refine Seg.callP (f1 := (5, [.ref l0, .int l1, .int l2, .retAddr 0, .retAddr 0, .retAddr 0], [.int l1, .ref ((mR h l0 0).getD 0)])) (h1 := h) (cv := fun r => some (va_rf r)) rfl rfl rfl rfl (s53 h ((mR h l0 0).getD 0) l1) (fun r1 => ?_)
  cases r1 with
  | none =>
    refine Seg.blk0 (f' := (23, [.ref l0, .int l1, .int l2, .null, .retAddr 0, .retAddr 0], [])) (h' := h) rfl rfl ?_
    exact Seg.w (mLw.u (mLw.u (mLw.u (mLw.u (mLw.k (mLw.k mLw.nil)))))) (s148_23 h)
  | some a1 =>
    refine Seg.blk0 (f' := (13, [.ref l0, .int l1, .int l2, .ref a1, .retAddr 0, .retAddr 0], [])) (h' := h) rfl rfl ?_
    refine Seg.callP (f1 := (17, [.ref l0, .int l1, .int l2, .ref a1, .retAddr 0, .retAddr 0], [.int 20, .int 1, .int l2])) (h1 := h) (cv := fun r => some (.int r)) rfl rfl rfl rfl (s17 h l2 1 20) (fun r2 => ?_)
    refine Seg.blk0 (f' := (if (r2 : Int32) = 0 then 23 else 25, [.ref l0, .int l1, .int l2, .ref a1, .retAddr 0, .retAddr 0], [])) (h' := h) rfl rfl ?_
    refine Seg.ite (fun _ => ?_) (fun _ => ?_)
    · exact Seg.w (mLw.u (mLw.u (mLw.u (mLw.u (mLw.k (mLw.k mLw.nil)))))) (s148_23 h)
    · refine Seg.blk0 (f' := (28, [.ref l0, .int l1, .int l2, .ref a1, .int 1, .retAddr 0], [])) (h' := h) rfl rfl ?_
      exact Seg.w (mLw.k (mLw.u (mLw.k (mLw.k (mLw.k (mLw.k mLw.nil)))))) (s148_28 l0 l2 a1 mFuel (1, h))
theorem s150_81 (h : mH) (l0 : Nat) (l1 : Nat) (l2 : Int32) : Seg 150 (81, [.ref l0, .ref l1, .int l2, .retAddr 0], []) h (f150_81 h l0 l1 l2) (Sum.elim (fun s : (Int32 × mH) => Ev 150 (12, [.ref l0, .ref l1, .int s.1, .retAddr 0], []) s.2) (fun (q : Unit × mH) (res : Option Value × mH) => res = (none, q.2))) := by
  unfold f150_81
  refine Seg.blk0 (f' := (12, [.ref l0, .ref l1, .int (l2 + 1), .retAddr 0], [])) (h' := h) rfl rfl ?_
  exact Seg.cont (fun _ q => Ev.w (mLw.k (mLw.k (mLw.k (mLw.k mLw.nil)))) q)
theorem s150_71 (h : mH) (l0 : Nat) (l1 : Nat) (l2 : Int32) (l3 : Int32) : Seg 150 (71, [.ref l0, .ref l1, .int l2, .int l3], []) h (f150_71 h l0 l1 l2 l3) (Sum.elim (fun s : (Int32 × mH) => Ev 150 (12, [.ref l0, .ref l1, .int s.1, .retAddr 0], []) s.2) (fun (q : Unit × mH) (res : Option Value × mH) => res = (none, q.2))) := by
  unfold f150_71
  refine Seg.blk (f' := (76, [.ref l0, .ref l1, .int l2, .int l3], [])) (h' := (mSI h l0 2 l2)) rfl rfl ?_
  refine Seg.blk (f' := (81, [.ref l0, .ref l1, .int l2, .int l3], [])) (h' := (mSI (mSI h l0 2 l2) l0 3 l3)) rfl rfl ?_
  exact Seg.w (mLw.k (mLw.k (mLw.k (mLw.u mLw.nil)))) (s150_81 (mSI (mSI h l0 2 l2) l0 3 l3) l0 l1 l2)
theorem s150_12 (l0 : Nat) (l1 : Nat) : ∀ (n : Nat) (s : (Int32 × mH)), Seg 150 (12, [.ref l0, .ref l1, .int s.1, .retAddr 0], []) s.2 (mLoop (f150_12 l0 l1) n s) (fun (q : Unit × mH) (res : Option Value × mH) => res = (none, q.2)) := by
  refine Seg.loop (F := fun s : (Int32 × mH) => (12, [.ref l0, .ref l1, .int s.1, .retAddr 0], [])) (H := fun s : (Int32 × mH) => s.2) (fun s => ?_)
  show Seg 150 (12, [.ref l0, .ref l1, .int s.1, .retAddr 0], []) s.2 _ (Sum.elim (fun s : (Int32 × mH) => Ev 150 (12, [.ref l0, .ref l1, .int s.1, .retAddr 0], []) s.2) (fun (q : Unit × mH) (res : Option Value × mH) => res = (none, q.2)))
  unfold f150_12
  refine Seg.blk (f' := (if ((mI s.2 l1 6) : Int32) ≤ s.1 then 87 else 20, [.ref l0, .ref l1, .int s.1, .retAddr 0], [])) (h' := s.2) rfl rfl ?_
  refine Seg.ite (fun _ => ?_) (fun _ => ?_)
  · refine Seg.x ?_
    exact Seg.ret (f1 := (87, [.ref l0, .ref l1, .int s.1, .retAddr 0], [])) (h1 := s.2) rfl rfl rfl rfl (fun _ q => q)
  · refine Seg.callP (f1 := (23, [.ref l0, .ref l1, .int s.1, .retAddr 0], [.ref l1, .ref l1, .ref l0])) (h1 := s.2) (cv := fun r => some (.int r)) rfl rfl rfl rfl (s94 s.2 l1) (fun r1 => ?_)
    refine Seg.callP (f1 := (28, [.ref l0, .ref l1, .int s.1, .retAddr 0], [.int s.1, .ref l1, .int r1, .ref l1, .ref l0])) (h1 := s.2) (cv := fun r => some (.int r)) rfl rfl rfl rfl (s130 s.2 l1 s.1) (fun r2 => ?_)
    refine Seg.call (f1 := (38, [.ref l0, .ref l1, .int s.1, .retAddr 0], [.int (mI s.2 l1 8), .int (r1 &&& (r2 ^^^ (-1))), .ref l1, .ref l0])) (h1 := s.2) (cv := fun r => some (.int r)) rfl rfl rfl rfl (s131 s.2 l0 l1 (r1 &&& (r2 ^^^ (-1))) (mI s.2 l1 8)) (fun r3 => ?_)
    refine Seg.blk (f' := (if ((mI r3.2 l0 2) : Int32) = (-1) then 71 else 50, [.ref l0, .ref l1, .int s.1, .int r3.1], [])) (h' := r3.2) rfl rfl ?_
    refine Seg.ite (fun _ => ?_) (fun _ => ?_)
    · exact Seg.w (mLw.k (mLw.k (mLw.k (mLw.k mLw.nil)))) (s150_71 r3.2 l0 l1 s.1 r3.1)
    · refine Seg.blk0 (f' := (if (r3.1 : Int32) = (-1) then 81 else 55, [.ref l0, .ref l1, .int s.1, .int r3.1], [])) (h' := r3.2) rfl rfl ?_
      refine Seg.ite (fun _ => ?_) (fun _ => ?_)
      · exact Seg.w (mLw.k (mLw.k (mLw.k (mLw.u mLw.nil)))) (s150_81 r3.2 l0 l1 s.1)
      · refine Seg.blk (f' := (if ((mI r3.2 l0 3) : Int32) = (-1) then 71 else 63, [.ref l0, .ref l1, .int s.1, .int r3.1], [])) (h' := r3.2) rfl rfl ?_
        refine Seg.ite (fun _ => ?_) (fun _ => ?_)
        · exact Seg.w (mLw.k (mLw.k (mLw.k (mLw.k mLw.nil)))) (s150_71 r3.2 l0 l1 s.1 r3.1)
        · refine Seg.blk (f' := (if ((mI r3.2 l0 3) : Int32) ≤ r3.1 then 81 else 71, [.ref l0, .ref l1, .int s.1, .int r3.1], [])) (h' := r3.2) rfl rfl ?_
          refine Seg.ite (fun _ => ?_) (fun _ => ?_)
          · exact Seg.w (mLw.k (mLw.k (mLw.k (mLw.u mLw.nil)))) (s150_81 r3.2 l0 l1 s.1)
          · exact Seg.w (mLw.k (mLw.k (mLw.k (mLw.k mLw.nil)))) (s150_71 r3.2 l0 l1 s.1 r3.1)
theorem s150 (h : mH) (l0 : Nat) (l1 : Nat) : Seg 150 (0, [.ref l0, .ref l1, .retAddr 0, .retAddr 0], []) h (f150 h l0 l1) (fun (q : Unit × mH) (res : Option Value × mH) => res = (none, q.2)) := by
  unfold f150
  refine Seg.blk (f' := (5, [.ref l0, .ref l1, .retAddr 0, .retAddr 0], [])) (h' := (mSI h l0 2 (-1))) rfl rfl ?_
  refine Seg.blk (f' := (10, [.ref l0, .ref l1, .retAddr 0, .retAddr 0], [])) (h' := (mSI (mSI h l0 2 (-1)) l0 3 (-1))) rfl rfl ?_
  refine Seg.blk0 (f' := (12, [.ref l0, .ref l1, .int 0, .retAddr 0], [])) (h' := (mSI (mSI h l0 2 (-1)) l0 3 (-1))) rfl rfl ?_
  exact Seg.w (mLw.k (mLw.k (mLw.k (mLw.k mLw.nil)))) (s150_12 l0 l1 mFuel (0, (mSI (mSI h l0 2 (-1)) l0 3 (-1))))
theorem s149_45 (h : mH) (q0 : Int32) : Seg 149 (45, [.retAddr 0, .retAddr 0, .retAddr 0, .retAddr 0], [.int q0]) h (f149_45 h q0) (fun (q : Int32 × mH) (res : Option Value × mH) => res = (some (.int q.1), q.2)) := by
  unfold f149_45
  exact Seg.ret (f1 := (45, [.retAddr 0, .retAddr 0, .retAddr 0, .retAddr 0], [.int q0])) (h1 := h) rfl rfl rfl rfl (fun _ q => q)
theorem s149 (h : mH) (l0 : Nat) (l1 : Int32) (l2 : Int32) : Seg 149 (0, [.ref l0, .int l1, .int l2, .retAddr 0], []) h (f149 h l0 l1 l2) (fun (q : Int32 × mH) (res : Option Value × mH) => res = (some (.int q.1), q.2)) := by
  unfold f149
  refine Seg.callP (f1 := (5, [.ref l0, .int l1, .int l2, .retAddr 0], [.int l1, .ref ((mR h l0 0).getD 0)])) (h1 := h) (cv := fun r => some (va_rf r)) rfl rfl rfl rfl (s53 h ((mR h l0 0).getD 0) l1) (fun r1 => ?_)
  cases r1 with
  | none =>
    refine Seg.blk0 (f' := (13, [.ref l0, .int l1, .int l2, .null], [])) (h' := h) rfl rfl ?_
    exact Seg.ret (f1 := (15, [.ref l0, .int l1, .int l2, .null], [.int (-2)])) (h1 := h) rfl rfl rfl rfl (fun _ q => q)
  | some a1 =>
    refine Seg.blk0 (f' := (16, [.ref l0, .int l1, .int l2, .ref a1], [])) (h' := h) rfl rfl ?_
    refine Seg.call (f1 := (21, [.ref l0, .int l1, .int l2, .ref a1], [.ref a1, .ref ((mR h l0 6).getD 0)])) (h1 := h) (cv := fun _ => none) rfl rfl rfl rfl (s150 h ((mR h l0 6).getD 0) a1) (fun r2 => ?_)
    refine Seg.blk0 (f' := (if (l2 : Int32) = 0 then 38 else 28, [.ref l0, .int l1, .int l2, .ref a1], [])) (h' := r2.2) rfl rfl ?_
    refine Seg.ite (fun _ => ?_) (fun _ => ?_)
    · refine Seg.blk (f' := (45, [.ref l0, .int l1, .int l2, .ref a1], [.int (mI r2.2 ((mR r2.2 l0 6).getD 0) 2)])) (h' := r2.2) rfl rfl ?_
      exact Seg.w (mLw.u (mLw.u (mLw.u (mLw.u mLw.nil)))) (s149_45 r2.2 (mI r2.2 ((mR r2.2 l0 6).getD 0) 2))
    · refine Seg.blk (f' := (45, [.ref l0, .int l1, .int l2, .ref a1], [.int (mI r2.2 ((mR r2.2 l0 6).getD 0) 3)])) (h' := r2.2) rfl rfl ?_
      exact Seg.w (mLw.u (mLw.u (mLw.u (mLw.u mLw.nil)))) (s149_45 r2.2 (mI r2.2 ((mR r2.2 l0 6).getD 0) 3))
theorem s152_28 (h : mH) (l0 : Nat) (l1 : Int32) (l2 : Int32) (l3 : Int32) : Seg 152 (28, [.ref l0, .int l1, .int l2, .int l3], []) h (f152_28 h l0 l1 l2 l3) (Sum.elim (fun s : (Int32 × Int32) => Ev 152 (4, [.ref l0, .int l1, .int s.1, .int s.2], []) h) (fun (q : Int32) (res : Option Value × mH) => res = (some (.int q), h))) := by
  unfold f152_28
  refine Seg.blk0 (f' := (4, [.ref l0, .int l1, .int l2, .int (l3 + 1)], [])) (h' := h) rfl rfl ?_
  exact Seg.cont (fun _ q => Ev.w (mLw.k (mLw.k (mLw.k (mLw.k mLw.nil)))) q)
theorem s152_4 (h : mH) (l0 : Nat) (l1 : Int32) : ∀ (n : Nat) (s : (Int32 × Int32)), Seg 152 (4, [.ref l0, .int l1, .int s.1, .int s.2], []) h (mLoop (f152_4 h l0 l1) n s) (fun (q : Int32) (res : Option Value × mH) => res = (some (.int q), h)) := by
  refine Seg.loop (F := fun s : (Int32 × Int32) => (4, [.ref l0, .int l1, .int s.1, .int s.2], [])) (H := fun s : (Int32 × Int32) => h) (fun s => ?_)
  show Seg 152 (4, [.ref l0, .int l1, .int s.1, .int s.2], []) h _ (Sum.elim (fun s : (Int32 × Int32) => Ev 152 (4, [.ref l0, .int l1, .int s.1, .int s.2], []) h) (fun (q : Int32) (res : Option Value × mH) => res = (some (.int q), h)))
  unfold f152_4
  refine Seg.blk (f' := (if ((mI h l0 6) : Int32) ≤ s.2 then 34 else 12, [.ref l0, .int l1, .int s.1, .int s.2], [])) (h' := h) rfl rfl ?_
  refine Seg.ite (fun _ => ?_) (fun _ => ?_)
  · refine Seg.x ?_
    exact Seg.ret (f1 := (35, [.ref l0, .int l1, .int s.1, .int s.2], [.int s.1])) (h1 := h) rfl rfl rfl rfl (fun _ q => q)
  · refine Seg.blk (f' := (if ((mI h ((mR h l0 1).getD 0) (Int32.toNatClampNeg s.2)) : Int32) = l1 then 22 else 28, [.ref l0, .int l1, .int s.1, .int s.2], [])) (h' := h) rfl rfl ?_
    refine Seg.ite (fun _ => ?_) (fun _ => ?_)
    · refine Seg.blk0 (f' := (28, [.ref l0, .int l1, .int (s.1 ||| ((1 : Int32) <<< (s.2 &&& (31 : Int32)))), .int s.2], [])) (h' := h) rfl rfl ?_
      exact Seg.w (mLw.k (mLw.k (mLw.k (mLw.k mLw.nil)))) (s152_28 h l0 l1 (s.1 ||| ((1 : Int32) <<< (s.2 &&& (31 : Int32)))) s.2)
    · exact Seg.w (mLw.k (mLw.k (mLw.k (mLw.k mLw.nil)))) (s152_28 h l0 l1 s.1 s.2)
theorem s152 (h : mH) (l0 : Nat) (l1 : Int32) : Seg 152 (0, [.ref l0, .int l1, .retAddr 0, .retAddr 0], []) h (f152 h l0 l1) (fun (q : Int32) (res : Option Value × mH) => res = (some (.int q), h)) := by
  unfold f152
  refine Seg.blk0 (f' := (4, [.ref l0, .int l1, .int 0, .int 0], [])) (h' := h) rfl rfl ?_
  exact Seg.w (mLw.k (mLw.k (mLw.k (mLw.k mLw.nil)))) (s152_4 h l0 l1 mFuel (0, 0))
theorem s151_32 (h : mH) : Seg 151 (32, [.retAddr 0, .retAddr 0, .retAddr 0, .retAddr 0, .retAddr 0, .retAddr 0], []) h (f151_32 h) (fun (q : Int64) (res : Option Value × mH) => res = (some (.long q), h)) := by
  unfold f151_32
  exact Seg.ret (f1 := (35, [.retAddr 0, .retAddr 0, .retAddr 0, .retAddr 0, .retAddr 0, .retAddr 0], [.long (-1)])) (h1 := h) rfl rfl rfl rfl (fun _ q => q)
theorem s151 (h : mH) (l0 : Nat) (l1 : Int32) (l2 : Int32) (l3 : Int32) : Seg 151 (0, [.ref l0, .int l1, .int l2, .int l3, .retAddr 0, .retAddr 0], []) h (f151 h l0 l1 l2 l3) (fun (q : Int64) (res : Option Value × mH) => res = (some (.long q), h)) := by
  unfold f151
  refine Seg.callP (f1 := (5, [.ref l0, .int l1, .int l2, .int l3, .retAddr 0, .retAddr 0], [.int l1, .ref ((mR h l0 0).getD 0)])) (h1 := h) (cv := fun r => some (va_rf r)) rfl rfl rfl rfl (s53 h ((mR h l0 0).getD 0) l1) (fun r1 => ?_)
  cases r1 with
  | none =>
    refine Seg.blk0 (f' := (32, [.ref l0, .int l1, .int l2, .int l3, .null, .retAddr 0], [])) (h' := h) rfl rfl ?_
    exact Seg.w (mLw.u (mLw.u (mLw.u (mLw.u (mLw.u (mLw.k mLw.nil)))))) (s151_32 h)
  | some a1 =>
    refine Seg.blk0 (f' := (15, [.ref l0, .int l1, .int l2, .int l3, .ref a1, .retAddr 0], [])) (h' := h) rfl rfl ?_
    refine Seg.blk (f' := (if ((mI h a1 6) : Int32) = 0 then 32 else 23, [.ref l0, .int l1, .int l2, .int l3, .ref a1, .retAddr 0], [])) (h' := h) rfl rfl ?_
    refine Seg.ite (fun _ => ?_) (fun _ => ?_)
    · exact Seg.w (mLw.u (mLw.u (mLw.u (mLw.u (mLw.u (mLw.k mLw.nil)))))) (s151_32 h)
    · refine Seg.callP (f1 := (26, [.ref l0, .int l1, .int l2, .int l3, .ref a1, .retAddr 0], [.int 5, .int 0, .int l2])) (h1 := h) (cv := fun r => some (.int r)) rfl rfl rfl rfl (s17 h l2 0 5) (fun r2 => ?_)
      refine Seg.blk0 (f' := (if (r2 : Int32) = 0 then 32 else 36, [.ref l0, .int l1, .int l2, .int l3, .ref a1, .retAddr 0], [])) (h' := h) rfl rfl ?_
      refine Seg.ite (fun _ => ?_) (fun _ => ?_)
      · exact Seg.w (mLw.u (mLw.u (mLw.u (mLw.u (mLw.u (mLw.k mLw.nil)))))) (s151_32 h)
      · refine Seg.callP (f1 := (41, [.ref l0, .int l1, .int l2, .int l3, .ref a1, .retAddr 0], [.int l2, .ref a1, .ref a1])) (h1 := h) (cv := fun r => some (.int r)) rfl rfl rfl rfl (s152 h a1 l2) (fun r3 => ?_)
        refine Seg.callP (f1 := (44, [.ref l0, .int l1, .int l2, .int l3, .ref a1, .retAddr 0], [.int r3, .ref a1])) (h1 := h) (cv := fun r => some (.int r)) rfl rfl rfl rfl (s95 h a1 r3) (fun r4 => ?_)
        refine Seg.callP (f1 := (56, [.ref l0, .int l1, .int l2, .int l3, .ref a1, .int r4], [.ref a1, .ref a1, .long (Int32.toInt64 r4)])) (h1 := h) (cv := fun r => some (.int r)) rfl rfl rfl rfl (s94 h a1) (fun r5 => ?_)
        refine Seg.callP (f1 := (59, [.ref l0, .int l1, .int l2, .int l3, .ref a1, .int r4], [.int r5, .ref a1, .long (Int32.toInt64 r4)])) (h1 := h) (cv := fun r => some (.int r)) rfl rfl rfl rfl (s95 h a1 r5) (fun r6 => ?_)
        refine Seg.callP (f1 := (64, [.ref l0, .int l1, .int l2, .int l3, .ref a1, .int r4], [.int l3, .long (Int32.toInt64 r6), .long (Int32.toInt64 r4)])) (h1 := h) (cv := fun r => some (.long r)) rfl rfl rfl rfl (s109 h (Int32.toInt64 r4) (Int32.toInt64 r6) l3) (fun r7 => ?_)
        exact Seg.ret (f1 := (67, [.ref l0, .int l1, .int l2, .int l3, .ref a1, .int r4], [.long r7])) (h1 := h) rfl rfl rfl rfl (fun _ q => q)
theorem s155_26 (h : mH) : Seg 155 (26, [.retAddr 0, .retAddr 0, .retAddr 0], []) h (f155_26 h) (fun (q : Unit × mH) (res : Option Value × mH) => res = (none, q.2)) := by
  unfold f155_26
  exact Seg.ret (f1 := (26, [.retAddr 0, .retAddr 0, .retAddr 0], [])) (h1 := h) rfl rfl rfl rfl (fun _ q => q)
theorem s155 (h : mH) (l0 : Nat) (l1 : Nat) (l2 : Int32) : Seg 155 (0, [.ref l0, .ref l1, .int l2], []) h (f155 h l0 l1 l2) (fun (q : Unit × mH) (res : Option Value × mH) => res = (none, q.2)) := by
  unfold f155
  refine Seg.call (f1 := (2, [.ref l0, .ref l1, .int l2], [.ref l1, .ref l0])) (h1 := h) (cv := fun _ => none) rfl rfl rfl rfl (s63 h l0 l1) (fun r1 => ?_)
  refine Seg.callP (f1 := (10, [.ref l0, .ref l1, .int l2], [.int l2, .ref ((mR r1.2 l0 3).getD 0)])) (h1 := r1.2) (cv := fun r => some (.int r)) rfl rfl rfl rfl (s57 r1.2 ((mR r1.2 l0 3).getD 0) l2) (fun r2 => ?_)
  refine Seg.blk0 (f' := (if (r2 : Int32) = 0 then 26 else 16, [.ref l0, .ref l1, .int l2], [])) (h' := r1.2) rfl rfl ?_
  refine Seg.ite (fun _ => ?_) (fun _ => ?_)
  · exact Seg.w (mLw.u (mLw.u (mLw.u mLw.nil))) (s155_26 r1.2)
  · refine Seg.blk (f' := (26, [.ref l0, .ref l1, .int l2], [])) (h' := (mSI r1.2 ((mR r1.2 l0 2).getD 0) (Int32.toNatClampNeg (l2 * 8)) 0)) rfl rfl ?_
    exact Seg.w (mLw.u (mLw.u (mLw.u mLw.nil))) (s155_26 (mSI r1.2 ((mR r1.2 l0 2).getD 0) (Int32.toNatClampNeg (l2 * 8)) 0))
theorem s154_8 (l0 : Nat) : ∀ (n : Nat) (s : (Int32 × mH)), Seg 154 (8, [.ref l0, .retAddr 0, .retAddr 0, .int s.1], []) s.2 (mLoop (f154_8 l0) n s) (fun (q : Int32 × mH) (res : Option Value × mH) => res = (some (.int q.1), q.2)) := by
  refine Seg.loop (F := fun s : (Int32 × mH) => (8, [.ref l0, .retAddr 0, .retAddr 0, .int s.1], [])) (H := fun s : (Int32 × mH) => s.2) (fun s => ?_)
  show Seg 154 (8, [.ref l0, .retAddr 0, .retAddr 0, .int s.1], []) s.2 _ (Sum.elim (fun s : (Int32 × mH) => Ev 154 (8, [.ref l0, .retAddr 0, .retAddr 0, .int s.1], []) s.2) (fun (q : Int32 × mH) (res : Option Value × mH) => res = (some (.int q.1), q.2)))
  unfold f154_8
  refine Seg.blk0 (f' := (if (99 : Int32) < s.1 then 35 else 14, [.ref l0, .retAddr 0, .retAddr 0, .int s.1], [])) (h' := s.2) rfl rfl ?_
  refine Seg.ite (fun _ => ?_) (fun _ => ?_)
  · refine Seg.x ?_
    exact Seg.ret (f1 := (36, [.ref l0, .retAddr 0, .retAddr 0, .int s.1], [.int (-1)])) (h1 := s.2) rfl rfl rfl rfl (fun _ q => q)
  · refine Seg.call (f1 := (16, [.ref l0, .retAddr 0, .retAddr 0, .int s.1], [.int 0, .ref l0])) (h1 := s.2) (cv := fun _ => none) rfl rfl rfl rfl (s77 s.2 l0 0) (fun r2 => ?_)
    refine Seg.callP (f1 := (21, [.ref l0, .retAddr 0, .retAddr 0, .int s.1], [.int 0, .ref l0])) (h1 := r2.2) (cv := fun r => some (.int r)) rfl rfl rfl rfl (s78 r2.2 l0 0) (fun r3 => ?_)
    refine Seg.blk0 (f' := (if (r3 : Int32) = 0 then 27 else 29, [.ref l0, .retAddr 0, .retAddr 0, .int s.1], [])) (h' := r2.2) rfl rfl ?_
    refine Seg.ite (fun _ => ?_) (fun _ => ?_)
    · refine Seg.x ?_
      exact Seg.ret (f1 := (28, [.ref l0, .retAddr 0, .retAddr 0, .int s.1], [.int s.1])) (h1 := r2.2) rfl rfl rfl rfl (fun _ q => q)
    · refine Seg.blk0 (f' := (8, [.ref l0, .retAddr 0, .retAddr 0, .int (s.1 + 1)], [])) (h' := r2.2) rfl rfl ?_
      exact Seg.cont (fun _ q => Ev.w (mLw.k (mLw.k (mLw.k (mLw.k mLw.nil)))) q)
theorem s154 (h : mH) (l0 : Nat) (l1 : Nat) (l2 : Int32) : Seg 154 (0, [.ref l0, .ref l1, .int l2, .retAddr 0], []) h (f154 h l0 l1 l2) (fun (q : Int32 × mH) (res : Option Value × mH) => res = (some (.int q.1), q.2)) := by
  unfold f154
  refine Seg.call (f1 := (3, [.ref l0, .ref l1, .int l2, .retAddr 0], [.int l2, .ref l1, .ref l0])) (h1 := h) (cv := fun _ => none) rfl rfl rfl rfl (s155 h l0 l1 l2) (fun r1 => ?_)
  refine Seg.blk0 (f' := (8, [.ref l0, .ref l1, .int l2, .int 1], [])) (h' := r1.2) rfl rfl ?_
  exact Seg.w (mLw.k (mLw.u (mLw.u (mLw.k mLw.nil)))) (s154_8 l0 mFuel (1, r1.2))
theorem s156_9 (l0 : Nat) (l3 : Int32) : ∀ (n : Nat) (s : (Int32 × mH)), Seg 156 (9, [.ref l0, .retAddr 0, .retAddr 0, .int l3, .int s.1], []) s.2 (mLoop (f156_9 l0 l3) n s) (fun (q : Int32 × mH) (res : Option Value × mH) => res = (some (.int q.1), q.2)) := by
  refine Seg.loop (F := fun s : (Int32 × mH) => (9, [.ref l0, .retAddr 0, .retAddr 0, .int l3, .int s.1], [])) (H := fun s : (Int32 × mH) => s.2) (fun s => ?_)
  show Seg 156 (9, [.ref l0, .retAddr 0, .retAddr 0, .int l3, .int s.1], []) s.2 _ (Sum.elim (fun s : (Int32 × mH) => Ev 156 (9, [.ref l0, .retAddr 0, .retAddr 0, .int l3, .int s.1], []) s.2) (fun (q : Int32 × mH) (res : Option Value × mH) => res = (some (.int q.1), q.2)))
  unfold f156_9
  refine Seg.blk0 (f' := (if (l3 : Int32) ≤ s.1 then 26 else 15, [.ref l0, .retAddr 0, .retAddr 0, .int l3, .int s.1], [])) (h' := s.2) rfl rfl ?_
  refine Seg.ite (fun _ => ?_) (fun _ => ?_)
  · refine Seg.x ?_
    refine Seg.callP (f1 := (28, [.ref l0, .retAddr 0, .retAddr 0, .int l3, .int s.1], [.int 0, .ref l0])) (h1 := s.2) (cv := fun r => some (.int r)) rfl rfl rfl rfl (s78 s.2 l0 0) (fun r2 => ?_)
    exact Seg.ret (f1 := (31, [.ref l0, .retAddr 0, .retAddr 0, .int l3, .int s.1], [.int r2])) (h1 := s.2) rfl rfl rfl rfl (fun _ q => q)
  · refine Seg.call (f1 := (17, [.ref l0, .retAddr 0, .retAddr 0, .int l3, .int s.1], [.int 0, .ref l0])) (h1 := s.2) (cv := fun _ => none) rfl rfl rfl rfl (s77 s.2 l0 0) (fun r3 => ?_)
    refine Seg.blk0 (f' := (9, [.ref l0, .retAddr 0, .retAddr 0, .int l3, .int (s.1 + 1)], [])) (h' := r3.2) rfl rfl ?_
    exact Seg.cont (fun _ q => Ev.w (mLw.k (mLw.k (mLw.k (mLw.k (mLw.k mLw.nil))))) q)
theorem s156 (h : mH) (l0 : Nat) (l1 : Nat) (l2 : Int32) (l3 : Int32) : Seg 156 (0, [.ref l0, .ref l1, .int l2, .int l3, .retAddr 0], []) h (f156 h l0 l1 l2 l3) (fun (q : Int32 × mH) (res : Option Value × mH) => res = (some (.int q.1), q.2)) := by
  unfold f156
  refine Seg.call (f1 := (3, [.ref l0, .ref l1, .int l2, .int l3, .retAddr 0], [.int l2, .ref l1, .ref l0])) (h1 := h) (cv := fun _ => none) rfl rfl rfl rfl (s155 h l0 l1 l2) (fun r1 => ?_)
  refine Seg.blk0 (f' := (9, [.ref l0, .ref l1, .int l2, .int l3, .int 0], [])) (h' := r1.2) rfl rfl ?_
  exact Seg.w (mLw.k (mLw.u (mLw.u (mLw.k (mLw.k mLw.nil))))) (s156_9 l0 l3 mFuel (0, r1.2))
theorem s153_24 (h : mH) : Seg 153 (24, [.retAddr 0, .retAddr 0, .retAddr 0, .retAddr 0, .retAddr 0], []) h (f153_24 h) (fun (q : Int32 × mH) (res : Option Value × mH) => res = (some (.int q.1), q.2)) := by
  unfold f153_24
  exact Seg.ret (f1 := (26, [.retAddr 0, .retAddr 0, .retAddr 0, .retAddr 0, .retAddr 0], [.int (-2)])) (h1 := h) rfl rfl rfl rfl (fun _ q => q)
theorem s153_69 (h : mH) (q0 : Int32) : Seg 153 (69, [.retAddr 0, .retAddr 0, .retAddr 0, .retAddr 0, .retAddr 0], [.int q0]) h (f153_69 h q0) (fun (q : Int32 × mH) (res : Option Value × mH) => res = (some (.int q.1), q.2)) := by
  unfold f153_69
  exact Seg.ret (f1 := (69, [.retAddr 0, .retAddr 0, .retAddr 0, .retAddr 0, .retAddr 0], [.int q0])) (h1 := h) rfl rfl rfl rfl (fun _ q => q)
theorem s153 (h : mH) (l0 : Nat) (l1 : Int32) (l2 : Int32) (l3 : Int32) : Seg 153 (0, [.ref l0, .int l1, .int l2, .int l3, .retAddr 0], []) h (f153 h l0 l1 l2 l3) (fun (q : Int32 × mH) (res : Option Value × mH) => res = (some (.int q.1), q.2)) := by
  unfold f153
  refine Seg.callP (f1 := (5, [.ref l0, .int l1, .int l2, .int l3, .retAddr 0], [.int l1, .ref ((mR h l0 0).getD 0)])) (h1 := h) (cv := fun r => some (va_rf r)) rfl rfl rfl rfl (s53 h ((mR h l0 0).getD 0) l1) (fun r1 => ?_)
  cases r1 with
  | none =>
    refine Seg.blk0 (f' := (24, [.ref l0, .int l1, .int l2, .int l3, .null], [])) (h' := h) rfl rfl ?_
    exact Seg.w (mLw.u (mLw.u (mLw.u (mLw.u (mLw.u mLw.nil))))) (s153_24 h)
  | some a1 =>
    refine Seg.blk0 (f' := (15, [.ref l0, .int l1, .int l2, .int l3, .ref a1], [])) (h' := h) rfl rfl ?_
    refine Seg.callP (f1 := (18, [.ref l0, .int l1, .int l2, .int l3, .ref a1], [.int l2, .ref a1])) (h1 := h) (cv := fun r => some (.int r)) rfl rfl rfl rfl (s57 h a1 l2) (fun r2 => ?_)
    refine Seg.blk0 (f' := (if (r2 : Int32) = 0 then 24 else 27, [.ref l0, .int l1, .int l2, .int l3, .ref a1], [])) (h' := h) rfl rfl ?_
    refine Seg.ite (fun _ => ?_) (fun _ => ?_)
    · exact Seg.w (mLw.u (mLw.u (mLw.u (mLw.u (mLw.u mLw.nil))))) (s153_24 h)
    · refine Seg.blk0 (f' := (if (l3 : Int32) = (-1) then 32 else 43, [.ref l0, .int l1, .int l2, .int l3, .ref a1], [])) (h' := h) rfl rfl ?_
      refine Seg.ite (fun _ => ?_) (fun _ => ?_)
      · refine Seg.call (f1 := (39, [.ref l0, .int l1, .int l2, .int l3, .ref a1], [.int l2, .ref a1, .ref ((mR h l0 4).getD 0)])) (h1 := h) (cv := fun r => some (.int r)) rfl rfl rfl rfl (s154 h ((mR h l0 4).getD 0) a1 l2) (fun r3 => ?_)
        exact Seg.ret (f1 := (42, [.ref l0, .int l1, .int l2, .int l3, .ref a1], [.int r3.1])) (h1 := r3.2) rfl rfl rfl rfl (fun _ q => q)
      · refine Seg.callP (f1 := (47, [.ref l0, .int l1, .int l2, .int l3, .ref a1], [.int 20, .int 0, .int l3])) (h1 := h) (cv := fun r => some (.int r)) rfl rfl rfl rfl (s17 h l3 0 20) (fun r4 => ?_)
        refine Seg.blk0 (f' := (if (r4 : Int32) = 0 then 67 else 53, [.ref l0, .int l1, .int l2, .int l3, .ref a1], [])) (h' := h) rfl rfl ?_
        refine Seg.ite (fun _ => ?_) (fun _ => ?_)
        · refine Seg.blk0 (f' := (69, [.ref l0, .int l1, .int l2, .int l3, .ref a1], [.int (-2)])) (h' := h) rfl rfl ?_
          exact Seg.w (mLw.u (mLw.u (mLw.u (mLw.u (mLw.u mLw.nil))))) (s153_69 h (-2))
        · refine Seg.call (f1 := (61, [.ref l0, .int l1, .int l2, .int l3, .ref a1], [.int l3, .int l2, .ref a1, .ref ((mR h l0 4).getD 0)])) (h1 := h) (cv := fun r => some (.int r)) rfl rfl rfl rfl (s156 h ((mR h l0 4).getD 0) a1 l2 l3) (fun r5 => ?_)
          refine Seg.blk0 (f' := (69, [.ref l0, .int l1, .int l2, .int l3, .ref a1], [.int r5.1])) (h' := r5.2) rfl rfl ?_
          exact Seg.w (mLw.u (mLw.u (mLw.u (mLw.u (mLw.u mLw.nil))))) (s153_69 r5.2 r5.1)
theorem s158_5 (h : mH) (l0 : Nat) (l2 : Int32) : ∀ (n : Nat) (s : (Int32 × Int32)), Seg 158 (5, [.ref l0, .retAddr 0, .int l2, .int s.1, .int s.2], []) h (mLoop (f158_5 h l0 l2) n s) (fun (q : Int32) (res : Option Value × mH) => res = (some (.int q), h)) := by
  refine Seg.loop (F := fun s : (Int32 × Int32) => (5, [.ref l0, .retAddr 0, .int l2, .int s.1, .int s.2], [])) (H := fun s : (Int32 × Int32) => h) (fun s => ?_)
  show Seg 158 (5, [.ref l0, .retAddr 0, .int l2, .int s.1, .int s.2], []) h _ (Sum.elim (fun s : (Int32 × Int32) => Ev 158 (5, [.ref l0, .retAddr 0, .int l2, .int s.1, .int s.2], []) h) (fun (q : Int32) (res : Option Value × mH) => res = (some (.int q), h)))
  unfold f158_5
  refine Seg.blk0 (f' := (if (6 : Int32) < s.2 then 40 else 12, [.ref l0, .retAddr 0, .int l2, .int s.1, .int s.2], [])) (h' := h) rfl rfl ?_
  refine Seg.ite (fun _ => ?_) (fun _ => ?_)
  · refine Seg.x ?_
    exact Seg.ret (f1 := (41, [.ref l0, .retAddr 0, .int l2, .int s.1, .int s.2], [.int (-1)])) (h1 := h) rfl rfl rfl rfl (fun _ q => q)
  · refine Seg.blk0 (f' := (if ((l2 &&& (s.1 ^^^ (-1))) : Int32) = 0 then 20 else 23, [.ref l0, .retAddr 0, .int l2, .int s.1, .int s.2], [])) (h' := h) rfl rfl ?_
    refine Seg.ite (fun _ => ?_) (fun _ => ?_)
    · refine Seg.x ?_
      exact Seg.ret (f1 := (22, [.ref l0, .retAddr 0, .int l2, .int s.1, .int s.2], [.int s.2])) (h1 := h) rfl rfl rfl rfl (fun _ q => q)
    · refine Seg.callP (f1 := (27, [.ref l0, .retAddr 0, .int l2, .int s.1, .int s.2], [.ref l0, .int 1, .int s.1, .ref l0])) (h1 := h) (cv := fun r => some (.int r)) rfl rfl rfl rfl (s98 h l0) (fun r1 => ?_)
      refine Seg.callP (f1 := (30, [.ref l0, .retAddr 0, .int l2, .int s.1, .int s.2], [.int r1, .int 1, .int s.1, .ref l0])) (h1 := h) (cv := fun r => some (.int r)) rfl rfl rfl rfl (s99 h l0 s.1 1 r1) (fun r2 => ?_)
      refine Seg.blk0 (f' := (5, [.ref l0, .retAddr 0, .int l2, .int r2, .int (s.2 + 1)], [])) (h' := h) rfl rfl ?_
      exact Seg.cont (fun _ q => Ev.w (mLw.k (mLw.k (mLw.k (mLw.k (mLw.k mLw.nil))))) q)
theorem s158 (h : mH) (l0 : Nat) (l1 : Int32) (l2 : Int32) : Seg 158 (0, [.ref l0, .int l1, .int l2, .retAddr 0, .retAddr 0], []) h (f158 h l0 l1 l2) (fun (q : Int32) (res : Option Value × mH) => res = (some (.int q), h)) := by
  unfold f158
  refine Seg.blk0 (f' := (5, [.ref l0, .int l1, .int l2, .int l1, .int 0], [])) (h' := h) rfl rfl ?_
  exact Seg.w (mLw.k (mLw.u (mLw.k (mLw.k (mLw.k mLw.nil))))) (s158_5 h l0 l2 mFuel (l1, 0))
theorem s157_33 (h : mH) : Seg 157 (33, [.retAddr 0, .retAddr 0, .retAddr 0, .retAddr 0, .retAddr 0], []) h (f157_33 h) (fun (q : Int32) (res : Option Value × mH) => res = (some (.int q), h)) := by
  unfold f157_33
  exact Seg.ret (f1 := (34, [.retAddr 0, .retAddr 0, .retAddr 0, .retAddr 0, .retAddr 0], [.int (-1)])) (h1 := h) rfl rfl rfl rfl (fun _ q => q)
theorem s157 (h : mH) (l0 : Nat) (l1 : Int32) (l2 : Int32) (l3 : Int32) : Seg 157 (0, [.ref l0, .int l1, .int l2, .int l3, .retAddr 0], []) h (f157 h l0 l1 l2 l3) (fun (q : Int32) (res : Option Value × mH) => res = (some (.int q), h)) := by
  unfold f157
  refine Seg.callP (f1 := (5, [.ref l0, .int l1, .int l2, .int l3, .retAddr 0], [.int l1, .ref ((mR h l0 0).getD 0)])) (h1 := h) (cv := fun r => some (va_rf r)) rfl rfl rfl rfl (s53 h ((mR h l0 0).getD 0) l1) (fun r1 => ?_)
  cases r1 with
  | none =>
    refine Seg.blk0 (f' := (33, [.ref l0, .int l1, .int l2, .int l3, .null], [])) (h' := h) rfl rfl ?_
    exact Seg.w (mLw.u (mLw.u (mLw.u (mLw.u (mLw.u mLw.nil))))) (s157_33 h)
  | some a1 =>
    refine Seg.blk0 (f' := (15, [.ref l0, .int l1, .int l2, .int l3, .ref a1], [])) (h' := h) rfl rfl ?_
    refine Seg.callP (f1 := (18, [.ref l0, .int l1, .int l2, .int l3, .ref a1], [.int l2, .ref a1])) (h1 := h) (cv := fun r => some (.int r)) rfl rfl rfl rfl (s57 h a1 l2) (fun r2 => ?_)
    refine Seg.blk0 (f' := (if (r2 : Int32) = 0 then 33 else 24, [.ref l0, .int l1, .int l2, .int l3, .ref a1], [])) (h' := h) rfl rfl ?_
    refine Seg.ite (fun _ => ?_) (fun _ => ?_)
    · exact Seg.w (mLw.u (mLw.u (mLw.u (mLw.u (mLw.u mLw.nil))))) (s157_33 h)
    · refine Seg.callP (f1 := (27, [.ref l0, .int l1, .int l2, .int l3, .ref a1], [.int l3, .ref a1])) (h1 := h) (cv := fun r => some (.int r)) rfl rfl rfl rfl (s57 h a1 l3) (fun r3 => ?_)
      refine Seg.blk0 (f' := (if (r3 : Int32) = 0 then 33 else 35, [.ref l0, .int l1, .int l2, .int l3, .ref a1], [])) (h' := h) rfl rfl ?_
      refine Seg.ite (fun _ => ?_) (fun _ => ?_)
      · exact Seg.w (mLw.u (mLw.u (mLw.u (mLw.u (mLw.u mLw.nil))))) (s157_33 h)
      · refine Seg.callP (f1 := (43, [.ref l0, .int l1, .int l2, .int l3, .ref a1], [.int ((1 : Int32) <<< (l3 &&& (31 : Int32))), .int ((1 : Int32) <<< (l2 &&& (31 : Int32))), .ref a1])) (h1 := h) (cv := fun r => some (.int r)) rfl rfl rfl rfl (s158 h a1 ((1 : Int32) <<< (l2 &&& (31 : Int32))) ((1 : Int32) <<< (l3 &&& (31 : Int32)))) (fun r4 => ?_)
        exact Seg.ret (f1 := (46, [.ref l0, .int l1, .int l2, .int l3, .ref a1], [.int r4])) (h1 := h) rfl rfl rfl rfl (fun _ q => q)
theorem s160_45 (h : mH) (l0 : Nat) (l1 : Int32) (l2 : Int32) (l3 : Int32) : Seg 160 (45, [.ref l0, .int l1, .int l2, .int l3, .retAddr 0], []) h (f160_45 h l0 l1 l2 l3) (Sum.elim (fun s : (Int32 × Int32 × Int32) => Ev 160 (7, [.ref l0, .int s.1, .int s.2.1, .int s.2.2, .retAddr 0], []) h) (fun (q : Int32) (res : Option Value × mH) => res = (some (.int q), h))) := by
  unfold f160_45
  refine Seg.blk0 (f' := (7, [.ref l0, .int l1, .int l2, .int (l3 + 1), .retAddr 0], [])) (h' := h) rfl rfl ?_
  exact Seg.cont (fun _ q => Ev.w (mLw.k (mLw.k (mLw.k (mLw.k (mLw.k mLw.nil))))) q)
theorem s160_7 (h : mH) (l0 : Nat) : ∀ (n : Nat) (s : (Int32 × Int32 × Int32)), Seg 160 (7, [.ref l0, .int s.1, .int s.2.1, .int s.2.2, .retAddr 0], []) h (mLoop (f160_7 h l0) n s) (fun (q : Int32) (res : Option Value × mH) => res = (some (.int q), h)) := by
  refine Seg.loop (F := fun s : (Int32 × Int32 × Int32) => (7, [.ref l0, .int s.1, .int s.2.1, .int s.2.2, .retAddr 0], [])) (H := fun s : (Int32 × Int32 × Int32) => h) (fun s => ?_)
  show Seg 160 (7, [.ref l0, .int s.1, .int s.2.1, .int s.2.2, .retAddr 0], []) h _ (Sum.elim (fun s : (Int32 × Int32 × Int32) => Ev 160 (7, [.ref l0, .int s.1, .int s.2.1, .int s.2.2, .retAddr 0], []) h) (fun (q : Int32) (res : Option Value × mH) => res = (some (.int q), h)))
  unfold f160_7
  refine Seg.blk (f' := (if ((mI h l0 7) : Int32) ≤ s.2.2 then 51 else 15, [.ref l0, .int s.1, .int s.2.1, .int s.2.2, .retAddr 0], [])) (h' := h) rfl rfl ?_
  refine Seg.ite (fun _ => ?_) (fun _ => ?_)
  · refine Seg.x ?_
    exact Seg.ret (f1 := (52, [.ref l0, .int s.1, .int s.2.1, .int s.2.2, .retAddr 0], [.int s.1])) (h1 := h) rfl rfl rfl rfl (fun _ q => q)
  · refine Seg.callP (f1 := (20, [.ref l0, .int s.1, .int s.2.1, .int s.2.2, .retAddr 0], [.ref l0, .int ((1 : Int32) <<< (s.2.2 &&& (31 : Int32))), .ref l0])) (h1 := h) (cv := fun r => some (.int r)) rfl rfl rfl rfl (s98 h l0) (fun r1 => ?_)
    refine Seg.callP (f1 := (23, [.ref l0, .int s.1, .int s.2.1, .int s.2.2, .retAddr 0], [.int r1, .int ((1 : Int32) <<< (s.2.2 &&& (31 : Int32))), .ref l0])) (h1 := h) (cv := fun r => some (.int r)) rfl rfl rfl rfl (s158 h l0 ((1 : Int32) <<< (s.2.2 &&& (31 : Int32))) r1) (fun r2 => ?_)
    refine Seg.blk0 (f' := (if (r2 : Int32) = (-1) then 45 else 34, [.ref l0, .int s.1, .int s.2.1, .int s.2.2, .int r2], [])) (h' := h) rfl rfl ?_
    refine Seg.ite (fun _ => ?_) (fun _ => ?_)
    · exact Seg.w (mLw.k (mLw.k (mLw.k (mLw.k (mLw.u mLw.nil))))) (s160_45 h l0 s.1 s.2.1 s.2.2)
    · refine Seg.blk0 (f' := (if (s.2.1 : Int32) ≤ r2 then 45 else 40, [.ref l0, .int s.1, .int s.2.1, .int s.2.2, .int r2], [])) (h' := h) rfl rfl ?_
      refine Seg.ite (fun _ => ?_) (fun _ => ?_)
      · exact Seg.w (mLw.k (mLw.k (mLw.k (mLw.k (mLw.u mLw.nil))))) (s160_45 h l0 s.1 s.2.1 s.2.2)
      · refine Seg.blk0 (f' := (45, [.ref l0, .int s.2.2, .int r2, .int s.2.2, .int r2], [])) (h' := h) rfl rfl ?_
        exact Seg.w (mLw.k (mLw.k (mLw.k (mLw.k (mLw.u mLw.nil))))) (s160_45 h l0 s.2.2 r2 s.2.2)
theorem s160 (h : mH) (l0 : Nat) : Seg 160 (0, [.ref l0, .retAddr 0, .retAddr 0, .retAddr 0, .retAddr 0], []) h (f160 h l0) (fun (q : Int32) (res : Option Value × mH) => res = (some (.int q), h)) := by
  unfold f160
  refine Seg.blk0 (f' := (7, [.ref l0, .int (-1), .int 7, .int 0, .retAddr 0], [])) (h' := h) rfl rfl ?_
  exact Seg.w (mLw.k (mLw.k (mLw.k (mLw.k (mLw.k mLw.nil))))) (s160_7 h l0 mFuel ((-1), 7, 0))
theorem s159_31 (h : mH) (l4 : Int32) : Seg 159 (31, [.retAddr 0, .retAddr 0, .retAddr 0, .retAddr 0, .int l4], []) h (f159_31 h l4) (fun (q : Int32) (res : Option Value × mH) => res = (some (.int q), h)) := by
  unfold f159_31
  exact Seg.ret (f1 := (33, [.retAddr 0, .retAddr 0, .retAddr 0, .retAddr 0, .int l4], [.int l4])) (h1 := h) rfl rfl rfl rfl (fun _ q => q)
theorem s159 (h : mH) (l0 : Nat) (l1 : Int32) (l2 : Int32) : Seg 159 (0, [.ref l0, .int l1, .int l2, .retAddr 0, .retAddr 0], []) h (f159 h l0 l1 l2) (fun (q : Int32) (res : Option Value × mH) => res = (some (.int q), h)) := by
  unfold f159
  refine Seg.callP (f1 := (5, [.ref l0, .int l1, .int l2, .retAddr 0, .retAddr 0], [.int l1, .ref ((mR h l0 0).getD 0)])) (h1 := h) (cv := fun r => some (va_rf r)) rfl rfl rfl rfl (s53 h ((mR h l0 0).getD 0) l1) (fun r1 => ?_)
  cases r1 with
  | none =>
    refine Seg.blk0 (f' := (13, [.ref l0, .int l1, .int l2, .null, .retAddr 0], [])) (h' := h) rfl rfl ?_
    exact Seg.ret (f1 := (14, [.ref l0, .int l1, .int l2, .null, .retAddr 0], [.int (-1)])) (h1 := h) rfl rfl rfl rfl (fun _ q => q)
  | some a1 =>
    refine Seg.blk0 (f' := (15, [.ref l0, .int l1, .int l2, .ref a1, .retAddr 0], [])) (h' := h) rfl rfl ?_
    refine Seg.callP (f1 := (16, [.ref l0, .int l1, .int l2, .ref a1, .retAddr 0], [.ref a1])) (h1 := h) (cv := fun r => some (.int r)) rfl rfl rfl rfl (s160 h a1) (fun r2 => ?_)
    refine Seg.blk0 (f' := (if (l2 : Int32) = 0 then 31 else 25, [.ref l0, .int l1, .int l2, .ref a1, .int r2], [])) (h' := h) rfl rfl ?_
    refine Seg.ite (fun _ => ?_) (fun _ => ?_)
    · exact Seg.w (mLw.u (mLw.u (mLw.u (mLw.u (mLw.k mLw.nil))))) (s159_31 h r2)
    · refine Seg.blk0 (f' := (if (r2 : Int32) = (-1) then 31 else 34, [.ref l0, .int l1, .int l2, .ref a1, .int r2], [])) (h' := h) rfl rfl ?_
      refine Seg.ite (fun _ => ?_) (fun _ => ?_)
      · exact Seg.w (mLw.u (mLw.u (mLw.u (mLw.u (mLw.k mLw.nil))))) (s159_31 h r2)
      · refine Seg.callP (f1 := (40, [.ref l0, .int l1, .int l2, .ref a1, .int r2], [.ref a1, .int ((1 : Int32) <<< (r2 &&& (31 : Int32))), .ref a1])) (h1 := h) (cv := fun r => some (.int r)) rfl rfl rfl rfl (s98 h a1) (fun r3 => ?_)
        refine Seg.callP (f1 := (43, [.ref l0, .int l1, .int l2, .ref a1, .int r2], [.int r3, .int ((1 : Int32) <<< (r2 &&& (31 : Int32))), .ref a1])) (h1 := h) (cv := fun r => some (.int r)) rfl rfl rfl rfl (s158 h a1 ((1 : Int32) <<< (r2 &&& (31 : Int32))) r3) (fun r4 => ?_)
        exact Seg.ret (f1 := (46, [.ref l0, .int l1, .int l2, .ref a1, .int r2], [.int r4])) (h1 := h) rfl rfl rfl rfl (fun _ q => q)
theorem s163 (h : mH) (l0 : Nat) (l1 : Int32) (l2 : Int32) : Seg 163 (0, [.ref l0, .int l1, .int l2, .retAddr 0], []) h (f163 h l0 l1 l2) (fun (q : Int32) (res : Option Value × mH) => res = (some (.int q), h)) := by
  unfold f163
  refine Seg.callP (f1 := (1, [.ref l0, .int l1, .int l2, .retAddr 0], [.ref l0])) (h1 := h) (cv := fun r => some (.int r)) rfl rfl rfl rfl (s98 h l0) (fun r1 => ?_)
  refine Seg.callP (f1 := (18, [.ref l0, .int l1, .int l2, .int (r1 &&& (((1 : Int32) <<< (l2 &&& (31 : Int32))) ^^^ (-1)))], [.int (r1 &&& (((1 : Int32) <<< (l2 &&& (31 : Int32))) ^^^ (-1))), .int 9, .int ((1 : Int32) <<< (l1 &&& (31 : Int32))), .ref l0])) (h1 := h) (cv := fun r => some (.int r)) rfl rfl rfl rfl (s99 h l0 ((1 : Int32) <<< (l1 &&& (31 : Int32))) 9 (r1 &&& (((1 : Int32) <<< (l2 &&& (31 : Int32))) ^^^ (-1)))) (fun r2 => ?_)
  refine Seg.callP (f1 := (21, [.ref l0, .int l1, .int l2, .int (r1 &&& (((1 : Int32) <<< (l2 &&& (31 : Int32))) ^^^ (-1)))], [.int r2])) (h1 := h) (cv := fun r => some (.int r)) rfl rfl rfl rfl (s66 h r2) (fun r3 => ?_)
  exact Seg.ret (f1 := (26, [.ref l0, .int l1, .int l2, .int (r1 &&& (((1 : Int32) <<< (l2 &&& (31 : Int32))) ^^^ (-1)))], [.int (r3 - 1)])) (h1 := h) rfl rfl rfl rfl (fun _ q => q)
theorem s162_45 (h : mH) (l0 : Nat) (l1 : Int32) (l2 : Int32) (l3 : Int32) (l4 : Int32) : Seg 162 (45, [.ref l0, .int l1, .int l2, .int l3, .int l4], []) h (f162_45 h l0 l1 l2 l3 l4) (Sum.elim (fun s : (Int32 × Int32 × Int32) => Ev 162 (8, [.ref l0, .int l1, .int s.1, .int s.2.1, .int s.2.2], []) h) (fun (q : Int32) (res : Option Value × mH) => res = (some (.int q), h))) := by
  unfold f162_45
  refine Seg.blk0 (f' := (8, [.ref l0, .int l1, .int l2, .int l3, .int (l4 + 1)], [])) (h' := h) rfl rfl ?_
  exact Seg.cont (fun _ q => Ev.w (mLw.k (mLw.k (mLw.k (mLw.k (mLw.k mLw.nil))))) q)
theorem s162_8 (h : mH) (l0 : Nat) (l1 : Int32) : ∀ (n : Nat) (s : (Int32 × Int32 × Int32)), Seg 162 (8, [.ref l0, .int l1, .int s.1, .int s.2.1, .int s.2.2], []) h (mLoop (f162_8 h l0 l1) n s) (fun (q : Int32) (res : Option Value × mH) => res = (some (.int q), h)) := by
  refine Seg.loop (F := fun s : (Int32 × Int32 × Int32) => (8, [.ref l0, .int l1, .int s.1, .int s.2.1, .int s.2.2], [])) (H := fun s : (Int32 × Int32 × Int32) => h) (fun s => ?_)
  show Seg 162 (8, [.ref l0, .int l1, .int s.1, .int s.2.1, .int s.2.2], []) h _ (Sum.elim (fun s : (Int32 × Int32 × Int32) => Ev 162 (8, [.ref l0, .int l1, .int s.1, .int s.2.1, .int s.2.2], []) h) (fun (q : Int32) (res : Option Value × mH) => res = (some (.int q), h)))
  unfold f162_8
  refine Seg.blk (f' := (if ((mI h l0 7) : Int32) ≤ s.2.2 then 51 else 17, [.ref l0, .int l1, .int s.1, .int s.2.1, .int s.2.2], [])) (h' := h) rfl rfl ?_
  refine Seg.ite (fun _ => ?_) (fun _ => ?_)
  · refine Seg.x ?_
    exact Seg.ret (f1 := (52, [.ref l0, .int l1, .int s.1, .int s.2.1, .int s.2.2], [.int s.1])) (h1 := h) rfl rfl rfl rfl (fun _ q => q)
  · refine Seg.blk0 (f' := (if (s.2.2 : Int32) = l1 then 45 else 23, [.ref l0, .int l1, .int s.1, .int s.2.1, .int s.2.2], [])) (h' := h) rfl rfl ?_
    refine Seg.ite (fun _ => ?_) (fun _ => ?_)
    · exact Seg.w (mLw.k (mLw.k (mLw.k (mLw.k (mLw.k mLw.nil))))) (s162_45 h l0 l1 s.1 s.2.1 s.2.2)
    · refine Seg.callP (f1 := (27, [.ref l0, .int l1, .int s.1, .int s.2.1, .int s.2.2], [.int s.2.2, .int l1, .ref l0])) (h1 := h) (cv := fun r => some (.int r)) rfl rfl rfl rfl (s163 h l0 l1 s.2.2) (fun r1 => ?_)
      refine Seg.blk0 (f' := (if (s.2.1 : Int32) ≤ r1 then 45 else 34, [.ref l0, .int l1, .int s.1, .int s.2.1, .int s.2.2], [])) (h' := h) rfl rfl ?_
      refine Seg.ite (fun _ => ?_) (fun _ => ?_)
      · exact Seg.w (mLw.k (mLw.k (mLw.k (mLw.k (mLw.k mLw.nil))))) (s162_45 h l0 l1 s.1 s.2.1 s.2.2)
      · refine Seg.callP (f1 := (41, [.ref l0, .int l1, .int s.2.2, .int s.2.1, .int s.2.2], [.int s.2.2, .int l1, .ref l0])) (h1 := h) (cv := fun r => some (.int r)) rfl rfl rfl rfl (s163 h l0 l1 s.2.2) (fun r2 => ?_)
        refine Seg.blk0 (f' := (45, [.ref l0, .int l1, .int s.2.2, .int r2, .int s.2.2], [])) (h' := h) rfl rfl ?_
        exact Seg.w (mLw.k (mLw.k (mLw.k (mLw.k (mLw.k mLw.nil))))) (s162_45 h l0 l1 s.2.2 r2 s.2.2)
theorem s162 (h : mH) (l0 : Nat) (l1 : Int32) : Seg 162 (0, [.ref l0, .int l1, .retAddr 0, .retAddr 0, .retAddr 0], []) h (f162 h l0 l1) (fun (q : Int32) (res : Option Value × mH) => res = (some (.int q), h)) := by
  unfold f162
  refine Seg.blk0 (f' := (8, [.ref l0, .int l1, .int (-1), .int 7, .int 0], [])) (h' := h) rfl rfl ?_
  exact Seg.w (mLw.k (mLw.k (mLw.k (mLw.k (mLw.k mLw.nil))))) (s162_8 h l0 l1 mFuel ((-1), 7, 0))
theorem s161_24 (h : mH) : Seg 161 (24, [.retAddr 0, .retAddr 0, .retAddr 0, .retAddr 0, .retAddr 0, .retAddr 0], []) h (f161_24 h) (fun (q : Int32) (res : Option Value × mH) => res = (some (.int q), h)) := by
  unfold f161_24
  exact Seg.ret (f1 := (25, [.retAddr 0, .retAddr 0, .retAddr 0, .retAddr 0, .retAddr 0, .retAddr 0], [.int (-1)])) (h1 := h) rfl rfl rfl rfl (fun _ q => q)
theorem s161_44 (h : mH) (l5 : Int32) : Seg 161 (44, [.retAddr 0, .retAddr 0, .retAddr 0, .retAddr 0, .retAddr 0, .int l5], []) h (f161_44 h l5) (fun (q : Int32) (res : Option Value × mH) => res = (some (.int q), h)) := by
  unfold f161_44
  exact Seg.ret (f1 := (46, [.retAddr 0, .retAddr 0, .retAddr 0, .retAddr 0, .retAddr 0, .int l5], [.int l5])) (h1 := h) rfl rfl rfl rfl (fun _ q => q)
theorem s161 (h : mH) (l0 : Nat) (l1 : Int32) (l2 : Int32) (l3 : Int32) : Seg 161 (0, [.ref l0, .int l1, .int l2, .int l3, .retAddr 0, .retAddr 0], []) h (f161 h l0 l1 l2 l3) (fun (q : Int32) (res : Option Value × mH) => res = (some (.int q), h)) := by
  unfold f161
  refine Seg.callP (f1 := (5, [.ref l0, .int l1, .int l2, .int l3, .retAddr 0, .retAddr 0], [.int l1, .ref ((mR h l0 0).getD 0)])) (h1 := h) (cv := fun r => some (va_rf r)) rfl rfl rfl rfl (s53 h ((mR h l0 0).getD 0) l1) (fun r1 => ?_)
  cases r1 with
  | none =>
    refine Seg.blk0 (f' := (24, [.ref l0, .int l1, .int l2, .int l3, .null, .retAddr 0], [])) (h' := h) rfl rfl ?_
    exact Seg.w (mLw.u (mLw.u (mLw.u (mLw.u (mLw.u (mLw.k mLw.nil)))))) (s161_24 h)
  | some a1 =>
    refine Seg.blk0 (f' := (15, [.ref l0, .int l1, .int l2, .int l3, .ref a1, .retAddr 0], [])) (h' := h) rfl rfl ?_
    refine Seg.callP (f1 := (18, [.ref l0, .int l1, .int l2, .int l3, .ref a1, .retAddr 0], [.int l2, .ref a1])) (h1 := h) (cv := fun r => some (.int r)) rfl rfl rfl rfl (s57 h a1 l2) (fun r2 => ?_)
    refine Seg.blk0 (f' := (if (r2 : Int32) = 0 then 24 else 26, [.ref l0, .int l1, .int l2, .int l3, .ref a1, .retAddr 0], [])) (h' := h) rfl rfl ?_
    refine Seg.ite (fun _ => ?_) (fun _ => ?_)
    · exact Seg.w (mLw.u (mLw.u (mLw.u (mLw.u (mLw.u (mLw.k mLw.nil)))))) (s161_24 h)
    · refine Seg.callP (f1 := (29, [.ref l0, .int l1, .int l2, .int l3, .ref a1, .retAddr 0], [.int l2, .ref a1])) (h1 := h) (cv := fun r => some (.int r)) rfl rfl rfl rfl (s162 h a1 l2) (fun r3 => ?_)
      refine Seg.blk0 (f' := (if (l3 : Int32) = 0 then 44 else 38, [.ref l0, .int l1, .int l2, .int l3, .ref a1, .int r3], [])) (h' := h) rfl rfl ?_
      refine Seg.ite (fun _ => ?_) (fun _ => ?_)
      · exact Seg.w (mLw.u (mLw.u (mLw.u (mLw.u (mLw.u (mLw.k mLw.nil)))))) (s161_44 h r3)
      · refine Seg.blk0 (f' := (if (r3 : Int32) = (-1) then 44 else 47, [.ref l0, .int l1, .int l2, .int l3, .ref a1, .int r3], [])) (h' := h) rfl rfl ?_
        refine Seg.ite (fun _ => ?_) (fun _ => ?_)
        · exact Seg.w (mLw.u (mLw.u (mLw.u (mLw.u (mLw.u (mLw.k mLw.nil)))))) (s161_44 h r3)
        · refine Seg.callP (f1 := (52, [.ref l0, .int l1, .int l2, .int l3, .ref a1, .int r3], [.int r3, .int l2, .ref a1])) (h1 := h) (cv := fun r => some (.int r)) rfl rfl rfl rfl (s163 h a1 l2 r3) (fun r4 => ?_)
          exact Seg.ret (f1 := (55, [.ref l0, .int l1, .int l2, .int l3, .ref a1, .int r3], [.int r4])) (h1 := h) rfl rfl rfl rfl (fun _ q => q)
theorem s164_38 (h : mH) : Seg 164 (38, [.retAddr 0, .retAddr 0, .retAddr 0, .retAddr 0, .retAddr 0, .retAddr 0], []) h (f164_38 h) (fun (q : Int64) (res : Option Value × mH) => res = (some (.long q), h)) := by
  unfold f164_38
  exact Seg.ret (f1 := (41, [.retAddr 0, .retAddr 0, .retAddr 0, .retAddr 0, .retAddr 0, .retAddr 0], [.long (-1)])) (h1 := h) rfl rfl rfl rfl (fun _ q => q)
theorem s164 (h : mH) (l0 : Nat) (l1 : Int32) (l2 : Int32) (l3 : Int32) (l4 : Int32) : Seg 164 (0, [.ref l0, .int l1, .int l2, .int l3, .int l4, .retAddr 0], []) h (f164 h l0 l1 l2 l3 l4) (fun (q : Int64) (res : Option Value × mH) => res = (some (.long q), h)) := by
  unfold f164
  refine Seg.callP (f1 := (5, [.ref l0, .int l1, .int l2, .int l3, .int l4, .retAddr 0], [.int l1, .ref ((mR h l0 0).getD 0)])) (h1 := h) (cv := fun r => some (va_rf r)) rfl rfl rfl rfl (s53 h ((mR h l0 0).getD 0) l1) (fun r1 => ?_)
  cases r1 with
  | none =>
    refine Seg.blk0 (f' := (38, [.ref l0, .int l1, .int l2, .int l3, .int l4, .null], [])) (h' := h) rfl rfl ?_
    exact Seg.w (mLw.u (mLw.u (mLw.u (mLw.u (mLw.u (mLw.u mLw.nil)))))) (s164_38 h)
  | some a1 =>
    refine Seg.blk0 (f' := (15, [.ref l0, .int l1, .int l2, .int l3, .int l4, .ref a1], [])) (h' := h) rfl rfl ?_
    refine Seg.callP (f1 := (19, [.ref l0, .int l1, .int l2, .int l3, .int l4, .ref a1], [.ref a1, .int 0, .int l2])) (h1 := h) (cv := fun r => some (.int r)) rfl rfl rfl rfl (s94 h a1) (fun r2 => ?_)
    refine Seg.callP (f1 := (22, [.ref l0, .int l1, .int l2, .int l3, .int l4, .ref a1], [.int r2, .int 0, .int l2])) (h1 := h) (cv := fun r => some (.int r)) rfl rfl rfl rfl (s17 h l2 0 r2) (fun r3 => ?_)
    refine Seg.blk0 (f' := (if (r3 : Int32) = 0 then 38 else 28, [.ref l0, .int l1, .int l2, .int l3, .int l4, .ref a1], [])) (h' := h) rfl rfl ?_
    refine Seg.ite (fun _ => ?_) (fun _ => ?_)
    · exact Seg.w (mLw.u (mLw.u (mLw.u (mLw.u (mLw.u (mLw.u mLw.nil)))))) (s164_38 h)
    · refine Seg.callP (f1 := (32, [.ref l0, .int l1, .int l2, .int l3, .int l4, .ref a1], [.int 9, .int 0, .int l3])) (h1 := h) (cv := fun r => some (.int r)) rfl rfl rfl rfl (s17 h l3 0 9) (fun r4 => ?_)
      refine Seg.blk0 (f' := (if (r4 : Int32) = 0 then 38 else 42, [.ref l0, .int l1, .int l2, .int l3, .int l4, .ref a1], [])) (h' := h) rfl rfl ?_
      refine Seg.ite (fun _ => ?_) (fun _ => ?_)
      · exact Seg.w (mLw.u (mLw.u (mLw.u (mLw.u (mLw.u (mLw.u mLw.nil)))))) (s164_38 h)
      · refine Seg.callP (f1 := (48, [.ref l0, .int l1, .int l2, .int l3, .int l4, .ref a1], [.int l2, .ref a1, .long 10])) (h1 := h) (cv := fun r => some (.int r)) rfl rfl rfl rfl (s106 h a1 l2) (fun r5 => ?_)
        refine Seg.callP (f1 := (60, [.ref l0, .int l1, .int l2, .int l3, .int l4, .ref a1], [.int l4, .long (Int32.toInt64 (10 - l3)), .long (10 * (Int32.toInt64 r5))])) (h1 := h) (cv := fun r => some (.long r)) rfl rfl rfl rfl (s109 h (10 * (Int32.toInt64 r5)) (Int32.toInt64 (10 - l3)) l4) (fun r6 => ?_)
        exact Seg.ret (f1 := (63, [.ref l0, .int l1, .int l2, .int l3, .int l4, .ref a1], [.long r6])) (h1 := h) rfl rfl rfl rfl (fun _ q => q)
theorem s166 (h : mH) (l0 : Nat) (l1 : Int32) : Seg 166 (0, [.ref l0, .int l1], []) h (f166 h l0 l1) (fun (q : Int32) (res : Option Value × mH) => res = (some (.int q), h)) := by
  unfold f166
  refine Seg.blk0 (f' := (if (l1 : Int32) = 0 then 36 else if (l1 : Int32) = 1 then 41 else if (l1 : Int32) = 2 then 46 else if (l1 : Int32) = 3 then 51 else if (l1 : Int32) = 4 then 56 else 61, [.ref l0, .int l1], [])) (h' := h) rfl rfl ?_
  refine Seg.ite (fun _ => ?_) (fun _ => ?_)
  · exact Seg.ret (f1 := (40, [.ref l0, .int l1], [.int (mI h l0 8)])) (h1 := h) rfl rfl rfl rfl (fun _ q => q)
  refine Seg.ite (fun _ => ?_) (fun _ => ?_)
  · exact Seg.ret (f1 := (45, [.ref l0, .int l1], [.int (mI h l0 9)])) (h1 := h) rfl rfl rfl rfl (fun _ q => q)
  refine Seg.ite (fun _ => ?_) (fun _ => ?_)
  · exact Seg.ret (f1 := (50, [.ref l0, .int l1], [.int (mI h l0 10)])) (h1 := h) rfl rfl rfl rfl (fun _ q => q)
  refine Seg.ite (fun _ => ?_) (fun _ => ?_)
  · exact Seg.ret (f1 := (55, [.ref l0, .int l1], [.int (mI h l0 12)])) (h1 := h) rfl rfl rfl rfl (fun _ q => q)
  refine Seg.ite (fun _ => ?_) (fun _ => ?_)
  · exact Seg.ret (f1 := (60, [.ref l0, .int l1], [.int (mI h l0 13)])) (h1 := h) rfl rfl rfl rfl (fun _ q => q)
  · exact Seg.ret (f1 := (63, [.ref l0, .int l1], [.int (-2)])) (h1 := h) rfl rfl rfl rfl (fun _ q => q)
theorem s165_30 (h : mH) : Seg 165 (30, [.retAddr 0, .retAddr 0, .retAddr 0, .retAddr 0, .retAddr 0, .retAddr 0], []) h (f165_30 h) (fun (q : Int32 × mH) (res : Option Value × mH) => res = (some (.int q.1), q.2)) := by
  unfold f165_30
  exact Seg.ret (f1 := (32, [.retAddr 0, .retAddr 0, .retAddr 0, .retAddr 0, .retAddr 0, .retAddr 0], [.int (-2)])) (h1 := h) rfl rfl rfl rfl (fun _ q => q)
theorem s165 (h : mH) (l0 : Nat) (l1 : Int32) (l2 : Int32) (l3 : Int32) : Seg 165 (0, [.ref l0, .int l1, .int l2, .int l3, .retAddr 0, .retAddr 0], []) h (f165 h l0 l1 l2 l3) (fun (q : Int32 × mH) (res : Option Value × mH) => res = (some (.int q.1), q.2)) := by
  unfold f165
  refine Seg.callP (f1 := (5, [.ref l0, .int l1, .int l2, .int l3, .retAddr 0, .retAddr 0], [.int l1, .ref ((mR h l0 0).getD 0)])) (h1 := h) (cv := fun r => some (va_rf r)) rfl rfl rfl rfl (s53 h ((mR h l0 0).getD 0) l1) (fun r1 => ?_)
  cases r1 with
  | none =>
    refine Seg.callP (f1 := (15, [.ref l0, .int l1, .int l2, .int l3, .null, .retAddr 0], [.int l2, .ref ((mR h l0 0).getD 0)])) (h1 := h) (cv := fun r => some (va_rf r)) rfl rfl rfl rfl (s59 h ((mR h l0 0).getD 0) l2) (fun r2 => ?_)
    cases r2 with
    | none =>
      refine Seg.blk0 (f' := (30, [.ref l0, .int l1, .int l2, .int l3, .null, .null], [])) (h' := h) rfl rfl ?_
      exact Seg.w (mLw.u (mLw.u (mLw.u (mLw.u (mLw.u (mLw.u mLw.nil)))))) (s165_30 h)
    | some a2 =>
      refine Seg.blk0 (f' := (30, [.ref l0, .int l1, .int l2, .int l3, .null, .ref a2], [])) (h' := h) rfl rfl ?_
      exact Seg.w (mLw.u (mLw.u (mLw.u (mLw.u (mLw.u (mLw.u mLw.nil)))))) (s165_30 h)
  | some a1 =>
    refine Seg.callP (f1 := (15, [.ref l0, .int l1, .int l2, .int l3, .ref a1, .retAddr 0], [.int l2, .ref ((mR h l0 0).getD 0)])) (h1 := h) (cv := fun r => some (va_rf r)) rfl rfl rfl rfl (s59 h ((mR h l0 0).getD 0) l2) (fun r3 => ?_)
    cases r3 with
    | none =>
      refine Seg.blk0 (f' := (25, [.ref l0, .int l1, .int l2, .int l3, .ref a1, .null], [])) (h' := h) rfl rfl ?_
      refine Seg.blk0 (f' := (30, [.ref l0, .int l1, .int l2, .int l3, .ref a1, .null], [])) (h' := h) rfl rfl ?_
      exact Seg.w (mLw.u (mLw.u (mLw.u (mLw.u (mLw.u (mLw.u mLw.nil)))))) (s165_30 h)
    | some a3 =>
      refine Seg.blk0 (f' := (25, [.ref l0, .int l1, .int l2, .int l3, .ref a1, .ref a3], [])) (h' := h) rfl rfl ?_
      refine Seg.blk0 (f' := (33, [.ref l0, .int l1, .int l2, .int l3, .ref a1, .ref a3], [])) (h' := h) rfl rfl ?_
      refine Seg.call (f1 := (46, [.ref l0, .int l1, .int l2, .int l3, .ref a1, .ref a3], [.int (mI h a3 3), .ref a3, .ref a1, .ref ((mR h l0 4).getD 0)])) (h1 := h) (cv := fun r => some (.int r)) rfl rfl rfl rfl (s62 h ((mR h l0 4).getD 0) a1 a3 (mI h a3 3)) (fun r4 => ?_)
      refine Seg.callP (f1 := (55, [.ref l0, .int l1, .int l2, .int l3, .ref a1, .ref a3], [.int l3, .ref ((mR r4.2 l0 4).getD 0)])) (h1 := r4.2) (cv := fun r => some (.int r)) rfl rfl rfl rfl (s166 r4.2 ((mR r4.2 l0 4).getD 0) l3) (fun r5 => ?_)
      exact Seg.ret (f1 := (58, [.ref l0, .int l1, .int l2, .int l3, .ref a1, .ref a3], [.int r5])) (h1 := r4.2) rfl rfl rfl rfl (fun _ q => q)
theorem s167_19 (h : mH) : Seg 167 (19, [.retAddr 0, .retAddr 0, .retAddr 0, .retAddr 0, .retAddr 0, .retAddr 0], []) h (f167_19 h) (fun (q : Int64 × mH) (res : Option Value × mH) => res = (some (.long q.1), q.2)) := by
  unfold f167_19
  exact Seg.ret (f1 := (22, [.retAddr 0, .retAddr 0, .retAddr 0, .retAddr 0, .retAddr 0, .retAddr 0], [.long (-1)])) (h1 := h) rfl rfl rfl rfl (fun _ q => q)
theorem s167_47 (h : mH) : Seg 167 (47, [.retAddr 0, .retAddr 0, .retAddr 0, .retAddr 0, .retAddr 0, .retAddr 0], []) h (f167_47 h) (fun (q : Int64 × mH) (res : Option Value × mH) => res = (some (.long q.1), q.2)) := by
  unfold f167_47
  exact Seg.ret (f1 := (50, [.retAddr 0, .retAddr 0, .retAddr 0, .retAddr 0, .retAddr 0, .retAddr 0], [.long (-1)])) (h1 := h) rfl rfl rfl rfl (fun _ q => q)
theorem s167 (h : mH) (l0 : Nat) (l1 : Int32) (l2 : Int32) (l3 : Int32) (l4 : Int32) : Seg 167 (0, [.ref l0, .int l1, .int l2, .int l3, .int l4, .retAddr 0], []) h (f167 h l0 l1 l2 l3 l4) (fun (q : Int64 × mH) (res : Option Value × mH) => res = (some (.long q.1), q.2)) := by
  unfold f167
  refine Seg.call (f1 := (3, [.ref l0, .int l1, .int l2, .int l3, .int l4, .retAddr 0], [.int l2, .int l1, .ref l0])) (h1 := h) (cv := fun r => some (.int r)) rfl rfl rfl rfl (s114 h l0 l1 l2) (fun r1 => ?_)
  refine Seg.blk0 (f' := (if (r1.1 : Int32) = 0 then 19 else 9, [.ref l0, .int l1, .int l2, .int l3, .int l4, .retAddr 0], [])) (h' := r1.2) rfl rfl ?_
  refine Seg.ite (fun _ => ?_) (fun _ => ?_)
  · exact Seg.w (mLw.u (mLw.u (mLw.u (mLw.u (mLw.u (mLw.k mLw.nil)))))) (s167_19 r1.2)
  · refine Seg.blk (f' := (if ((mI r1.2 ((mR r1.2 l0 8).getD 0) 1) : Int32) = 0 then 19 else 23, [.ref l0, .int l1, .int l2, .int l3, .int l4, .retAddr 0], [])) (h' := r1.2) rfl rfl ?_
    refine Seg.ite (fun _ => ?_) (fun _ => ?_)
    · exact Seg.w (mLw.u (mLw.u (mLw.u (mLw.u (mLw.u (mLw.k mLw.nil)))))) (s167_19 r1.2)
    · refine Seg.callP (f1 := (28, [.ref l0, .int l1, .int l2, .int l3, .int l4, .retAddr 0], [.int l1, .ref ((mR r1.2 l0 0).getD 0)])) (h1 := r1.2) (cv := fun r => some (va_rf r)) rfl rfl rfl rfl (s53 r1.2 ((mR r1.2 l0 0).getD 0) l1) (fun r2 => ?_)
      cases r2 with
      | none =>
        refine Seg.blk0 (f' := (47, [.ref l0, .int l1, .int l2, .int l3, .int l4, .null], [])) (h' := r1.2) rfl rfl ?_
        exact Seg.w (mLw.u (mLw.u (mLw.u (mLw.u (mLw.u (mLw.u mLw.nil)))))) (s167_47 r1.2)
      | some a2 =>
        refine Seg.blk0 (f' := (38, [.ref l0, .int l1, .int l2, .int l3, .int l4, .ref a2], [])) (h' := r1.2) rfl rfl ?_
        refine Seg.callP (f1 := (41, [.ref l0, .int l1, .int l2, .int l3, .int l4, .ref a2], [.int l3, .ref a2])) (h1 := r1.2) (cv := fun r => some (.int r)) rfl rfl rfl rfl (s57 r1.2 a2 l3) (fun r3 => ?_)
        refine Seg.blk0 (f' := (if (r3 : Int32) = 0 then 47 else 51, [.ref l0, .int l1, .int l2, .int l3, .int l4, .ref a2], [])) (h' := r1.2) rfl rfl ?_
        refine Seg.ite (fun _ => ?_) (fun _ => ?_)
        · exact Seg.w (mLw.u (mLw.u (mLw.u (mLw.u (mLw.u (mLw.u mLw.nil)))))) (s167_47 r1.2)
        · refine Seg.callP (f1 := (56, [.ref l0, .int l1, .int l2, .int l3, .int l4, .ref a2], [.int l3, .ref ((mR r1.2 l0 8).getD 0)])) (h1 := r1.2) (cv := fun r => some (.int r)) rfl rfl rfl rfl (s120 r1.2 ((mR r1.2 l0 8).getD 0) l3) (fun r4 => ?_)
          refine Seg.callP (f1 := (70, [.ref l0, .int l1, .int l2, .int l3, .int l4, .ref a2], [.int l4, .long (Int32.toInt64 (mI r1.2 ((mR r1.2 l0 8).getD 0) 1)), .long (Int32.toInt64 r4)])) (h1 := r1.2) (cv := fun r => some (.long r)) rfl rfl rfl rfl (s109 r1.2 (Int32.toInt64 r4) (Int32.toInt64 (mI r1.2 ((mR r1.2 l0 8).getD 0) 1)) l4) (fun r5 => ?_)
          exact Seg.ret (f1 := (73, [.ref l0, .int l1, .int l2, .int l3, .int l4, .ref a2], [.long r5])) (h1 := r1.2) rfl rfl rfl rfl (fun _ q => q)
theorem s169_4 (h : mH) (l0 : Nat) : ∀ (n : Nat) (s : (Int32 × Int32)), Seg 169 (4, [.ref l0, .int s.1, .int s.2], []) h (mLoop (f169_4 h l0) n s) (fun (q : Int32) (res : Option Value × mH) => res = (some (.int q), h)) := by
  refine Seg.loop (F := fun s : (Int32 × Int32) => (4, [.ref l0, .int s.1, .int s.2], [])) (H := fun s : (Int32 × Int32) => h) (fun s => ?_)
  show Seg 169 (4, [.ref l0, .int s.1, .int s.2], []) h _ (Sum.elim (fun s : (Int32 × Int32) => Ev 169 (4, [.ref l0, .int s.1, .int s.2], []) h) (fun (q : Int32) (res : Option Value × mH) => res = (some (.int q), h)))
  unfold f169_4
  refine Seg.blk (f' := (if ((mI h l0 1) : Int32) ≤ s.2 then 32 else 12, [.ref l0, .int s.1, .int s.2], [])) (h' := h) rfl rfl ?_
  refine Seg.ite (fun _ => ?_) (fun _ => ?_)
  · refine Seg.x ?_
    exact Seg.ret (f1 := (33, [.ref l0, .int s.1, .int s.2], [.int s.1])) (h1 := h) rfl rfl rfl rfl (fun _ q => q)
  · refine Seg.blk (f' := (4, [.ref l0, .int (if (s.1 : Int32) < ((mI h ((mR h l0 0).getD 0) (Int32.toNatClampNeg s.2)) - (mI h ((mR h l0 0).getD 0) (Int32.toNatClampNeg s.2)) / 10 * 10) then ((mI h ((mR h l0 0).getD 0) (Int32.toNatClampNeg s.2)) - (mI h ((mR h l0 0).getD 0) (Int32.toNatClampNeg s.2)) / 10 * 10) else s.1), .int (s.2 + 1)], [])) (h' := h) rfl rfl ?_
    exact Seg.cont (fun _ q => Ev.w (mLw.k (mLw.k (mLw.k mLw.nil))) q)
theorem s169 (h : mH) (l0 : Nat) : Seg 169 (0, [.ref l0, .retAddr 0, .retAddr 0], []) h (f169 h l0) (fun (q : Int32) (res : Option Value × mH) => res = (some (.int q), h)) := by
  unfold f169
  refine Seg.blk0 (f' := (4, [.ref l0, .int 0, .int 0], [])) (h' := h) rfl rfl ?_
  exact Seg.w (mLw.k (mLw.k (mLw.k mLw.nil))) (s169_4 h l0 mFuel (0, 0))
theorem s170_5 (h : mH) (l0 : Nat) : ∀ (n : Nat) (s : (Int32 × Int32)), Seg 170 (5, [.ref l0, .int s.1, .int s.2], []) h (mLoop (f170_5 h l0) n s) (fun (q : Int32) (res : Option Value × mH) => res = (some (.int q), h)) := by
  refine Seg.loop (F := fun s : (Int32 × Int32) => (5, [.ref l0, .int s.1, .int s.2], [])) (H := fun s : (Int32 × Int32) => h) (fun s => ?_)
  show Seg 170 (5, [.ref l0, .int s.1, .int s.2], []) h _ (Sum.elim (fun s : (Int32 × Int32) => Ev 170 (5, [.ref l0, .int s.1, .int s.2], []) h) (fun (q : Int32) (res : Option Value × mH) => res = (some (.int q), h)))
  unfold f170_5
  refine Seg.blk (f' := (if ((mI h l0 1) : Int32) ≤ s.2 then 33 else 13, [.ref l0, .int s.1, .int s.2], [])) (h' := h) rfl rfl ?_
  refine Seg.ite (fun _ => ?_) (fun _ => ?_)
  · refine Seg.x ?_
    exact Seg.ret (f1 := (34, [.ref l0, .int s.1, .int s.2], [.int s.1])) (h1 := h) rfl rfl rfl rfl (fun _ q => q)
  · refine Seg.blk (f' := (5, [.ref l0, .int (if (((mI h ((mR h l0 0).getD 0) (Int32.toNatClampNeg s.2)) - (mI h ((mR h l0 0).getD 0) (Int32.toNatClampNeg s.2)) / 10 * 10) : Int32) < s.1 then ((mI h ((mR h l0 0).getD 0) (Int32.toNatClampNeg s.2)) - (mI h ((mR h l0 0).getD 0) (Int32.toNatClampNeg s.2)) / 10 * 10) else s.1), .int (s.2 + 1)], [])) (h' := h) rfl rfl ?_
    exact Seg.cont (fun _ q => Ev.w (mLw.k (mLw.k (mLw.k mLw.nil))) q)
theorem s170 (h : mH) (l0 : Nat) : Seg 170 (0, [.ref l0, .retAddr 0, .retAddr 0], []) h (f170 h l0) (fun (q : Int32) (res : Option Value × mH) => res = (some (.int q), h)) := by
  unfold f170
  refine Seg.blk0 (f' := (5, [.ref l0, .int 9, .int 0], [])) (h' := h) rfl rfl ?_
  exact Seg.w (mLw.k (mLw.k (mLw.k mLw.nil))) (s170_5 h l0 mFuel (9, 0))
theorem s168_19 (h : mH) : Seg 168 (19, [.retAddr 0, .retAddr 0, .retAddr 0, .retAddr 0], []) h (f168_19 h) (fun (q : Int32 × mH) (res : Option Value × mH) => res = (some (.int q.1), q.2)) := by
  unfold f168_19
  exact Seg.ret (f1 := (20, [.retAddr 0, .retAddr 0, .retAddr 0, .retAddr 0], [.int (-1)])) (h1 := h) rfl rfl rfl rfl (fun _ q => q)
theorem s168_42 (h : mH) (q0 : Int32) : Seg 168 (42, [.retAddr 0, .retAddr 0, .retAddr 0, .retAddr 0], [.int q0]) h (f168_42 h q0) (fun (q : Int32 × mH) (res : Option Value × mH) => res = (some (.int q.1), q.2)) := by
  unfold f168_42
  exact Seg.ret (f1 := (42, [.retAddr 0, .retAddr 0, .retAddr 0, .retAddr 0], [.int q0])) (h1 := h) rfl rfl rfl rfl (fun _ q => q)
theorem s168 (h : mH) (l0 : Nat) (l1 : Int32) (l2 : Int32) (l3 : Int32) : Seg 168 (0, [.ref l0, .int l1, .int l2, .int l3], []) h (f168 h l0 l1 l2 l3) (fun (q : Int32 × mH) (res : Option Value × mH) => res = (some (.int q.1), q.2)) := by
  unfold f168
  refine Seg.call (f1 := (3, [.ref l0, .int l1, .int l2, .int l3], [.int l2, .int l1, .ref l0])) (h1 := h) (cv := fun r => some (.int r)) rfl rfl rfl rfl (s114 h l0 l1 l2) (fun r1 => ?_)
  refine Seg.blk0 (f' := (if (r1.1 : Int32) = 0 then 19 else 9, [.ref l0, .int l1, .int l2, .int l3], [])) (h' := r1.2) rfl rfl ?_
  refine Seg.ite (fun _ => ?_) (fun _ => ?_)
  · exact Seg.w (mLw.u (mLw.u (mLw.u (mLw.u mLw.nil)))) (s168_19 r1.2)
  · refine Seg.blk (f' := (if ((mI r1.2 ((mR r1.2 l0 8).getD 0) 1) : Int32) = 0 then 19 else 21, [.ref l0, .int l1, .int l2, .int l3], [])) (h' := r1.2) rfl rfl ?_
    refine Seg.ite (fun _ => ?_) (fun _ => ?_)
    · exact Seg.w (mLw.u (mLw.u (mLw.u (mLw.u mLw.nil)))) (s168_19 r1.2)
    · refine Seg.blk0 (f' := (if (l3 : Int32) = 0 then 35 else 25, [.ref l0, .int l1, .int l2, .int l3], [])) (h' := r1.2) rfl rfl ?_
      refine Seg.ite (fun _ => ?_) (fun _ => ?_)
      · refine Seg.callP (f1 := (39, [.ref l0, .int l1, .int l2, .int l3], [.ref ((mR r1.2 l0 8).getD 0)])) (h1 := r1.2) (cv := fun r => some (.int r)) rfl rfl rfl rfl (s170 r1.2 ((mR r1.2 l0 8).getD 0)) (fun r2 => ?_)
        exact Seg.w (mLw.u (mLw.u (mLw.u (mLw.u mLw.nil)))) (s168_42 r1.2 r2)
      · refine Seg.callP (f1 := (29, [.ref l0, .int l1, .int l2, .int l3], [.ref ((mR r1.2 l0 8).getD 0)])) (h1 := r1.2) (cv := fun r => some (.int r)) rfl rfl rfl rfl (s169 r1.2 ((mR r1.2 l0 8).getD 0)) (fun r3 => ?_)
        refine Seg.blk0 (f' := (42, [.ref l0, .int l1, .int l2, .int l3], [.int r3])) (h' := r1.2) rfl rfl ?_
        exact Seg.w (mLw.u (mLw.u (mLw.u (mLw.u mLw.nil)))) (s168_42 r1.2 r3)
theorem s171_23 (h : mH) (q0 : Int32) : Seg 171 (23, [.retAddr 0, .retAddr 0], [.int q0]) h (f171_23 h q0) (fun (q : Int32) (res : Option Value × mH) => res = (some (.int q), h)) := by
  unfold f171_23
  exact Seg.ret (f1 := (23, [.retAddr 0, .retAddr 0], [.int q0])) (h1 := h) rfl rfl rfl rfl (fun _ q => q)
theorem s171 (h : mH) (l0 : Nat) (l1 : Int32) : Seg 171 (0, [.ref l0, .int l1], []) h (f171 h l0 l1) (fun (q : Int32) (res : Option Value × mH) => res = (some (.int q), h)) := by
  unfold f171
  refine Seg.callP (f1 := (3, [.ref l0, .int l1], [.int 2, .int 0, .int l1])) (h1 := h) (cv := fun r => some (.int r)) rfl rfl rfl rfl (s17 h l1 0 2) (fun r1 => ?_)
  refine Seg.blk0 (f' := (if (r1 : Int32) = 0 then 21 else 9, [.ref l0, .int l1], [])) (h' := h) rfl rfl ?_
  refine Seg.ite (fun _ => ?_) (fun _ => ?_)
  · refine Seg.blk0 (f' := (23, [.ref l0, .int l1], [.int (-2)])) (h' := h) rfl rfl ?_
    exact Seg.w (mLw.u (mLw.u mLw.nil)) (s171_23 h (-2))
  · refine Seg.blk (f' := (23, [.ref l0, .int l1], [.int (mI h ((mR h ((mR h l0 0).getD 0) 1).getD 0) (Int32.toNatClampNeg l1))])) (h' := h) rfl rfl ?_
    exact Seg.w (mLw.u (mLw.u mLw.nil)) (s171_23 h (mI h ((mR h ((mR h l0 0).getD 0) 1).getD 0) (Int32.toNatClampNeg l1)))
theorem s173_112 (h : mH) : Seg 173 (112, [.retAddr 0, .retAddr 0, .retAddr 0], []) h (f173_112 h) (fun (q : Unit × mH) (res : Option Value × mH) => res = (none, q.2)) := by
  unfold f173_112
  exact Seg.ret (f1 := (112, [.retAddr 0, .retAddr 0, .retAddr 0], [])) (h1 := h) rfl rfl rfl rfl (fun _ q => q)
theorem s173_32 (l0 : Nat) (l1 : Nat) : ∀ (n : Nat) (s : (Int32 × mH)), Seg 173 (32, [.ref l0, .ref l1, .int s.1], []) s.2 (mLoop (f173_32 l0 l1) n s) (fun (q : Unit × mH) (res : Option Value × mH) => res = (none, q.2)) := by
  refine Seg.loop (F := fun s : (Int32 × mH) => (32, [.ref l0, .ref l1, .int s.1], [])) (H := fun s : (Int32 × mH) => s.2) (fun s => ?_)
  show Seg 173 (32, [.ref l0, .ref l1, .int s.1], []) s.2 _ (Sum.elim (fun s : (Int32 × mH) => Ev 173 (32, [.ref l0, .ref l1, .int s.1], []) s.2) (fun (q : Unit × mH) (res : Option Value × mH) => res = (none, q.2)))
  unfold f173_32
  refine Seg.blk0 (f' := (if (2 : Int32) ≤ s.1 then 88 else 37, [.ref l0, .ref l1, .int s.1], [])) (h' := s.2) rfl rfl ?_
  refine Seg.ite (fun _ => ?_) (fun _ => ?_)
  · refine Seg.x ?_
    refine Seg.blk (f' := (96, [.ref l0, .ref l1, .int s.1], [])) (h' := (mSI s.2 l0 5 (mI s.2 l1 5))) rfl rfl ?_
    refine Seg.blk (f' := (104, [.ref l0, .ref l1, .int s.1], [])) (h' := (mSI (mSI s.2 l0 5 (mI s.2 l1 5)) l0 6 (mI (mSI s.2 l0 5 (mI s.2 l1 5)) l1 6))) rfl rfl ?_
    refine Seg.blk (f' := (112, [.ref l0, .ref l1, .int s.1], [])) (h' := (mSI (mSI (mSI s.2 l0 5 (mI s.2 l1 5)) l0 6 (mI (mSI s.2 l0 5 (mI s.2 l1 5)) l1 6)) l0 7 (mI (mSI (mSI s.2 l0 5 (mI s.2 l1 5)) l0 6 (mI (mSI s.2 l0 5 (mI s.2 l1 5)) l1 6)) l1 7))) rfl rfl ?_
    exact Seg.w (mLw.u (mLw.u (mLw.u mLw.nil))) (s173_112 (mSI (mSI (mSI s.2 l0 5 (mI s.2 l1 5)) l0 6 (mI (mSI s.2 l0 5 (mI s.2 l1 5)) l1 6)) l0 7 (mI (mSI (mSI s.2 l0 5 (mI s.2 l1 5)) l0 6 (mI (mSI s.2 l0 5 (mI s.2 l1 5)) l1 6)) l1 7)))
  · refine Seg.call (f1 := (49, [.ref l0, .ref l1, .int s.1], [.ref ((mR s.2 ((mR s.2 l1 2).getD 0) (Int32.toNatClampNeg s.1)).getD 0), .ref ((mR s.2 ((mR s.2 l0 2).getD 0) (Int32.toNatClampNeg s.1)).getD 0)])) (h1 := s.2) (cv := fun _ => none) rfl rfl rfl rfl (s48 s.2 ((mR s.2 ((mR s.2 l0 2).getD 0) (Int32.toNatClampNeg s.1)).getD 0) ((mR s.2 ((mR s.2 l1 2).getD 0) (Int32.toNatClampNeg s.1)).getD 0)) (fun r1 => ?_)
    refine Seg.call (f1 := (64, [.ref l0, .ref l1, .int s.1], [.ref ((mR r1.2 ((mR r1.2 l1 3).getD 0) (Int32.toNatClampNeg s.1)).getD 0), .ref ((mR r1.2 ((mR r1.2 l0 3).getD 0) (Int32.toNatClampNeg s.1)).getD 0)])) (h1 := r1.2) (cv := fun _ => none) rfl rfl rfl rfl (s49 r1.2 ((mR r1.2 ((mR r1.2 l0 3).getD 0) (Int32.toNatClampNeg s.1)).getD 0) ((mR r1.2 ((mR r1.2 l1 3).getD 0) (Int32.toNatClampNeg s.1)).getD 0)) (fun r2 => ?_)
    refine Seg.call (f1 := (79, [.ref l0, .ref l1, .int s.1], [.ref ((mR r2.2 ((mR r2.2 l1 4).getD 0) (Int32.toNatClampNeg s.1)).getD 0), .ref ((mR r2.2 ((mR r2.2 l0 4).getD 0) (Int32.toNatClampNeg s.1)).getD 0)])) (h1 := r2.2) (cv := fun _ => none) rfl rfl rfl rfl (s50 r2.2 ((mR r2.2 ((mR r2.2 l0 4).getD 0) (Int32.toNatClampNeg s.1)).getD 0) ((mR r2.2 ((mR r2.2 l1 4).getD 0) (Int32.toNatClampNeg s.1)).getD 0)) (fun r3 => ?_)
    refine Seg.blk0 (f' := (32, [.ref l0, .ref l1, .int (s.1 + 1)], [])) (h' := r3.2) rfl rfl ?_
    exact Seg.cont (fun _ q => Ev.w (mLw.k (mLw.k (mLw.k mLw.nil))) q)
theorem s173_30 (h : mH) (l0 : Nat) (l1 : Nat) : Seg 173 (30, [.ref l0, .ref l1, .retAddr 0], []) h (f173_30 h l0 l1) (fun (q : Unit × mH) (res : Option Value × mH) => res = (none, q.2)) := by
  unfold f173_30
  refine Seg.blk0 (f' := (32, [.ref l0, .ref l1, .int 0], [])) (h' := h) rfl rfl ?_
  exact Seg.w (mLw.k (mLw.k (mLw.k mLw.nil))) (s173_32 l0 l1 mFuel (0, h))
theorem s173 (h : mH) (l0 : Nat) (l1 : Nat) : Seg 173 (0, [.ref l0, .ref l1, .retAddr 0], []) h (f173 h l0 l1) (fun (q : Unit × mH) (res : Option Value × mH) => res = (none, q.2)) := by
  unfold f173
  refine Seg.blk (f' := (16, [.ref l0, .ref l1, .retAddr 0], [])) (h' := (mCp h ((mR h l1 0).getD 0) (Int32.toNatClampNeg 0) ((mR h l0 0).getD 0) (Int32.toNatClampNeg 0) (Int32.toNatClampNeg 600))) rfl rfl ?_
  refine Seg.blk (f' := (30, [.ref l0, .ref l1, .retAddr 0], [])) (h' := (mCp (mCp h ((mR h l1 0).getD 0) (Int32.toNatClampNeg 0) ((mR h l0 0).getD 0) (Int32.toNatClampNeg 0) (Int32.toNatClampNeg 600)) ((mR h l1 1).getD 0) (Int32.toNatClampNeg 0) ((mR h l0 1).getD 0) (Int32.toNatClampNeg 0) (Int32.toNatClampNeg 3))) rfl rfl ?_
  exact Seg.w (mLw.k (mLw.k (mLw.k mLw.nil))) (s173_30 (mCp (mCp h ((mR h l1 0).getD 0) (Int32.toNatClampNeg 0) ((mR h l0 0).getD 0) (Int32.toNatClampNeg 0) (Int32.toNatClampNeg 600)) ((mR h l1 1).getD 0) (Int32.toNatClampNeg 0) ((mR h l0 1).getD 0) (Int32.toNatClampNeg 0) (Int32.toNatClampNeg 3)) l0 l1)
theorem s172 (h : mH) (l0 : Nat) (l1 : Int32) : Seg 172 (0, [.ref l0, .int l1], []) h (f172 h l0 l1) (fun (q : Int32 × mH) (res : Option Value × mH) => res = (some (.int q.1), q.2)) := by
  unfold f172
  refine Seg.callP (f1 := (3, [.ref l0, .int l1], [.int 2, .int 0, .int l1])) (h1 := h) (cv := fun r => some (.int r)) rfl rfl rfl rfl (s17 h l1 0 2) (fun r1 => ?_)
  refine Seg.blk0 (f' := (if (r1 : Int32) = 0 then 9 else 11, [.ref l0, .int l1], [])) (h' := h) rfl rfl ?_
  refine Seg.ite (fun _ => ?_) (fun _ => ?_)
  · exact Seg.ret (f1 := (10, [.ref l0, .int l1], [.int 0])) (h1 := h) rfl rfl rfl rfl (fun _ q => q)
  · refine Seg.call (f1 := (21, [.ref l0, .int l1], [.ref ((mR h l0 0).getD 0), .ref ((mR h ((mR h l0 1).getD 0) (Int32.toNatClampNeg l1)).getD 0)])) (h1 := h) (cv := fun _ => none) rfl rfl rfl rfl (s173 h ((mR h ((mR h l0 1).getD 0) (Int32.toNatClampNeg l1)).getD 0) ((mR h l0 0).getD 0)) (fun r2 => ?_)
    refine Seg.blk (f' := (31, [.ref l0, .int l1], [])) (h' := (mSI r2.2 ((mR r2.2 l0 2).getD 0) (Int32.toNatClampNeg l1) 1)) rfl rfl ?_
    exact Seg.ret (f1 := (32, [.ref l0, .int l1], [.int 1])) (h1 := (mSI r2.2 ((mR r2.2 l0 2).getD 0) (Int32.toNatClampNeg l1) 1)) rfl rfl rfl rfl (fun _ q => q)
