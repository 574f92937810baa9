/-! The small machine runs the programs; printed by a program of ours. -/
theorem s83_25 (h : mH) : Seg 83 (25, [.retAddr 0, .retAddr 0, .retAddr 0, .retAddr 0, .retAddr 0], []) h (f83_25 h) (fun (q : Int32 × mH) (res : Option Value × mH) => res = (some (.int q.1), q.2)) := by
  unfold f83_25
  exact Seg.ret (f1 := (26, [.retAddr 0, .retAddr 0, .retAddr 0, .retAddr 0, .retAddr 0], [.int (-1)])) (h1 := h) rfl rfl rfl rfl (fun _ q => q)
theorem s83 (h : mH) (l0 : Nat) (l1 : Int32) (l2 : Int32) (l3 : Int32) : Seg 83 (0, [.ref l0, .int l1, .int l2, .int l3, .retAddr 0], []) h (f83 h l0 l1 l2 l3) (fun (q : Int32 × mH) (res : Option Value × mH) => res = (some (.int q.1), q.2)) := by
  unfold f83
  refine Seg.callP (f1 := (5, [.ref l0, .int l1, .int l2, .int l3, .retAddr 0], [.int l1, .ref ((mR h l0 0).getD 0)])) (h1 := h) (cv := fun r => some (va_rf r)) rfl rfl rfl rfl (s53 h ((mR h l0 0).getD 0) l1) (fun r1 => ?_)
  cases r1 with
  | none =>
    refine Seg.blk0 (f' := (25, [.ref l0, .int l1, .int l2, .int l3, .null], [])) (h' := h) rfl rfl ?_
    exact Seg.w (mLw.u (mLw.u (mLw.u (mLw.u (mLw.u mLw.nil))))) (s83_25 h)
  | some a1 =>
    refine Seg.blk0 (f' := (15, [.ref l0, .int l1, .int l2, .int l3, .ref a1], [])) (h' := h) rfl rfl ?_
    refine Seg.callP (f1 := (19, [.ref l0, .int l1, .int l2, .int l3, .ref a1], [.int 20, .int 0, .int l2])) (h1 := h) (cv := fun r => some (.int r)) rfl rfl rfl rfl (s17 h l2 0 20) (fun r2 => ?_)
    refine Seg.blk0 (f' := (if (r2 : Int32) = 0 then 25 else 27, [.ref l0, .int l1, .int l2, .int l3, .ref a1], [])) (h' := h) rfl rfl ?_
    refine Seg.ite (fun _ => ?_) (fun _ => ?_)
    · exact Seg.w (mLw.u (mLw.u (mLw.u (mLw.u (mLw.u mLw.nil))))) (s83_25 h)
    · refine Seg.call (f1 := (35, [.ref l0, .int l1, .int l2, .int l3, .ref a1], [.int 0, .int l2, .ref a1, .ref ((mR h l0 5).getD 0)])) (h1 := h) (cv := fun _ => none) rfl rfl rfl rfl (s84 h ((mR h l0 5).getD 0) a1 l2 0) (fun r3 => ?_)
      refine Seg.callP (f1 := (53, [.ref l0, .int l1, .int l2, .int l3, .ref a1], [.int l3, .int (mI r3.2 ((mR r3.2 l0 5).getD 0) 3), .ref ((mR r3.2 ((mR r3.2 l0 5).getD 0) 0).getD 0)])) (h1 := r3.2) (cv := fun r => some (.int r)) rfl rfl rfl rfl (s88 r3.2 ((mR r3.2 ((mR r3.2 l0 5).getD 0) 0).getD 0) (mI r3.2 ((mR r3.2 l0 5).getD 0) 3) l3) (fun r4 => ?_)
      exact Seg.ret (f1 := (56, [.ref l0, .int l1, .int l2, .int l3, .ref a1], [.int r4])) (h1 := r3.2) rfl rfl rfl rfl (fun _ q => q)
theorem s91_72 (h : mH) : Seg 91 (72, [.retAddr 0, .retAddr 0, .retAddr 0, .retAddr 0, .retAddr 0], []) h (f91_72 h) (fun (q : Int32 × mH) (res : Option Value × mH) => res = (some (.int q.1), q.2)) := by
  unfold f91_72
  exact Seg.ret (f1 := (73, [.retAddr 0, .retAddr 0, .retAddr 0, .retAddr 0, .retAddr 0], [.int 1])) (h1 := h) rfl rfl rfl rfl (fun _ q => q)
theorem s91_46 (l0 : Nat) (l1 : Int32) (l3 : Int32) : ∀ (n : Nat) (s : (Int32 × mH)), Seg 91 (46, [.ref l0, .int l1, .retAddr 0, .int l3, .int s.1], []) s.2 (mLoop (f91_46 l0 l1 l3) n s) (fun (q : Int32 × mH) (res : Option Value × mH) => res = (some (.int q.1), q.2)) := by
  refine Seg.loop (F := fun s : (Int32 × mH) => (46, [.ref l0, .int l1, .retAddr 0, .int l3, .int s.1], [])) (H := fun s : (Int32 × mH) => s.2) (fun s => ?_)
  show Seg 91 (46, [.ref l0, .int l1, .retAddr 0, .int l3, .int s.1], []) s.2 _ (Sum.elim (fun s : (Int32 × mH) => Ev 91 (46, [.ref l0, .int l1, .retAddr 0, .int l3, .int s.1], []) s.2) (fun (q : Int32 × mH) (res : Option Value × mH) => res = (some (.int q.1), q.2)))
  unfold f91_46
  refine Seg.blk0 (f' := (if (l1 : Int32) ≤ s.1 then 72 else 52, [.ref l0, .int l1, .retAddr 0, .int l3, .int s.1], [])) (h' := s.2) rfl rfl ?_
  refine Seg.ite (fun _ => ?_) (fun _ => ?_)
  · refine Seg.x ?_
    exact Seg.w (mLw.u (mLw.u (mLw.k (mLw.u (mLw.u mLw.nil))))) (s91_72 s.2)
  · refine Seg.blk0 (f' := (if (4 : Int32) ≤ s.1 then 72 else 58, [.ref l0, .int l1, .retAddr 0, .int l3, .int s.1], [])) (h' := s.2) rfl rfl ?_
    refine Seg.ite (fun _ => ?_) (fun _ => ?_)
    · refine Seg.x ?_
      exact Seg.w (mLw.u (mLw.u (mLw.k (mLw.u (mLw.u mLw.nil))))) (s91_72 s.2)
    · refine Seg.blk (f' := (66, [.ref l0, .int l1, .retAddr 0, .int l3, .int s.1], [])) (h' := (mSI s.2 ((mR s.2 l0 1).getD 0) (Int32.toNatClampNeg s.1) l3)) rfl rfl ?_
      refine Seg.blk0 (f' := (46, [.ref l0, .int l1, .retAddr 0, .int l3, .int (s.1 + 1)], [])) (h' := (mSI s.2 ((mR s.2 l0 1).getD 0) (Int32.toNatClampNeg s.1) l3)) rfl rfl ?_
      exact Seg.cont (fun _ q => Ev.w (mLw.k (mLw.k (mLw.k (mLw.k (mLw.k mLw.nil))))) q)
theorem s91_28 (h : mH) (l0 : Nat) (l1 : Int32) (l2 : Int32) : Seg 91 (28, [.ref l0, .int l1, .int l2, .retAddr 0, .retAddr 0], []) h (f91_28 h l0 l1 l2) (fun (q : Int32 × mH) (res : Option Value × mH) => res = (some (.int q.1), q.2)) := by
  unfold f91_28
  refine Seg.blk0 (f' := (if (0 : Int32) ≤ l2 then 34 else 32, [.ref l0, .int l1, .int l2, .retAddr 0, .retAddr 0], [])) (h' := h) rfl rfl ?_
  refine Seg.ite (fun _ => ?_) (fun _ => ?_)
  · refine Seg.blk (f' := (46, [.ref l0, .int l1, .int l2, .int ((mI h ((mR h l0 1).getD 0) (Int32.toNatClampNeg l2)) + 1), .int l2], [])) (h' := h) rfl rfl ?_
    exact Seg.w (mLw.k (mLw.k (mLw.u (mLw.k (mLw.k mLw.nil))))) (s91_46 l0 l1 ((mI h ((mR h l0 1).getD 0) (Int32.toNatClampNeg l2)) + 1) mFuel (l2, h))
  · exact Seg.ret (f1 := (33, [.ref l0, .int l1, .int l2, .retAddr 0, .retAddr 0], [.int 0])) (h1 := h) rfl rfl rfl rfl (fun _ q => q)
theorem s91_8 (h : mH) (l0 : Nat) (l1 : Int32) : ∀ (n : Nat) (s : (Int32)), Seg 91 (8, [.ref l0, .int l1, .int s, .retAddr 0, .retAddr 0], []) h (mLoop (f91_8 h l0 l1) n s) (fun (q : Int32 × mH) (res : Option Value × mH) => res = (some (.int q.1), q.2)) := by
  refine Seg.loop (F := fun s : (Int32) => (8, [.ref l0, .int l1, .int s, .retAddr 0, .retAddr 0], [])) (H := fun s : (Int32) => h) (fun s => ?_)
  show Seg 91 (8, [.ref l0, .int l1, .int s, .retAddr 0, .retAddr 0], []) h _ (Sum.elim (fun s : (Int32) => Ev 91 (8, [.ref l0, .int l1, .int s, .retAddr 0, .retAddr 0], []) h) (fun (q : Int32 × mH) (res : Option Value × mH) => res = (some (.int q.1), q.2)))
  unfold f91_8
  refine Seg.blk0 (f' := (if (s : Int32) < 0 then 28 else 12, [.ref l0, .int l1, .int s, .retAddr 0, .retAddr 0], [])) (h' := h) rfl rfl ?_
  refine Seg.ite (fun _ => ?_) (fun _ => ?_)
  · refine Seg.x ?_
    exact Seg.w (mLw.k (mLw.k (mLw.k (mLw.k (mLw.k mLw.nil))))) (s91_28 h l0 l1 s)
  · refine Seg.blk (f' := (if ((mI h ((mR h l0 1).getD 0) (Int32.toNatClampNeg s)) : Int32) = 5 then 22 else 28, [.ref l0, .int l1, .int s, .retAddr 0, .retAddr 0], [])) (h' := h) rfl rfl ?_
    refine Seg.ite (fun _ => ?_) (fun _ => ?_)
    · refine Seg.blk0 (f' := (8, [.ref l0, .int l1, .int (s + (-1)), .retAddr 0, .retAddr 0], [])) (h' := h) rfl rfl ?_
      exact Seg.cont (fun _ q => Ev.w (mLw.k (mLw.k (mLw.k (mLw.k (mLw.k mLw.nil))))) q)
    · refine Seg.x ?_
      exact Seg.w (mLw.k (mLw.k (mLw.k (mLw.k (mLw.k mLw.nil))))) (s91_28 h l0 l1 s)
theorem s91 (h : mH) (l0 : Nat) (l1 : Int32) : Seg 91 (0, [.ref l0, .int l1, .retAddr 0, .retAddr 0, .retAddr 0], []) h (f91 h l0 l1) (fun (q : Int32 × mH) (res : Option Value × mH) => res = (some (.int q.1), q.2)) := by
  unfold f91
  refine Seg.blk0 (f' := (8, [.ref l0, .int l1, .int ((if (4 : Int32) < l1 then 4 else l1) - 1), .retAddr 0, .retAddr 0], [])) (h' := h) rfl rfl ?_
  exact Seg.w (mLw.k (mLw.k (mLw.k (mLw.k (mLw.k mLw.nil))))) (s91_8 h l0 l1 mFuel (((if (4 : Int32) < l1 then 4 else l1) - 1)))
theorem s90_75 (h : mH) (l0 : Nat) (l1 : Nat) (l2 : Int32) (l3 : Int32) (l4 : Int32) : Seg 90 (75, [.ref l0, .ref l1, .int l2, .int l3, .int l4, .retAddr 0, .retAddr 0], []) h (f90_75 h l0 l1 l2 l3 l4) (Sum.elim (fun s : (Int32 × mH) => Ev 90 (3, [.ref l0, .ref l1, .int l2, .int l3, .int s.1, .retAddr 0, .retAddr 0], []) s.2) (fun (q : Int32 × mH) (res : Option Value × mH) => res = (some (.int q.1), q.2))) := by
  unfold f90_75
  refine Seg.blk0 (f' := (3, [.ref l0, .ref l1, .int l2, .int l3, .int (l4 + 1), .retAddr 0, .retAddr 0], [])) (h' := h) rfl rfl ?_
  exact Seg.cont (fun _ q => Ev.w (mLw.k (mLw.k (mLw.k (mLw.k (mLw.k (mLw.k (mLw.k mLw.nil))))))) q)
theorem s90_23 (l0 : Nat) (l1 : Nat) (l2 : Int32) (l3 : Int32) (l4 : Int32) : ∀ (n : Nat) (s : (Int32 × Int32 × mH)), Seg 90 (23, [.ref l0, .ref l1, .int l2, .int l3, .int l4, .int s.1, .int s.2.1], []) s.2.2 (mLoop (f90_23 l0 l1 l2 l3 l4) n s) (Sum.elim (fun s : (Int32 × mH) => Ev 90 (3, [.ref l0, .ref l1, .int l2, .int l3, .int s.1, .retAddr 0, .retAddr 0], []) s.2) (fun (q : Int32 × mH) (res : Option Value × mH) => res = (some (.int q.1), q.2))) := by
  refine Seg.loop (F := fun s : (Int32 × Int32 × mH) => (23, [.ref l0, .ref l1, .int l2, .int l3, .int l4, .int s.1, .int s.2.1], [])) (H := fun s : (Int32 × Int32 × mH) => s.2.2) (fun s => ?_)
  show Seg 90 (23, [.ref l0, .ref l1, .int l2, .int l3, .int l4, .int s.1, .int s.2.1], []) s.2.2 _ (Sum.elim (fun s : (Int32 × Int32 × mH) => Ev 90 (23, [.ref l0, .ref l1, .int l2, .int l3, .int l4, .int s.1, .int s.2.1], []) s.2.2) (Sum.elim (fun s : (Int32 × mH) => Ev 90 (3, [.ref l0, .ref l1, .int l2, .int l3, .int s.1, .retAddr 0, .retAddr 0], []) s.2) (fun (q : Int32 × mH) (res : Option Value × mH) => res = (some (.int q.1), q.2))))
  unfold f90_23
  refine Seg.blk0 (f' := (if (1000 : Int32) ≤ s.2.1 then 75 else 31, [.ref l0, .ref l1, .int l2, .int l3, .int l4, .int s.1, .int s.2.1], [])) (h' := s.2.2) rfl rfl ?_
  refine Seg.ite (fun _ => ?_) (fun _ => ?_)
  · refine Seg.x ?_
    exact Seg.w (mLw.k (mLw.k (mLw.k (mLw.k (mLw.k (mLw.u (mLw.u mLw.nil))))))) (s90_75 s.2.2 l0 l1 l2 l3 l4)
  · refine Seg.blk0 (f' := (if (s.1 : Int32) = 0 then 75 else 36, [.ref l0, .ref l1, .int l2, .int l3, .int l4, .int s.1, .int s.2.1], [])) (h' := s.2.2) rfl rfl ?_
    refine Seg.ite (fun _ => ?_) (fun _ => ?_)
    · refine Seg.x ?_
      exact Seg.w (mLw.k (mLw.k (mLw.k (mLw.k (mLw.k (mLw.u (mLw.u mLw.nil))))))) (s90_75 s.2.2 l0 l1 l2 l3 l4)
    · refine Seg.call (f1 := (41, [.ref l0, .ref l1, .int l2, .int l3, .int l4, .int s.1, .int s.2.1], [.int l4, .int l3, .ref l1, .ref l0])) (h1 := s.2.2) (cv := fun _ => none) rfl rfl rfl rfl (s84 s.2.2 l0 l1 l3 l4) (fun r2 => ?_)
      refine Seg.callP (f1 := (52, [.ref l0, .ref l1, .int l2, .int l3, .int l4, .int s.1, .int s.2.1], [.int l2, .int (mI r2.2 ((mR r2.2 l0 4).getD 0) 1)])) (h1 := r2.2) (cv := fun r => some (.int r)) rfl rfl rfl rfl (s71 r2.2 (mI r2.2 ((mR r2.2 l0 4).getD 0) 1) l2) (fun r3 => ?_)
      refine Seg.blk0 (f' := (if (r3 : Int32) = 0 then 61 else 58, [.ref l0, .ref l1, .int l2, .int l3, .int l4, .int s.1, .int s.2.1], [])) (h' := r2.2) rfl rfl ?_
      refine Seg.ite (fun _ => ?_) (fun _ => ?_)
      · refine Seg.call (f1 := (64, [.ref l0, .ref l1, .int l2, .int l3, .int l4, .int s.1, .int s.2.1], [.int l4, .ref l0])) (h1 := r2.2) (cv := fun r => some (.int r)) rfl rfl rfl rfl (s91 r2.2 l0 l4) (fun r4 => ?_)
        refine Seg.blk0 (f' := (23, [.ref l0, .ref l1, .int l2, .int l3, .int l4, .int r4.1, .int (s.2.1 + 1)], [])) (h' := r4.2) rfl rfl ?_
        exact Seg.cont (fun _ q => Ev.w (mLw.k (mLw.k (mLw.k (mLw.k (mLw.k (mLw.k (mLw.k mLw.nil))))))) q)
      · refine Seg.x ?_
        refine Seg.x ?_
        exact Seg.ret (f1 := (60, [.ref l0, .ref l1, .int l2, .int l3, .int l4, .int s.1, .int s.2.1], [.int l4])) (h1 := r2.2) rfl rfl rfl rfl (fun _ q => q)
theorem s90_3 (l0 : Nat) (l1 : Nat) (l2 : Int32) (l3 : Int32) : ∀ (n : Nat) (s : (Int32 × mH)), Seg 90 (3, [.ref l0, .ref l1, .int l2, .int l3, .int s.1, .retAddr 0, .retAddr 0], []) s.2 (mLoop (f90_3 l0 l1 l2 l3) n s) (fun (q : Int32 × mH) (res : Option Value × mH) => res = (some (.int q.1), q.2)) := by
  refine Seg.loop (F := fun s : (Int32 × mH) => (3, [.ref l0, .ref l1, .int l2, .int l3, .int s.1, .retAddr 0, .retAddr 0], [])) (H := fun s : (Int32 × mH) => s.2) (fun s => ?_)
  show Seg 90 (3, [.ref l0, .ref l1, .int l2, .int l3, .int s.1, .retAddr 0, .retAddr 0], []) s.2 _ (Sum.elim (fun s : (Int32 × mH) => Ev 90 (3, [.ref l0, .ref l1, .int l2, .int l3, .int s.1, .retAddr 0, .retAddr 0], []) s.2) (fun (q : Int32 × mH) (res : Option Value × mH) => res = (some (.int q.1), q.2)))
  unfold f90_3
  refine Seg.blk0 (f' := (if (4 : Int32) < s.1 then 81 else 9, [.ref l0, .ref l1, .int l2, .int l3, .int s.1, .retAddr 0, .retAddr 0], [])) (h' := s.2) rfl rfl ?_
  refine Seg.ite (fun _ => ?_) (fun _ => ?_)
  · refine Seg.x ?_
    exact Seg.ret (f1 := (82, [.ref l0, .ref l1, .int l2, .int l3, .int s.1, .retAddr 0, .retAddr 0], [.int (-1)])) (h1 := s.2) rfl rfl rfl rfl (fun _ q => q)
  · refine Seg.call (f1 := (14, [.ref l0, .ref l1, .int l2, .int l3, .int s.1, .retAddr 0, .retAddr 0], [.int 0, .ref ((mR s.2 l0 1).getD 0)])) (h1 := s.2) (cv := fun _ => none) rfl rfl rfl rfl (s4 s.2 ((mR s.2 l0 1).getD 0) 0) (fun r1 => ?_)
    refine Seg.blk0 (f' := (23, [.ref l0, .ref l1, .int l2, .int l3, .int s.1, .int 1, .int 0], [])) (h' := r1.2) rfl rfl ?_
    exact Seg.w (mLw.k (mLw.k (mLw.k (mLw.k (mLw.k (mLw.k (mLw.k mLw.nil))))))) (s90_23 l0 l1 l2 l3 s.1 mFuel (1, 0, r1.2))
theorem s90 (h : mH) (l0 : Nat) (l1 : Nat) (l2 : Int32) (l3 : Int32) : Seg 90 (0, [.ref l0, .ref l1, .int l2, .int l3, .retAddr 0, .retAddr 0, .retAddr 0], []) h (f90 h l0 l1 l2 l3) (fun (q : Int32 × mH) (res : Option Value × mH) => res = (some (.int q.1), q.2)) := by
  unfold f90
  refine Seg.blk0 (f' := (3, [.ref l0, .ref l1, .int l2, .int l3, .int 0, .retAddr 0, .retAddr 0], [])) (h' := h) rfl rfl ?_
  exact Seg.w (mLw.k (mLw.k (mLw.k (mLw.k (mLw.k (mLw.k (mLw.k mLw.nil))))))) (s90_3 l0 l1 l2 l3 mFuel (0, h))
theorem s89_34 (h : mH) : Seg 89 (34, [.retAddr 0, .retAddr 0, .retAddr 0, .retAddr 0, .retAddr 0, .retAddr 0, .retAddr 0], []) h (f89_34 h) (fun (q : Int32 × mH) (res : Option Value × mH) => res = (some (.int q.1), q.2)) := by
  unfold f89_34
  exact Seg.ret (f1 := (35, [.retAddr 0, .retAddr 0, .retAddr 0, .retAddr 0, .retAddr 0, .retAddr 0, .retAddr 0], [.int (-1)])) (h1 := h) rfl rfl rfl rfl (fun _ q => q)
theorem s89_73 (h : mH) (q0 : Int32) : Seg 89 (73, [.retAddr 0, .retAddr 0, .retAddr 0, .retAddr 0, .retAddr 0, .retAddr 0, .retAddr 0], [.int q0]) h (f89_73 h q0) (fun (q : Int32 × mH) (res : Option Value × mH) => res = (some (.int q.1), q.2)) := by
  unfold f89_73
  exact Seg.ret (f1 := (73, [.retAddr 0, .retAddr 0, .retAddr 0, .retAddr 0, .retAddr 0, .retAddr 0, .retAddr 0], [.int q0])) (h1 := h) rfl rfl rfl rfl (fun _ q => q)
theorem s89 (h : mH) (l0 : Nat) (l1 : Int32) (l2 : Int32) (l3 : Int32) (l4 : Int32) : Seg 89 (0, [.ref l0, .int l1, .int l2, .int l3, .int l4, .retAddr 0, .retAddr 0], []) h (f89 h l0 l1 l2 l3 l4) (fun (q : Int32 × mH) (res : Option Value × mH) => res = (some (.int q.1), q.2)) := by
  unfold f89
  refine Seg.callP (f1 := (5, [.ref l0, .int l1, .int l2, .int l3, .int l4, .retAddr 0, .retAddr 0], [.int l1, .ref ((mR h l0 0).getD 0)])) (h1 := h) (cv := fun r => some (va_rf r)) rfl rfl rfl rfl (s53 h ((mR h l0 0).getD 0) l1) (fun r1 => ?_)
  cases r1 with
  | none =>
    refine Seg.blk0 (f' := (34, [.ref l0, .int l1, .int l2, .int l3, .int l4, .null, .retAddr 0], [])) (h' := h) rfl rfl ?_
    exact Seg.w (mLw.u (mLw.u (mLw.u (mLw.u (mLw.u (mLw.u (mLw.k mLw.nil))))))) (s89_34 h)
  | some a1 =>
    refine Seg.blk0 (f' := (15, [.ref l0, .int l1, .int l2, .int l3, .int l4, .ref a1, .retAddr 0], [])) (h' := h) rfl rfl ?_
    refine Seg.callP (f1 := (18, [.ref l0, .int l1, .int l2, .int l3, .int l4, .ref a1, .retAddr 0], [.int l2, .ref a1])) (h1 := h) (cv := fun r => some (.int r)) rfl rfl rfl rfl (s56 h a1 l2) (fun r2 => ?_)
    refine Seg.blk0 (f' := (if (r2 : Int32) = 0 then 34 else 24, [.ref l0, .int l1, .int l2, .int l3, .int l4, .ref a1, .retAddr 0], [])) (h' := h) rfl rfl ?_
    refine Seg.ite (fun _ => ?_) (fun _ => ?_)
    · exact Seg.w (mLw.u (mLw.u (mLw.u (mLw.u (mLw.u (mLw.u (mLw.k mLw.nil))))))) (s89_34 h)
    · refine Seg.callP (f1 := (28, [.ref l0, .int l1, .int l2, .int l3, .int l4, .ref a1, .retAddr 0], [.int 20, .int 0, .int l3])) (h1 := h) (cv := fun r => some (.int r)) rfl rfl rfl rfl (s17 h l3 0 20) (fun r3 => ?_)
      refine Seg.blk0 (f' := (if (r3 : Int32) = 0 then 34 else 36, [.ref l0, .int l1, .int l2, .int l3, .int l4, .ref a1, .retAddr 0], [])) (h' := h) rfl rfl ?_
      refine Seg.ite (fun _ => ?_) (fun _ => ?_)
      · exact Seg.w (mLw.u (mLw.u (mLw.u (mLw.u (mLw.u (mLw.u (mLw.k mLw.nil))))))) (s89_34 h)
      · refine Seg.call (f1 := (44, [.ref l0, .int l1, .int l2, .int l3, .int l4, .ref a1, .retAddr 0], [.int l3, .int l2, .ref a1, .ref ((mR h l0 5).getD 0)])) (h1 := h) (cv := fun r => some (.int r)) rfl rfl rfl rfl (s90 h ((mR h l0 5).getD 0) a1 l2 l3) (fun r4 => ?_)
        refine Seg.blk0 (f' := (if (r4.1 : Int32) = (-1) then 55 else 59, [.ref l0, .int l1, .int l2, .int l3, .int l4, .ref a1, .int r4.1], [])) (h' := r4.2) rfl rfl ?_
        refine Seg.ite (fun _ => ?_) (fun _ => ?_)
        · refine Seg.blk0 (f' := (73, [.ref l0, .int l1, .int l2, .int l3, .int l4, .ref a1, .int r4.1], [.int (-1)])) (h' := r4.2) rfl rfl ?_
          exact Seg.w (mLw.u (mLw.u (mLw.u (mLw.u (mLw.u (mLw.u (mLw.u mLw.nil))))))) (s89_73 r4.2 (-1))
        · refine Seg.callP (f1 := (70, [.ref l0, .int l1, .int l2, .int l3, .int l4, .ref a1, .int r4.1], [.int l4, .int r4.1, .ref ((mR r4.2 ((mR r4.2 l0 5).getD 0) 1).getD 0)])) (h1 := r4.2) (cv := fun r => some (.int r)) rfl rfl rfl rfl (s88 r4.2 ((mR r4.2 ((mR r4.2 l0 5).getD 0) 1).getD 0) r4.1 l4) (fun r5 => ?_)
          exact Seg.w (mLw.u (mLw.u (mLw.u (mLw.u (mLw.u (mLw.u (mLw.u mLw.nil))))))) (s89_73 r4.2 r5)
theorem s94 (h : mH) (l0 : Nat) : Seg 94 (0, [.ref l0], []) h (f94 h l0) (fun (q : Int32) (res : Option Value × mH) => res = (some (.int q), h)) := by
  unfold f94
  exact Seg.ret (f1 := (8, [.ref l0], [.int (((1 : Int32) <<< ((mI h l0 6) &&& (31 : Int32))) - 1)])) (h1 := h) rfl rfl rfl rfl (fun _ q => q)
theorem s95_29 (h : mH) (l0 : Nat) (l1 : Int32) (l2 : Int32) (l3 : Int32) : Seg 95 (29, [.ref l0, .int l1, .int l2, .int l3], []) h (f95_29 h l0 l1 l2 l3) (Sum.elim (fun s : (Int32 × Int32) => Ev 95 (4, [.ref l0, .int l1, .int s.1, .int s.2], []) h) (fun (q : Int32) (res : Option Value × mH) => res = (some (.int q), h))) := by
  unfold f95_29
  refine Seg.blk0 (f' := (4, [.ref l0, .int l1, .int l2, .int (l3 + 1)], [])) (h' := h) rfl rfl ?_
  exact Seg.cont (fun _ q => Ev.w (mLw.k (mLw.k (mLw.k (mLw.k mLw.nil)))) q)
theorem s95_4 (h : mH) (l0 : Nat) (l1 : Int32) : ∀ (n : Nat) (s : (Int32 × Int32)), Seg 95 (4, [.ref l0, .int l1, .int s.1, .int s.2], []) h (mLoop (f95_4 h l0 l1) n s) (fun (q : Int32) (res : Option Value × mH) => res = (some (.int q), h)) := by
  refine Seg.loop (F := fun s : (Int32 × Int32) => (4, [.ref l0, .int l1, .int s.1, .int s.2], [])) (H := fun s : (Int32 × Int32) => h) (fun s => ?_)
  show Seg 95 (4, [.ref l0, .int l1, .int s.1, .int s.2], []) h _ (Sum.elim (fun s : (Int32 × Int32) => Ev 95 (4, [.ref l0, .int l1, .int s.1, .int s.2], []) h) (fun (q : Int32) (res : Option Value × mH) => res = (some (.int q), h)))
  unfold f95_4
  refine Seg.blk (f' := (if ((mI h l0 6) : Int32) ≤ s.2 then 35 else 12, [.ref l0, .int l1, .int s.1, .int s.2], [])) (h' := h) rfl rfl ?_
  refine Seg.ite (fun _ => ?_) (fun _ => ?_)
  · refine Seg.x ?_
    exact Seg.ret (f1 := (36, [.ref l0, .int l1, .int s.1, .int s.2], [.int s.1])) (h1 := h) rfl rfl rfl rfl (fun _ q => q)
  · refine Seg.callP (f1 := (14, [.ref l0, .int l1, .int s.1, .int s.2], [.int s.2, .int l1])) (h1 := h) (cv := fun r => some (.int r)) rfl rfl rfl rfl (s71 h l1 s.2) (fun r1 => ?_)
    refine Seg.blk0 (f' := (if (r1 : Int32) = 0 then 29 else 20, [.ref l0, .int l1, .int s.1, .int s.2], [])) (h' := h) rfl rfl ?_
    refine Seg.ite (fun _ => ?_) (fun _ => ?_)
    · exact Seg.w (mLw.k (mLw.k (mLw.k (mLw.k mLw.nil)))) (s95_29 h l0 l1 s.1 s.2)
    · refine Seg.blk (f' := (29, [.ref l0, .int l1, .int (s.1 + (mI h ((mR h l0 0).getD 0) (Int32.toNatClampNeg s.2))), .int s.2], [])) (h' := h) rfl rfl ?_
      exact Seg.w (mLw.k (mLw.k (mLw.k (mLw.k mLw.nil)))) (s95_29 h l0 l1 (s.1 + (mI h ((mR h l0 0).getD 0) (Int32.toNatClampNeg s.2))) s.2)
theorem s95 (h : mH) (l0 : Nat) (l1 : Int32) : Seg 95 (0, [.ref l0, .int l1, .retAddr 0, .retAddr 0], []) h (f95 h l0 l1) (fun (q : Int32) (res : Option Value × mH) => res = (some (.int q), h)) := by
  unfold f95
  refine Seg.blk0 (f' := (4, [.ref l0, .int l1, .int 0, .int 0], [])) (h' := h) rfl rfl ?_
  exact Seg.w (mLw.k (mLw.k (mLw.k (mLw.k mLw.nil)))) (s95_4 h l0 l1 mFuel (0, 0))
theorem s96_33 (h : mH) (l0 : Nat) (l1 : Int32) (l2 : Int32) : Seg 96 (33, [.ref l0, .int l1, .int l2], []) h (f96_33 h l0 l1 l2) (Sum.elim (fun s : (Int32) => Ev 96 (2, [.ref l0, .int l1, .int s], []) h) (fun (q : Int32) (res : Option Value × mH) => res = (some (.int q), h))) := by
  unfold f96_33
  refine Seg.blk0 (f' := (2, [.ref l0, .int l1, .int (l2 + 1)], [])) (h' := h) rfl rfl ?_
  exact Seg.cont (fun _ q => Ev.w (mLw.k (mLw.k (mLw.k mLw.nil))) q)
theorem s96_2 (h : mH) (l0 : Nat) (l1 : Int32) : ∀ (n : Nat) (s : (Int32)), Seg 96 (2, [.ref l0, .int l1, .int s], []) h (mLoop (f96_2 h l0 l1) n s) (fun (q : Int32) (res : Option Value × mH) => res = (some (.int q), h)) := by
  refine Seg.loop (F := fun s : (Int32) => (2, [.ref l0, .int l1, .int s], [])) (H := fun s : (Int32) => h) (fun s => ?_)
  show Seg 96 (2, [.ref l0, .int l1, .int s], []) h _ (Sum.elim (fun s : (Int32) => Ev 96 (2, [.ref l0, .int l1, .int s], []) h) (fun (q : Int32) (res : Option Value × mH) => res = (some (.int q), h)))
  unfold f96_2
  refine Seg.blk (f' := (if ((mI h l0 6) : Int32) ≤ s then 39 else 10, [.ref l0, .int l1, .int s], [])) (h' := h) rfl rfl ?_
  refine Seg.ite (fun _ => ?_) (fun _ => ?_)
  · refine Seg.x ?_
    exact Seg.ret (f1 := (40, [.ref l0, .int l1, .int s], [.int 1])) (h1 := h) rfl rfl rfl rfl (fun _ q => q)
  · refine Seg.callP (f1 := (12, [.ref l0, .int l1, .int s], [.int s, .int l1])) (h1 := h) (cv := fun r => some (.int r)) rfl rfl rfl rfl (s71 h l1 s) (fun r1 => ?_)
    refine Seg.blk0 (f' := (if (r1 : Int32) = 0 then 33 else 18, [.ref l0, .int l1, .int s], [])) (h' := h) rfl rfl ?_
    refine Seg.ite (fun _ => ?_) (fun _ => ?_)
    · exact Seg.w (mLw.k (mLw.k (mLw.k mLw.nil))) (s96_33 h l0 l1 s)
    · refine Seg.blk (f' := (if (((mI h ((mR h l0 2).getD 0) (Int32.toNatClampNeg s)) &&& (l1 ^^^ (-1))) : Int32) = 0 then 33 else 31, [.ref l0, .int l1, .int s], [])) (h' := h) rfl rfl ?_
      refine Seg.ite (fun _ => ?_) (fun _ => ?_)
      · exact Seg.w (mLw.k (mLw.k (mLw.k mLw.nil))) (s96_33 h l0 l1 s)
      · refine Seg.x ?_
        exact Seg.ret (f1 := (32, [.ref l0, .int l1, .int s], [.int 0])) (h1 := h) rfl rfl rfl rfl (fun _ q => q)
theorem s96 (h : mH) (l0 : Nat) (l1 : Int32) : Seg 96 (0, [.ref l0, .int l1, .retAddr 0], []) h (f96 h l0 l1) (fun (q : Int32) (res : Option Value × mH) => res = (some (.int q), h)) := by
  unfold f96
  refine Seg.blk0 (f' := (2, [.ref l0, .int l1, .int 0], [])) (h' := h) rfl rfl ?_
  exact Seg.w (mLw.k (mLw.k (mLw.k mLw.nil))) (s96_2 h l0 l1 mFuel (0))
theorem s93_48 (h : mH) (l1 : Nat) (l2 : Int32) (l3 : Int32) (l4 : Int32) : Seg 93 (48, [.retAddr 0, .ref l1, .int l2, .int l3, .int l4], []) h (f93_48 h l1 l2 l3 l4) (Sum.elim (fun s : (Int32 × Int32) => Ev 93 (5, [.retAddr 0, .ref l1, .int l2, .int s.1, .int s.2], []) h) (fun (q : Int32) (res : Option Value × mH) => res = (some (.int q), h))) := by
  unfold f93_48
  refine Seg.blk0 (f' := (5, [.retAddr 0, .ref l1, .int l2, .int l3, .int (l4 + 1)], [])) (h' := h) rfl rfl ?_
  exact Seg.cont (fun _ q => Ev.w (mLw.k (mLw.k (mLw.k (mLw.k (mLw.k mLw.nil))))) q)
theorem s93_5 (h : mH) (l1 : Nat) (l2 : Int32) : ∀ (n : Nat) (s : (Int32 × Int32)), Seg 93 (5, [.retAddr 0, .ref l1, .int l2, .int s.1, .int s.2], []) h (mLoop (f93_5 h l1 l2) n s) (fun (q : Int32) (res : Option Value × mH) => res = (some (.int q), h)) := by
  refine Seg.loop (F := fun s : (Int32 × Int32) => (5, [.retAddr 0, .ref l1, .int l2, .int s.1, .int s.2], [])) (H := fun s : (Int32 × Int32) => h) (fun s => ?_)
  show Seg 93 (5, [.retAddr 0, .ref l1, .int l2, .int s.1, .int s.2], []) h _ (Sum.elim (fun s : (Int32 × Int32) => Ev 93 (5, [.retAddr 0, .ref l1, .int l2, .int s.1, .int s.2], []) h) (fun (q : Int32) (res : Option Value × mH) => res = (some (.int q), h)))
  unfold f93_5
  refine Seg.callP (f1 := (8, [.retAddr 0, .ref l1, .int l2, .int s.1, .int s.2], [.ref l1, .int s.2])) (h1 := h) (cv := fun r => some (.int r)) rfl rfl rfl rfl (s94 h l1) (fun r1 => ?_)
  refine Seg.blk0 (f' := (if (r1 : Int32) < s.2 then 54 else 14, [.retAddr 0, .ref l1, .int l2, .int s.1, .int s.2], [])) (h' := h) rfl rfl ?_
  refine Seg.ite (fun _ => ?_) (fun _ => ?_)
  · refine Seg.x ?_
    exact Seg.ret (f1 := (55, [.retAddr 0, .ref l1, .int l2, .int s.1, .int s.2], [.int s.1])) (h1 := h) rfl rfl rfl rfl (fun _ q => q)
  · refine Seg.callP (f1 := (16, [.retAddr 0, .ref l1, .int l2, .int s.1, .int s.2], [.int s.2])) (h1 := h) (cv := fun r => some (.int r)) rfl rfl rfl rfl (s66 h s.2) (fun r2 => ?_)
    refine Seg.callP (f1 := (20, [.retAddr 0, .ref l1, .int l2, .int s.1, .int s.2], [.int s.1, .int r2])) (h1 := h) (cv := fun r => some (.int r)) rfl rfl rfl rfl (s66 h s.1) (fun r3 => ?_)
    refine Seg.blk0 (f' := (if (r2 : Int32) ≤ r3 then 48 else 26, [.retAddr 0, .ref l1, .int l2, .int s.1, .int s.2], [])) (h' := h) rfl rfl ?_
    refine Seg.ite (fun _ => ?_) (fun _ => ?_)
    · exact Seg.w (mLw.k (mLw.k (mLw.k (mLw.k (mLw.k mLw.nil))))) (s93_48 h l1 l2 s.1 s.2)
    · refine Seg.callP (f1 := (29, [.retAddr 0, .ref l1, .int l2, .int s.1, .int s.2], [.int s.2, .ref l1])) (h1 := h) (cv := fun r => some (.int r)) rfl rfl rfl rfl (s95 h l1 s.2) (fun r4 => ?_)
      refine Seg.blk0 (f' := (if (l2 : Int32) < r4 then 48 else 36, [.retAddr 0, .ref l1, .int l2, .int s.1, .int s.2], [])) (h' := h) rfl rfl ?_
      refine Seg.ite (fun _ => ?_) (fun _ => ?_)
      · exact Seg.w (mLw.k (mLw.k (mLw.k (mLw.k (mLw.k mLw.nil))))) (s93_48 h l1 l2 s.1 s.2)
      · refine Seg.callP (f1 := (39, [.retAddr 0, .ref l1, .int l2, .int s.1, .int s.2], [.int s.2, .ref l1])) (h1 := h) (cv := fun r => some (.int r)) rfl rfl rfl rfl (s96 h l1 s.2) (fun r5 => ?_)
        refine Seg.blk0 (f' := (if (r5 : Int32) = 0 then 48 else 45, [.retAddr 0, .ref l1, .int l2, .int s.1, .int s.2], [])) (h' := h) rfl rfl ?_
        refine Seg.ite (fun _ => ?_) (fun _ => ?_)
        · exact Seg.w (mLw.k (mLw.k (mLw.k (mLw.k (mLw.k mLw.nil))))) (s93_48 h l1 l2 s.1 s.2)
        · refine Seg.blk0 (f' := (48, [.retAddr 0, .ref l1, .int l2, .int s.2, .int s.2], [])) (h' := h) rfl rfl ?_
          exact Seg.w (mLw.k (mLw.k (mLw.k (mLw.k (mLw.k mLw.nil))))) (s93_48 h l1 l2 s.2 s.2)
theorem s93 (h : mH) (l0 : Nat) (l1 : Nat) (l2 : Int32) : Seg 93 (0, [.ref l0, .ref l1, .int l2, .retAddr 0, .retAddr 0], []) h (f93 h l0 l1 l2) (fun (q : Int32) (res : Option Value × mH) => res = (some (.int q), h)) := by
  unfold f93
  refine Seg.blk0 (f' := (5, [.ref l0, .ref l1, .int l2, .int 0, .int 1], [])) (h' := h) rfl rfl ?_
  exact Seg.w (mLw.u (mLw.k (mLw.k (mLw.k (mLw.k mLw.nil))))) (s93_5 h l1 l2 mFuel (0, 1))
theorem s92_25 (h : mH) : Seg 92 (25, [.retAddr 0, .retAddr 0, .retAddr 0, .retAddr 0, .retAddr 0, .retAddr 0], []) h (f92_25 h) (fun (q : Int32) (res : Option Value × mH) => res = (some (.int q), h)) := by
  unfold f92_25
  exact Seg.ret (f1 := (26, [.retAddr 0, .retAddr 0, .retAddr 0, .retAddr 0, .retAddr 0, .retAddr 0], [.int (-1)])) (h1 := h) rfl rfl rfl rfl (fun _ q => q)
theorem s92_53 (h : mH) (q0 : Int32) : Seg 92 (53, [.retAddr 0, .retAddr 0, .retAddr 0, .retAddr 0, .retAddr 0, .retAddr 0], [.int q0]) h (f92_53 h q0) (fun (q : Int32) (res : Option Value × mH) => res = (some (.int q), h)) := by
  unfold f92_53
  exact Seg.ret (f1 := (53, [.retAddr 0, .retAddr 0, .retAddr 0, .retAddr 0, .retAddr 0, .retAddr 0], [.int q0])) (h1 := h) rfl rfl rfl rfl (fun _ q => q)
theorem s92 (h : mH) (l0 : Nat) (l1 : Int32) (l2 : Int32) (l3 : Int32) : Seg 92 (0, [.ref l0, .int l1, .int l2, .int l3, .retAddr 0, .retAddr 0], []) h (f92 h l0 l1 l2 l3) (fun (q : Int32) (res : Option Value × mH) => res = (some (.int q), h)) := by
  unfold f92
  refine Seg.callP (f1 := (5, [.ref l0, .int l1, .int l2, .int l3, .retAddr 0, .retAddr 0], [.int l1, .ref ((mR h l0 0).getD 0)])) (h1 := h) (cv := fun r => some (va_rf r)) rfl rfl rfl rfl (s53 h ((mR h l0 0).getD 0) l1) (fun r1 => ?_)
  cases r1 with
  | none =>
    refine Seg.blk0 (f' := (25, [.ref l0, .int l1, .int l2, .int l3, .null, .retAddr 0], [])) (h' := h) rfl rfl ?_
    exact Seg.w (mLw.u (mLw.u (mLw.u (mLw.u (mLw.u (mLw.k mLw.nil)))))) (s92_25 h)
  | some a1 =>
    refine Seg.blk0 (f' := (15, [.ref l0, .int l1, .int l2, .int l3, .ref a1, .retAddr 0], [])) (h' := h) rfl rfl ?_
    refine Seg.callP (f1 := (19, [.ref l0, .int l1, .int l2, .int l3, .ref a1, .retAddr 0], [.int 72, .int 0, .int l2])) (h1 := h) (cv := fun r => some (.int r)) rfl rfl rfl rfl (s17 h l2 0 72) (fun r2 => ?_)
    refine Seg.blk0 (f' := (if (r2 : Int32) = 0 then 25 else 27, [.ref l0, .int l1, .int l2, .int l3, .ref a1, .retAddr 0], [])) (h' := h) rfl rfl ?_
    refine Seg.ite (fun _ => ?_) (fun _ => ?_)
    · exact Seg.w (mLw.u (mLw.u (mLw.u (mLw.u (mLw.u (mLw.k mLw.nil)))))) (s92_25 h)
    · refine Seg.callP (f1 := (34, [.ref l0, .int l1, .int l2, .int l3, .ref a1, .retAddr 0], [.int l2, .ref a1, .ref ((mR h l0 6).getD 0)])) (h1 := h) (cv := fun r => some (.int r)) rfl rfl rfl rfl (s93 h ((mR h l0 6).getD 0) a1 l2) (fun r3 => ?_)
      refine Seg.blk0 (f' := (if (l3 : Int32) = 0 then 48 else 43, [.ref l0, .int l1, .int l2, .int l3, .ref a1, .int r3], [])) (h' := h) rfl rfl ?_
      refine Seg.ite (fun _ => ?_) (fun _ => ?_)
      · refine Seg.callP (f1 := (50, [.ref l0, .int l1, .int l2, .int l3, .ref a1, .int r3], [.int r3])) (h1 := h) (cv := fun r => some (.int r)) rfl rfl rfl rfl (s66 h r3) (fun r4 => ?_)
        exact Seg.w (mLw.u (mLw.u (mLw.u (mLw.u (mLw.u (mLw.u mLw.nil)))))) (s92_53 h r4)
      · refine Seg.blk0 (f' := (53, [.ref l0, .int l1, .int l2, .int l3, .ref a1, .int r3], [.int r3])) (h' := h) rfl rfl ?_
        exact Seg.w (mLw.u (mLw.u (mLw.u (mLw.u (mLw.u (mLw.u mLw.nil)))))) (s92_53 h r3)
theorem s98 (h : mH) (l0 : Nat) : Seg 98 (0, [.ref l0], []) h (f98 h l0) (fun (q : Int32) (res : Option Value × mH) => res = (some (.int q), h)) := by
  unfold f98
  exact Seg.ret (f1 := (8, [.ref l0], [.int (((1 : Int32) <<< ((mI h l0 7) &&& (31 : Int32))) - 1)])) (h1 := h) rfl rfl rfl rfl (fun _ q => q)
theorem s99_50 (h : mH) (l0 : Nat) (l2 : Int32) (l3 : Int32) (l4 : Int32) (l5 : Int32) (l6 : Int32) (l7 : Int32) : Seg 99 (50, [.ref l0, .retAddr 0, .int l2, .int l3, .int l4, .int l5, .int l6, .int l7], []) h (f99_50 h l0 l2 l3 l4 l5 l6 l7) (Sum.elim (fun s : (Int32 × Int32) => Ev 99 (19, [.ref l0, .retAddr 0, .int l2, .int l3, .int l4, .int l5, .int s.1, .int s.2], []) h) (Sum.elim (fun s : (Int32 × Int32) => Ev 99 (6, [.ref l0, .retAddr 0, .int l2, .int l3, .int s.1, .int s.2, .retAddr 0, .retAddr 0], []) h) (fun (q : Int32) (res : Option Value × mH) => res = (some (.int q), h)))) := by
  unfold f99_50
  refine Seg.blk0 (f' := (19, [.ref l0, .retAddr 0, .int l2, .int l3, .int l4, .int l5, .int l6, .int (l7 + 1)], [])) (h' := h) rfl rfl ?_
  exact Seg.cont (fun _ q => Ev.w (mLw.k (mLw.k (mLw.k (mLw.k (mLw.k (mLw.k (mLw.k (mLw.k mLw.nil)))))))) q)
theorem s99_19 (h : mH) (l0 : Nat) (l2 : Int32) (l3 : Int32) (l4 : Int32) (l5 : Int32) : ∀ (n : Nat) (s : (Int32 × Int32)), Seg 99 (19, [.ref l0, .retAddr 0, .int l2, .int l3, .int l4, .int l5, .int s.1, .int s.2], []) h (mLoop (f99_19 h l0 l2 l3 l4 l5) n s) (Sum.elim (fun s : (Int32 × Int32) => Ev 99 (6, [.ref l0, .retAddr 0, .int l2, .int l3, .int s.1, .int s.2, .retAddr 0, .retAddr 0], []) h) (fun (q : Int32) (res : Option Value × mH) => res = (some (.int q), h))) := by
  refine Seg.loop (F := fun s : (Int32 × Int32) => (19, [.ref l0, .retAddr 0, .int l2, .int l3, .int l4, .int l5, .int s.1, .int s.2], [])) (H := fun s : (Int32 × Int32) => h) (fun s => ?_)
  show Seg 99 (19, [.ref l0, .retAddr 0, .int l2, .int l3, .int l4, .int l5, .int s.1, .int s.2], []) h _ (Sum.elim (fun s : (Int32 × Int32) => Ev 99 (19, [.ref l0, .retAddr 0, .int l2, .int l3, .int l4, .int l5, .int s.1, .int s.2], []) h) (Sum.elim (fun s : (Int32 × Int32) => Ev 99 (6, [.ref l0, .retAddr 0, .int l2, .int l3, .int s.1, .int s.2, .retAddr 0, .retAddr 0], []) h) (fun (q : Int32) (res : Option Value × mH) => res = (some (.int q), h))))
  unfold f99_19
  refine Seg.blk (f' := (if ((mI h l0 7) : Int32) ≤ s.2 then 56 else 28, [.ref l0, .retAddr 0, .int l2, .int l3, .int l4, .int l5, .int s.1, .int s.2], [])) (h' := h) rfl rfl ?_
  refine Seg.ite (fun _ => ?_) (fun _ => ?_)
  · refine Seg.x ?_
    refine Seg.blk0 (f' := (6, [.ref l0, .retAddr 0, .int l2, .int l3, .int (s.1 &&& l3), .int (l5 + 1), .int s.1, .int s.2], [])) (h' := h) rfl rfl ?_
    exact Seg.cont (fun _ q => Ev.w (mLw.k (mLw.k (mLw.k (mLw.k (mLw.k (mLw.k (mLw.u (mLw.u mLw.nil)))))))) q)
  · refine Seg.blk (f' := (if (((mI h ((mR h l0 5).getD 0) (Int32.toNatClampNeg s.2)) &&& l4) : Int32) = 0 then 50 else 41, [.ref l0, .retAddr 0, .int l2, .int l3, .int l4, .int l5, .int s.1, .int s.2], [])) (h' := h) rfl rfl ?_
    refine Seg.ite (fun _ => ?_) (fun _ => ?_)
    · exact Seg.w (mLw.k (mLw.k (mLw.k (mLw.k (mLw.k (mLw.k (mLw.k (mLw.k mLw.nil)))))))) (s99_50 h l0 l2 l3 l4 l5 s.1 s.2)
    · refine Seg.blk0 (f' := (50, [.ref l0, .retAddr 0, .int l2, .int l3, .int l4, .int l5, .int (s.1 ||| ((1 : Int32) <<< (s.2 &&& (31 : Int32)))), .int s.2], [])) (h' := h) rfl rfl ?_
      exact Seg.w (mLw.k (mLw.k (mLw.k (mLw.k (mLw.k (mLw.k (mLw.k (mLw.k mLw.nil)))))))) (s99_50 h l0 l2 l3 l4 l5 (s.1 ||| ((1 : Int32) <<< (s.2 &&& (31 : Int32)))) s.2)
theorem s99_6 (h : mH) (l0 : Nat) (l2 : Int32) (l3 : Int32) : ∀ (n : Nat) (s : (Int32 × Int32)), Seg 99 (6, [.ref l0, .retAddr 0, .int l2, .int l3, .int s.1, .int s.2, .retAddr 0, .retAddr 0], []) h (mLoop (f99_6 h l0 l2 l3) n s) (fun (q : Int32) (res : Option Value × mH) => res = (some (.int q), h)) := by
  refine Seg.loop (F := fun s : (Int32 × Int32) => (6, [.ref l0, .retAddr 0, .int l2, .int l3, .int s.1, .int s.2, .retAddr 0, .retAddr 0], [])) (H := fun s : (Int32 × Int32) => h) (fun s => ?_)
  show Seg 99 (6, [.ref l0, .retAddr 0, .int l2, .int l3, .int s.1, .int s.2, .retAddr 0, .retAddr 0], []) h _ (Sum.elim (fun s : (Int32 × Int32) => Ev 99 (6, [.ref l0, .retAddr 0, .int l2, .int l3, .int s.1, .int s.2, .retAddr 0, .retAddr 0], []) h) (fun (q : Int32) (res : Option Value × mH) => res = (some (.int q), h)))
  unfold f99_6
  refine Seg.blk0 (f' := (if (l2 : Int32) ≤ s.2 then 68 else 12, [.ref l0, .retAddr 0, .int l2, .int l3, .int s.1, .int s.2, .retAddr 0, .retAddr 0], [])) (h' := h) rfl rfl ?_
  refine Seg.ite (fun _ => ?_) (fun _ => ?_)
  · refine Seg.x ?_
    exact Seg.ret (f1 := (70, [.ref l0, .retAddr 0, .int l2, .int l3, .int s.1, .int s.2, .retAddr 0, .retAddr 0], [.int s.1])) (h1 := h) rfl rfl rfl rfl (fun _ q => q)
  · refine Seg.blk0 (f' := (19, [.ref l0, .retAddr 0, .int l2, .int l3, .int s.1, .int s.2, .int s.1, .int 0], [])) (h' := h) rfl rfl ?_
    exact Seg.w (mLw.k (mLw.k (mLw.k (mLw.k (mLw.k (mLw.k (mLw.k (mLw.k mLw.nil)))))))) (s99_19 h l0 l2 l3 s.1 s.2 mFuel (s.1, 0))
theorem s99 (h : mH) (l0 : Nat) (l1 : Int32) (l2 : Int32) (l3 : Int32) : Seg 99 (0, [.ref l0, .int l1, .int l2, .int l3, .retAddr 0, .retAddr 0, .retAddr 0, .retAddr 0], []) h (f99 h l0 l1 l2 l3) (fun (q : Int32) (res : Option Value × mH) => res = (some (.int q), h)) := by
  unfold f99
  refine Seg.blk0 (f' := (6, [.ref l0, .int l1, .int l2, .int l3, .int l1, .int 0, .retAddr 0, .retAddr 0], [])) (h' := h) rfl rfl ?_
  exact Seg.w (mLw.k (mLw.u (mLw.k (mLw.k (mLw.k (mLw.k (mLw.k (mLw.k mLw.nil)))))))) (s99_6 h l0 l2 l3 mFuel (l1, 0))
theorem s97_34 (h : mH) : Seg 97 (34, [.retAddr 0, .retAddr 0, .retAddr 0, .retAddr 0, .retAddr 0], []) h (f97_34 h) (fun (q : Int32) (res : Option Value × mH) => res = (some (.int q), h)) := by
  unfold f97_34
  exact Seg.ret (f1 := (35, [.retAddr 0, .retAddr 0, .retAddr 0, .retAddr 0, .retAddr 0], [.int (-1)])) (h1 := h) rfl rfl rfl rfl (fun _ q => q)
theorem s97 (h : mH) (l0 : Nat) (l1 : Int32) (l2 : Int32) (l3 : Int32) : Seg 97 (0, [.ref l0, .int l1, .int l2, .int l3, .retAddr 0], []) h (f97 h l0 l1 l2 l3) (fun (q : Int32) (res : Option Value × mH) => res = (some (.int q), h)) := by
  unfold f97
  refine Seg.callP (f1 := (5, [.ref l0, .int l1, .int l2, .int l3, .retAddr 0], [.int l1, .ref ((mR h l0 0).getD 0)])) (h1 := h) (cv := fun r => some (va_rf r)) rfl rfl rfl rfl (s53 h ((mR h l0 0).getD 0) l1) (fun r1 => ?_)
  cases r1 with
  | none =>
    refine Seg.blk0 (f' := (34, [.ref l0, .int l1, .int l2, .int l3, .null], [])) (h' := h) rfl rfl ?_
    exact Seg.w (mLw.u (mLw.u (mLw.u (mLw.u (mLw.u mLw.nil))))) (s97_34 h)
  | some a1 =>
    refine Seg.blk0 (f' := (15, [.ref l0, .int l1, .int l2, .int l3, .ref a1], [])) (h' := h) rfl rfl ?_
    refine Seg.callP (f1 := (18, [.ref l0, .int l1, .int l2, .int l3, .ref a1], [.int l2, .ref a1])) (h1 := h) (cv := fun r => some (.int r)) rfl rfl rfl rfl (s57 h a1 l2) (fun r2 => ?_)
    refine Seg.blk0 (f' := (if (r2 : Int32) = 0 then 34 else 24, [.ref l0, .int l1, .int l2, .int l3, .ref a1], [])) (h' := h) rfl rfl ?_
    refine Seg.ite (fun _ => ?_) (fun _ => ?_)
    · exact Seg.w (mLw.u (mLw.u (mLw.u (mLw.u (mLw.u mLw.nil))))) (s97_34 h)
    · refine Seg.callP (f1 := (28, [.ref l0, .int l1, .int l2, .int l3, .ref a1], [.int 9, .int 0, .int l3])) (h1 := h) (cv := fun r => some (.int r)) rfl rfl rfl rfl (s17 h l3 0 9) (fun r3 => ?_)
      refine Seg.blk0 (f' := (if (r3 : Int32) = 0 then 34 else 36, [.ref l0, .int l1, .int l2, .int l3, .ref a1], [])) (h' := h) rfl rfl ?_
      refine Seg.ite (fun _ => ?_) (fun _ => ?_)
      · exact Seg.w (mLw.u (mLw.u (mLw.u (mLw.u (mLw.u mLw.nil))))) (s97_34 h)
      · refine Seg.callP (f1 := (44, [.ref l0, .int l1, .int l2, .int l3, .ref a1], [.ref a1, .int l3, .int ((1 : Int32) <<< (l2 &&& (31 : Int32))), .ref a1])) (h1 := h) (cv := fun r => some (.int r)) rfl rfl rfl rfl (s98 h a1) (fun r4 => ?_)
        refine Seg.callP (f1 := (47, [.ref l0, .int l1, .int l2, .int l3, .ref a1], [.int r4, .int l3, .int ((1 : Int32) <<< (l2 &&& (31 : Int32))), .ref a1])) (h1 := h) (cv := fun r => some (.int r)) rfl rfl rfl rfl (s99 h a1 ((1 : Int32) <<< (l2 &&& (31 : Int32))) l3 r4) (fun r5 => ?_)
        exact Seg.ret (f1 := (50, [.ref l0, .int l1, .int l2, .int l3, .ref a1], [.int r5])) (h1 := h) rfl rfl rfl rfl (fun _ q => q)
theorem s101_43 (h : mH) (l0 : Nat) (l1 : Int32) (l2 : Int32) (l3 : Int32) (l4 : Int32) : Seg 101 (43, [.ref l0, .int l1, .int l2, .int l3, .int l4], []) h (f101_43 h l0 l1 l2 l3 l4) (Sum.elim (fun s : (Int32 × Int32) => Ev 101 (10, [.ref l0, .int l1, .int l2, .int s.1, .int s.2], []) h) (fun (q : Int32) (res : Option Value × mH) => res = (some (.int q), h))) := by
  unfold f101_43
  refine Seg.blk0 (f' := (10, [.ref l0, .int l1, .int l2, .int l3, .int (l4 + 1)], [])) (h' := h) rfl rfl ?_
  exact Seg.cont (fun _ q => Ev.w (mLw.k (mLw.k (mLw.k (mLw.k (mLw.k mLw.nil))))) q)
theorem s101_10 (h : mH) (l0 : Nat) (l1 : Int32) (l2 : Int32) : ∀ (n : Nat) (s : (Int32 × Int32)), Seg 101 (10, [.ref l0, .int l1, .int l2, .int s.1, .int s.2], []) h (mLoop (f101_10 h l0 l1 l2) n s) (fun (q : Int32) (res : Option Value × mH) => res = (some (.int q), h)) := by
  refine Seg.loop (F := fun s : (Int32 × Int32) => (10, [.ref l0, .int l1, .int l2, .int s.1, .int s.2], [])) (H := fun s : (Int32 × Int32) => h) (fun s => ?_)
  show Seg 101 (10, [.ref l0, .int l1, .int l2, .int s.1, .int s.2], []) h _ (Sum.elim (fun s : (Int32 × Int32) => Ev 101 (10, [.ref l0, .int l1, .int l2, .int s.1, .int s.2], []) h) (fun (q : Int32) (res : Option Value × mH) => res = (some (.int q), h)))
  unfold f101_10
  refine Seg.blk0 (f' := (if (l2 : Int32) ≤ s.2 then 49 else 16, [.ref l0, .int l1, .int l2, .int s.1, .int s.2], [])) (h' := h) rfl rfl ?_
  refine Seg.ite (fun _ => ?_) (fun _ => ?_)
  · refine Seg.x ?_
    exact Seg.ret (f1 := (50, [.ref l0, .int l1, .int l2, .int s.1, .int s.2], [.int s.1])) (h1 := h) rfl rfl rfl rfl (fun _ q => q)
  · refine Seg.callP (f1 := (18, [.ref l0, .int l1, .int l2, .int s.1, .int s.2], [.int s.2])) (h1 := h) (cv := fun r => some (.int r)) rfl rfl rfl rfl (s66 h s.2) (fun r2 => ?_)
    refine Seg.callP (f1 := (22, [.ref l0, .int l1, .int l2, .int s.1, .int s.2], [.int s.1, .int r2])) (h1 := h) (cv := fun r => some (.int r)) rfl rfl rfl rfl (s66 h s.1) (fun r3 => ?_)
    refine Seg.blk0 (f' := (if (r3 : Int32) ≤ r2 then 43 else 28, [.ref l0, .int l1, .int l2, .int s.1, .int s.2], [])) (h' := h) rfl rfl ?_
    refine Seg.ite (fun _ => ?_) (fun _ => ?_)
    · exact Seg.w (mLw.k (mLw.k (mLw.k (mLw.k (mLw.k mLw.nil))))) (s101_43 h l0 l1 l2 s.1 s.2)
    · refine Seg.callP (f1 := (33, [.ref l0, .int l1, .int l2, .int s.1, .int s.2], [.int l2, .int l1, .int s.2, .ref l0])) (h1 := h) (cv := fun r => some (.int r)) rfl rfl rfl rfl (s99 h l0 s.2 l1 l2) (fun r4 => ?_)
      refine Seg.blk0 (f' := (if (r4 : Int32) = l2 then 40 else 43, [.ref l0, .int l1, .int l2, .int s.1, .int s.2], [])) (h' := h) rfl rfl ?_
      refine Seg.ite (fun _ => ?_) (fun _ => ?_)
      · refine Seg.blk0 (f' := (43, [.ref l0, .int l1, .int l2, .int s.2, .int s.2], [])) (h' := h) rfl rfl ?_
        exact Seg.w (mLw.k (mLw.k (mLw.k (mLw.k (mLw.k mLw.nil))))) (s101_43 h l0 l1 l2 s.2 s.2)
      · exact Seg.w (mLw.k (mLw.k (mLw.k (mLw.k (mLw.k mLw.nil))))) (s101_43 h l0 l1 l2 s.1 s.2)
theorem s101 (h : mH) (l0 : Nat) (l1 : Int32) : Seg 101 (0, [.ref l0, .int l1, .retAddr 0, .retAddr 0, .retAddr 0], []) h (f101 h l0 l1) (fun (q : Int32) (res : Option Value × mH) => res = (some (.int q), h)) := by
  unfold f101
  refine Seg.callP (f1 := (1, [.ref l0, .int l1, .retAddr 0, .retAddr 0, .retAddr 0], [.ref l0])) (h1 := h) (cv := fun r => some (.int r)) rfl rfl rfl rfl (s98 h l0) (fun r1 => ?_)
  refine Seg.blk0 (f' := (10, [.ref l0, .int l1, .int r1, .int r1, .int 0], [])) (h' := h) rfl rfl ?_
  exact Seg.w (mLw.k (mLw.k (mLw.k (mLw.k (mLw.k mLw.nil))))) (s101_10 h l0 l1 r1 mFuel (r1, 0))
theorem s100_25 (h : mH) : Seg 100 (25, [.retAddr 0, .retAddr 0, .retAddr 0, .retAddr 0, .retAddr 0, .retAddr 0], []) h (f100_25 h) (fun (q : Int32) (res : Option Value × mH) => res = (some (.int q), h)) := by
  unfold f100_25
  exact Seg.ret (f1 := (26, [.retAddr 0, .retAddr 0, .retAddr 0, .retAddr 0, .retAddr 0, .retAddr 0], [.int (-1)])) (h1 := h) rfl rfl rfl rfl (fun _ q => q)
theorem s100_49 (h : mH) (q0 : Int32) : Seg 100 (49, [.retAddr 0, .retAddr 0, .retAddr 0, .retAddr 0, .retAddr 0, .retAddr 0], [.int q0]) h (f100_49 h q0) (fun (q : Int32) (res : Option Value × mH) => res = (some (.int q), h)) := by
  unfold f100_49
  exact Seg.ret (f1 := (49, [.retAddr 0, .retAddr 0, .retAddr 0, .retAddr 0, .retAddr 0, .retAddr 0], [.int q0])) (h1 := h) rfl rfl rfl rfl (fun _ q => q)
theorem s100 (h : mH) (l0 : Nat) (l1 : Int32) (l2 : Int32) (l3 : Int32) : Seg 100 (0, [.ref l0, .int l1, .int l2, .int l3, .retAddr 0, .retAddr 0], []) h (f100 h l0 l1 l2 l3) (fun (q : Int32) (res : Option Value × mH) => res = (some (.int q), h)) := by
  unfold f100
  refine Seg.callP (f1 := (5, [.ref l0, .int l1, .int l2, .int l3, .retAddr 0, .retAddr 0], [.int l1, .ref ((mR h l0 0).getD 0)])) (h1 := h) (cv := fun r => some (va_rf r)) rfl rfl rfl rfl (s53 h ((mR h l0 0).getD 0) l1) (fun r1 => ?_)
  cases r1 with
  | none =>
    refine Seg.blk0 (f' := (25, [.ref l0, .int l1, .int l2, .int l3, .null, .retAddr 0], [])) (h' := h) rfl rfl ?_
    exact Seg.w (mLw.u (mLw.u (mLw.u (mLw.u (mLw.u (mLw.k mLw.nil)))))) (s100_25 h)
  | some a1 =>
    refine Seg.blk0 (f' := (15, [.ref l0, .int l1, .int l2, .int l3, .ref a1, .retAddr 0], [])) (h' := h) rfl rfl ?_
    refine Seg.callP (f1 := (19, [.ref l0, .int l1, .int l2, .int l3, .ref a1, .retAddr 0], [.int 9, .int 0, .int l2])) (h1 := h) (cv := fun r => some (.int r)) rfl rfl rfl rfl (s17 h l2 0 9) (fun r2 => ?_)
    refine Seg.blk0 (f' := (if (r2 : Int32) = 0 then 25 else 27, [.ref l0, .int l1, .int l2, .int l3, .ref a1, .retAddr 0], [])) (h' := h) rfl rfl ?_
    refine Seg.ite (fun _ => ?_) (fun _ => ?_)
    · exact Seg.w (mLw.u (mLw.u (mLw.u (mLw.u (mLw.u (mLw.k mLw.nil)))))) (s100_25 h)
    · refine Seg.callP (f1 := (30, [.ref l0, .int l1, .int l2, .int l3, .ref a1, .retAddr 0], [.int l2, .ref a1])) (h1 := h) (cv := fun r => some (.int r)) rfl rfl rfl rfl (s101 h a1 l2) (fun r3 => ?_)
      refine Seg.blk0 (f' := (if (l3 : Int32) = 0 then 44 else 39, [.ref l0, .int l1, .int l2, .int l3, .ref a1, .int r3], [])) (h' := h) rfl rfl ?_
      refine Seg.ite (fun _ => ?_) (fun _ => ?_)
      · refine Seg.callP (f1 := (46, [.ref l0, .int l1, .int l2, .int l3, .ref a1, .int r3], [.int r3])) (h1 := h) (cv := fun r => some (.int r)) rfl rfl rfl rfl (s66 h r3) (fun r4 => ?_)
        exact Seg.w (mLw.u (mLw.u (mLw.u (mLw.u (mLw.u (mLw.u mLw.nil)))))) (s100_49 h r4)
      · refine Seg.blk0 (f' := (49, [.ref l0, .int l1, .int l2, .int l3, .ref a1, .int r3], [.int r3])) (h' := h) rfl rfl ?_
        exact Seg.w (mLw.u (mLw.u (mLw.u (mLw.u (mLw.u (mLw.u mLw.nil)))))) (s100_49 h r3)
theorem s104_57 (h : mH) (l0 : Nat) (l1 : Nat) (l2 : Int32) (l3 : Int32) (l4 : Int32) (l5 : Int32) : Seg 104 (57, [.ref l0, .ref l1, .int l2, .int l3, .int l4, .int l5], []) h (f104_57 h l0 l1 l2 l3 l4 l5) (Sum.elim (fun s : (Int32) => Ev 104 (10, [.ref l0, .ref l1, .int l2, .int l3, .int l4, .int s], []) h) (fun (q : Int32) (res : Option Value × mH) => res = (some (.int q), h))) := by
  unfold f104_57
  refine Seg.blk0 (f' := (10, [.ref l0, .ref l1, .int l2, .int l3, .int l4, .int (l5 + 1)], [])) (h' := h) rfl rfl ?_
  exact Seg.cont (fun _ q => Ev.w (mLw.k (mLw.k (mLw.k (mLw.k (mLw.k (mLw.k mLw.nil)))))) q)
theorem s104_10 (h : mH) (l0 : Nat) (l1 : Nat) (l2 : Int32) (l3 : Int32) (l4 : Int32) : ∀ (n : Nat) (s : (Int32)), Seg 104 (10, [.ref l0, .ref l1, .int l2, .int l3, .int l4, .int s], []) h (mLoop (f104_10 h l0 l1 l2 l3 l4) n s) (fun (q : Int32) (res : Option Value × mH) => res = (some (.int q), h)) := by
  refine Seg.loop (F := fun s : (Int32) => (10, [.ref l0, .ref l1, .int l2, .int l3, .int l4, .int s], [])) (H := fun s : (Int32) => h) (fun s => ?_)
  show Seg 104 (10, [.ref l0, .ref l1, .int l2, .int l3, .int l4, .int s], []) h _ (Sum.elim (fun s : (Int32) => Ev 104 (10, [.ref l0, .ref l1, .int l2, .int l3, .int l4, .int s], []) h) (fun (q : Int32) (res : Option Value × mH) => res = (some (.int q), h)))
  unfold f104_10
  refine Seg.blk (f' := (if ((mI h l1 6) : Int32) ≤ s then 63 else 19, [.ref l0, .ref l1, .int l2, .int l3, .int l4, .int s], [])) (h' := h) rfl rfl ?_
  refine Seg.ite (fun _ => ?_) (fun _ => ?_)
  · refine Seg.x ?_
    exact Seg.ret (f1 := (64, [.ref l0, .ref l1, .int l2, .int l3, .int l4, .int s], [.int (-1)])) (h1 := h) rfl rfl rfl rfl (fun _ q => q)
  · refine Seg.callP (f1 := (23, [.ref l0, .ref l1, .int l2, .int l3, .int l4, .int s], [.int s, .int l4])) (h1 := h) (cv := fun r => some (.int r)) rfl rfl rfl rfl (s71 h l4 s) (fun r2 => ?_)
    refine Seg.blk0 (f' := (if (r2 : Int32) = 0 then 57 else 29, [.ref l0, .ref l1, .int l2, .int l3, .int l4, .int s], [])) (h' := h) rfl rfl ?_
    refine Seg.ite (fun _ => ?_) (fun _ => ?_)
    · exact Seg.w (mLw.k (mLw.k (mLw.k (mLw.k (mLw.k (mLw.k mLw.nil)))))) (s104_57 h l0 l1 l2 l3 l4 s)
    · refine Seg.blk (f' := (if (l3 : Int32) < (mI h ((mR h l1 0).getD 0) (Int32.toNatClampNeg s)) then 57 else 40, [.ref l0, .ref l1, .int l2, .int l3, .int l4, .int s], [])) (h' := h) rfl rfl ?_
      refine Seg.ite (fun _ => ?_) (fun _ => ?_)
      · exact Seg.w (mLw.k (mLw.k (mLw.k (mLw.k (mLw.k (mLw.k mLw.nil)))))) (s104_57 h l0 l1 l2 l3 l4 s)
      · refine Seg.blk (f' := (if ((mI h ((mR h l0 5).getD 0) (Int32.toNatClampNeg (l2 ||| ((1 : Int32) <<< (s &&& (31 : Int32)))))) : Int32) = 0 then 54 else 57, [.ref l0, .ref l1, .int l2, .int l3, .int l4, .int s], [])) (h' := h) rfl rfl ?_
        refine Seg.ite (fun _ => ?_) (fun _ => ?_)
        · refine Seg.x ?_
          exact Seg.ret (f1 := (56, [.ref l0, .ref l1, .int l2, .int l3, .int l4, .int s], [.int s])) (h1 := h) rfl rfl rfl rfl (fun _ q => q)
        · exact Seg.w (mLw.k (mLw.k (mLw.k (mLw.k (mLw.k (mLw.k mLw.nil)))))) (s104_57 h l0 l1 l2 l3 l4 s)
theorem s104 (h : mH) (l0 : Nat) (l1 : Nat) (l2 : Int32) (l3 : Int32) : Seg 104 (0, [.ref l0, .ref l1, .int l2, .int l3, .retAddr 0, .retAddr 0], []) h (f104 h l0 l1 l2 l3) (fun (q : Int32) (res : Option Value × mH) => res = (some (.int q), h)) := by
  unfold f104
  refine Seg.callP (f1 := (2, [.ref l0, .ref l1, .int l2, .int l3, .retAddr 0, .retAddr 0], [.int l2, .ref l1])) (h1 := h) (cv := fun r => some (.int r)) rfl rfl rfl rfl (s70 h l1 l2) (fun r1 => ?_)
  refine Seg.blk0 (f' := (10, [.ref l0, .ref l1, .int l2, .int l3, .int r1, .int 0], [])) (h' := h) rfl rfl ?_
  exact Seg.w (mLw.k (mLw.k (mLw.k (mLw.k (mLw.k (mLw.k mLw.nil)))))) (s104_10 h l0 l1 l2 l3 r1 mFuel (0))
theorem s103_8 (l0 : Nat) (l1 : Nat) (l2 : Int32) : ∀ (n : Nat) (s : (Int32 × Int32 × mH)), Seg 103 (8, [.ref l0, .ref l1, .int l2, .int s.1, .int s.2.1], []) s.2.2 (mLoop (f103_8 l0 l1 l2) n s) (fun (q : Int32 × mH) (res : Option Value × mH) => res = (some (.int q.1), q.2)) := by
  refine Seg.loop (F := fun s : (Int32 × Int32 × mH) => (8, [.ref l0, .ref l1, .int l2, .int s.1, .int s.2.1], [])) (H := fun s : (Int32 × Int32 × mH) => s.2.2) (fun s => ?_)
  show Seg 103 (8, [.ref l0, .ref l1, .int l2, .int s.1, .int s.2.1], []) s.2.2 _ (Sum.elim (fun s : (Int32 × Int32 × mH) => Ev 103 (8, [.ref l0, .ref l1, .int l2, .int s.1, .int s.2.1], []) s.2.2) (fun (q : Int32 × mH) (res : Option Value × mH) => res = (some (.int q.1), q.2)))
  unfold f103_8
  refine Seg.blk0 (f' := (if (s.2.1 : Int32) < 0 then 52 else 13, [.ref l0, .ref l1, .int l2, .int s.1, .int s.2.1], [])) (h' := s.2.2) rfl rfl ?_
  refine Seg.ite (fun _ => ?_) (fun _ => ?_)
  · refine Seg.x ?_
    exact Seg.ret (f1 := (53, [.ref l0, .ref l1, .int l2, .int s.1, .int s.2.1], [.int s.1])) (h1 := s.2.2) rfl rfl rfl rfl (fun _ q => q)
  · refine Seg.callP (f1 := (21, [.ref l0, .ref l1, .int l2, .int s.1, .int s.2.1], [.int s.2.1, .ref l1, .int l2, .int s.2.1, .ref l1, .ref l0])) (h1 := s.2.2) (cv := fun r => some (.int r)) rfl rfl rfl rfl (s95 s.2.2 l1 s.2.1) (fun r2 => ?_)
    refine Seg.callP (f1 := (25, [.ref l0, .ref l1, .int l2, .int s.1, .int s.2.1], [.int (l2 - r2), .int s.2.1, .ref l1, .ref l0])) (h1 := s.2.2) (cv := fun r => some (.int r)) rfl rfl rfl rfl (s104 s.2.2 l0 l1 s.2.1 (l2 - r2)) (fun r3 => ?_)
    refine Seg.blk (f' := (if (r3 : Int32) = (-1) then 44 else 40, [.ref l0, .ref l1, .int l2, .int r3, .int s.2.1], [.int s.2.1, .ref ((mR s.2.2 l0 5).getD 0)])) (h' := s.2.2) rfl rfl ?_
    refine Seg.ite (fun _ => ?_) (fun _ => ?_)
    · refine Seg.blk0 (f' := (45, [.ref l0, .ref l1, .int l2, .int r3, .int s.2.1], [.int 0, .int s.2.1, .ref ((mR s.2.2 l0 5).getD 0)])) (h' := s.2.2) rfl rfl ?_
      refine Seg.blk (f' := (46, [.ref l0, .ref l1, .int l2, .int r3, .int s.2.1], [])) (h' := (mSI s.2.2 ((mR s.2.2 l0 5).getD 0) (Int32.toNatClampNeg s.2.1) 0)) rfl rfl ?_
      refine Seg.blk0 (f' := (8, [.ref l0, .ref l1, .int l2, .int r3, .int (s.2.1 + (-1))], [])) (h' := (mSI s.2.2 ((mR s.2.2 l0 5).getD 0) (Int32.toNatClampNeg s.2.1) 0)) rfl rfl ?_
      exact Seg.cont (fun _ q => Ev.w (mLw.k (mLw.k (mLw.k (mLw.k (mLw.k mLw.nil))))) q)
    · refine Seg.blk0 (f' := (45, [.ref l0, .ref l1, .int l2, .int r3, .int s.2.1], [.int 1, .int s.2.1, .ref ((mR s.2.2 l0 5).getD 0)])) (h' := s.2.2) rfl rfl ?_
      refine Seg.blk (f' := (46, [.ref l0, .ref l1, .int l2, .int r3, .int s.2.1], [])) (h' := (mSI s.2.2 ((mR s.2.2 l0 5).getD 0) (Int32.toNatClampNeg s.2.1) 1)) rfl rfl ?_
      refine Seg.blk0 (f' := (8, [.ref l0, .ref l1, .int l2, .int r3, .int (s.2.1 + (-1))], [])) (h' := (mSI s.2.2 ((mR s.2.2 l0 5).getD 0) (Int32.toNatClampNeg s.2.1) 1)) rfl rfl ?_
      exact Seg.cont (fun _ q => Ev.w (mLw.k (mLw.k (mLw.k (mLw.k (mLw.k mLw.nil))))) q)
theorem s103 (h : mH) (l0 : Nat) (l1 : Nat) (l2 : Int32) : Seg 103 (0, [.ref l0, .ref l1, .int l2, .retAddr 0, .retAddr 0], []) h (f103 h l0 l1 l2) (fun (q : Int32 × mH) (res : Option Value × mH) => res = (some (.int q.1), q.2)) := by
  unfold f103
  refine Seg.callP (f1 := (3, [.ref l0, .ref l1, .int l2, .int (-1), .retAddr 0], [.ref l1])) (h1 := h) (cv := fun r => some (.int r)) rfl rfl rfl rfl (s94 h l1) (fun r1 => ?_)
  refine Seg.blk0 (f' := (8, [.ref l0, .ref l1, .int l2, .int (-1), .int r1], [])) (h' := h) rfl rfl ?_
  exact Seg.w (mLw.k (mLw.k (mLw.k (mLw.k (mLw.k mLw.nil))))) (s103_8 l0 l1 l2 mFuel ((-1), r1, h))
theorem s102_25 (h : mH) : Seg 102 (25, [.retAddr 0, .retAddr 0, .retAddr 0, .retAddr 0, .retAddr 0, .retAddr 0], []) h (f102_25 h) (fun (q : Int32 × mH) (res : Option Value × mH) => res = (some (.int q.1), q.2)) := by
  unfold f102_25
  exact Seg.ret (f1 := (27, [.retAddr 0, .retAddr 0, .retAddr 0, .retAddr 0, .retAddr 0, .retAddr 0], [.int (-2)])) (h1 := h) rfl rfl rfl rfl (fun _ q => q)
theorem s102_58 (h : mH) (q0 : Int32) : Seg 102 (58, [.retAddr 0, .retAddr 0, .retAddr 0, .retAddr 0, .retAddr 0, .retAddr 0], [.int q0]) h (f102_58 h q0) (fun (q : Int32 × mH) (res : Option Value × mH) => res = (some (.int q.1), q.2)) := by
  unfold f102_58
  exact Seg.ret (f1 := (58, [.retAddr 0, .retAddr 0, .retAddr 0, .retAddr 0, .retAddr 0, .retAddr 0], [.int q0])) (h1 := h) rfl rfl rfl rfl (fun _ q => q)
theorem s102 (h : mH) (l0 : Nat) (l1 : Int32) (l2 : Int32) (l3 : Int32) : Seg 102 (0, [.ref l0, .int l1, .int l2, .int l3, .retAddr 0, .retAddr 0], []) h (f102 h l0 l1 l2 l3) (fun (q : Int32 × mH) (res : Option Value × mH) => res = (some (.int q.1), q.2)) := by
  unfold f102
  refine Seg.callP (f1 := (5, [.ref l0, .int l1, .int l2, .int l3, .retAddr 0, .retAddr 0], [.int l1, .ref ((mR h l0 0).getD 0)])) (h1 := h) (cv := fun r => some (va_rf r)) rfl rfl rfl rfl (s53 h ((mR h l0 0).getD 0) l1) (fun r1 => ?_)
  cases r1 with
  | none =>
    refine Seg.blk0 (f' := (25, [.ref l0, .int l1, .int l2, .int l3, .null, .retAddr 0], [])) (h' := h) rfl rfl ?_
    exact Seg.w (mLw.u (mLw.u (mLw.u (mLw.u (mLw.u (mLw.k mLw.nil)))))) (s102_25 h)
  | some a1 =>
    refine Seg.blk0 (f' := (15, [.ref l0, .int l1, .int l2, .int l3, .ref a1, .retAddr 0], [])) (h' := h) rfl rfl ?_
    refine Seg.callP (f1 := (19, [.ref l0, .int l1, .int l2, .int l3, .ref a1, .retAddr 0], [.int 72, .int 0, .int l2])) (h1 := h) (cv := fun r => some (.int r)) rfl rfl rfl rfl (s17 h l2 0 72) (fun r2 => ?_)
    refine Seg.blk0 (f' := (if (r2 : Int32) = 0 then 25 else 28, [.ref l0, .int l1, .int l2, .int l3, .ref a1, .retAddr 0], [])) (h' := h) rfl rfl ?_
    refine Seg.ite (fun _ => ?_) (fun _ => ?_)
    · exact Seg.w (mLw.u (mLw.u (mLw.u (mLw.u (mLw.u (mLw.k mLw.nil)))))) (s102_25 h)
    · refine Seg.call (f1 := (35, [.ref l0, .int l1, .int l2, .int l3, .ref a1, .retAddr 0], [.int l2, .ref a1, .ref ((mR h l0 6).getD 0)])) (h1 := h) (cv := fun r => some (.int r)) rfl rfl rfl rfl (s103 h ((mR h l0 6).getD 0) a1 l2) (fun r3 => ?_)
      refine Seg.blk0 (f' := (if (l3 : Int32) = 0 then 47 else 44, [.ref l0, .int l1, .int l2, .int l3, .ref a1, .int r3.1], [])) (h' := r3.2) rfl rfl ?_
      refine Seg.ite (fun _ => ?_) (fun _ => ?_)
      · refine Seg.blk0 (f' := (if (r3.1 : Int32) = (-1) then 53 else 57, [.ref l0, .int l1, .int l2, .int l3, .ref a1, .int r3.1], [])) (h' := r3.2) rfl rfl ?_
        refine Seg.ite (fun _ => ?_) (fun _ => ?_)
        · refine Seg.blk0 (f' := (58, [.ref l0, .int l1, .int l2, .int l3, .ref a1, .int r3.1], [.int 0])) (h' := r3.2) rfl rfl ?_
          exact Seg.w (mLw.u (mLw.u (mLw.u (mLw.u (mLw.u (mLw.u mLw.nil)))))) (s102_58 r3.2 0)
        · refine Seg.blk0 (f' := (58, [.ref l0, .int l1, .int l2, .int l3, .ref a1, .int r3.1], [.int 1])) (h' := r3.2) rfl rfl ?_
          exact Seg.w (mLw.u (mLw.u (mLw.u (mLw.u (mLw.u (mLw.u mLw.nil)))))) (s102_58 r3.2 1)
      · exact Seg.ret (f1 := (46, [.ref l0, .int l1, .int l2, .int l3, .ref a1, .int r3.1], [.int r3.1])) (h1 := r3.2) rfl rfl rfl rfl (fun _ q => q)
theorem s106_29 (h : mH) (q0 : Int32) : Seg 106 (29, [.retAddr 0, .retAddr 0], [.int q0]) h (f106_29 h q0) (fun (q : Int32) (res : Option Value × mH) => res = (some (.int q), h)) := by
  unfold f106_29
  exact Seg.ret (f1 := (29, [.retAddr 0, .retAddr 0], [.int q0])) (h1 := h) rfl rfl rfl rfl (fun _ q => q)
theorem s106 (h : mH) (l0 : Nat) (l1 : Int32) : Seg 106 (0, [.ref l0, .int l1], []) h (f106 h l0 l1) (fun (q : Int32) (res : Option Value × mH) => res = (some (.int q), h)) := by
  unfold f106
  refine Seg.blk (f' := (if (1 : Int32) ≤ (mI h l0 8) then 12 else 8, [.ref l0, .int l1], [])) (h' := h) rfl rfl ?_
  refine Seg.ite (fun _ => ?_) (fun _ => ?_)
  · refine Seg.callP (f1 := (14, [.ref l0, .int l1], [.int l1, .ref l0])) (h1 := h) (cv := fun r => some (.int r)) rfl rfl rfl rfl (s95 h l0 l1) (fun r1 => ?_)
    refine Seg.blk (f' := (29, [.ref l0, .int l1], [.int (((r1 + (mI h l0 8)) - 1) / (mI h l0 8))])) (h' := h) rfl rfl ?_
    exact Seg.w (mLw.u (mLw.u mLw.nil)) (s106_29 h (((r1 + (mI h l0 8)) - 1) / (mI h l0 8)))
  · refine Seg.blk0 (f' := (29, [.ref l0, .int l1], [.int (-1)])) (h' := h) rfl rfl ?_
    exact Seg.w (mLw.u (mLw.u mLw.nil)) (s106_29 h (-1))
theorem s107_5 (h : mH) (l0 : Int32) (l1 : Int32) : ∀ (n : Nat) (s : (Int64 × Int32)), Seg 107 (5, [.int l0, .int l1, .long s.1, .retAddr 0, .int s.2], []) h (mLoop (f107_5 h l0 l1) n s) (fun (q : Int64) (res : Option Value × mH) => res = (some (.long q), h)) := by
  refine Seg.loop (F := fun s : (Int64 × Int32) => (5, [.int l0, .int l1, .long s.1, .retAddr 0, .int s.2], [])) (H := fun s : (Int64 × Int32) => h) (fun s => ?_)
  show Seg 107 (5, [.int l0, .int l1, .long s.1, .retAddr 0, .int s.2], []) h _ (Sum.elim (fun s : (Int64 × Int32) => Ev 107 (5, [.int l0, .int l1, .long s.1, .retAddr 0, .int s.2], []) h) (fun (q : Int64) (res : Option Value × mH) => res = (some (.long q), h)))
  unfold f107_5
  refine Seg.blk0 (f' := (if (l1 : Int32) < s.2 then 31 else 11, [.int l0, .int l1, .long s.1, .retAddr 0, .int s.2], [])) (h' := h) rfl rfl ?_
  refine Seg.ite (fun _ => ?_) (fun _ => ?_)
  · refine Seg.x ?_
    exact Seg.ret (f1 := (32, [.int l0, .int l1, .long s.1, .retAddr 0, .int s.2], [.long s.1])) (h1 := h) rfl rfl rfl rfl (fun _ q => q)
  · refine Seg.blk (f' := (5, [.int l0, .int l1, .long ((s.1 * (Int32.toInt64 ((l0 - l1) + s.2))) / (Int32.toInt64 s.2)), .retAddr 0, .int (s.2 + 1)], [])) (h' := h) rfl rfl ?_
    exact Seg.cont (fun _ q => Ev.w (mLw.k (mLw.k (mLw.k (mLw.k (mLw.k mLw.nil))))) q)
theorem s107 (h : mH) (l0 : Int32) (l1 : Int32) : Seg 107 (0, [.int l0, .int l1, .retAddr 0, .retAddr 0, .retAddr 0], []) h (f107 h l0 l1) (fun (q : Int64) (res : Option Value × mH) => res = (some (.long q), h)) := by
  unfold f107
  refine Seg.blk0 (f' := (5, [.int l0, .int l1, .long 1, .retAddr 0, .int 1], [])) (h' := h) rfl rfl ?_
  exact Seg.w (mLw.k (mLw.k (mLw.k (mLw.k (mLw.k mLw.nil))))) (s107_5 h l0 l1 mFuel (1, 1))
theorem s108_5 (h : mH) (l0 : Int64) (l2 : Int32) : ∀ (n : Nat) (s : (Int64 × Int32)), Seg 108 (5, [.long l0, .retAddr 0, .int l2, .long s.1, .retAddr 0, .int s.2], []) h (mLoop (f108_5 h l0 l2) n s) (fun (q : Int64) (res : Option Value × mH) => res = (some (.long q), h)) := by
  refine Seg.loop (F := fun s : (Int64 × Int32) => (5, [.long l0, .retAddr 0, .int l2, .long s.1, .retAddr 0, .int s.2], [])) (H := fun s : (Int64 × Int32) => h) (fun s => ?_)
  show Seg 108 (5, [.long l0, .retAddr 0, .int l2, .long s.1, .retAddr 0, .int s.2], []) h _ (Sum.elim (fun s : (Int64 × Int32) => Ev 108 (5, [.long l0, .retAddr 0, .int l2, .long s.1, .retAddr 0, .int s.2], []) h) (fun (q : Int64) (res : Option Value × mH) => res = (some (.long q), h)))
  unfold f108_5
  refine Seg.blk0 (f' := (if (l2 : Int32) ≤ s.2 then 21 else 11, [.long l0, .retAddr 0, .int l2, .long s.1, .retAddr 0, .int s.2], [])) (h' := h) rfl rfl ?_
  refine Seg.ite (fun _ => ?_) (fun _ => ?_)
  · refine Seg.x ?_
    exact Seg.ret (f1 := (22, [.long l0, .retAddr 0, .int l2, .long s.1, .retAddr 0, .int s.2], [.long s.1])) (h1 := h) rfl rfl rfl rfl (fun _ q => q)
  · refine Seg.blk0 (f' := (5, [.long l0, .retAddr 0, .int l2, .long (s.1 * l0), .retAddr 0, .int (s.2 + 1)], [])) (h' := h) rfl rfl ?_
    exact Seg.cont (fun _ q => Ev.w (mLw.k (mLw.k (mLw.k (mLw.k (mLw.k (mLw.k mLw.nil)))))) q)
theorem s108 (h : mH) (l0 : Int64) (l2 : Int32) : Seg 108 (0, [.long l0, .retAddr 0, .int l2, .retAddr 0, .retAddr 0, .retAddr 0], []) h (f108 h l0 l2) (fun (q : Int64) (res : Option Value × mH) => res = (some (.long q), h)) := by
  unfold f108
  refine Seg.blk0 (f' := (5, [.long l0, .retAddr 0, .int l2, .long 1, .retAddr 0, .int 0], [])) (h' := h) rfl rfl ?_
  exact Seg.w (mLw.k (mLw.k (mLw.k (mLw.k (mLw.k (mLw.k mLw.nil)))))) (s108_5 h l0 l2 mFuel (1, 0))
theorem s109_71 (h : mH) (q0 : Int64) : Seg 109 (71, [.retAddr 0, .retAddr 0, .retAddr 0, .retAddr 0, .retAddr 0, .retAddr 0, .retAddr 0, .retAddr 0, .retAddr 0, .retAddr 0, .retAddr 0, .retAddr 0], [.long q0]) h (f109_71 h q0) (fun (q : Int64) (res : Option Value × mH) => res = (some (.long q), h)) := by
  unfold f109_71
  exact Seg.ret (f1 := (71, [.retAddr 0, .retAddr 0, .retAddr 0, .retAddr 0, .retAddr 0, .retAddr 0, .retAddr 0, .retAddr 0, .retAddr 0, .retAddr 0, .retAddr 0, .retAddr 0], [.long q0])) (h1 := h) rfl rfl rfl rfl (fun _ q => q)
theorem s109_44 (h : mH) (l0 : Int64) (l2 : Int64) (l4 : Int32) (l5 : Int64) : Seg 109 (44, [.long l0, .retAddr 0, .long l2, .retAddr 0, .int l4, .long l5, .retAddr 0, .retAddr 0, .retAddr 0, .retAddr 0, .retAddr 0, .retAddr 0], []) h (f109_44 h l0 l2 l4 l5) (fun (q : Int64) (res : Option Value × mH) => res = (some (.long q), h)) := by
  unfold f109_44
  refine Seg.blk0 (f' := (if ((lg_cmp l5 0) : Int32) = 0 then 51 else 55, [.long l0, .retAddr 0, .long l2, .retAddr 0, .int l4, .long l5, .retAddr 0, .retAddr 0, .retAddr 0, .retAddr 0, .retAddr 0, .retAddr 0], [])) (h' := h) rfl rfl ?_
  refine Seg.ite (fun _ => ?_) (fun _ => ?_)
  · exact Seg.ret (f1 := (54, [.long l0, .retAddr 0, .long l2, .retAddr 0, .int l4, .long l5, .retAddr 0, .retAddr 0, .retAddr 0, .retAddr 0, .retAddr 0, .retAddr 0], [.long (-1)])) (h1 := h) rfl rfl rfl rfl (fun _ q => q)
  · refine Seg.blk0 (f' := (if (l4 : Int32) = 0 then 67 else 60, [.long l0, .retAddr 0, .long l2, .retAddr 0, .int l4, .long l5, .retAddr 0, .retAddr 0, .retAddr 0, .retAddr 0, .retAddr 0, .retAddr 0], [])) (h' := h) rfl rfl ?_
    refine Seg.ite (fun _ => ?_) (fun _ => ?_)
    · refine Seg.blk (f' := (71, [.long l0, .retAddr 0, .long l2, .retAddr 0, .int l4, .long l5, .retAddr 0, .retAddr 0, .retAddr 0, .retAddr 0, .retAddr 0, .retAddr 0], [.long (l0 / l5)])) (h' := h) rfl rfl ?_
      exact Seg.w (mLw.u (mLw.k (mLw.u (mLw.k (mLw.u (mLw.u (mLw.k (mLw.k (mLw.k (mLw.k (mLw.k (mLw.k mLw.nil)))))))))))) (s109_71 h (l0 / l5))
    · refine Seg.blk (f' := (71, [.long l0, .retAddr 0, .long l2, .retAddr 0, .int l4, .long l5, .retAddr 0, .retAddr 0, .retAddr 0, .retAddr 0, .retAddr 0, .retAddr 0], [.long (l2 / l5)])) (h' := h) rfl rfl ?_
      exact Seg.w (mLw.u (mLw.k (mLw.u (mLw.k (mLw.u (mLw.u (mLw.k (mLw.k (mLw.k (mLw.k (mLw.k (mLw.k mLw.nil)))))))))))) (s109_71 h (l2 / l5))
theorem s109_9 (h : mH) (l0 : Int64) (l2 : Int64) (l4 : Int32) : ∀ (n : Nat) (s : (Int64 × Int64 × Int32)), Seg 109 (9, [.long l0, .retAddr 0, .long l2, .retAddr 0, .int l4, .long s.1, .retAddr 0, .long s.2.1, .retAddr 0, .int s.2.2, .retAddr 0, .retAddr 0], []) h (mLoop (f109_9 h l0 l2 l4) n s) (fun (q : Int64) (res : Option Value × mH) => res = (some (.long q), h)) := by
  refine Seg.loop (F := fun s : (Int64 × Int64 × Int32) => (9, [.long l0, .retAddr 0, .long l2, .retAddr 0, .int l4, .long s.1, .retAddr 0, .long s.2.1, .retAddr 0, .int s.2.2, .retAddr 0, .retAddr 0], [])) (H := fun s : (Int64 × Int64 × Int32) => h) (fun s => ?_)
  show Seg 109 (9, [.long l0, .retAddr 0, .long l2, .retAddr 0, .int l4, .long s.1, .retAddr 0, .long s.2.1, .retAddr 0, .int s.2.2, .retAddr 0, .retAddr 0], []) h _ (Sum.elim (fun s : (Int64 × Int64 × Int32) => Ev 109 (9, [.long l0, .retAddr 0, .long l2, .retAddr 0, .int l4, .long s.1, .retAddr 0, .long s.2.1, .retAddr 0, .int s.2.2, .retAddr 0, .retAddr 0], []) h) (fun (q : Int64) (res : Option Value × mH) => res = (some (.long q), h)))
  unfold f109_9
  refine Seg.blk0 (f' := (if (100 : Int32) ≤ s.2.2 then 44 else 16, [.long l0, .retAddr 0, .long l2, .retAddr 0, .int l4, .long s.1, .retAddr 0, .long s.2.1, .retAddr 0, .int s.2.2, .retAddr 0, .retAddr 0], [])) (h' := h) rfl rfl ?_
  refine Seg.ite (fun _ => ?_) (fun _ => ?_)
  · refine Seg.x ?_
    exact Seg.w (mLw.k (mLw.k (mLw.k (mLw.k (mLw.k (mLw.k (mLw.k (mLw.u (mLw.k (mLw.u (mLw.k (mLw.k mLw.nil)))))))))))) (s109_44 h l0 l2 l4 s.1)
  · refine Seg.blk0 (f' := (if ((lg_cmp s.2.1 0) : Int32) = 0 then 44 else 23, [.long l0, .retAddr 0, .long l2, .retAddr 0, .int l4, .long s.1, .retAddr 0, .long s.2.1, .retAddr 0, .int s.2.2, .retAddr 0, .retAddr 0], [])) (h' := h) rfl rfl ?_
    refine Seg.ite (fun _ => ?_) (fun _ => ?_)
    · refine Seg.x ?_
      exact Seg.w (mLw.k (mLw.k (mLw.k (mLw.k (mLw.k (mLw.k (mLw.k (mLw.u (mLw.k (mLw.u (mLw.k (mLw.k mLw.nil)))))))))))) (s109_44 h l0 l2 l4 s.1)
    · refine Seg.blk (f' := (9, [.long l0, .retAddr 0, .long l2, .retAddr 0, .int l4, .long s.2.1, .retAddr 0, .long (s.1 - s.1 / s.2.1 * s.2.1), .retAddr 0, .int (s.2.2 + 1), .long (s.1 - s.1 / s.2.1 * s.2.1), .retAddr 0], [])) (h' := h) rfl rfl ?_
      exact Seg.cont (fun _ q => Ev.w (mLw.k (mLw.k (mLw.k (mLw.k (mLw.k (mLw.k (mLw.k (mLw.k (mLw.k (mLw.k (mLw.u (mLw.k mLw.nil)))))))))))) q)
theorem s109 (h : mH) (l0 : Int64) (l2 : Int64) (l4 : Int32) : Seg 109 (0, [.long l0, .retAddr 0, .long l2, .retAddr 0, .int l4, .retAddr 0, .retAddr 0, .retAddr 0, .retAddr 0, .retAddr 0, .retAddr 0, .retAddr 0], []) h (f109 h l0 l2 l4) (fun (q : Int64) (res : Option Value × mH) => res = (some (.long q), h)) := by
  unfold f109
  refine Seg.blk0 (f' := (9, [.long l0, .retAddr 0, .long l2, .retAddr 0, .int l4, .long l2, .retAddr 0, .long l0, .retAddr 0, .int 0, .retAddr 0, .retAddr 0], [])) (h' := h) rfl rfl ?_
  exact Seg.w (mLw.k (mLw.k (mLw.k (mLw.k (mLw.k (mLw.k (mLw.k (mLw.k (mLw.k (mLw.k (mLw.k (mLw.k mLw.nil)))))))))))) (s109_9 h l0 l2 l4 mFuel (l2, l0, 0))
theorem s105_49 (h : mH) : Seg 105 (49, [.retAddr 0, .retAddr 0, .retAddr 0, .retAddr 0, .retAddr 0, .retAddr 0, .retAddr 0, .retAddr 0, .retAddr 0, .retAddr 0, .retAddr 0], []) h (f105_49 h) (fun (q : Int64) (res : Option Value × mH) => res = (some (.long q), h)) := by
  unfold f105_49
  exact Seg.ret (f1 := (52, [.retAddr 0, .retAddr 0, .retAddr 0, .retAddr 0, .retAddr 0, .retAddr 0, .retAddr 0, .retAddr 0, .retAddr 0, .retAddr 0, .retAddr 0], [.long (-1)])) (h1 := h) rfl rfl rfl rfl (fun _ q => q)
theorem s105_68 (h : mH) (l3 : Int32) (l4 : Int32) (l5 : Int32) : ∀ (n : Nat) (s : (Int64 × Int32)), Seg 105 (68, [.retAddr 0, .retAddr 0, .retAddr 0, .int l3, .int l4, .int l5, .retAddr 0, .retAddr 0, .long s.1, .retAddr 0, .int s.2], []) h (mLoop (f105_68 h l3 l4 l5) n s) (fun (q : Int64) (res : Option Value × mH) => res = (some (.long q), h)) := by
  refine Seg.loop (F := fun s : (Int64 × Int32) => (68, [.retAddr 0, .retAddr 0, .retAddr 0, .int l3, .int l4, .int l5, .retAddr 0, .retAddr 0, .long s.1, .retAddr 0, .int s.2], [])) (H := fun s : (Int64 × Int32) => h) (fun s => ?_)
  show Seg 105 (68, [.retAddr 0, .retAddr 0, .retAddr 0, .int l3, .int l4, .int l5, .retAddr 0, .retAddr 0, .long s.1, .retAddr 0, .int s.2], []) h _ (Sum.elim (fun s : (Int64 × Int32) => Ev 105 (68, [.retAddr 0, .retAddr 0, .retAddr 0, .int l3, .int l4, .int l5, .retAddr 0, .retAddr 0, .long s.1, .retAddr 0, .int s.2], []) h) (fun (q : Int64) (res : Option Value × mH) => res = (some (.long q), h)))
  unfold f105_68
  refine Seg.blk0 (f' := (if (l3 : Int32) < s.2 then 114 else 74, [.retAddr 0, .retAddr 0, .retAddr 0, .int l3, .int l4, .int l5, .retAddr 0, .retAddr 0, .long s.1, .retAddr 0, .int s.2], [])) (h' := h) rfl rfl ?_
  refine Seg.ite (fun _ => ?_) (fun _ => ?_)
  · refine Seg.x ?_
    refine Seg.callP (f1 := (120, [.retAddr 0, .retAddr 0, .retAddr 0, .int l3, .int l4, .int l5, .retAddr 0, .retAddr 0, .long s.1, .retAddr 0, .int s.2], [.int l3, .long 10, .long s.1])) (h1 := h) (cv := fun r => some (.long r)) rfl rfl rfl rfl (s108 h 10 l3) (fun r7 => ?_)
    refine Seg.callP (f1 := (125, [.retAddr 0, .retAddr 0, .retAddr 0, .int l3, .int l4, .int l5, .retAddr 0, .retAddr 0, .long s.1, .retAddr 0, .int s.2], [.int l5, .long r7, .long s.1])) (h1 := h) (cv := fun r => some (.long r)) rfl rfl rfl rfl (s109 h s.1 r7 l5) (fun r8 => ?_)
    exact Seg.ret (f1 := (128, [.retAddr 0, .retAddr 0, .retAddr 0, .int l3, .int l4, .int l5, .retAddr 0, .retAddr 0, .long s.1, .retAddr 0, .int s.2], [.long r8])) (h1 := h) rfl rfl rfl rfl (fun _ q => q)
  · refine Seg.callP (f1 := (79, [.retAddr 0, .retAddr 0, .retAddr 0, .int l3, .int l4, .int l5, .retAddr 0, .retAddr 0, .long s.1, .retAddr 0, .int s.2], [.int s.2, .int l3, .long s.1])) (h1 := h) (cv := fun r => some (.long r)) rfl rfl rfl rfl (s107 h l3 s.2) (fun r9 => ?_)
    refine Seg.callP (f1 := (90, [.retAddr 0, .retAddr 0, .retAddr 0, .int l3, .int l4, .int l5, .retAddr 0, .retAddr 0, .long s.1, .retAddr 0, .int s.2], [.int s.2, .long (Int32.toInt64 (10 - l4)), .long r9, .long s.1])) (h1 := h) (cv := fun r => some (.long r)) rfl rfl rfl rfl (s108 h (Int32.toInt64 (10 - l4)) s.2) (fun r10 => ?_)
    refine Seg.callP (f1 := (101, [.retAddr 0, .retAddr 0, .retAddr 0, .int l3, .int l4, .int l5, .retAddr 0, .retAddr 0, .long s.1, .retAddr 0, .int s.2], [.int (l3 - s.2), .long (Int32.toInt64 l4), .long (r9 * r10), .long s.1])) (h1 := h) (cv := fun r => some (.long r)) rfl rfl rfl rfl (s108 h (Int32.toInt64 l4) (l3 - s.2)) (fun r11 => ?_)
    refine Seg.blk0 (f' := (68, [.retAddr 0, .retAddr 0, .retAddr 0, .int l3, .int l4, .int l5, .retAddr 0, .retAddr 0, .long (s.1 + ((r9 * r10) * r11)), .retAddr 0, .int (s.2 + 1)], [])) (h' := h) rfl rfl ?_
    exact Seg.cont (fun _ q => Ev.w (mLw.k (mLw.k (mLw.k (mLw.k (mLw.k (mLw.k (mLw.k (mLw.k (mLw.k (mLw.k (mLw.k mLw.nil))))))))))) q)
theorem s105 (h : mH) (l0 : Nat) (l1 : Int32) (l2 : Int32) (l3 : Int32) (l4 : Int32) (l5 : Int32) : Seg 105 (0, [.ref l0, .int l1, .int l2, .int l3, .int l4, .int l5, .retAddr 0, .retAddr 0, .retAddr 0, .retAddr 0, .retAddr 0], []) h (f105 h l0 l1 l2 l3 l4 l5) (fun (q : Int64) (res : Option Value × mH) => res = (some (.long q), h)) := by
  unfold f105
  refine Seg.callP (f1 := (5, [.ref l0, .int l1, .int l2, .int l3, .int l4, .int l5, .retAddr 0, .retAddr 0, .retAddr 0, .retAddr 0, .retAddr 0], [.int l1, .ref ((mR h l0 0).getD 0)])) (h1 := h) (cv := fun r => some (va_rf r)) rfl rfl rfl rfl (s53 h ((mR h l0 0).getD 0) l1) (fun r1 => ?_)
  cases r1 with
  | none =>
    refine Seg.blk0 (f' := (49, [.ref l0, .int l1, .int l2, .int l3, .int l4, .int l5, .null, .retAddr 0, .retAddr 0, .retAddr 0, .retAddr 0], [])) (h' := h) rfl rfl ?_
    exact Seg.w (mLw.u (mLw.u (mLw.u (mLw.u (mLw.u (mLw.u (mLw.u (mLw.k (mLw.k (mLw.k (mLw.k mLw.nil))))))))))) (s105_49 h)
  | some a1 =>
    refine Seg.blk0 (f' := (15, [.ref l0, .int l1, .int l2, .int l3, .int l4, .int l5, .ref a1, .retAddr 0, .retAddr 0, .retAddr 0, .retAddr 0], [])) (h' := h) rfl rfl ?_
    refine Seg.callP (f1 := (19, [.ref l0, .int l1, .int l2, .int l3, .int l4, .int l5, .ref a1, .retAddr 0, .retAddr 0, .retAddr 0, .retAddr 0], [.ref a1, .int 0, .int l2])) (h1 := h) (cv := fun r => some (.int r)) rfl rfl rfl rfl (s94 h a1) (fun r2 => ?_)
    refine Seg.callP (f1 := (22, [.ref l0, .int l1, .int l2, .int l3, .int l4, .int l5, .ref a1, .retAddr 0, .retAddr 0, .retAddr 0, .retAddr 0], [.int r2, .int 0, .int l2])) (h1 := h) (cv := fun r => some (.int r)) rfl rfl rfl rfl (s17 h l2 0 r2) (fun r3 => ?_)
    refine Seg.blk0 (f' := (if (r3 : Int32) = 0 then 49 else 28, [.ref l0, .int l1, .int l2, .int l3, .int l4, .int l5, .ref a1, .retAddr 0, .retAddr 0, .retAddr 0, .retAddr 0], [])) (h' := h) rfl rfl ?_
    refine Seg.ite (fun _ => ?_) (fun _ => ?_)
    · exact Seg.w (mLw.u (mLw.u (mLw.u (mLw.u (mLw.u (mLw.u (mLw.u (mLw.k (mLw.k (mLw.k (mLw.k mLw.nil))))))))))) (s105_49 h)
    · refine Seg.callP (f1 := (32, [.ref l0, .int l1, .int l2, .int l3, .int l4, .int l5, .ref a1, .retAddr 0, .retAddr 0, .retAddr 0, .retAddr 0], [.int 9, .int 1, .int l3])) (h1 := h) (cv := fun r => some (.int r)) rfl rfl rfl rfl (s17 h l3 1 9) (fun r4 => ?_)
      refine Seg.blk0 (f' := (if (r4 : Int32) = 0 then 49 else 38, [.ref l0, .int l1, .int l2, .int l3, .int l4, .int l5, .ref a1, .retAddr 0, .retAddr 0, .retAddr 0, .retAddr 0], [])) (h' := h) rfl rfl ?_
      refine Seg.ite (fun _ => ?_) (fun _ => ?_)
      · exact Seg.w (mLw.u (mLw.u (mLw.u (mLw.u (mLw.u (mLw.u (mLw.u (mLw.k (mLw.k (mLw.k (mLw.k mLw.nil))))))))))) (s105_49 h)
      · refine Seg.callP (f1 := (43, [.ref l0, .int l1, .int l2, .int l3, .int l4, .int l5, .ref a1, .retAddr 0, .retAddr 0, .retAddr 0, .retAddr 0], [.int 10, .int 0, .int l4])) (h1 := h) (cv := fun r => some (.int r)) rfl rfl rfl rfl (s17 h l4 0 10) (fun r5 => ?_)
        refine Seg.blk0 (f' := (if (r5 : Int32) = 0 then 49 else 53, [.ref l0, .int l1, .int l2, .int l3, .int l4, .int l5, .ref a1, .retAddr 0, .retAddr 0, .retAddr 0, .retAddr 0], [])) (h' := h) rfl rfl ?_
        refine Seg.ite (fun _ => ?_) (fun _ => ?_)
        · exact Seg.w (mLw.u (mLw.u (mLw.u (mLw.u (mLw.u (mLw.u (mLw.u (mLw.k (mLw.k (mLw.k (mLw.k mLw.nil))))))))))) (s105_49 h)
        · refine Seg.callP (f1 := (56, [.ref l0, .int l1, .int l2, .int l3, .int l4, .int l5, .ref a1, .retAddr 0, .retAddr 0, .retAddr 0, .retAddr 0], [.int l2, .ref a1])) (h1 := h) (cv := fun r => some (.int r)) rfl rfl rfl rfl (s106 h a1 l2) (fun r6 => ?_)
          refine Seg.blk0 (f' := (68, [.ref l0, .int l1, .int l2, .int l3, .int l4, .int l5, .ref a1, .int r6, .long 0, .retAddr 0, .int r6], [])) (h' := h) rfl rfl ?_
          exact Seg.w (mLw.u (mLw.u (mLw.u (mLw.k (mLw.k (mLw.k (mLw.u (mLw.u (mLw.k (mLw.k (mLw.k mLw.nil))))))))))) (s105_68 h l3 l4 l5 mFuel (0, r6))
