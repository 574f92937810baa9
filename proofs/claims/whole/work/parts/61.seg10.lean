/-! The small machine runs the programs; printed by a program of ours. -/
theorem s238_2 (l0 : Nat) (l1 : Int32) : ∀ (n : Nat) (s : (Int32 × mH)), Seg 238 (2, [.ref l0, .int l1, .int s.1], []) s.2 (mLoop (f238_2 l0 l1) n s) (fun (q : Unit × mH) (res : Option Value × mH) => res = (none, q.2)) := by
  refine Seg.loop (F := fun s : (Int32 × mH) => (2, [.ref l0, .int l1, .int s.1], [])) (H := fun s : (Int32 × mH) => s.2) (fun s => ?_)
  show Seg 238 (2, [.ref l0, .int l1, .int s.1], []) s.2 _ (Sum.elim (fun s : (Int32 × mH) => Ev 238 (2, [.ref l0, .int l1, .int s.1], []) s.2) (fun (q : Unit × mH) (res : Option Value × mH) => res = (none, q.2)))
  unfold f238_2
  refine Seg.blk0 (f' := (if (l1 : Int32) ≤ s.1 then 20 else 7, [.ref l0, .int l1, .int s.1], [])) (h' := s.2) rfl rfl ?_
  refine Seg.ite (fun _ => ?_) (fun _ => ?_)
  · refine Seg.x ?_
    exact Seg.ret (f1 := (20, [.ref l0, .int l1, .int s.1], [])) (h1 := s.2) rfl rfl rfl rfl (fun _ q => q)
  · refine Seg.blk (f' := (14, [.ref l0, .int l1, .int s.1], [])) (h' := (mSI s.2 ((mR s.2 l0 38).getD 0) (Int32.toNatClampNeg s.1) 0)) rfl rfl ?_
    refine Seg.blk0 (f' := (2, [.ref l0, .int l1, .int (s.1 + 1)], [])) (h' := (mSI s.2 ((mR s.2 l0 38).getD 0) (Int32.toNatClampNeg s.1) 0)) rfl rfl ?_
    exact Seg.cont (fun _ q => Ev.w (mLw.k (mLw.k (mLw.k mLw.nil))) q)
theorem s238 (h : mH) (l0 : Nat) (l1 : Int32) : Seg 238 (0, [.ref l0, .int l1, .retAddr 0], []) h (f238 h l0 l1) (fun (q : Unit × mH) (res : Option Value × mH) => res = (none, q.2)) := by
  unfold f238
  refine Seg.blk0 (f' := (2, [.ref l0, .int l1, .int 0], [])) (h' := h) rfl rfl ?_
  exact Seg.w (mLw.k (mLw.k (mLw.k mLw.nil))) (s238_2 l0 l1 mFuel (0, h))
theorem s239_6 (l0 : Nat) (l1 : Int32) (l2 : Int32) : ∀ (n : Nat) (s : (Int32 × mH)), Seg 239 (6, [.ref l0, .int l1, .int l2, .int s.1], []) s.2 (mLoop (f239_6 l0 l1 l2) n s) (fun (q : Unit × mH) (res : Option Value × mH) => res = (none, q.2)) := by
  refine Seg.loop (F := fun s : (Int32 × mH) => (6, [.ref l0, .int l1, .int l2, .int s.1], [])) (H := fun s : (Int32 × mH) => s.2) (fun s => ?_)
  show Seg 239 (6, [.ref l0, .int l1, .int l2, .int s.1], []) s.2 _ (Sum.elim (fun s : (Int32 × mH) => Ev 239 (6, [.ref l0, .int l1, .int l2, .int s.1], []) s.2) (fun (q : Unit × mH) (res : Option Value × mH) => res = (none, q.2)))
  unfold f239_6
  refine Seg.blk0 (f' := (if (l1 : Int32) ≤ s.1 then 27 else 11, [.ref l0, .int l1, .int l2, .int s.1], [])) (h' := s.2) rfl rfl ?_
  refine Seg.ite (fun _ => ?_) (fun _ => ?_)
  · refine Seg.x ?_
    refine Seg.call (f1 := (29, [.ref l0, .int l1, .int l2, .int s.1], [.int l2, .ref l0])) (h1 := s.2) (cv := fun _ => none) rfl rfl rfl rfl (s234 s.2 l0 l2) (fun r2 => ?_)
    exact Seg.ret (f1 := (32, [.ref l0, .int l1, .int l2, .int s.1], [])) (h1 := r2.2) rfl rfl rfl rfl (fun _ q => q)
  · refine Seg.call (f1 := (18, [.ref l0, .int l1, .int l2, .int s.1], [.int (mI s.2 ((mR s.2 l0 38).getD 0) (Int32.toNatClampNeg s.1)), .ref l0])) (h1 := s.2) (cv := fun _ => none) rfl rfl rfl rfl (s224 s.2 l0 (mI s.2 ((mR s.2 l0 38).getD 0) (Int32.toNatClampNeg s.1))) (fun r3 => ?_)
    refine Seg.blk0 (f' := (6, [.ref l0, .int l1, .int l2, .int (s.1 + 1)], [])) (h' := r3.2) rfl rfl ?_
    exact Seg.cont (fun _ q => Ev.w (mLw.k (mLw.k (mLw.k (mLw.k mLw.nil)))) q)
theorem s239 (h : mH) (l0 : Nat) (l1 : Int32) (l2 : Int32) : Seg 239 (0, [.ref l0, .int l1, .int l2, .retAddr 0], []) h (f239 h l0 l1 l2) (fun (q : Unit × mH) (res : Option Value × mH) => res = (none, q.2)) := by
  unfold f239
  refine Seg.call (f1 := (1, [.ref l0, .int l1, .int l2, .retAddr 0], [.ref l0])) (h1 := h) (cv := fun _ => none) rfl rfl rfl rfl (s207 h l0) (fun r1 => ?_)
  refine Seg.blk0 (f' := (6, [.ref l0, .int l1, .int l2, .int 0], [])) (h' := r1.2) rfl rfl ?_
  exact Seg.w (mLw.k (mLw.k (mLw.k (mLw.k mLw.nil)))) (s239_6 l0 l1 l2 mFuel (0, r1.2))
theorem s240_42 (l0 : Nat) (l1 : Int32) (l3 : Int32) : ∀ (n : Nat) (s : (Int32 × mH)), Seg 240 (42, [.ref l0, .int l1, .retAddr 0, .int l3, .int s.1], []) s.2 (mLoop (f240_42 l0 l1 l3) n s) (fun (q : Int32 × mH) (res : Option Value × mH) => res = (some (.int q.1), q.2)) := by
  refine Seg.loop (F := fun s : (Int32 × mH) => (42, [.ref l0, .int l1, .retAddr 0, .int l3, .int s.1], [])) (H := fun s : (Int32 × mH) => s.2) (fun s => ?_)
  show Seg 240 (42, [.ref l0, .int l1, .retAddr 0, .int l3, .int s.1], []) s.2 _ (Sum.elim (fun s : (Int32 × mH) => Ev 240 (42, [.ref l0, .int l1, .retAddr 0, .int l3, .int s.1], []) s.2) (fun (q : Int32 × mH) (res : Option Value × mH) => res = (some (.int q.1), q.2)))
  unfold f240_42
  refine Seg.blk0 (f' := (if (l1 : Int32) ≤ s.1 then 62 else 48, [.ref l0, .int l1, .retAddr 0, .int l3, .int s.1], [])) (h' := s.2) rfl rfl ?_
  refine Seg.ite (fun _ => ?_) (fun _ => ?_)
  · refine Seg.x ?_
    exact Seg.ret (f1 := (63, [.ref l0, .int l1, .retAddr 0, .int l3, .int s.1], [.int 1])) (h1 := s.2) rfl rfl rfl rfl (fun _ q => q)
  · refine Seg.blk (f' := (56, [.ref l0, .int l1, .retAddr 0, .int l3, .int s.1], [])) (h' := (mSI s.2 ((mR s.2 l0 38).getD 0) (Int32.toNatClampNeg s.1) l3)) rfl rfl ?_
    refine Seg.blk0 (f' := (42, [.ref l0, .int l1, .retAddr 0, .int l3, .int (s.1 + 1)], [])) (h' := (mSI s.2 ((mR s.2 l0 38).getD 0) (Int32.toNatClampNeg s.1) l3)) rfl rfl ?_
    exact Seg.cont (fun _ q => Ev.w (mLw.k (mLw.k (mLw.k (mLw.k (mLw.k mLw.nil))))) q)
theorem s240_24 (h : mH) (l0 : Nat) (l1 : Int32) (l2 : Int32) : Seg 240 (24, [.ref l0, .int l1, .int l2, .retAddr 0, .retAddr 0], []) h (f240_24 h l0 l1 l2) (fun (q : Int32 × mH) (res : Option Value × mH) => res = (some (.int q.1), q.2)) := by
  unfold f240_24
  refine Seg.blk0 (f' := (if (0 : Int32) ≤ l2 then 30 else 28, [.ref l0, .int l1, .int l2, .retAddr 0, .retAddr 0], [])) (h' := h) rfl rfl ?_
  refine Seg.ite (fun _ => ?_) (fun _ => ?_)
  · refine Seg.blk (f' := (42, [.ref l0, .int l1, .int l2, .int ((mI h ((mR h l0 38).getD 0) (Int32.toNatClampNeg l2)) + 1), .int l2], [])) (h' := h) rfl rfl ?_
    exact Seg.w (mLw.k (mLw.k (mLw.u (mLw.k (mLw.k mLw.nil))))) (s240_42 l0 l1 ((mI h ((mR h l0 38).getD 0) (Int32.toNatClampNeg l2)) + 1) mFuel (l2, h))
  · exact Seg.ret (f1 := (29, [.ref l0, .int l1, .int l2, .retAddr 0, .retAddr 0], [.int 0])) (h1 := h) rfl rfl rfl rfl (fun _ q => q)
theorem s240_4 (h : mH) (l0 : Nat) (l1 : Int32) : ∀ (n : Nat) (s : (Int32)), Seg 240 (4, [.ref l0, .int l1, .int s, .retAddr 0, .retAddr 0], []) h (mLoop (f240_4 h l0 l1) n s) (fun (q : Int32 × mH) (res : Option Value × mH) => res = (some (.int q.1), q.2)) := by
  refine Seg.loop (F := fun s : (Int32) => (4, [.ref l0, .int l1, .int s, .retAddr 0, .retAddr 0], [])) (H := fun s : (Int32) => h) (fun s => ?_)
  show Seg 240 (4, [.ref l0, .int l1, .int s, .retAddr 0, .retAddr 0], []) h _ (Sum.elim (fun s : (Int32) => Ev 240 (4, [.ref l0, .int l1, .int s, .retAddr 0, .retAddr 0], []) h) (fun (q : Int32 × mH) (res : Option Value × mH) => res = (some (.int q.1), q.2)))
  unfold f240_4
  refine Seg.blk0 (f' := (if (s : Int32) < 0 then 24 else 8, [.ref l0, .int l1, .int s, .retAddr 0, .retAddr 0], [])) (h' := h) rfl rfl ?_
  refine Seg.ite (fun _ => ?_) (fun _ => ?_)
  · refine Seg.x ?_
    exact Seg.w (mLw.k (mLw.k (mLw.k (mLw.k (mLw.k mLw.nil))))) (s240_24 h l0 l1 s)
  · refine Seg.blk (f' := (if ((mI h ((mR h l0 38).getD 0) (Int32.toNatClampNeg s)) : Int32) = 5 then 18 else 24, [.ref l0, .int l1, .int s, .retAddr 0, .retAddr 0], [])) (h' := h) rfl rfl ?_
    refine Seg.ite (fun _ => ?_) (fun _ => ?_)
    · refine Seg.blk0 (f' := (4, [.ref l0, .int l1, .int (s + (-1)), .retAddr 0, .retAddr 0], [])) (h' := h) rfl rfl ?_
      exact Seg.cont (fun _ q => Ev.w (mLw.k (mLw.k (mLw.k (mLw.k (mLw.k mLw.nil))))) q)
    · refine Seg.x ?_
      exact Seg.w (mLw.k (mLw.k (mLw.k (mLw.k (mLw.k mLw.nil))))) (s240_24 h l0 l1 s)
theorem s240 (h : mH) (l0 : Nat) (l1 : Int32) : Seg 240 (0, [.ref l0, .int l1, .retAddr 0, .retAddr 0, .retAddr 0], []) h (f240 h l0 l1) (fun (q : Int32 × mH) (res : Option Value × mH) => res = (some (.int q.1), q.2)) := by
  unfold f240
  refine Seg.blk0 (f' := (4, [.ref l0, .int l1, .int (l1 - 1), .retAddr 0, .retAddr 0], [])) (h' := h) rfl rfl ?_
  exact Seg.w (mLw.k (mLw.k (mLw.k (mLw.k (mLw.k mLw.nil))))) (s240_4 h l0 l1 mFuel ((l1 - 1)))
theorem s237_8 (l0 : Nat) (l1 : Int32) (l2 : Int32) (l3 : Int32) : ∀ (n : Nat) (s : (Int32 × mH)), Seg 237 (8, [.ref l0, .int l1, .int l2, .int l3, .int s.1], []) s.2 (mLoop (f237_8 l0 l1 l2 l3) n s) (fun (q : Int32 × mH) (res : Option Value × mH) => res = (some (.int q.1), q.2)) := by
  refine Seg.loop (F := fun s : (Int32 × mH) => (8, [.ref l0, .int l1, .int l2, .int l3, .int s.1], [])) (H := fun s : (Int32 × mH) => s.2) (fun s => ?_)
  show Seg 237 (8, [.ref l0, .int l1, .int l2, .int l3, .int s.1], []) s.2 _ (Sum.elim (fun s : (Int32 × mH) => Ev 237 (8, [.ref l0, .int l1, .int l2, .int l3, .int s.1], []) s.2) (fun (q : Int32 × mH) (res : Option Value × mH) => res = (some (.int q.1), q.2)))
  unfold f237_8
  refine Seg.blk0 (f' := (if (s.1 : Int32) = 0 then 42 else 13, [.ref l0, .int l1, .int l2, .int l3, .int s.1], [])) (h' := s.2) rfl rfl ?_
  refine Seg.ite (fun _ => ?_) (fun _ => ?_)
  · refine Seg.x ?_
    exact Seg.ret (f1 := (43, [.ref l0, .int l1, .int l2, .int l3, .int s.1], [.int 0])) (h1 := s.2) rfl rfl rfl rfl (fun _ q => q)
  · refine Seg.call (f1 := (16, [.ref l0, .int l1, .int l2, .int l3, .int s.1], [.int l2, .int l3, .ref l0])) (h1 := s.2) (cv := fun _ => none) rfl rfl rfl rfl (s239 s.2 l0 l3 l2) (fun r2 => ?_)
    refine Seg.callP (f1 := (24, [.ref l0, .int l1, .int l2, .int l3, .int s.1], [.int l1, .int (mI r2.2 l0 26)])) (h1 := r2.2) (cv := fun r => some (.int r)) rfl rfl rfl rfl (s221 r2.2 (mI r2.2 l0 26) l1) (fun r3 => ?_)
    refine Seg.blk0 (f' := (if (r3 : Int32) = 0 then 32 else 30, [.ref l0, .int l1, .int l2, .int l3, .int s.1], [])) (h' := r2.2) rfl rfl ?_
    refine Seg.ite (fun _ => ?_) (fun _ => ?_)
    · refine Seg.call (f1 := (34, [.ref l0, .int l1, .int l2, .int l3, .int s.1], [.int l3, .ref l0])) (h1 := r2.2) (cv := fun r => some (.int r)) rfl rfl rfl rfl (s240 r2.2 l0 l3) (fun r4 => ?_)
      refine Seg.blk0 (f' := (8, [.ref l0, .int l1, .int l2, .int l3, .int r4.1], [])) (h' := r4.2) rfl rfl ?_
      exact Seg.cont (fun _ q => Ev.w (mLw.k (mLw.k (mLw.k (mLw.k (mLw.k mLw.nil))))) q)
    · refine Seg.x ?_
      exact Seg.ret (f1 := (31, [.ref l0, .int l1, .int l2, .int l3, .int s.1], [.int 1])) (h1 := r2.2) rfl rfl rfl rfl (fun _ q => q)
theorem s237 (h : mH) (l0 : Nat) (l1 : Int32) (l2 : Int32) (l3 : Int32) : Seg 237 (0, [.ref l0, .int l1, .int l2, .int l3, .retAddr 0], []) h (f237 h l0 l1 l2 l3) (fun (q : Int32 × mH) (res : Option Value × mH) => res = (some (.int q.1), q.2)) := by
  unfold f237
  refine Seg.call (f1 := (2, [.ref l0, .int l1, .int l2, .int l3, .retAddr 0], [.int l3, .ref l0])) (h1 := h) (cv := fun _ => none) rfl rfl rfl rfl (s238 h l0 l3) (fun r1 => ?_)
  refine Seg.blk0 (f' := (8, [.ref l0, .int l1, .int l2, .int l3, .int 1], [])) (h' := r1.2) rfl rfl ?_
  exact Seg.w (mLw.k (mLw.k (mLw.k (mLw.k (mLw.k mLw.nil))))) (s237_8 l0 l1 l2 l3 mFuel (1, r1.2))
theorem s236_31 (h : mH) : Seg 236 (31, [.retAddr 0, .retAddr 0, .retAddr 0, .retAddr 0, .retAddr 0, .retAddr 0], []) h (f236_31 h) (fun (q : Int32 × mH) (res : Option Value × mH) => res = (some (.int q.1), q.2)) := by
  unfold f236_31
  exact Seg.ret (f1 := (32, [.retAddr 0, .retAddr 0, .retAddr 0, .retAddr 0, .retAddr 0, .retAddr 0], [.int (-1)])) (h1 := h) rfl rfl rfl rfl (fun _ q => q)
theorem s236_104 (h : mH) (q0 : Int32) : Seg 236 (104, [.retAddr 0, .retAddr 0, .retAddr 0, .retAddr 0, .retAddr 0, .retAddr 0], [.int q0]) h (f236_104 h q0) (fun (q : Int32 × mH) (res : Option Value × mH) => res = (some (.int q.1), q.2)) := by
  unfold f236_104
  exact Seg.ret (f1 := (104, [.retAddr 0, .retAddr 0, .retAddr 0, .retAddr 0, .retAddr 0, .retAddr 0], [.int q0])) (h1 := h) rfl rfl rfl rfl (fun _ q => q)
theorem s236_59 (h : mH) (l0 : Nat) (l4 : Int32) (l5 : Int32) : Seg 236 (59, [.ref l0, .retAddr 0, .retAddr 0, .retAddr 0, .int l4, .int l5], []) h (f236_59 h l0 l4 l5) (fun (q : Int32 × mH) (res : Option Value × mH) => res = (some (.int q.1), q.2)) := by
  unfold f236_59
  refine Seg.blk0 (f' := (if (l5 : Int32) ≤ 4 then 69 else 65, [.ref l0, .retAddr 0, .retAddr 0, .retAddr 0, .int l4, .int l5], [])) (h' := h) rfl rfl ?_
  refine Seg.ite (fun _ => ?_) (fun _ => ?_)
  · refine Seg.blk0 (f' := (if (l4 : Int32) = (-1) then 75 else 80, [.ref l0, .retAddr 0, .retAddr 0, .retAddr 0, .int l4, .int l5], [])) (h' := h) rfl rfl ?_
    refine Seg.ite (fun _ => ?_) (fun _ => ?_)
    · refine Seg.blk0 (f' := (104, [.ref l0, .retAddr 0, .retAddr 0, .retAddr 0, .int l4, .int l5], [.int l5])) (h' := h) rfl rfl ?_
      exact Seg.w (mLw.u (mLw.k (mLw.k (mLw.k (mLw.u (mLw.u mLw.nil)))))) (s236_104 h l5)
    · refine Seg.callP (f1 := (87, [.ref l0, .retAddr 0, .retAddr 0, .retAddr 0, .int l4, .int l5], [.int (l5 - 1), .int 0, .int l4])) (h1 := h) (cv := fun r => some (.int r)) rfl rfl rfl rfl (s179 h l4 0 (l5 - 1)) (fun r4 => ?_)
      refine Seg.blk0 (f' := (if (r4 : Int32) = 0 then 103 else 93, [.ref l0, .retAddr 0, .retAddr 0, .retAddr 0, .int l4, .int l5], [])) (h' := h) rfl rfl ?_
      refine Seg.ite (fun _ => ?_) (fun _ => ?_)
      · refine Seg.blk0 (f' := (104, [.ref l0, .retAddr 0, .retAddr 0, .retAddr 0, .int l4, .int l5], [.int (-1)])) (h' := h) rfl rfl ?_
        exact Seg.w (mLw.u (mLw.k (mLw.k (mLw.k (mLw.u (mLw.u mLw.nil)))))) (s236_104 h (-1))
      · refine Seg.blk (f' := (104, [.ref l0, .retAddr 0, .retAddr 0, .retAddr 0, .int l4, .int l5], [.int (mI h ((mR h l0 38).getD 0) (Int32.toNatClampNeg l4))])) (h' := h) rfl rfl ?_
        exact Seg.w (mLw.u (mLw.k (mLw.k (mLw.k (mLw.u (mLw.u mLw.nil)))))) (s236_104 h (mI h ((mR h l0 38).getD 0) (Int32.toNatClampNeg l4)))
  · refine Seg.blk0 (f' := (104, [.ref l0, .retAddr 0, .retAddr 0, .retAddr 0, .int l4, .int l5], [.int (-1)])) (h' := h) rfl rfl ?_
    exact Seg.w (mLw.u (mLw.k (mLw.k (mLw.k (mLw.u (mLw.u mLw.nil)))))) (s236_104 h (-1))
theorem s236_36 (l0 : Nat) (l2 : Int32) (l3 : Int32) (l4 : Int32) : ∀ (n : Nat) (s : (Int32 × mH)), Seg 236 (36, [.ref l0, .retAddr 0, .int l2, .int l3, .int l4, .int s.1], []) s.2 (mLoop (f236_36 l0 l2 l3 l4) n s) (fun (q : Int32 × mH) (res : Option Value × mH) => res = (some (.int q.1), q.2)) := by
  refine Seg.loop (F := fun s : (Int32 × mH) => (36, [.ref l0, .retAddr 0, .int l2, .int l3, .int l4, .int s.1], [])) (H := fun s : (Int32 × mH) => s.2) (fun s => ?_)
  show Seg 236 (36, [.ref l0, .retAddr 0, .int l2, .int l3, .int l4, .int s.1], []) s.2 _ (Sum.elim (fun s : (Int32 × mH) => Ev 236 (36, [.ref l0, .retAddr 0, .int l2, .int l3, .int l4, .int s.1], []) s.2) (fun (q : Int32 × mH) (res : Option Value × mH) => res = (some (.int q.1), q.2)))
  unfold f236_36
  refine Seg.blk0 (f' := (if (4 : Int32) < s.1 then 59 else 42, [.ref l0, .retAddr 0, .int l2, .int l3, .int l4, .int s.1], [])) (h' := s.2) rfl rfl ?_
  refine Seg.ite (fun _ => ?_) (fun _ => ?_)
  · refine Seg.x ?_
    exact Seg.w (mLw.k (mLw.k (mLw.u (mLw.u (mLw.k (mLw.k mLw.nil)))))) (s236_59 s.2 l0 l4 s.1)
  · refine Seg.call (f1 := (47, [.ref l0, .retAddr 0, .int l2, .int l3, .int l4, .int s.1], [.int s.1, .int l3, .int l2, .ref l0])) (h1 := s.2) (cv := fun r => some (.int r)) rfl rfl rfl rfl (s237 s.2 l0 l2 l3 s.1) (fun r5 => ?_)
    refine Seg.blk0 (f' := (if (r5.1 : Int32) = 0 then 53 else 59, [.ref l0, .retAddr 0, .int l2, .int l3, .int l4, .int s.1], [])) (h' := r5.2) rfl rfl ?_
    refine Seg.ite (fun _ => ?_) (fun _ => ?_)
    · refine Seg.blk0 (f' := (36, [.ref l0, .retAddr 0, .int l2, .int l3, .int l4, .int (s.1 + 1)], [])) (h' := r5.2) rfl rfl ?_
      exact Seg.cont (fun _ q => Ev.w (mLw.k (mLw.k (mLw.k (mLw.k (mLw.k (mLw.k mLw.nil)))))) q)
    · refine Seg.x ?_
      exact Seg.w (mLw.k (mLw.k (mLw.u (mLw.u (mLw.k (mLw.k mLw.nil)))))) (s236_59 r5.2 l0 l4 s.1)
theorem s236 (h : mH) (l0 : Nat) (l1 : Int32) (l2 : Int32) (l3 : Int32) (l4 : Int32) : Seg 236 (0, [.ref l0, .int l1, .int l2, .int l3, .int l4, .retAddr 0], []) h (f236 h l0 l1 l2 l3 l4) (fun (q : Int32 × mH) (res : Option Value × mH) => res = (some (.int q.1), q.2)) := by
  unfold f236
  refine Seg.blk (f' := (5, [.ref l0, .int l1, .int l2, .int l3, .int l4, .retAddr 0], [])) (h' := (mSI h l0 0 0)) rfl rfl ?_
  refine Seg.callP (f1 := (9, [.ref l0, .int l1, .int l2, .int l3, .int l4, .retAddr 0], [.int 20, .int 0, .int l3])) (h1 := (mSI h l0 0 0)) (cv := fun r => some (.int r)) rfl rfl rfl rfl (s179 (mSI h l0 0 0) l3 0 20) (fun r1 => ?_)
  refine Seg.blk0 (f' := (if (r1 : Int32) = 0 then 31 else 15, [.ref l0, .int l1, .int l2, .int l3, .int l4, .retAddr 0], [])) (h' := (mSI h l0 0 0)) rfl rfl ?_
  refine Seg.ite (fun _ => ?_) (fun _ => ?_)
  · exact Seg.w (mLw.u (mLw.u (mLw.u (mLw.u (mLw.u (mLw.k mLw.nil)))))) (s236_31 (mSI h l0 0 0))
  · refine Seg.call (f1 := (17, [.ref l0, .int l1, .int l2, .int l3, .int l4, .retAddr 0], [.int l1, .ref l0])) (h1 := (mSI h l0 0 0)) (cv := fun r => some (.int r)) rfl rfl rfl rfl (s205 (mSI h l0 0 0) l0 l1) (fun r2 => ?_)
    refine Seg.blk0 (f' := (if (r2.1 : Int32) = 0 then 31 else 23, [.ref l0, .int l1, .int l2, .int l3, .int l4, .retAddr 0], [])) (h' := r2.2) rfl rfl ?_
    refine Seg.ite (fun _ => ?_) (fun _ => ?_)
    · exact Seg.w (mLw.u (mLw.u (mLw.u (mLw.u (mLw.u (mLw.k mLw.nil)))))) (s236_31 r2.2)
    · refine Seg.callP (f1 := (25, [.ref l0, .int l1, .int l2, .int l3, .int l4, .retAddr 0], [.int l2, .ref l0])) (h1 := r2.2) (cv := fun r => some (.int r)) rfl rfl rfl rfl (s218 r2.2 l0 l2) (fun r3 => ?_)
      refine Seg.blk0 (f' := (if (r3 : Int32) = 0 then 31 else 33, [.ref l0, .int l1, .int l2, .int l3, .int l4, .retAddr 0], [])) (h' := r2.2) rfl rfl ?_
      refine Seg.ite (fun _ => ?_) (fun _ => ?_)
      · exact Seg.w (mLw.u (mLw.u (mLw.u (mLw.u (mLw.u (mLw.k mLw.nil)))))) (s236_31 r2.2)
      · refine Seg.blk0 (f' := (36, [.ref l0, .int l1, .int l2, .int l3, .int l4, .int 0], [])) (h' := r2.2) rfl rfl ?_
        exact Seg.w (mLw.k (mLw.u (mLw.k (mLw.k (mLw.k (mLw.k mLw.nil)))))) (s236_36 l0 l2 l3 l4 mFuel (0, r2.2))
theorem s242_44 (h : mH) (l0 : Nat) (l1 : Int32) (l3 : Int32) (q0 : Int32) : Seg 242 (44, [.ref l0, .int l1, .retAddr 0, .int l3], [.int q0]) h (f242_44 h l0 l1 l3 q0) (Sum.elim (fun s : (Int32 × Int32) => Ev 242 (4, [.ref l0, .int l1, .int s.1, .int s.2], []) h) (fun (q : Int32) (res : Option Value × mH) => res = (some (.int q), h))) := by
  unfold f242_44
  refine Seg.blk0 (f' := (4, [.ref l0, .int l1, .int q0, .int (l3 + 1)], [])) (h' := h) rfl rfl ?_
  exact Seg.cont (fun _ q => Ev.w (mLw.k (mLw.k (mLw.k (mLw.k mLw.nil)))) q)
theorem s242_43 (h : mH) (l0 : Nat) (l1 : Int32) (l3 : Int32) : Seg 242 (43, [.ref l0, .int l1, .retAddr 0, .int l3], []) h (f242_43 h l0 l1 l3) (Sum.elim (fun s : (Int32 × Int32) => Ev 242 (4, [.ref l0, .int l1, .int s.1, .int s.2], []) h) (fun (q : Int32) (res : Option Value × mH) => res = (some (.int q), h))) := by
  unfold f242_43
  refine Seg.blk0 (f' := (44, [.ref l0, .int l1, .retAddr 0, .int l3], [.int 0])) (h' := h) rfl rfl ?_
  exact Seg.w (mLw.k (mLw.k (mLw.k (mLw.k mLw.nil)))) (s242_44 h l0 l1 l3 0)
theorem s242_39 (h : mH) (l0 : Nat) (l1 : Int32) (l3 : Int32) : Seg 242 (39, [.ref l0, .int l1, .retAddr 0, .int l3], []) h (f242_39 h l0 l1 l3) (Sum.elim (fun s : (Int32 × Int32) => Ev 242 (4, [.ref l0, .int l1, .int s.1, .int s.2], []) h) (fun (q : Int32) (res : Option Value × mH) => res = (some (.int q), h))) := by
  unfold f242_39
  refine Seg.blk0 (f' := (44, [.ref l0, .int l1, .retAddr 0, .int l3], [.int 1])) (h' := h) rfl rfl ?_
  exact Seg.w (mLw.k (mLw.k (mLw.k (mLw.k mLw.nil)))) (s242_44 h l0 l1 l3 1)
theorem s242_4 (h : mH) (l0 : Nat) (l1 : Int32) : ∀ (n : Nat) (s : (Int32 × Int32)), Seg 242 (4, [.ref l0, .int l1, .int s.1, .int s.2], []) h (mLoop (f242_4 h l0 l1) n s) (fun (q : Int32) (res : Option Value × mH) => res = (some (.int q), h)) := by
  refine Seg.loop (F := fun s : (Int32 × Int32) => (4, [.ref l0, .int l1, .int s.1, .int s.2], [])) (H := fun s : (Int32 × Int32) => h) (fun s => ?_)
  show Seg 242 (4, [.ref l0, .int l1, .int s.1, .int s.2], []) h _ (Sum.elim (fun s : (Int32 × Int32) => Ev 242 (4, [.ref l0, .int l1, .int s.1, .int s.2], []) h) (fun (q : Int32) (res : Option Value × mH) => res = (some (.int q), h)))
  unfold f242_4
  refine Seg.blk (f' := (if ((mI h l0 24) : Int32) ≤ s.2 then 51 else 12, [.ref l0, .int l1, .int s.1, .int s.2], [])) (h' := h) rfl rfl ?_
  refine Seg.ite (fun _ => ?_) (fun _ => ?_)
  · refine Seg.x ?_
    exact Seg.ret (f1 := (52, [.ref l0, .int l1, .int s.1, .int s.2], [.int s.1])) (h1 := h) rfl rfl rfl rfl (fun _ q => q)
  · refine Seg.blk0 (f' := (if (s.1 : Int32) = 0 then 43 else 16, [.ref l0, .int l1, .int s.1, .int s.2], [])) (h' := h) rfl rfl ?_
    refine Seg.ite (fun _ => ?_) (fun _ => ?_)
    · exact Seg.w (mLw.k (mLw.k (mLw.u (mLw.k mLw.nil)))) (s242_43 h l0 l1 s.2)
    · refine Seg.callP (f1 := (18, [.ref l0, .int l1, .int s.1, .int s.2], [.int s.2, .int l1])) (h1 := h) (cv := fun r => some (.int r)) rfl rfl rfl rfl (s221 h l1 s.2) (fun r1 => ?_)
      refine Seg.blk0 (f' := (if (r1 : Int32) = 0 then 39 else 24, [.ref l0, .int l1, .int s.1, .int s.2], [])) (h' := h) rfl rfl ?_
      refine Seg.ite (fun _ => ?_) (fun _ => ?_)
      · exact Seg.w (mLw.k (mLw.k (mLw.u (mLw.k mLw.nil)))) (s242_39 h l0 l1 s.2)
      · refine Seg.callP (f1 := (29, [.ref l0, .int l1, .int s.1, .int s.2], [.int (19 + s.2), .ref l0])) (h1 := h) (cv := fun r => some (.int r)) rfl rfl rfl rfl (s206 h l0 (19 + s.2)) (fun r2 => ?_)
        refine Seg.blk0 (f' := (if ((r2 &&& (l1 ^^^ (-1))) : Int32) = 0 then 39 else 43, [.ref l0, .int l1, .int s.1, .int s.2], [])) (h' := h) rfl rfl ?_
        refine Seg.ite (fun _ => ?_) (fun _ => ?_)
        · exact Seg.w (mLw.k (mLw.k (mLw.u (mLw.k mLw.nil)))) (s242_39 h l0 l1 s.2)
        · exact Seg.w (mLw.k (mLw.k (mLw.u (mLw.k mLw.nil)))) (s242_43 h l0 l1 s.2)
theorem s242 (h : mH) (l0 : Nat) (l1 : Int32) : Seg 242 (0, [.ref l0, .int l1, .retAddr 0, .retAddr 0], []) h (f242 h l0 l1) (fun (q : Int32) (res : Option Value × mH) => res = (some (.int q), h)) := by
  unfold f242
  refine Seg.blk0 (f' := (4, [.ref l0, .int l1, .int 1, .int 0], [])) (h' := h) rfl rfl ?_
  exact Seg.w (mLw.k (mLw.k (mLw.k (mLw.k mLw.nil)))) (s242_4 h l0 l1 mFuel (1, 0))
theorem s243_32 (h : mH) (l0 : Nat) (l1 : Int32) (l3 : Int32) (q0 : Int32) (q1 : Int32) : Seg 243 (32, [.ref l0, .int l1, .retAddr 0, .int l3], [.int q1, .int q0]) h (f243_32 h l0 l1 l3 q0 q1) (Sum.elim (fun s : (Int32 × Int32) => Ev 243 (4, [.ref l0, .int l1, .int s.1, .int s.2], []) h) (fun (q : Int32) (res : Option Value × mH) => res = (some (.int q), h))) := by
  unfold f243_32
  refine Seg.blk0 (f' := (4, [.ref l0, .int l1, .int (q0 + q1), .int (l3 + 1)], [])) (h' := h) rfl rfl ?_
  exact Seg.cont (fun _ q => Ev.w (mLw.k (mLw.k (mLw.k (mLw.k mLw.nil)))) q)
theorem s243_4 (h : mH) (l0 : Nat) (l1 : Int32) : ∀ (n : Nat) (s : (Int32 × Int32)), Seg 243 (4, [.ref l0, .int l1, .int s.1, .int s.2], []) h (mLoop (f243_4 h l0 l1) n s) (fun (q : Int32) (res : Option Value × mH) => res = (some (.int q), h)) := by
  refine Seg.loop (F := fun s : (Int32 × Int32) => (4, [.ref l0, .int l1, .int s.1, .int s.2], [])) (H := fun s : (Int32 × Int32) => h) (fun s => ?_)
  show Seg 243 (4, [.ref l0, .int l1, .int s.1, .int s.2], []) h _ (Sum.elim (fun s : (Int32 × Int32) => Ev 243 (4, [.ref l0, .int l1, .int s.1, .int s.2], []) h) (fun (q : Int32) (res : Option Value × mH) => res = (some (.int q), h)))
  unfold f243_4
  refine Seg.blk (f' := (if ((mI h l0 24) : Int32) ≤ s.2 then 40 else 12, [.ref l0, .int l1, .int s.1, .int s.2], [])) (h' := h) rfl rfl ?_
  refine Seg.ite (fun _ => ?_) (fun _ => ?_)
  · refine Seg.x ?_
    exact Seg.ret (f1 := (41, [.ref l0, .int l1, .int s.1, .int s.2], [.int s.1])) (h1 := h) rfl rfl rfl rfl (fun _ q => q)
  · refine Seg.callP (f1 := (15, [.ref l0, .int l1, .int s.1, .int s.2], [.int s.2, .int l1, .int s.1])) (h1 := h) (cv := fun r => some (.int r)) rfl rfl rfl rfl (s221 h l1 s.2) (fun r1 => ?_)
    refine Seg.blk0 (f' := (if (r1 : Int32) = 0 then 31 else 21, [.ref l0, .int l1, .int s.1, .int s.2], [.int s.1])) (h' := h) rfl rfl ?_
    refine Seg.ite (fun _ => ?_) (fun _ => ?_)
    · refine Seg.blk0 (f' := (32, [.ref l0, .int l1, .int s.1, .int s.2], [.int 0, .int s.1])) (h' := h) rfl rfl ?_
      exact Seg.w (mLw.k (mLw.k (mLw.u (mLw.k mLw.nil)))) (s243_32 h l0 l1 s.2 s.1 0)
    · refine Seg.callP (f1 := (25, [.ref l0, .int l1, .int s.1, .int s.2], [.int (3 + s.2), .ref l0, .int s.1])) (h1 := h) (cv := fun r => some (.int r)) rfl rfl rfl rfl (s206 h l0 (3 + s.2)) (fun r2 => ?_)
      refine Seg.blk0 (f' := (32, [.ref l0, .int l1, .int s.1, .int s.2], [.int r2, .int s.1])) (h' := h) rfl rfl ?_
      exact Seg.w (mLw.k (mLw.k (mLw.u (mLw.k mLw.nil)))) (s243_32 h l0 l1 s.2 s.1 r2)
theorem s243 (h : mH) (l0 : Nat) (l1 : Int32) : Seg 243 (0, [.ref l0, .int l1, .retAddr 0, .retAddr 0], []) h (f243 h l0 l1) (fun (q : Int32) (res : Option Value × mH) => res = (some (.int q), h)) := by
  unfold f243
  refine Seg.blk0 (f' := (4, [.ref l0, .int l1, .int 0, .int 0], [])) (h' := h) rfl rfl ?_
  exact Seg.w (mLw.k (mLw.k (mLw.k (mLw.k mLw.nil)))) (s243_4 h l0 l1 mFuel (0, 0))
theorem s244_24 (h : mH) (l0 : Int32) (l2 : Int32) (q0 : Int32) (q1 : Int32) : Seg 244 (24, [.int l0, .retAddr 0, .int l2], [.int q1, .int q0]) h (f244_24 h l0 l2 q0 q1) (Sum.elim (fun s : (Int32 × Int32) => Ev 244 (4, [.int l0, .int s.1, .int s.2], []) h) (fun (q : Int32) (res : Option Value × mH) => res = (some (.int q), h))) := by
  unfold f244_24
  refine Seg.blk0 (f' := (4, [.int l0, .int (q0 + q1), .int (l2 + 1)], [])) (h' := h) rfl rfl ?_
  exact Seg.cont (fun _ q => Ev.w (mLw.k (mLw.k (mLw.k mLw.nil))) q)
theorem s244_4 (h : mH) (l0 : Int32) : ∀ (n : Nat) (s : (Int32 × Int32)), Seg 244 (4, [.int l0, .int s.1, .int s.2], []) h (mLoop (f244_4 h l0) n s) (fun (q : Int32) (res : Option Value × mH) => res = (some (.int q), h)) := by
  refine Seg.loop (F := fun s : (Int32 × Int32) => (4, [.int l0, .int s.1, .int s.2], [])) (H := fun s : (Int32 × Int32) => h) (fun s => ?_)
  show Seg 244 (4, [.int l0, .int s.1, .int s.2], []) h _ (Sum.elim (fun s : (Int32 × Int32) => Ev 244 (4, [.int l0, .int s.1, .int s.2], []) h) (fun (q : Int32) (res : Option Value × mH) => res = (some (.int q), h)))
  unfold f244_4
  refine Seg.blk0 (f' := (if (8 : Int32) ≤ s.2 then 32 else 10, [.int l0, .int s.1, .int s.2], [])) (h' := h) rfl rfl ?_
  refine Seg.ite (fun _ => ?_) (fun _ => ?_)
  · refine Seg.x ?_
    exact Seg.ret (f1 := (33, [.int l0, .int s.1, .int s.2], [.int s.1])) (h1 := h) rfl rfl rfl rfl (fun _ q => q)
  · refine Seg.callP (f1 := (13, [.int l0, .int s.1, .int s.2], [.int s.2, .int l0, .int s.1])) (h1 := h) (cv := fun r => some (.int r)) rfl rfl rfl rfl (s221 h l0 s.2) (fun r1 => ?_)
    refine Seg.blk0 (f' := (if (r1 : Int32) = 0 then 23 else 19, [.int l0, .int s.1, .int s.2], [.int s.1])) (h' := h) rfl rfl ?_
    refine Seg.ite (fun _ => ?_) (fun _ => ?_)
    · refine Seg.blk0 (f' := (24, [.int l0, .int s.1, .int s.2], [.int 0, .int s.1])) (h' := h) rfl rfl ?_
      exact Seg.w (mLw.k (mLw.u (mLw.k mLw.nil))) (s244_24 h l0 s.2 s.1 0)
    · refine Seg.blk0 (f' := (24, [.int l0, .int s.1, .int s.2], [.int 1, .int s.1])) (h' := h) rfl rfl ?_
      exact Seg.w (mLw.k (mLw.u (mLw.k mLw.nil))) (s244_24 h l0 s.2 s.1 1)
theorem s244 (h : mH) (l0 : Int32) : Seg 244 (0, [.int l0, .retAddr 0, .retAddr 0], []) h (f244 h l0) (fun (q : Int32) (res : Option Value × mH) => res = (some (.int q), h)) := by
  unfold f244
  refine Seg.blk0 (f' := (4, [.int l0, .int 0, .int 0], [])) (h' := h) rfl rfl ?_
  exact Seg.w (mLw.k (mLw.k (mLw.k mLw.nil))) (s244_4 h l0 mFuel (0, 0))
theorem s241_23 (h : mH) : Seg 241 (23, [.retAddr 0, .retAddr 0, .retAddr 0, .retAddr 0, .retAddr 0, .retAddr 0], []) h (f241_23 h) (fun (q : Int32 × mH) (res : Option Value × mH) => res = (some (.int q.1), q.2)) := by
  unfold f241_23
  exact Seg.ret (f1 := (24, [.retAddr 0, .retAddr 0, .retAddr 0, .retAddr 0, .retAddr 0, .retAddr 0], [.int (-1)])) (h1 := h) rfl rfl rfl rfl (fun _ q => q)
theorem s241_103 (h : mH) (q0 : Int32) : Seg 241 (103, [.retAddr 0, .retAddr 0, .retAddr 0, .retAddr 0, .retAddr 0, .retAddr 0], [.int q0]) h (f241_103 h q0) (fun (q : Int32 × mH) (res : Option Value × mH) => res = (some (.int q.1), q.2)) := by
  unfold f241_103
  exact Seg.ret (f1 := (103, [.retAddr 0, .retAddr 0, .retAddr 0, .retAddr 0, .retAddr 0, .retAddr 0], [.int q0])) (h1 := h) rfl rfl rfl rfl (fun _ q => q)
theorem s241_81 (h : mH) (l0 : Nat) (l2 : Int32) (l3 : Int32) (l5 : Int32) (q0 : Int32) : Seg 241 (81, [.ref l0, .retAddr 0, .int l2, .int l3, .retAddr 0, .int l5], [.int q0]) h (f241_81 h l0 l2 l3 l5 q0) (Sum.elim (fun s : (Int32 × Int32) => Ev 241 (31, [.ref l0, .retAddr 0, .int l2, .int l3, .int s.1, .int s.2], []) h) (fun (q : Int32 × mH) (res : Option Value × mH) => res = (some (.int q.1), q.2))) := by
  unfold f241_81
  refine Seg.blk0 (f' := (31, [.ref l0, .retAddr 0, .int l2, .int l3, .int q0, .int (l5 + 1)], [])) (h' := h) rfl rfl ?_
  exact Seg.cont (fun _ q => Ev.w (mLw.k (mLw.k (mLw.k (mLw.k (mLw.k (mLw.k mLw.nil)))))) q)
theorem s241_79 (h : mH) (l0 : Nat) (l2 : Int32) (l3 : Int32) (l4 : Int32) (l5 : Int32) : Seg 241 (79, [.ref l0, .retAddr 0, .int l2, .int l3, .int l4, .int l5], []) h (f241_79 h l0 l2 l3 l4 l5) (Sum.elim (fun s : (Int32 × Int32) => Ev 241 (31, [.ref l0, .retAddr 0, .int l2, .int l3, .int s.1, .int s.2], []) h) (fun (q : Int32 × mH) (res : Option Value × mH) => res = (some (.int q.1), q.2))) := by
  unfold f241_79
  refine Seg.blk0 (f' := (81, [.ref l0, .retAddr 0, .int l2, .int l3, .int l4, .int l5], [.int l4])) (h' := h) rfl rfl ?_
  exact Seg.w (mLw.k (mLw.k (mLw.k (mLw.k (mLw.u (mLw.k mLw.nil)))))) (s241_81 h l0 l2 l3 l5 l4)
theorem s241_31 (h : mH) (l0 : Nat) (l2 : Int32) (l3 : Int32) : ∀ (n : Nat) (s : (Int32 × Int32)), Seg 241 (31, [.ref l0, .retAddr 0, .int l2, .int l3, .int s.1, .int s.2], []) h (mLoop (f241_31 h l0 l2 l3) n s) (fun (q : Int32 × mH) (res : Option Value × mH) => res = (some (.int q.1), q.2)) := by
  refine Seg.loop (F := fun s : (Int32 × Int32) => (31, [.ref l0, .retAddr 0, .int l2, .int l3, .int s.1, .int s.2], [])) (H := fun s : (Int32 × Int32) => h) (fun s => ?_)
  show Seg 241 (31, [.ref l0, .retAddr 0, .int l2, .int l3, .int s.1, .int s.2], []) h _ (Sum.elim (fun s : (Int32 × Int32) => Ev 241 (31, [.ref l0, .retAddr 0, .int l2, .int l3, .int s.1, .int s.2], []) h) (fun (q : Int32 × mH) (res : Option Value × mH) => res = (some (.int q.1), q.2)))
  unfold f241_31
  refine Seg.blk (f' := (if (((1 : Int32) <<< ((mI h l0 24) &&& (31 : Int32))) : Int32) ≤ s.2 then 89 else 42, [.ref l0, .retAddr 0, .int l2, .int l3, .int s.1, .int s.2], [])) (h' := h) rfl rfl ?_
  refine Seg.ite (fun _ => ?_) (fun _ => ?_)
  · refine Seg.x ?_
    refine Seg.blk0 (f' := (if (l3 : Int32) = 0 then 98 else 93, [.ref l0, .retAddr 0, .int l2, .int l3, .int s.1, .int s.2], [])) (h' := h) rfl rfl ?_
    refine Seg.ite (fun _ => ?_) (fun _ => ?_)
    · refine Seg.callP (f1 := (100, [.ref l0, .retAddr 0, .int l2, .int l3, .int s.1, .int s.2], [.int s.1])) (h1 := h) (cv := fun r => some (.int r)) rfl rfl rfl rfl (s244 h s.1) (fun r3 => ?_)
      exact Seg.w (mLw.u (mLw.k (mLw.u (mLw.u (mLw.u (mLw.u mLw.nil)))))) (s241_103 h r3)
    · refine Seg.blk0 (f' := (103, [.ref l0, .retAddr 0, .int l2, .int l3, .int s.1, .int s.2], [.int s.1])) (h' := h) rfl rfl ?_
      exact Seg.w (mLw.u (mLw.k (mLw.u (mLw.u (mLw.u (mLw.u mLw.nil)))))) (s241_103 h s.1)
  · refine Seg.callP (f1 := (45, [.ref l0, .retAddr 0, .int l2, .int l3, .int s.1, .int s.2], [.int s.2, .ref l0])) (h1 := h) (cv := fun r => some (.int r)) rfl rfl rfl rfl (s242 h l0 s.2) (fun r4 => ?_)
    refine Seg.blk0 (f' := (if (r4 : Int32) = 0 then 79 else 51, [.ref l0, .retAddr 0, .int l2, .int l3, .int s.1, .int s.2], [])) (h' := h) rfl rfl ?_
    refine Seg.ite (fun _ => ?_) (fun _ => ?_)
    · exact Seg.w (mLw.k (mLw.k (mLw.k (mLw.k (mLw.k (mLw.k mLw.nil)))))) (s241_79 h l0 l2 l3 s.1 s.2)
    · refine Seg.callP (f1 := (54, [.ref l0, .retAddr 0, .int l2, .int l3, .int s.1, .int s.2], [.int s.2, .ref l0])) (h1 := h) (cv := fun r => some (.int r)) rfl rfl rfl rfl (s243 h l0 s.2) (fun r5 => ?_)
      refine Seg.blk0 (f' := (if (l2 : Int32) < r5 then 79 else 61, [.ref l0, .retAddr 0, .int l2, .int l3, .int s.1, .int s.2], [])) (h' := h) rfl rfl ?_
      refine Seg.ite (fun _ => ?_) (fun _ => ?_)
      · exact Seg.w (mLw.k (mLw.k (mLw.k (mLw.k (mLw.k (mLw.k mLw.nil)))))) (s241_79 h l0 l2 l3 s.1 s.2)
      · refine Seg.callP (f1 := (63, [.ref l0, .retAddr 0, .int l2, .int l3, .int s.1, .int s.2], [.int s.2])) (h1 := h) (cv := fun r => some (.int r)) rfl rfl rfl rfl (s244 h s.2) (fun r6 => ?_)
        refine Seg.callP (f1 := (68, [.ref l0, .retAddr 0, .int l2, .int l3, .int s.1, .int s.2], [.int s.1, .int r6])) (h1 := h) (cv := fun r => some (.int r)) rfl rfl rfl rfl (s244 h s.1) (fun r7 => ?_)
        refine Seg.blk0 (f' := (if (r6 : Int32) ≤ r7 then 79 else 74, [.ref l0, .retAddr 0, .int l2, .int l3, .int s.1, .int s.2], [])) (h' := h) rfl rfl ?_
        refine Seg.ite (fun _ => ?_) (fun _ => ?_)
        · exact Seg.w (mLw.k (mLw.k (mLw.k (mLw.k (mLw.k (mLw.k mLw.nil)))))) (s241_79 h l0 l2 l3 s.1 s.2)
        · refine Seg.blk0 (f' := (81, [.ref l0, .retAddr 0, .int l2, .int l3, .int s.1, .int s.2], [.int s.2])) (h' := h) rfl rfl ?_
          exact Seg.w (mLw.k (mLw.k (mLw.k (mLw.k (mLw.u (mLw.k mLw.nil)))))) (s241_81 h l0 l2 l3 s.2 s.2)
theorem s241 (h : mH) (l0 : Nat) (l1 : Int32) (l2 : Int32) (l3 : Int32) : Seg 241 (0, [.ref l0, .int l1, .int l2, .int l3, .retAddr 0, .retAddr 0], []) h (f241 h l0 l1 l2 l3) (fun (q : Int32 × mH) (res : Option Value × mH) => res = (some (.int q.1), q.2)) := by
  unfold f241
  refine Seg.blk (f' := (5, [.ref l0, .int l1, .int l2, .int l3, .retAddr 0, .retAddr 0], [])) (h' := (mSI h l0 0 0)) rfl rfl ?_
  refine Seg.callP (f1 := (9, [.ref l0, .int l1, .int l2, .int l3, .retAddr 0, .retAddr 0], [.int 72, .int 0, .int l2])) (h1 := (mSI h l0 0 0)) (cv := fun r => some (.int r)) rfl rfl rfl rfl (s179 (mSI h l0 0 0) l2 0 72) (fun r1 => ?_)
  refine Seg.blk0 (f' := (if (r1 : Int32) = 0 then 23 else 15, [.ref l0, .int l1, .int l2, .int l3, .retAddr 0, .retAddr 0], [])) (h' := (mSI h l0 0 0)) rfl rfl ?_
  refine Seg.ite (fun _ => ?_) (fun _ => ?_)
  · exact Seg.w (mLw.u (mLw.u (mLw.u (mLw.u (mLw.k (mLw.k mLw.nil)))))) (s241_23 (mSI h l0 0 0))
  · refine Seg.call (f1 := (17, [.ref l0, .int l1, .int l2, .int l3, .retAddr 0, .retAddr 0], [.int l1, .ref l0])) (h1 := (mSI h l0 0 0)) (cv := fun r => some (.int r)) rfl rfl rfl rfl (s205 (mSI h l0 0 0) l0 l1) (fun r2 => ?_)
    refine Seg.blk0 (f' := (if (r2.1 : Int32) = 0 then 23 else 25, [.ref l0, .int l1, .int l2, .int l3, .retAddr 0, .retAddr 0], [])) (h' := r2.2) rfl rfl ?_
    refine Seg.ite (fun _ => ?_) (fun _ => ?_)
    · exact Seg.w (mLw.u (mLw.u (mLw.u (mLw.u (mLw.k (mLw.k mLw.nil)))))) (s241_23 r2.2)
    · refine Seg.blk0 (f' := (31, [.ref l0, .int l1, .int l2, .int l3, .int 0, .int 0], [])) (h' := r2.2) rfl rfl ?_
      exact Seg.w (mLw.k (mLw.u (mLw.k (mLw.k (mLw.k (mLw.k mLw.nil)))))) (s241_31 r2.2 l0 l2 l3 mFuel (0, 0))
theorem s247_37 (h : mH) (l0 : Nat) (l1 : Int32) (l2 : Int32) (l4 : Int32) (q0 : Int32) (q1 : Int32) : Seg 247 (37, [.ref l0, .int l1, .int l2, .retAddr 0, .int l4], [.int q1, .int q0]) h (f247_37 h l0 l1 l2 l4 q0 q1) (Sum.elim (fun s : (Int32 × Int32) => Ev 247 (5, [.ref l0, .int l1, .int l2, .int s.1, .int s.2], []) h) (fun (q : Int32) (res : Option Value × mH) => res = (some (.int q), h))) := by
  unfold f247_37
  refine Seg.blk0 (f' := (5, [.ref l0, .int l1, .int l2, .int (q0 ||| q1), .int (l4 + 1)], [])) (h' := h) rfl rfl ?_
  exact Seg.cont (fun _ q => Ev.w (mLw.k (mLw.k (mLw.k (mLw.k (mLw.k mLw.nil))))) q)
theorem s247_5 (h : mH) (l0 : Nat) (l1 : Int32) (l2 : Int32) : ∀ (n : Nat) (s : (Int32 × Int32)), Seg 247 (5, [.ref l0, .int l1, .int l2, .int s.1, .int s.2], []) h (mLoop (f247_5 h l0 l1 l2) n s) (fun (q : Int32) (res : Option Value × mH) => res = (some (.int q), h)) := by
  refine Seg.loop (F := fun s : (Int32 × Int32) => (5, [.ref l0, .int l1, .int l2, .int s.1, .int s.2], [])) (H := fun s : (Int32 × Int32) => h) (fun s => ?_)
  show Seg 247 (5, [.ref l0, .int l1, .int l2, .int s.1, .int s.2], []) h _ (Sum.elim (fun s : (Int32 × Int32) => Ev 247 (5, [.ref l0, .int l1, .int l2, .int s.1, .int s.2], []) h) (fun (q : Int32) (res : Option Value × mH) => res = (some (.int q), h)))
  unfold f247_5
  refine Seg.blk (f' := (if ((mI h l0 25) : Int32) ≤ s.2 then 45 else 14, [.ref l0, .int l1, .int l2, .int s.1, .int s.2], [])) (h' := h) rfl rfl ?_
  refine Seg.ite (fun _ => ?_) (fun _ => ?_)
  · refine Seg.x ?_
    exact Seg.ret (f1 := (50, [.ref l0, .int l1, .int l2, .int s.1, .int s.2], [.int (s.1 &&& (l2 ^^^ (-1)))])) (h1 := h) rfl rfl rfl rfl (fun _ q => q)
  · refine Seg.callP (f1 := (21, [.ref l0, .int l1, .int l2, .int s.1, .int s.2], [.int (39 + s.2), .ref l0, .int s.1])) (h1 := h) (cv := fun r => some (.int r)) rfl rfl rfl rfl (s206 h l0 (39 + s.2)) (fun r1 => ?_)
    refine Seg.blk0 (f' := (if ((r1 &&& l1) : Int32) = 0 then 36 else 29, [.ref l0, .int l1, .int l2, .int s.1, .int s.2], [.int s.1])) (h' := h) rfl rfl ?_
    refine Seg.ite (fun _ => ?_) (fun _ => ?_)
    · refine Seg.blk0 (f' := (37, [.ref l0, .int l1, .int l2, .int s.1, .int s.2], [.int 0, .int s.1])) (h' := h) rfl rfl ?_
      exact Seg.w (mLw.k (mLw.k (mLw.k (mLw.u (mLw.k mLw.nil))))) (s247_37 h l0 l1 l2 s.2 s.1 0)
    · refine Seg.blk0 (f' := (37, [.ref l0, .int l1, .int l2, .int s.1, .int s.2], [.int ((1 : Int32) <<< (s.2 &&& (31 : Int32))), .int s.1])) (h' := h) rfl rfl ?_
      exact Seg.w (mLw.k (mLw.k (mLw.k (mLw.u (mLw.k mLw.nil))))) (s247_37 h l0 l1 l2 s.2 s.1 ((1 : Int32) <<< (s.2 &&& (31 : Int32))))
theorem s247 (h : mH) (l0 : Nat) (l1 : Int32) (l2 : Int32) : Seg 247 (0, [.ref l0, .int l1, .int l2, .retAddr 0, .retAddr 0], []) h (f247 h l0 l1 l2) (fun (q : Int32) (res : Option Value × mH) => res = (some (.int q), h)) := by
  unfold f247
  refine Seg.blk0 (f' := (5, [.ref l0, .int l1, .int l2, .int l1, .int 0], [])) (h' := h) rfl rfl ?_
  exact Seg.w (mLw.k (mLw.k (mLw.k (mLw.k (mLw.k mLw.nil))))) (s247_5 h l0 l1 l2 mFuel (l1, 0))
theorem s246_6 (h : mH) (l0 : Nat) (l2 : Int32) (l3 : Int32) : ∀ (n : Nat) (s : (Int32 × Int32)), Seg 246 (6, [.ref l0, .retAddr 0, .int l2, .int l3, .int s.1, .int s.2], []) h (mLoop (f246_6 h l0 l2 l3) n s) (fun (q : Int32) (res : Option Value × mH) => res = (some (.int q), h)) := by
  refine Seg.loop (F := fun s : (Int32 × Int32) => (6, [.ref l0, .retAddr 0, .int l2, .int l3, .int s.1, .int s.2], [])) (H := fun s : (Int32 × Int32) => h) (fun s => ?_)
  show Seg 246 (6, [.ref l0, .retAddr 0, .int l2, .int l3, .int s.1, .int s.2], []) h _ (Sum.elim (fun s : (Int32 × Int32) => Ev 246 (6, [.ref l0, .retAddr 0, .int l2, .int l3, .int s.1, .int s.2], []) h) (fun (q : Int32) (res : Option Value × mH) => res = (some (.int q), h)))
  unfold f246_6
  refine Seg.blk0 (f' := (if (l2 : Int32) ≤ s.2 then 27 else 12, [.ref l0, .retAddr 0, .int l2, .int l3, .int s.1, .int s.2], [])) (h' := h) rfl rfl ?_
  refine Seg.ite (fun _ => ?_) (fun _ => ?_)
  · refine Seg.x ?_
    exact Seg.ret (f1 := (29, [.ref l0, .retAddr 0, .int l2, .int l3, .int s.1, .int s.2], [.int s.1])) (h1 := h) rfl rfl rfl rfl (fun _ q => q)
  · refine Seg.callP (f1 := (16, [.ref l0, .retAddr 0, .int l2, .int l3, .int s.1, .int s.2], [.int l3, .int s.1, .ref l0])) (h1 := h) (cv := fun r => some (.int r)) rfl rfl rfl rfl (s247 h l0 s.1 l3) (fun r1 => ?_)
    refine Seg.blk0 (f' := (6, [.ref l0, .retAddr 0, .int l2, .int l3, .int r1, .int (s.2 + 1)], [])) (h' := h) rfl rfl ?_
    exact Seg.cont (fun _ q => Ev.w (mLw.k (mLw.k (mLw.k (mLw.k (mLw.k (mLw.k mLw.nil)))))) q)
theorem s246 (h : mH) (l0 : Nat) (l1 : Int32) (l2 : Int32) (l3 : Int32) : Seg 246 (0, [.ref l0, .int l1, .int l2, .int l3, .retAddr 0, .retAddr 0], []) h (f246 h l0 l1 l2 l3) (fun (q : Int32) (res : Option Value × mH) => res = (some (.int q), h)) := by
  unfold f246
  refine Seg.blk0 (f' := (6, [.ref l0, .int l1, .int l2, .int l3, .int l1, .int 0], [])) (h' := h) rfl rfl ?_
  exact Seg.w (mLw.k (mLw.u (mLw.k (mLw.k (mLw.k (mLw.k mLw.nil)))))) (s246_6 h l0 l2 l3 mFuel (l1, 0))
theorem s245_44 (h : mH) (q0 : Int32) : Seg 245 (44, [.retAddr 0, .retAddr 0, .retAddr 0, .retAddr 0], [.int q0]) h (f245_44 h q0) (fun (q : Int32 × mH) (res : Option Value × mH) => res = (some (.int q.1), q.2)) := by
  unfold f245_44
  exact Seg.ret (f1 := (44, [.retAddr 0, .retAddr 0, .retAddr 0, .retAddr 0], [.int q0])) (h1 := h) rfl rfl rfl rfl (fun _ q => q)
theorem s245_43 (h : mH) : Seg 245 (43, [.retAddr 0, .retAddr 0, .retAddr 0, .retAddr 0], []) h (f245_43 h) (fun (q : Int32 × mH) (res : Option Value × mH) => res = (some (.int q.1), q.2)) := by
  unfold f245_43
  refine Seg.blk0 (f' := (44, [.retAddr 0, .retAddr 0, .retAddr 0, .retAddr 0], [.int (-1)])) (h' := h) rfl rfl ?_
  exact Seg.w (mLw.k (mLw.k (mLw.k (mLw.k mLw.nil)))) (s245_44 h (-1))
theorem s245 (h : mH) (l0 : Nat) (l1 : Int32) (l2 : Int32) (l3 : Int32) : Seg 245 (0, [.ref l0, .int l1, .int l2, .int l3], []) h (f245 h l0 l1 l2 l3) (fun (q : Int32 × mH) (res : Option Value × mH) => res = (some (.int q.1), q.2)) := by
  unfold f245
  refine Seg.blk (f' := (5, [.ref l0, .int l1, .int l2, .int l3], [])) (h' := (mSI h l0 0 0)) rfl rfl ?_
  refine Seg.callP (f1 := (9, [.ref l0, .int l1, .int l2, .int l3], [.int 9, .int 0, .int l3])) (h1 := (mSI h l0 0 0)) (cv := fun r => some (.int r)) rfl rfl rfl rfl (s179 (mSI h l0 0 0) l3 0 9) (fun r1 => ?_)
  refine Seg.blk0 (f' := (if (r1 : Int32) = 0 then 43 else 15, [.ref l0, .int l1, .int l2, .int l3], [])) (h' := (mSI h l0 0 0)) rfl rfl ?_
  refine Seg.ite (fun _ => ?_) (fun _ => ?_)
  · exact Seg.w (mLw.u (mLw.u (mLw.u (mLw.u mLw.nil)))) (s245_43 (mSI h l0 0 0))
  · refine Seg.call (f1 := (17, [.ref l0, .int l1, .int l2, .int l3], [.int l1, .ref l0])) (h1 := (mSI h l0 0 0)) (cv := fun r => some (.int r)) rfl rfl rfl rfl (s205 (mSI h l0 0 0) l0 l1) (fun r2 => ?_)
    refine Seg.blk0 (f' := (if (r2.1 : Int32) = 0 then 43 else 23, [.ref l0, .int l1, .int l2, .int l3], [])) (h' := r2.2) rfl rfl ?_
    refine Seg.ite (fun _ => ?_) (fun _ => ?_)
    · exact Seg.w (mLw.u (mLw.u (mLw.u (mLw.u mLw.nil)))) (s245_43 r2.2)
    · refine Seg.callP (f1 := (25, [.ref l0, .int l1, .int l2, .int l3], [.int l2, .ref l0])) (h1 := r2.2) (cv := fun r => some (.int r)) rfl rfl rfl rfl (s226 r2.2 l0 l2) (fun r3 => ?_)
      refine Seg.blk0 (f' := (if (r3 : Int32) = 0 then 43 else 31, [.ref l0, .int l1, .int l2, .int l3], [])) (h' := r2.2) rfl rfl ?_
      refine Seg.ite (fun _ => ?_) (fun _ => ?_)
      · exact Seg.w (mLw.u (mLw.u (mLw.u (mLw.u mLw.nil)))) (s245_43 r2.2)
      · refine Seg.callP (f1 := (37, [.ref l0, .int l1, .int l2, .int l3], [.int 0, .int l3, .int ((1 : Int32) <<< (l2 &&& (31 : Int32))), .ref l0])) (h1 := r2.2) (cv := fun r => some (.int r)) rfl rfl rfl rfl (s246 r2.2 l0 ((1 : Int32) <<< (l2 &&& (31 : Int32))) l3 0) (fun r4 => ?_)
        refine Seg.blk0 (f' := (44, [.ref l0, .int l1, .int l2, .int l3], [.int r4])) (h' := r2.2) rfl rfl ?_
        exact Seg.w (mLw.u (mLw.u (mLw.u (mLw.u mLw.nil)))) (s245_44 r2.2 r4)
theorem s248_23 (h : mH) : Seg 248 (23, [.retAddr 0, .retAddr 0, .retAddr 0, .retAddr 0, .retAddr 0, .retAddr 0, .retAddr 0, .retAddr 0], []) h (f248_23 h) (fun (q : Int32 × mH) (res : Option Value × mH) => res = (some (.int q.1), q.2)) := by
  unfold f248_23
  exact Seg.ret (f1 := (24, [.retAddr 0, .retAddr 0, .retAddr 0, .retAddr 0, .retAddr 0, .retAddr 0, .retAddr 0, .retAddr 0], [.int (-1)])) (h1 := h) rfl rfl rfl rfl (fun _ q => q)
theorem s248_136 (h : mH) (q0 : Int32) : Seg 248 (136, [.retAddr 0, .retAddr 0, .retAddr 0, .retAddr 0, .retAddr 0, .retAddr 0, .retAddr 0, .retAddr 0], [.int q0]) h (f248_136 h q0) (fun (q : Int32 × mH) (res : Option Value × mH) => res = (some (.int q.1), q.2)) := by
  unfold f248_136
  exact Seg.ret (f1 := (136, [.retAddr 0, .retAddr 0, .retAddr 0, .retAddr 0, .retAddr 0, .retAddr 0, .retAddr 0, .retAddr 0], [.int q0])) (h1 := h) rfl rfl rfl rfl (fun _ q => q)
theorem s248_114 (h : mH) (l0 : Nat) (l2 : Int32) (l3 : Int32) (l4 : Int32) (l6 : Int32) (q0 : Int32) : Seg 248 (114, [.ref l0, .retAddr 0, .int l2, .int l3, .int l4, .retAddr 0, .int l6, .retAddr 0], [.int q0]) h (f248_114 h l0 l2 l3 l4 l6 q0) (Sum.elim (fun s : (Int32 × Int32) => Ev 248 (42, [.ref l0, .retAddr 0, .int l2, .int l3, .int l4, .int s.1, .int s.2, .retAddr 0], []) h) (fun (q : Int32 × mH) (res : Option Value × mH) => res = (some (.int q.1), q.2))) := by
  unfold f248_114
  refine Seg.blk0 (f' := (42, [.ref l0, .retAddr 0, .int l2, .int l3, .int l4, .int q0, .int (l6 + 1), .retAddr 0], [])) (h' := h) rfl rfl ?_
  exact Seg.cont (fun _ q => Ev.w (mLw.k (mLw.k (mLw.k (mLw.k (mLw.k (mLw.k (mLw.k (mLw.k mLw.nil)))))))) q)
theorem s248_112 (h : mH) (l0 : Nat) (l2 : Int32) (l3 : Int32) (l4 : Int32) (l5 : Int32) (l6 : Int32) : Seg 248 (112, [.ref l0, .retAddr 0, .int l2, .int l3, .int l4, .int l5, .int l6, .retAddr 0], []) h (f248_112 h l0 l2 l3 l4 l5 l6) (Sum.elim (fun s : (Int32 × Int32) => Ev 248 (42, [.ref l0, .retAddr 0, .int l2, .int l3, .int l4, .int s.1, .int s.2, .retAddr 0], []) h) (fun (q : Int32 × mH) (res : Option Value × mH) => res = (some (.int q.1), q.2))) := by
  unfold f248_112
  refine Seg.blk0 (f' := (114, [.ref l0, .retAddr 0, .int l2, .int l3, .int l4, .int l5, .int l6, .retAddr 0], [.int l5])) (h' := h) rfl rfl ?_
  exact Seg.w (mLw.k (mLw.k (mLw.k (mLw.k (mLw.k (mLw.u (mLw.k (mLw.k mLw.nil)))))))) (s248_114 h l0 l2 l3 l4 l6 l5)
theorem s248_87 (h : mH) (l0 : Nat) (l2 : Int32) (l3 : Int32) (l4 : Int32) (l5 : Int32) (l6 : Int32) (q0 : Int32) : Seg 248 (87, [.ref l0, .retAddr 0, .int l2, .int l3, .int l4, .int l5, .int l6, .retAddr 0], [.int q0]) h (f248_87 h l0 l2 l3 l4 l5 l6 q0) (Sum.elim (fun s : (Int32 × Int32) => Ev 248 (42, [.ref l0, .retAddr 0, .int l2, .int l3, .int l4, .int s.1, .int s.2, .retAddr 0], []) h) (fun (q : Int32 × mH) (res : Option Value × mH) => res = (some (.int q.1), q.2))) := by
  unfold f248_87
  refine Seg.blk0 (f' := (if (q0 : Int32) = 0 then 112 else 94, [.ref l0, .retAddr 0, .int l2, .int l3, .int l4, .int l5, .int l6, .int q0], [])) (h' := h) rfl rfl ?_
  refine Seg.ite (fun _ => ?_) (fun _ => ?_)
  · exact Seg.w (mLw.k (mLw.k (mLw.k (mLw.k (mLw.k (mLw.k (mLw.k (mLw.u mLw.nil)))))))) (s248_112 h l0 l2 l3 l4 l5 l6)
  · refine Seg.callP (f1 := (99, [.ref l0, .retAddr 0, .int l2, .int l3, .int l4, .int l5, .int l6, .int q0], [.int 0, .int l2, .int l6, .ref l0])) (h1 := h) (cv := fun r => some (.int r)) rfl rfl rfl rfl (s246 h l0 l6 l2 0) (fun r6 => ?_)
    refine Seg.blk0 (f' := (if (r6 : Int32) = l4 then 107 else 112, [.ref l0, .retAddr 0, .int l2, .int l3, .int l4, .int l5, .int l6, .int q0], [])) (h' := h) rfl rfl ?_
    refine Seg.ite (fun _ => ?_) (fun _ => ?_)
    · refine Seg.blk0 (f' := (114, [.ref l0, .retAddr 0, .int l2, .int l3, .int l4, .int l5, .int l6, .int q0], [.int l6])) (h' := h) rfl rfl ?_
      exact Seg.w (mLw.k (mLw.k (mLw.k (mLw.k (mLw.k (mLw.u (mLw.k (mLw.u mLw.nil)))))))) (s248_114 h l0 l2 l3 l4 l6 l6)
    · exact Seg.w (mLw.k (mLw.k (mLw.k (mLw.k (mLw.k (mLw.k (mLw.k (mLw.u mLw.nil)))))))) (s248_112 h l0 l2 l3 l4 l5 l6)
theorem s248_82 (h : mH) (l0 : Nat) (l2 : Int32) (l3 : Int32) (l4 : Int32) (l5 : Int32) (l6 : Int32) : Seg 248 (82, [.ref l0, .retAddr 0, .int l2, .int l3, .int l4, .int l5, .int l6, .retAddr 0], []) h (f248_82 h l0 l2 l3 l4 l5 l6) (Sum.elim (fun s : (Int32 × Int32) => Ev 248 (42, [.ref l0, .retAddr 0, .int l2, .int l3, .int l4, .int s.1, .int s.2, .retAddr 0], []) h) (fun (q : Int32 × mH) (res : Option Value × mH) => res = (some (.int q.1), q.2))) := by
  unfold f248_82
  refine Seg.blk0 (f' := (87, [.ref l0, .retAddr 0, .int l2, .int l3, .int l4, .int l5, .int l6, .retAddr 0], [.int 1])) (h' := h) rfl rfl ?_
  exact Seg.w (mLw.k (mLw.k (mLw.k (mLw.k (mLw.k (mLw.k (mLw.k (mLw.k mLw.nil)))))))) (s248_87 h l0 l2 l3 l4 l5 l6 1)
theorem s248_86 (h : mH) (l0 : Nat) (l2 : Int32) (l3 : Int32) (l4 : Int32) (l5 : Int32) (l6 : Int32) : Seg 248 (86, [.ref l0, .retAddr 0, .int l2, .int l3, .int l4, .int l5, .int l6, .retAddr 0], []) h (f248_86 h l0 l2 l3 l4 l5 l6) (Sum.elim (fun s : (Int32 × Int32) => Ev 248 (42, [.ref l0, .retAddr 0, .int l2, .int l3, .int l4, .int s.1, .int s.2, .retAddr 0], []) h) (fun (q : Int32 × mH) (res : Option Value × mH) => res = (some (.int q.1), q.2))) := by
  unfold f248_86
  refine Seg.blk0 (f' := (87, [.ref l0, .retAddr 0, .int l2, .int l3, .int l4, .int l5, .int l6, .retAddr 0], [.int 0])) (h' := h) rfl rfl ?_
  exact Seg.w (mLw.k (mLw.k (mLw.k (mLw.k (mLw.k (mLw.k (mLw.k (mLw.k mLw.nil)))))))) (s248_87 h l0 l2 l3 l4 l5 l6 0)
theorem s248_42 (h : mH) (l0 : Nat) (l2 : Int32) (l3 : Int32) (l4 : Int32) : ∀ (n : Nat) (s : (Int32 × Int32)), Seg 248 (42, [.ref l0, .retAddr 0, .int l2, .int l3, .int l4, .int s.1, .int s.2, .retAddr 0], []) h (mLoop (f248_42 h l0 l2 l3 l4) n s) (fun (q : Int32 × mH) (res : Option Value × mH) => res = (some (.int q.1), q.2)) := by
  refine Seg.loop (F := fun s : (Int32 × Int32) => (42, [.ref l0, .retAddr 0, .int l2, .int l3, .int l4, .int s.1, .int s.2, .retAddr 0], [])) (H := fun s : (Int32 × Int32) => h) (fun s => ?_)
  show Seg 248 (42, [.ref l0, .retAddr 0, .int l2, .int l3, .int l4, .int s.1, .int s.2, .retAddr 0], []) h _ (Sum.elim (fun s : (Int32 × Int32) => Ev 248 (42, [.ref l0, .retAddr 0, .int l2, .int l3, .int l4, .int s.1, .int s.2, .retAddr 0], []) h) (fun (q : Int32 × mH) (res : Option Value × mH) => res = (some (.int q.1), q.2)))
  unfold f248_42
  refine Seg.blk0 (f' := (if (l4 : Int32) < s.2 then 122 else 49, [.ref l0, .retAddr 0, .int l2, .int l3, .int l4, .int s.1, .int s.2, .retAddr 0], [])) (h' := h) rfl rfl ?_
  refine Seg.ite (fun _ => ?_) (fun _ => ?_)
  · refine Seg.x ?_
    refine Seg.blk0 (f' := (if (l3 : Int32) = 0 then 131 else 126, [.ref l0, .retAddr 0, .int l2, .int l3, .int l4, .int s.1, .int s.2, .retAddr 0], [])) (h' := h) rfl rfl ?_
    refine Seg.ite (fun _ => ?_) (fun _ => ?_)
    · refine Seg.callP (f1 := (133, [.ref l0, .retAddr 0, .int l2, .int l3, .int l4, .int s.1, .int s.2, .retAddr 0], [.int s.1])) (h1 := h) (cv := fun r => some (.int r)) rfl rfl rfl rfl (s244 h s.1) (fun r3 => ?_)
      exact Seg.w (mLw.u (mLw.k (mLw.u (mLw.u (mLw.u (mLw.u (mLw.u (mLw.k mLw.nil)))))))) (s248_136 h r3)
    · refine Seg.blk0 (f' := (136, [.ref l0, .retAddr 0, .int l2, .int l3, .int l4, .int s.1, .int s.2, .retAddr 0], [.int s.1])) (h' := h) rfl rfl ?_
      exact Seg.w (mLw.u (mLw.k (mLw.u (mLw.u (mLw.u (mLw.u (mLw.u (mLw.k mLw.nil)))))))) (s248_136 h s.1)
  · refine Seg.callP (f1 := (51, [.ref l0, .retAddr 0, .int l2, .int l3, .int l4, .int s.1, .int s.2, .retAddr 0], [.int s.2])) (h1 := h) (cv := fun r => some (.int r)) rfl rfl rfl rfl (s244 h s.2) (fun r4 => ?_)
    refine Seg.callP (f1 := (56, [.ref l0, .retAddr 0, .int l2, .int l3, .int l4, .int s.1, .int s.2, .retAddr 0], [.int s.1, .int r4])) (h1 := h) (cv := fun r => some (.int r)) rfl rfl rfl rfl (s244 h s.1) (fun r5 => ?_)
    refine Seg.blk0 (f' := (if (r4 : Int32) < r5 then 82 else 62, [.ref l0, .retAddr 0, .int l2, .int l3, .int l4, .int s.1, .int s.2, .retAddr 0], [])) (h' := h) rfl rfl ?_
    refine Seg.ite (fun _ => ?_) (fun _ => ?_)
    · exact Seg.w (mLw.k (mLw.k (mLw.k (mLw.k (mLw.k (mLw.k (mLw.k (mLw.k mLw.nil)))))))) (s248_82 h l0 l2 l3 l4 s.1 s.2)
    · refine Seg.callP (f1 := (64, [.ref l0, .retAddr 0, .int l2, .int l3, .int l4, .int s.1, .int s.2, .retAddr 0], [.int s.2])) (h1 := h) (cv := fun r => some (.int r)) rfl rfl rfl rfl (s244 h s.2) (fun r7 => ?_)
      refine Seg.callP (f1 := (69, [.ref l0, .retAddr 0, .int l2, .int l3, .int l4, .int s.1, .int s.2, .retAddr 0], [.int s.1, .int r7])) (h1 := h) (cv := fun r => some (.int r)) rfl rfl rfl rfl (s244 h s.1) (fun r8 => ?_)
      refine Seg.blk0 (f' := (if (r7 : Int32) = r8 then 75 else 86, [.ref l0, .retAddr 0, .int l2, .int l3, .int l4, .int s.1, .int s.2, .retAddr 0], [])) (h' := h) rfl rfl ?_
      refine Seg.ite (fun _ => ?_) (fun _ => ?_)
      · refine Seg.blk0 (f' := (if (s.1 : Int32) ≤ s.2 then 86 else 82, [.ref l0, .retAddr 0, .int l2, .int l3, .int l4, .int s.1, .int s.2, .retAddr 0], [])) (h' := h) rfl rfl ?_
        refine Seg.ite (fun _ => ?_) (fun _ => ?_)
        · exact Seg.w (mLw.k (mLw.k (mLw.k (mLw.k (mLw.k (mLw.k (mLw.k (mLw.k mLw.nil)))))))) (s248_86 h l0 l2 l3 l4 s.1 s.2)
        · exact Seg.w (mLw.k (mLw.k (mLw.k (mLw.k (mLw.k (mLw.k (mLw.k (mLw.k mLw.nil)))))))) (s248_82 h l0 l2 l3 l4 s.1 s.2)
      · exact Seg.w (mLw.k (mLw.k (mLw.k (mLw.k (mLw.k (mLw.k (mLw.k (mLw.k mLw.nil)))))))) (s248_86 h l0 l2 l3 l4 s.1 s.2)
theorem s248 (h : mH) (l0 : Nat) (l1 : Int32) (l2 : Int32) (l3 : Int32) : Seg 248 (0, [.ref l0, .int l1, .int l2, .int l3, .retAddr 0, .retAddr 0, .retAddr 0, .retAddr 0], []) h (f248 h l0 l1 l2 l3) (fun (q : Int32 × mH) (res : Option Value × mH) => res = (some (.int q.1), q.2)) := by
  unfold f248
  refine Seg.blk (f' := (5, [.ref l0, .int l1, .int l2, .int l3, .retAddr 0, .retAddr 0, .retAddr 0, .retAddr 0], [])) (h' := (mSI h l0 0 0)) rfl rfl ?_
  refine Seg.callP (f1 := (9, [.ref l0, .int l1, .int l2, .int l3, .retAddr 0, .retAddr 0, .retAddr 0, .retAddr 0], [.int 9, .int 0, .int l2])) (h1 := (mSI h l0 0 0)) (cv := fun r => some (.int r)) rfl rfl rfl rfl (s179 (mSI h l0 0 0) l2 0 9) (fun r1 => ?_)
  refine Seg.blk0 (f' := (if (r1 : Int32) = 0 then 23 else 15, [.ref l0, .int l1, .int l2, .int l3, .retAddr 0, .retAddr 0, .retAddr 0, .retAddr 0], [])) (h' := (mSI h l0 0 0)) rfl rfl ?_
  refine Seg.ite (fun _ => ?_) (fun _ => ?_)
  · exact Seg.w (mLw.u (mLw.u (mLw.u (mLw.u (mLw.k (mLw.k (mLw.k (mLw.k mLw.nil)))))))) (s248_23 (mSI h l0 0 0))
  · refine Seg.call (f1 := (17, [.ref l0, .int l1, .int l2, .int l3, .retAddr 0, .retAddr 0, .retAddr 0, .retAddr 0], [.int l1, .ref l0])) (h1 := (mSI h l0 0 0)) (cv := fun r => some (.int r)) rfl rfl rfl rfl (s205 (mSI h l0 0 0) l0 l1) (fun r2 => ?_)
    refine Seg.blk0 (f' := (if (r2.1 : Int32) = 0 then 23 else 25, [.ref l0, .int l1, .int l2, .int l3, .retAddr 0, .retAddr 0, .retAddr 0, .retAddr 0], [])) (h' := r2.2) rfl rfl ?_
    refine Seg.ite (fun _ => ?_) (fun _ => ?_)
    · exact Seg.w (mLw.u (mLw.u (mLw.u (mLw.u (mLw.k (mLw.k (mLw.k (mLw.k mLw.nil)))))))) (s248_23 r2.2)
    · refine Seg.blk (f' := (42, [.ref l0, .int l1, .int l2, .int l3, .int (((1 : Int32) <<< ((mI r2.2 l0 25) &&& (31 : Int32))) - 1), .int (((1 : Int32) <<< ((mI r2.2 l0 25) &&& (31 : Int32))) - 1), .int 0, .retAddr 0], [])) (h' := r2.2) rfl rfl ?_
      exact Seg.w (mLw.k (mLw.u (mLw.k (mLw.k (mLw.k (mLw.k (mLw.k (mLw.k mLw.nil)))))))) (s248_42 r2.2 l0 l2 l3 (((1 : Int32) <<< ((mI r2.2 l0 25) &&& (31 : Int32))) - 1) mFuel ((((1 : Int32) <<< ((mI r2.2 l0 25) &&& (31 : Int32))) - 1), 0))
theorem s250_44 (h : mH) (q0 : Int32) : Seg 250 (44, [.retAddr 0, .retAddr 0, .retAddr 0, .retAddr 0], [.int q0]) h (f250_44 h q0) (fun (q : Int32) (res : Option Value × mH) => res = (some (.int q), h)) := by
  unfold f250_44
  exact Seg.ret (f1 := (44, [.retAddr 0, .retAddr 0, .retAddr 0, .retAddr 0], [.int q0])) (h1 := h) rfl rfl rfl rfl (fun _ q => q)
theorem s250_43 (h : mH) : Seg 250 (43, [.retAddr 0, .retAddr 0, .retAddr 0, .retAddr 0], []) h (f250_43 h) (fun (q : Int32) (res : Option Value × mH) => res = (some (.int q), h)) := by
  unfold f250_43
  refine Seg.blk0 (f' := (44, [.retAddr 0, .retAddr 0, .retAddr 0, .retAddr 0], [.int 0])) (h' := h) rfl rfl ?_
  exact Seg.w (mLw.k (mLw.k (mLw.k (mLw.k mLw.nil)))) (s250_44 h 0)
theorem s250 (h : mH) (l0 : Nat) (l1 : Int32) (l2 : Int32) (l3 : Int32) : Seg 250 (0, [.ref l0, .int l1, .int l2, .int l3], []) h (f250 h l0 l1 l2 l3) (fun (q : Int32) (res : Option Value × mH) => res = (some (.int q), h)) := by
  unfold f250
  refine Seg.callP (f1 := (3, [.ref l0, .int l1, .int l2, .int l3], [.int l1, .int l2, .ref l0])) (h1 := h) (cv := fun r => some (.int r)) rfl rfl rfl rfl (s220 h l0 l2 l1) (fun r1 => ?_)
  refine Seg.blk0 (f' := (if (r1 : Int32) = 0 then 43 else 9, [.ref l0, .int l1, .int l2, .int l3], [])) (h' := h) rfl rfl ?_
  refine Seg.ite (fun _ => ?_) (fun _ => ?_)
  · exact Seg.w (mLw.u (mLw.u (mLw.u (mLw.u mLw.nil)))) (s250_43 h)
  · refine Seg.callP (f1 := (11, [.ref l0, .int l1, .int l2, .int l3], [.int l1, .ref l0])) (h1 := h) (cv := fun r => some (.int r)) rfl rfl rfl rfl (s243 h l0 l1) (fun r2 => ?_)
    refine Seg.callP (f1 := (18, [.ref l0, .int l1, .int l2, .int l3], [.int (3 + l2), .ref l0, .int r2])) (h1 := h) (cv := fun r => some (.int r)) rfl rfl rfl rfl (s206 h l0 (3 + l2)) (fun r3 => ?_)
    refine Seg.blk0 (f' := (if (l3 : Int32) < (r2 + r3) then 43 else 26, [.ref l0, .int l1, .int l2, .int l3], [])) (h' := h) rfl rfl ?_
    refine Seg.ite (fun _ => ?_) (fun _ => ?_)
    · exact Seg.w (mLw.u (mLw.u (mLw.u (mLw.u mLw.nil)))) (s250_43 h)
    · refine Seg.blk (f' := (if ((mI h ((mR h l0 40).getD 0) (Int32.toNatClampNeg (l1 ||| ((1 : Int32) <<< (l2 &&& (31 : Int32)))))) : Int32) = 0 then 39 else 43, [.ref l0, .int l1, .int l2, .int l3], [])) (h' := h) rfl rfl ?_
      refine Seg.ite (fun _ => ?_) (fun _ => ?_)
      · refine Seg.blk0 (f' := (44, [.ref l0, .int l1, .int l2, .int l3], [.int 1])) (h' := h) rfl rfl ?_
        exact Seg.w (mLw.u (mLw.u (mLw.u (mLw.u mLw.nil)))) (s250_44 h 1)
      · exact Seg.w (mLw.u (mLw.u (mLw.u (mLw.u mLw.nil)))) (s250_43 h)
theorem s249_23 (h : mH) : Seg 249 (23, [.retAddr 0, .retAddr 0, .retAddr 0, .retAddr 0, .retAddr 0, .retAddr 0, .retAddr 0], []) h (f249_23 h) (fun (q : Int32 × mH) (res : Option Value × mH) => res = (some (.int q.1), q.2)) := by
  unfold f249_23
  exact Seg.ret (f1 := (25, [.retAddr 0, .retAddr 0, .retAddr 0, .retAddr 0, .retAddr 0, .retAddr 0, .retAddr 0], [.int (-2)])) (h1 := h) rfl rfl rfl rfl (fun _ q => q)
theorem s249_131 (h : mH) (q0 : Int32) : Seg 249 (131, [.retAddr 0, .retAddr 0, .retAddr 0, .retAddr 0, .retAddr 0, .retAddr 0, .retAddr 0], [.int q0]) h (f249_131 h q0) (fun (q : Int32 × mH) (res : Option Value × mH) => res = (some (.int q.1), q.2)) := by
  unfold f249_131
  exact Seg.ret (f1 := (131, [.retAddr 0, .retAddr 0, .retAddr 0, .retAddr 0, .retAddr 0, .retAddr 0, .retAddr 0], [.int q0])) (h1 := h) rfl rfl rfl rfl (fun _ q => q)
theorem s249_79 (h : mH) (l0 : Nat) (l2 : Int32) (l3 : Int32) (l5 : Int32) (l6 : Int32) (q0 : Int32) : Seg 249 (79, [.ref l0, .retAddr 0, .int l2, .int l3, .retAddr 0, .int l5, .int l6], [.int q0]) h (f249_79 h l0 l2 l3 l5 l6 q0) (Sum.elim (fun s : (Int32 × Int32) => Ev 249 (55, [.ref l0, .retAddr 0, .int l2, .int l3, .int s.1, .int l5, .int s.2], []) h) (Sum.elim (fun s : (Int32 × Int32 × mH) => Ev 249 (39, [.ref l0, .retAddr 0, .int l2, .int l3, .int s.1, .int s.2.1, .retAddr 0], []) s.2.2) (fun (q : Int32 × mH) (res : Option Value × mH) => res = (some (.int q.1), q.2)))) := by
  unfold f249_79
  refine Seg.blk0 (f' := (55, [.ref l0, .retAddr 0, .int l2, .int l3, .int q0, .int l5, .int (l6 + (-1))], [])) (h' := h) rfl rfl ?_
  exact Seg.cont (fun _ q => Ev.w (mLw.k (mLw.k (mLw.k (mLw.k (mLw.k (mLw.k (mLw.k mLw.nil))))))) q)
theorem s249_55 (h : mH) (l0 : Nat) (l2 : Int32) (l3 : Int32) (l5 : Int32) : ∀ (n : Nat) (s : (Int32 × Int32)), Seg 249 (55, [.ref l0, .retAddr 0, .int l2, .int l3, .int s.1, .int l5, .int s.2], []) h (mLoop (f249_55 h l0 l2 l3 l5) n s) (Sum.elim (fun s : (Int32 × Int32 × mH) => Ev 249 (39, [.ref l0, .retAddr 0, .int l2, .int l3, .int s.1, .int s.2.1, .retAddr 0], []) s.2.2) (fun (q : Int32 × mH) (res : Option Value × mH) => res = (some (.int q.1), q.2))) := by
  refine Seg.loop (F := fun s : (Int32 × Int32) => (55, [.ref l0, .retAddr 0, .int l2, .int l3, .int s.1, .int l5, .int s.2], [])) (H := fun s : (Int32 × Int32) => h) (fun s => ?_)
  show Seg 249 (55, [.ref l0, .retAddr 0, .int l2, .int l3, .int s.1, .int l5, .int s.2], []) h _ (Sum.elim (fun s : (Int32 × Int32) => Ev 249 (55, [.ref l0, .retAddr 0, .int l2, .int l3, .int s.1, .int l5, .int s.2], []) h) (Sum.elim (fun s : (Int32 × Int32 × mH) => Ev 249 (39, [.ref l0, .retAddr 0, .int l2, .int l3, .int s.1, .int s.2.1, .retAddr 0], []) s.2.2) (fun (q : Int32 × mH) (res : Option Value × mH) => res = (some (.int q.1), q.2))))
  unfold f249_55
  refine Seg.blk0 (f' := (if (s.2 : Int32) < 0 then 87 else 60, [.ref l0, .retAddr 0, .int l2, .int l3, .int s.1, .int l5, .int s.2], [])) (h' := h) rfl rfl ?_
  refine Seg.ite (fun _ => ?_) (fun _ => ?_)
  · refine Seg.x ?_
    refine Seg.blk (f' := (if (s.1 : Int32) = (-1) then 103 else 99, [.ref l0, .retAddr 0, .int l2, .int l3, .int s.1, .int l5, .int s.2], [.int l5, .ref ((mR h l0 40).getD 0)])) (h' := h) rfl rfl ?_
    refine Seg.ite (fun _ => ?_) (fun _ => ?_)
    · refine Seg.blk0 (f' := (104, [.ref l0, .retAddr 0, .int l2, .int l3, .int s.1, .int l5, .int s.2], [.int 0, .int l5, .ref ((mR h l0 40).getD 0)])) (h' := h) rfl rfl ?_
      refine Seg.blk (f' := (105, [.ref l0, .retAddr 0, .int l2, .int l3, .int s.1, .int l5, .int s.2], [])) (h' := (mSI h ((mR h l0 40).getD 0) (Int32.toNatClampNeg l5) 0)) rfl rfl ?_
      refine Seg.blk0 (f' := (39, [.ref l0, .retAddr 0, .int l2, .int l3, .int s.1, .int (l5 + (-1)), .int s.2], [])) (h' := (mSI h ((mR h l0 40).getD 0) (Int32.toNatClampNeg l5) 0)) rfl rfl ?_
      exact Seg.cont (fun _ q => Ev.w (mLw.k (mLw.k (mLw.k (mLw.k (mLw.k (mLw.k (mLw.u mLw.nil))))))) q)
    · refine Seg.blk0 (f' := (104, [.ref l0, .retAddr 0, .int l2, .int l3, .int s.1, .int l5, .int s.2], [.int 1, .int l5, .ref ((mR h l0 40).getD 0)])) (h' := h) rfl rfl ?_
      refine Seg.blk (f' := (105, [.ref l0, .retAddr 0, .int l2, .int l3, .int s.1, .int l5, .int s.2], [])) (h' := (mSI h ((mR h l0 40).getD 0) (Int32.toNatClampNeg l5) 1)) rfl rfl ?_
      refine Seg.blk0 (f' := (39, [.ref l0, .retAddr 0, .int l2, .int l3, .int s.1, .int (l5 + (-1)), .int s.2], [])) (h' := (mSI h ((mR h l0 40).getD 0) (Int32.toNatClampNeg l5) 1)) rfl rfl ?_
      exact Seg.cont (fun _ q => Ev.w (mLw.k (mLw.k (mLw.k (mLw.k (mLw.k (mLw.k (mLw.u mLw.nil))))))) q)
  · refine Seg.callP (f1 := (66, [.ref l0, .retAddr 0, .int l2, .int l3, .int s.1, .int l5, .int s.2], [.int l2, .int s.2, .int l5, .ref l0])) (h1 := h) (cv := fun r => some (.int r)) rfl rfl rfl rfl (s250 h l0 l5 s.2 l2) (fun r3 => ?_)
    refine Seg.blk0 (f' := (if (r3 : Int32) = 0 then 77 else 72, [.ref l0, .retAddr 0, .int l2, .int l3, .int s.1, .int l5, .int s.2], [])) (h' := h) rfl rfl ?_
    refine Seg.ite (fun _ => ?_) (fun _ => ?_)
    · refine Seg.blk0 (f' := (79, [.ref l0, .retAddr 0, .int l2, .int l3, .int s.1, .int l5, .int s.2], [.int s.1])) (h' := h) rfl rfl ?_
      exact Seg.w (mLw.k (mLw.k (mLw.k (mLw.k (mLw.u (mLw.k (mLw.k mLw.nil))))))) (s249_79 h l0 l2 l3 l5 s.2 s.1)
    · refine Seg.blk0 (f' := (79, [.ref l0, .retAddr 0, .int l2, .int l3, .int s.1, .int l5, .int s.2], [.int s.2])) (h' := h) rfl rfl ?_
      exact Seg.w (mLw.k (mLw.k (mLw.k (mLw.k (mLw.u (mLw.k (mLw.k mLw.nil))))))) (s249_79 h l0 l2 l3 l5 s.2 s.2)
theorem s249_39 (l0 : Nat) (l2 : Int32) (l3 : Int32) : ∀ (n : Nat) (s : (Int32 × Int32 × mH)), Seg 249 (39, [.ref l0, .retAddr 0, .int l2, .int l3, .int s.1, .int s.2.1, .retAddr 0], []) s.2.2 (mLoop (f249_39 l0 l2 l3) n s) (fun (q : Int32 × mH) (res : Option Value × mH) => res = (some (.int q.1), q.2)) := by
  refine Seg.loop (F := fun s : (Int32 × Int32 × mH) => (39, [.ref l0, .retAddr 0, .int l2, .int l3, .int s.1, .int s.2.1, .retAddr 0], [])) (H := fun s : (Int32 × Int32 × mH) => s.2.2) (fun s => ?_)
  show Seg 249 (39, [.ref l0, .retAddr 0, .int l2, .int l3, .int s.1, .int s.2.1, .retAddr 0], []) s.2.2 _ (Sum.elim (fun s : (Int32 × Int32 × mH) => Ev 249 (39, [.ref l0, .retAddr 0, .int l2, .int l3, .int s.1, .int s.2.1, .retAddr 0], []) s.2.2) (fun (q : Int32 × mH) (res : Option Value × mH) => res = (some (.int q.1), q.2)))
  unfold f249_39
  refine Seg.blk0 (f' := (if (s.2.1 : Int32) < 0 then 111 else 44, [.ref l0, .retAddr 0, .int l2, .int l3, .int s.1, .int s.2.1, .retAddr 0], [])) (h' := s.2.2) rfl rfl ?_
  refine Seg.ite (fun _ => ?_) (fun _ => ?_)
  · refine Seg.x ?_
    refine Seg.blk0 (f' := (if (l3 : Int32) = 0 then 120 else 115, [.ref l0, .retAddr 0, .int l2, .int l3, .int s.1, .int s.2.1, .retAddr 0], [])) (h' := s.2.2) rfl rfl ?_
    refine Seg.ite (fun _ => ?_) (fun _ => ?_)
    · refine Seg.blk0 (f' := (if (s.1 : Int32) = (-1) then 126 else 130, [.ref l0, .retAddr 0, .int l2, .int l3, .int s.1, .int s.2.1, .retAddr 0], [])) (h' := s.2.2) rfl rfl ?_
      refine Seg.ite (fun _ => ?_) (fun _ => ?_)
      · refine Seg.blk0 (f' := (131, [.ref l0, .retAddr 0, .int l2, .int l3, .int s.1, .int s.2.1, .retAddr 0], [.int 0])) (h' := s.2.2) rfl rfl ?_
        exact Seg.w (mLw.u (mLw.k (mLw.u (mLw.u (mLw.u (mLw.u (mLw.k mLw.nil))))))) (s249_131 s.2.2 0)
      · refine Seg.blk0 (f' := (131, [.ref l0, .retAddr 0, .int l2, .int l3, .int s.1, .int s.2.1, .retAddr 0], [.int 1])) (h' := s.2.2) rfl rfl ?_
        exact Seg.w (mLw.u (mLw.k (mLw.u (mLw.u (mLw.u (mLw.u (mLw.k mLw.nil))))))) (s249_131 s.2.2 1)
    · refine Seg.blk0 (f' := (131, [.ref l0, .retAddr 0, .int l2, .int l3, .int s.1, .int s.2.1, .retAddr 0], [.int s.1])) (h' := s.2.2) rfl rfl ?_
      exact Seg.w (mLw.u (mLw.k (mLw.u (mLw.u (mLw.u (mLw.u (mLw.k mLw.nil))))))) (s249_131 s.2.2 s.1)
  · refine Seg.blk (f' := (55, [.ref l0, .retAddr 0, .int l2, .int l3, .int (-1), .int s.2.1, .int ((mI s.2.2 l0 24) - 1)], [])) (h' := s.2.2) rfl rfl ?_
    exact Seg.w (mLw.k (mLw.k (mLw.k (mLw.k (mLw.k (mLw.k (mLw.k mLw.nil))))))) (s249_55 s.2.2 l0 l2 l3 s.2.1 mFuel ((-1), ((mI s.2.2 l0 24) - 1)))
theorem s249 (h : mH) (l0 : Nat) (l1 : Int32) (l2 : Int32) (l3 : Int32) : Seg 249 (0, [.ref l0, .int l1, .int l2, .int l3, .retAddr 0, .retAddr 0, .retAddr 0], []) h (f249 h l0 l1 l2 l3) (fun (q : Int32 × mH) (res : Option Value × mH) => res = (some (.int q.1), q.2)) := by
  unfold f249
  refine Seg.blk (f' := (5, [.ref l0, .int l1, .int l2, .int l3, .retAddr 0, .retAddr 0, .retAddr 0], [])) (h' := (mSI h l0 0 0)) rfl rfl ?_
  refine Seg.callP (f1 := (9, [.ref l0, .int l1, .int l2, .int l3, .retAddr 0, .retAddr 0, .retAddr 0], [.int 72, .int 0, .int l2])) (h1 := (mSI h l0 0 0)) (cv := fun r => some (.int r)) rfl rfl rfl rfl (s179 (mSI h l0 0 0) l2 0 72) (fun r1 => ?_)
  refine Seg.blk0 (f' := (if (r1 : Int32) = 0 then 23 else 15, [.ref l0, .int l1, .int l2, .int l3, .retAddr 0, .retAddr 0, .retAddr 0], [])) (h' := (mSI h l0 0 0)) rfl rfl ?_
  refine Seg.ite (fun _ => ?_) (fun _ => ?_)
  · exact Seg.w (mLw.u (mLw.u (mLw.u (mLw.u (mLw.k (mLw.k (mLw.k mLw.nil))))))) (s249_23 (mSI h l0 0 0))
  · refine Seg.call (f1 := (17, [.ref l0, .int l1, .int l2, .int l3, .retAddr 0, .retAddr 0, .retAddr 0], [.int l1, .ref l0])) (h1 := (mSI h l0 0 0)) (cv := fun r => some (.int r)) rfl rfl rfl rfl (s205 (mSI h l0 0 0) l0 l1) (fun r2 => ?_)
    refine Seg.blk0 (f' := (if (r2.1 : Int32) = 0 then 23 else 26, [.ref l0, .int l1, .int l2, .int l3, .retAddr 0, .retAddr 0, .retAddr 0], [])) (h' := r2.2) rfl rfl ?_
    refine Seg.ite (fun _ => ?_) (fun _ => ?_)
    · exact Seg.w (mLw.u (mLw.u (mLw.u (mLw.u (mLw.k (mLw.k (mLw.k mLw.nil))))))) (s249_23 r2.2)
    · refine Seg.blk (f' := (39, [.ref l0, .int l1, .int l2, .int l3, .int (-1), .int (((1 : Int32) <<< ((mI r2.2 l0 24) &&& (31 : Int32))) - 1), .retAddr 0], [])) (h' := r2.2) rfl rfl ?_
      exact Seg.w (mLw.k (mLw.u (mLw.k (mLw.k (mLw.k (mLw.k (mLw.k mLw.nil))))))) (s249_39 l0 l2 l3 mFuel ((-1), (((1 : Int32) <<< ((mI r2.2 l0 24) &&& (31 : Int32))) - 1), r2.2))
theorem s252 (h : mH) (l0 : Nat) (l1 : Int32) : Seg 252 (0, [.ref l0, .int l1], []) h (f252 h l0 l1) (fun (q : Int32) (res : Option Value × mH) => res = (some (.int q), h)) := by
  unfold f252
  refine Seg.callP (f1 := (10, [.ref l0, .int l1], [.int (((1 : Int32) <<< ((mI h l0 24) &&& (31 : Int32))) - 1), .int 0, .int l1])) (h1 := h) (cv := fun r => some (.int r)) rfl rfl rfl rfl (s179 h l1 0 (((1 : Int32) <<< ((mI h l0 24) &&& (31 : Int32))) - 1)) (fun r1 => ?_)
  exact Seg.ret (f1 := (13, [.ref l0, .int l1], [.int r1])) (h1 := h) rfl rfl rfl rfl (fun _ q => q)
theorem s253 (h : mH) (l0 : Nat) (l1 : Int32) : Seg 253 (0, [.ref l0, .int l1], []) h (f253 h l0 l1) (fun (q : Int32) (res : Option Value × mH) => res = (some (.int q), h)) := by
  unfold f253
  refine Seg.callP (f1 := (2, [.ref l0, .int l1], [.int l1, .ref l0])) (h1 := h) (cv := fun r => some (.int r)) rfl rfl rfl rfl (s243 h l0 l1) (fun r1 => ?_)
  refine Seg.callP (f1 := (7, [.ref l0, .int l1], [.int 2, .ref l0, .int r1])) (h1 := h) (cv := fun r => some (.int r)) rfl rfl rfl rfl (s206 h l0 2) (fun r2 => ?_)
  refine Seg.callP (f1 := (15, [.ref l0, .int l1], [.int 2, .ref l0, .int ((r1 + r2) - 1)])) (h1 := h) (cv := fun r => some (.int r)) rfl rfl rfl rfl (s206 h l0 2) (fun r3 => ?_)
  exact Seg.ret (f1 := (19, [.ref l0, .int l1], [.int (((r1 + r2) - 1) / r3)])) (h1 := h) rfl rfl rfl rfl (fun _ q => q)
theorem s254_5 (h : mH) (l0 : Int64) (l2 : Int32) : ∀ (n : Nat) (s : (Int64 × Int32)), Seg 254 (5, [.long l0, .retAddr 0, .int l2, .long s.1, .retAddr 0, .int s.2], []) h (mLoop (f254_5 h l0 l2) n s) (fun (q : Int64) (res : Option Value × mH) => res = (some (.long q), h)) := by
  refine Seg.loop (F := fun s : (Int64 × Int32) => (5, [.long l0, .retAddr 0, .int l2, .long s.1, .retAddr 0, .int s.2], [])) (H := fun s : (Int64 × Int32) => h) (fun s => ?_)
  show Seg 254 (5, [.long l0, .retAddr 0, .int l2, .long s.1, .retAddr 0, .int s.2], []) h _ (Sum.elim (fun s : (Int64 × Int32) => Ev 254 (5, [.long l0, .retAddr 0, .int l2, .long s.1, .retAddr 0, .int s.2], []) h) (fun (q : Int64) (res : Option Value × mH) => res = (some (.long q), h)))
  unfold f254_5
  refine Seg.blk0 (f' := (if (l2 : Int32) ≤ s.2 then 21 else 11, [.long l0, .retAddr 0, .int l2, .long s.1, .retAddr 0, .int s.2], [])) (h' := h) rfl rfl ?_
  refine Seg.ite (fun _ => ?_) (fun _ => ?_)
  · refine Seg.x ?_
    exact Seg.ret (f1 := (22, [.long l0, .retAddr 0, .int l2, .long s.1, .retAddr 0, .int s.2], [.long s.1])) (h1 := h) rfl rfl rfl rfl (fun _ q => q)
  · refine Seg.blk0 (f' := (5, [.long l0, .retAddr 0, .int l2, .long (s.1 * l0), .retAddr 0, .int (s.2 + 1)], [])) (h' := h) rfl rfl ?_
    exact Seg.cont (fun _ q => Ev.w (mLw.k (mLw.k (mLw.k (mLw.k (mLw.k (mLw.k mLw.nil)))))) q)
theorem s254 (h : mH) (l0 : Int64) (l2 : Int32) : Seg 254 (0, [.long l0, .retAddr 0, .int l2, .retAddr 0, .retAddr 0, .retAddr 0], []) h (f254 h l0 l2) (fun (q : Int64) (res : Option Value × mH) => res = (some (.long q), h)) := by
  unfold f254
  refine Seg.blk0 (f' := (5, [.long l0, .retAddr 0, .int l2, .long 1, .retAddr 0, .int 0], [])) (h' := h) rfl rfl ?_
  exact Seg.w (mLw.k (mLw.k (mLw.k (mLw.k (mLw.k (mLw.k mLw.nil)))))) (s254_5 h l0 l2 mFuel (1, 0))
