/-! The small machine runs the programs; printed by a program of ours. -/
theorem s283_23 (h : mH) : Seg 283 (23, [.retAddr 0, .retAddr 0, .retAddr 0, .retAddr 0], []) h (f283_23 h) (fun (q : Int32 × mH) (res : Option Value × mH) => res = (some (.int q.1), q.2)) := by
  unfold f283_23
  exact Seg.ret (f1 := (24, [.retAddr 0, .retAddr 0, .retAddr 0, .retAddr 0], [.int (-1)])) (h1 := h) rfl rfl rfl rfl (fun _ q => q)
theorem s283_27 (l0 : Nat) (l2 : Int32) : ∀ (n : Nat) (s : (Int32 × mH)), Seg 283 (27, [.ref l0, .retAddr 0, .int l2, .int s.1], []) s.2 (mLoop (f283_27 l0 l2) n s) (fun (q : Int32 × mH) (res : Option Value × mH) => res = (some (.int q.1), q.2)) := by
  refine Seg.loop (F := fun s : (Int32 × mH) => (27, [.ref l0, .retAddr 0, .int l2, .int s.1], [])) (H := fun s : (Int32 × mH) => s.2) (fun s => ?_)
  show Seg 283 (27, [.ref l0, .retAddr 0, .int l2, .int s.1], []) s.2 _ (Sum.elim (fun s : (Int32 × mH) => Ev 283 (27, [.ref l0, .retAddr 0, .int l2, .int s.1], []) s.2) (fun (q : Int32 × mH) (res : Option Value × mH) => res = (some (.int q.1), q.2)))
  unfold f283_27
  refine Seg.blk0 (f' := (if (12 : Int32) < s.1 then 58 else 33, [.ref l0, .retAddr 0, .int l2, .int s.1], [])) (h' := s.2) rfl rfl ?_
  refine Seg.ite (fun _ => ?_) (fun _ => ?_)
  · refine Seg.x ?_
    exact Seg.ret (f1 := (59, [.ref l0, .retAddr 0, .int l2, .int s.1], [.int (-1)])) (h1 := s.2) rfl rfl rfl rfl (fun _ q => q)
  · refine Seg.call (f1 := (43, [.ref l0, .retAddr 0, .int l2, .int s.1], [.int s.1, .int (((1 : Int32) <<< ((mI s.2 l0 24) &&& (31 : Int32))) - 1), .ref l0])) (h1 := s.2) (cv := fun r => some (.int r)) rfl rfl rfl rfl (s272 s.2 l0 (((1 : Int32) <<< ((mI s.2 l0 24) &&& (31 : Int32))) - 1) s.1) (fun r3 => ?_)
    refine Seg.blk0 (f' := (if (l2 : Int32) < r3.1 then 52 else 50, [.ref l0, .retAddr 0, .int l2, .int s.1], [])) (h' := r3.2) rfl rfl ?_
    refine Seg.ite (fun _ => ?_) (fun _ => ?_)
    · refine Seg.blk0 (f' := (27, [.ref l0, .retAddr 0, .int l2, .int (s.1 + 1)], [])) (h' := r3.2) rfl rfl ?_
      exact Seg.cont (fun _ q => Ev.w (mLw.k (mLw.k (mLw.k (mLw.k mLw.nil)))) q)
    · refine Seg.x ?_
      exact Seg.ret (f1 := (51, [.ref l0, .retAddr 0, .int l2, .int s.1], [.int s.1])) (h1 := r3.2) rfl rfl rfl rfl (fun _ q => q)
theorem s283 (h : mH) (l0 : Nat) (l1 : Int32) (l2 : Int32) : Seg 283 (0, [.ref l0, .int l1, .int l2, .retAddr 0], []) h (f283 h l0 l1 l2) (fun (q : Int32 × mH) (res : Option Value × mH) => res = (some (.int q.1), q.2)) := by
  unfold f283
  refine Seg.blk (f' := (5, [.ref l0, .int l1, .int l2, .retAddr 0], [])) (h' := (mSI h l0 0 0)) rfl rfl ?_
  refine Seg.callP (f1 := (9, [.ref l0, .int l1, .int l2, .retAddr 0], [.int 20, .int 1, .int l2])) (h1 := (mSI h l0 0 0)) (cv := fun r => some (.int r)) rfl rfl rfl rfl (s179 (mSI h l0 0 0) l2 1 20) (fun r1 => ?_)
  refine Seg.blk0 (f' := (if (r1 : Int32) = 0 then 23 else 15, [.ref l0, .int l1, .int l2, .retAddr 0], [])) (h' := (mSI h l0 0 0)) rfl rfl ?_
  refine Seg.ite (fun _ => ?_) (fun _ => ?_)
  · exact Seg.w (mLw.u (mLw.u (mLw.u (mLw.k mLw.nil)))) (s283_23 (mSI h l0 0 0))
  · refine Seg.call (f1 := (17, [.ref l0, .int l1, .int l2, .retAddr 0], [.int l1, .ref l0])) (h1 := (mSI h l0 0 0)) (cv := fun r => some (.int r)) rfl rfl rfl rfl (s205 (mSI h l0 0 0) l0 l1) (fun r2 => ?_)
    refine Seg.blk0 (f' := (if (r2.1 : Int32) = 0 then 23 else 25, [.ref l0, .int l1, .int l2, .retAddr 0], [])) (h' := r2.2) rfl rfl ?_
    refine Seg.ite (fun _ => ?_) (fun _ => ?_)
    · exact Seg.w (mLw.u (mLw.u (mLw.u (mLw.k mLw.nil)))) (s283_23 r2.2)
    · refine Seg.blk0 (f' := (27, [.ref l0, .int l1, .int l2, .int 1], [])) (h' := r2.2) rfl rfl ?_
      exact Seg.w (mLw.k (mLw.u (mLw.k (mLw.k mLw.nil)))) (s283_27 l0 l2 mFuel (1, r2.2))
theorem s284_170 (h : mH) (q0 : Int32) : Seg 284 (170, [.retAddr 0, .retAddr 0, .retAddr 0, .retAddr 0, .retAddr 0, .retAddr 0, .retAddr 0, .retAddr 0], [.int q0]) h (f284_170 h q0) (fun (q : Int32 × mH) (res : Option Value × mH) => res = (some (.int q.1), q.2)) := by
  unfold f284_170
  exact Seg.ret (f1 := (170, [.retAddr 0, .retAddr 0, .retAddr 0, .retAddr 0, .retAddr 0, .retAddr 0, .retAddr 0, .retAddr 0], [.int q0])) (h1 := h) rfl rfl rfl rfl (fun _ q => q)
theorem s284_156 (h : mH) : Seg 284 (156, [.retAddr 0, .retAddr 0, .retAddr 0, .retAddr 0, .retAddr 0, .retAddr 0, .retAddr 0, .retAddr 0], []) h (f284_156 h) (fun (q : Int32 × mH) (res : Option Value × mH) => res = (some (.int q.1), q.2)) := by
  unfold f284_156
  refine Seg.blk0 (f' := (170, [.retAddr 0, .retAddr 0, .retAddr 0, .retAddr 0, .retAddr 0, .retAddr 0, .retAddr 0, .retAddr 0], [.int (-1)])) (h' := h) rfl rfl ?_
  exact Seg.w (mLw.k (mLw.k (mLw.k (mLw.k (mLw.k (mLw.k (mLw.k (mLw.k mLw.nil)))))))) (s284_170 h (-1))
theorem s284_160 (h : mH) (l2 : Int32) (l3 : Int32) (l4 : Int32) : Seg 284 (160, [.retAddr 0, .retAddr 0, .int l2, .int l3, .int l4, .retAddr 0, .retAddr 0, .retAddr 0], []) h (f284_160 h l2 l3 l4) (fun (q : Int32 × mH) (res : Option Value × mH) => res = (some (.int q.1), q.2)) := by
  unfold f284_160
  refine Seg.blk0 (f' := (if (l2 : Int32) = 0 then 169 else 164, [.retAddr 0, .retAddr 0, .int l2, .int l3, .int l4, .retAddr 0, .retAddr 0, .retAddr 0], [])) (h' := h) rfl rfl ?_
  refine Seg.ite (fun _ => ?_) (fun _ => ?_)
  · refine Seg.blk0 (f' := (170, [.retAddr 0, .retAddr 0, .int l2, .int l3, .int l4, .retAddr 0, .retAddr 0, .retAddr 0], [.int l3])) (h' := h) rfl rfl ?_
    exact Seg.w (mLw.k (mLw.k (mLw.u (mLw.u (mLw.u (mLw.k (mLw.k (mLw.k mLw.nil)))))))) (s284_170 h l3)
  · refine Seg.blk0 (f' := (170, [.retAddr 0, .retAddr 0, .int l2, .int l3, .int l4, .retAddr 0, .retAddr 0, .retAddr 0], [.int l4])) (h' := h) rfl rfl ?_
    exact Seg.w (mLw.k (mLw.k (mLw.u (mLw.u (mLw.u (mLw.k (mLw.k (mLw.k mLw.nil)))))))) (s284_170 h l4)
theorem s284_123 (h : mH) (l0 : Nat) (l2 : Int32) (l4 : Int32) (l5 : Int32) (l7 : Int32) (q0 : Int32) : Seg 284 (123, [.ref l0, .retAddr 0, .int l2, .retAddr 0, .int l4, .int l5, .retAddr 0, .int l7], [.int q0]) h (f284_123 h l0 l2 l4 l5 l7 q0) (Sum.elim (fun s : (Int32 × Int32 × Int32 × mH) => Ev 284 (26, [.ref l0, .retAddr 0, .int l2, .int s.1, .int s.2.1, .int s.2.2.1, .retAddr 0, .retAddr 0], []) s.2.2.2) (fun (q : Int32 × mH) (res : Option Value × mH) => res = (some (.int q.1), q.2))) := by
  unfold f284_123
  refine Seg.callP (f1 := (128, [.ref l0, .retAddr 0, .int l2, .int q0, .int l4, .int l5, .retAddr 0, .int l7], [.int l7, .int l4])) (h1 := h) (cv := fun r => some (.int r)) rfl rfl rfl rfl (s195 h l4 l7) (fun r4 => ?_)
  refine Seg.blk0 (f' := (26, [.ref l0, .retAddr 0, .int l2, .int q0, .int r4, .int (l5 + 1), .retAddr 0, .int l7], [])) (h' := h) rfl rfl ?_
  exact Seg.cont (fun _ q => Ev.w (mLw.k (mLw.k (mLw.k (mLw.k (mLw.k (mLw.k (mLw.k (mLw.u mLw.nil)))))))) q)
theorem s284_77 (h : mH) (l0 : Nat) (l2 : Int32) (l3 : Int32) (l4 : Int32) (l5 : Int32) (l7 : Int32) (q0 : Int32) (q1 : Int32) : Seg 284 (77, [.ref l0, .retAddr 0, .int l2, .int l3, .int l4, .int l5, .retAddr 0, .int l7], [.int q1, .int q0]) h (f284_77 h l0 l2 l3 l4 l5 l7 q0 q1) (Sum.elim (fun s : (Int32 × Int32) => Ev 284 (44, [.ref l0, .retAddr 0, .int l2, .int l3, .int l4, .int l5, .int s.1, .int s.2], []) h) (Sum.elim (fun s : (Int32 × Int32 × Int32 × mH) => Ev 284 (26, [.ref l0, .retAddr 0, .int l2, .int s.1, .int s.2.1, .int s.2.2.1, .retAddr 0, .retAddr 0], []) s.2.2.2) (fun (q : Int32 × mH) (res : Option Value × mH) => res = (some (.int q.1), q.2)))) := by
  unfold f284_77
  refine Seg.blk0 (f' := (44, [.ref l0, .retAddr 0, .int l2, .int l3, .int l4, .int l5, .int (q0 ||| q1), .int (l7 + 1)], [])) (h' := h) rfl rfl ?_
  exact Seg.cont (fun _ q => Ev.w (mLw.k (mLw.k (mLw.k (mLw.k (mLw.k (mLw.k (mLw.k (mLw.k mLw.nil)))))))) q)
theorem s284_44 (h : mH) (l0 : Nat) (l2 : Int32) (l3 : Int32) (l4 : Int32) (l5 : Int32) : ∀ (n : Nat) (s : (Int32 × Int32)), Seg 284 (44, [.ref l0, .retAddr 0, .int l2, .int l3, .int l4, .int l5, .int s.1, .int s.2], []) h (mLoop (f284_44 h l0 l2 l3 l4 l5) n s) (Sum.elim (fun s : (Int32 × Int32 × Int32 × mH) => Ev 284 (26, [.ref l0, .retAddr 0, .int l2, .int s.1, .int s.2.1, .int s.2.2.1, .retAddr 0, .retAddr 0], []) s.2.2.2) (fun (q : Int32 × mH) (res : Option Value × mH) => res = (some (.int q.1), q.2))) := by
  refine Seg.loop (F := fun s : (Int32 × Int32) => (44, [.ref l0, .retAddr 0, .int l2, .int l3, .int l4, .int l5, .int s.1, .int s.2], [])) (H := fun s : (Int32 × Int32) => h) (fun s => ?_)
  show Seg 284 (44, [.ref l0, .retAddr 0, .int l2, .int l3, .int l4, .int l5, .int s.1, .int s.2], []) h _ (Sum.elim (fun s : (Int32 × Int32) => Ev 284 (44, [.ref l0, .retAddr 0, .int l2, .int l3, .int l4, .int l5, .int s.1, .int s.2], []) h) (Sum.elim (fun s : (Int32 × Int32 × Int32 × mH) => Ev 284 (26, [.ref l0, .retAddr 0, .int l2, .int s.1, .int s.2.1, .int s.2.2.1, .retAddr 0, .retAddr 0], []) s.2.2.2) (fun (q : Int32 × mH) (res : Option Value × mH) => res = (some (.int q.1), q.2))))
  unfold f284_44
  refine Seg.blk (f' := (if ((mI h l0 24) : Int32) ≤ s.2 then 86 else 53, [.ref l0, .retAddr 0, .int l2, .int l3, .int l4, .int l5, .int s.1, .int s.2], [])) (h' := h) rfl rfl ?_
  refine Seg.ite (fun _ => ?_) (fun _ => ?_)
  · refine Seg.x ?_
    refine Seg.callP (f1 := (102, [.ref l0, .retAddr 0, .int l2, .int l3, .int l4, .int l5, .int s.1, .int s.2], [.int 2, .ref l0, .int ((((1 : Int32) <<< ((mI h l0 24) &&& (31 : Int32))) - 1) &&& (s.1 ^^^ (-1))), .ref l0])) (h1 := h) (cv := fun r => some (.int r)) rfl rfl rfl rfl (s206 h l0 2) (fun r2 => ?_)
    refine Seg.call (f1 := (105, [.ref l0, .retAddr 0, .int l2, .int l3, .int l4, .int l5, .int s.1, .int s.2], [.int r2, .int ((((1 : Int32) <<< ((mI h l0 24) &&& (31 : Int32))) - 1) &&& (s.1 ^^^ (-1))), .ref l0])) (h1 := h) (cv := fun r => some (.int r)) rfl rfl rfl rfl (s272 h l0 ((((1 : Int32) <<< ((mI h l0 24) &&& (31 : Int32))) - 1) &&& (s.1 ^^^ (-1))) r2) (fun r3 => ?_)
    refine Seg.blk0 (f' := (if (l4 : Int32) ≤ r3.1 then 122 else 117, [.ref l0, .retAddr 0, .int l2, .int l3, .int l4, .int l5, .int s.1, .int r3.1], [])) (h' := r3.2) rfl rfl ?_
    refine Seg.ite (fun _ => ?_) (fun _ => ?_)
    · refine Seg.blk0 (f' := (123, [.ref l0, .retAddr 0, .int l2, .int l3, .int l4, .int l5, .int s.1, .int r3.1], [.int l3])) (h' := r3.2) rfl rfl ?_
      exact Seg.w (mLw.k (mLw.k (mLw.k (mLw.u (mLw.k (mLw.k (mLw.u (mLw.k mLw.nil)))))))) (s284_123 r3.2 l0 l2 l4 l5 r3.1 l3)
    · refine Seg.blk0 (f' := (123, [.ref l0, .retAddr 0, .int l2, .int l3, .int l4, .int l5, .int s.1, .int r3.1], [.int l5])) (h' := r3.2) rfl rfl ?_
      exact Seg.w (mLw.k (mLw.k (mLw.k (mLw.u (mLw.k (mLw.k (mLw.u (mLw.k mLw.nil)))))))) (s284_123 r3.2 l0 l2 l4 l5 r3.1 l5)
  · refine Seg.callP (f1 := (58, [.ref l0, .retAddr 0, .int l2, .int l3, .int l4, .int l5, .int s.1, .int s.2], [.int s.2, .ref l0, .int s.1])) (h1 := h) (cv := fun r => some (.int r)) rfl rfl rfl rfl (s271 h l0 s.2) (fun r5 => ?_)
    refine Seg.callP (f1 := (63, [.ref l0, .retAddr 0, .int l2, .int l3, .int l4, .int l5, .int s.1, .int s.2], [.int l5, .int r5, .int s.1])) (h1 := h) (cv := fun r => some (.int r)) rfl rfl rfl rfl (s221 h r5 l5) (fun r6 => ?_)
    refine Seg.blk0 (f' := (if (r6 : Int32) = 0 then 76 else 69, [.ref l0, .retAddr 0, .int l2, .int l3, .int l4, .int l5, .int s.1, .int s.2], [.int s.1])) (h' := h) rfl rfl ?_
    refine Seg.ite (fun _ => ?_) (fun _ => ?_)
    · refine Seg.blk0 (f' := (77, [.ref l0, .retAddr 0, .int l2, .int l3, .int l4, .int l5, .int s.1, .int s.2], [.int 0, .int s.1])) (h' := h) rfl rfl ?_
      exact Seg.w (mLw.k (mLw.k (mLw.k (mLw.k (mLw.k (mLw.k (mLw.u (mLw.k mLw.nil)))))))) (s284_77 h l0 l2 l3 l4 l5 s.2 s.1 0)
    · refine Seg.blk0 (f' := (77, [.ref l0, .retAddr 0, .int l2, .int l3, .int l4, .int l5, .int s.1, .int s.2], [.int ((1 : Int32) <<< (s.2 &&& (31 : Int32))), .int s.1])) (h' := h) rfl rfl ?_
      exact Seg.w (mLw.k (mLw.k (mLw.k (mLw.k (mLw.k (mLw.k (mLw.u (mLw.k mLw.nil)))))))) (s284_77 h l0 l2 l3 l4 l5 s.2 s.1 ((1 : Int32) <<< (s.2 &&& (31 : Int32))))
theorem s284_26 (l0 : Nat) (l2 : Int32) : ∀ (n : Nat) (s : (Int32 × Int32 × Int32 × mH)), Seg 284 (26, [.ref l0, .retAddr 0, .int l2, .int s.1, .int s.2.1, .int s.2.2.1, .retAddr 0, .retAddr 0], []) s.2.2.2 (mLoop (f284_26 l0 l2) n s) (fun (q : Int32 × mH) (res : Option Value × mH) => res = (some (.int q.1), q.2)) := by
  refine Seg.loop (F := fun s : (Int32 × Int32 × Int32 × mH) => (26, [.ref l0, .retAddr 0, .int l2, .int s.1, .int s.2.1, .int s.2.2.1, .retAddr 0, .retAddr 0], [])) (H := fun s : (Int32 × Int32 × Int32 × mH) => s.2.2.2) (fun s => ?_)
  show Seg 284 (26, [.ref l0, .retAddr 0, .int l2, .int s.1, .int s.2.1, .int s.2.2.1, .retAddr 0, .retAddr 0], []) s.2.2.2 _ (Sum.elim (fun s : (Int32 × Int32 × Int32 × mH) => Ev 284 (26, [.ref l0, .retAddr 0, .int l2, .int s.1, .int s.2.1, .int s.2.2.1, .retAddr 0, .retAddr 0], []) s.2.2.2) (fun (q : Int32 × mH) (res : Option Value × mH) => res = (some (.int q.1), q.2)))
  unfold f284_26
  refine Seg.blk (f' := (if ((mI s.2.2.2 l0 24) : Int32) ≤ s.2.2.1 then 139 else 35, [.ref l0, .retAddr 0, .int l2, .int s.1, .int s.2.1, .int s.2.2.1, .retAddr 0, .retAddr 0], [])) (h' := s.2.2.2) rfl rfl ?_
  refine Seg.ite (fun _ => ?_) (fun _ => ?_)
  · refine Seg.x ?_
    refine Seg.blk0 (f' := (if (s.1 : Int32) = (-1) then 156 else 144, [.ref l0, .retAddr 0, .int l2, .int s.1, .int s.2.1, .int s.2.2.1, .retAddr 0, .retAddr 0], [])) (h' := s.2.2.2) rfl rfl ?_
    refine Seg.ite (fun _ => ?_) (fun _ => ?_)
    · exact Seg.w (mLw.u (mLw.k (mLw.u (mLw.u (mLw.u (mLw.u (mLw.k (mLw.k mLw.nil)))))))) (s284_156 s.2.2.2)
    · refine Seg.blk0 (f' := (if (l2 : Int32) = 0 then 160 else 148, [.ref l0, .retAddr 0, .int l2, .int s.1, .int s.2.1, .int s.2.2.1, .retAddr 0, .retAddr 0], [])) (h' := s.2.2.2) rfl rfl ?_
      refine Seg.ite (fun _ => ?_) (fun _ => ?_)
      · exact Seg.w (mLw.u (mLw.k (mLw.k (mLw.k (mLw.k (mLw.u (mLw.k (mLw.k mLw.nil)))))))) (s284_160 s.2.2.2 l2 s.1 s.2.1)
      · refine Seg.blk0 (f' := (if (s.2.1 : Int32) < 1000000 then 160 else 156, [.ref l0, .retAddr 0, .int l2, .int s.1, .int s.2.1, .int s.2.2.1, .retAddr 0, .retAddr 0], [])) (h' := s.2.2.2) rfl rfl ?_
        refine Seg.ite (fun _ => ?_) (fun _ => ?_)
        · exact Seg.w (mLw.u (mLw.k (mLw.k (mLw.k (mLw.k (mLw.u (mLw.k (mLw.k mLw.nil)))))))) (s284_160 s.2.2.2 l2 s.1 s.2.1)
        · exact Seg.w (mLw.u (mLw.k (mLw.u (mLw.u (mLw.u (mLw.u (mLw.k (mLw.k mLw.nil)))))))) (s284_156 s.2.2.2)
  · refine Seg.blk0 (f' := (44, [.ref l0, .retAddr 0, .int l2, .int s.1, .int s.2.1, .int s.2.2.1, .int ((1 : Int32) <<< (s.2.2.1 &&& (31 : Int32))), .int 0], [])) (h' := s.2.2.2) rfl rfl ?_
    exact Seg.w (mLw.k (mLw.k (mLw.k (mLw.k (mLw.k (mLw.k (mLw.k (mLw.k mLw.nil)))))))) (s284_44 s.2.2.2 l0 l2 s.1 s.2.1 s.2.2.1 mFuel (((1 : Int32) <<< (s.2.2.1 &&& (31 : Int32))), 0))
theorem s284 (h : mH) (l0 : Nat) (l1 : Int32) (l2 : Int32) : Seg 284 (0, [.ref l0, .int l1, .int l2, .retAddr 0, .retAddr 0, .retAddr 0, .retAddr 0, .retAddr 0], []) h (f284 h l0 l1 l2) (fun (q : Int32 × mH) (res : Option Value × mH) => res = (some (.int q.1), q.2)) := by
  unfold f284
  refine Seg.blk (f' := (5, [.ref l0, .int l1, .int l2, .retAddr 0, .retAddr 0, .retAddr 0, .retAddr 0, .retAddr 0], [])) (h' := (mSI h l0 0 0)) rfl rfl ?_
  refine Seg.call (f1 := (7, [.ref l0, .int l1, .int l2, .retAddr 0, .retAddr 0, .retAddr 0, .retAddr 0, .retAddr 0], [.int l1, .ref l0])) (h1 := (mSI h l0 0 0)) (cv := fun r => some (.int r)) rfl rfl rfl rfl (s205 (mSI h l0 0 0) l0 l1) (fun r1 => ?_)
  refine Seg.blk0 (f' := (if (r1.1 : Int32) = 0 then 13 else 16, [.ref l0, .int l1, .int l2, .retAddr 0, .retAddr 0, .retAddr 0, .retAddr 0, .retAddr 0], [])) (h' := r1.2) rfl rfl ?_
  refine Seg.ite (fun _ => ?_) (fun _ => ?_)
  · exact Seg.ret (f1 := (15, [.ref l0, .int l1, .int l2, .retAddr 0, .retAddr 0, .retAddr 0, .retAddr 0, .retAddr 0], [.int (-2)])) (h1 := r1.2) rfl rfl rfl rfl (fun _ q => q)
  · refine Seg.blk0 (f' := (26, [.ref l0, .int l1, .int l2, .int (-1), .int 1000001, .int 0, .retAddr 0, .retAddr 0], [])) (h' := r1.2) rfl rfl ?_
    exact Seg.w (mLw.k (mLw.u (mLw.k (mLw.k (mLw.k (mLw.k (mLw.k (mLw.k mLw.nil)))))))) (s284_26 l0 l2 mFuel ((-1), 1000001, 0, r1.2))
theorem s285_29 (h : mH) : Seg 285 (29, [.retAddr 0, .retAddr 0, .retAddr 0, .retAddr 0, .retAddr 0, .retAddr 0], []) h (f285_29 h) (fun (q : Int64 × mH) (res : Option Value × mH) => res = (some (.long q.1), q.2)) := by
  unfold f285_29
  exact Seg.ret (f1 := (32, [.retAddr 0, .retAddr 0, .retAddr 0, .retAddr 0, .retAddr 0, .retAddr 0], [.long (-1)])) (h1 := h) rfl rfl rfl rfl (fun _ q => q)
theorem s285_75 (h : mH) (l0 : Nat) (l2 : Int32) (l3 : Int32) (l5 : Int32) (q0 : Int32) (q1 : Int32) : Seg 285 (75, [.ref l0, .retAddr 0, .int l2, .int l3, .retAddr 0, .int l5], [.int q1, .int q0]) h (f285_75 h l0 l2 l3 l5 q0 q1) (Sum.elim (fun s : (Int32 × Int32) => Ev 285 (39, [.ref l0, .retAddr 0, .int l2, .int l3, .int s.1, .int s.2], []) h) (fun (q : Int64 × mH) (res : Option Value × mH) => res = (some (.long q.1), q.2))) := by
  unfold f285_75
  refine Seg.blk0 (f' := (39, [.ref l0, .retAddr 0, .int l2, .int l3, .int (q0 + q1), .int (l5 + 1)], [])) (h' := h) rfl rfl ?_
  exact Seg.cont (fun _ q => Ev.w (mLw.k (mLw.k (mLw.k (mLw.k (mLw.k (mLw.k mLw.nil)))))) q)
theorem s285_39 (h : mH) (l0 : Nat) (l2 : Int32) (l3 : Int32) : ∀ (n : Nat) (s : (Int32 × Int32)), Seg 285 (39, [.ref l0, .retAddr 0, .int l2, .int l3, .int s.1, .int s.2], []) h (mLoop (f285_39 h l0 l2 l3) n s) (fun (q : Int64 × mH) (res : Option Value × mH) => res = (some (.long q.1), q.2)) := by
  refine Seg.loop (F := fun s : (Int32 × Int32) => (39, [.ref l0, .retAddr 0, .int l2, .int l3, .int s.1, .int s.2], [])) (H := fun s : (Int32 × Int32) => h) (fun s => ?_)
  show Seg 285 (39, [.ref l0, .retAddr 0, .int l2, .int l3, .int s.1, .int s.2], []) h _ (Sum.elim (fun s : (Int32 × Int32) => Ev 285 (39, [.ref l0, .retAddr 0, .int l2, .int l3, .int s.1, .int s.2], []) h) (fun (q : Int64 × mH) (res : Option Value × mH) => res = (some (.long q.1), q.2)))
  unfold f285_39
  refine Seg.blk (f' := (if ((mI h l0 24) : Int32) ≤ s.2 then 84 else 48, [.ref l0, .retAddr 0, .int l2, .int l3, .int s.1, .int s.2], [])) (h' := h) rfl rfl ?_
  refine Seg.ite (fun _ => ?_) (fun _ => ?_)
  · refine Seg.x ?_
    refine Seg.callP (f1 := (96, [.ref l0, .retAddr 0, .int l2, .int l3, .int s.1, .int s.2], [.int (((1 : Int32) <<< ((mI h l0 24) &&& (31 : Int32))) - 1), .ref l0, .long (Int32.toInt64 s.1)])) (h1 := h) (cv := fun r => some (.int r)) rfl rfl rfl rfl (s243 h l0 (((1 : Int32) <<< ((mI h l0 24) &&& (31 : Int32))) - 1)) (fun r3 => ?_)
    refine Seg.callP (f1 := (101, [.ref l0, .retAddr 0, .int l2, .int l3, .int s.1, .int s.2], [.int l3, .long (Int32.toInt64 r3), .long (Int32.toInt64 s.1)])) (h1 := h) (cv := fun r => some (.long r)) rfl rfl rfl rfl (s255 h (Int32.toInt64 s.1) (Int32.toInt64 r3) l3) (fun r4 => ?_)
    exact Seg.ret (f1 := (104, [.ref l0, .retAddr 0, .int l2, .int l3, .int s.1, .int s.2], [.long r4])) (h1 := h) rfl rfl rfl rfl (fun _ q => q)
  · refine Seg.callP (f1 := (56, [.ref l0, .retAddr 0, .int l2, .int l3, .int s.1, .int s.2], [.int (11 + s.2), .ref l0, .int s.1])) (h1 := h) (cv := fun r => some (.int r)) rfl rfl rfl rfl (s206 h l0 (11 + s.2)) (fun r5 => ?_)
    refine Seg.blk0 (f' := (if (r5 : Int32) = l2 then 63 else 74, [.ref l0, .retAddr 0, .int l2, .int l3, .int s.1, .int s.2], [.int s.1])) (h' := h) rfl rfl ?_
    refine Seg.ite (fun _ => ?_) (fun _ => ?_)
    · refine Seg.callP (f1 := (68, [.ref l0, .retAddr 0, .int l2, .int l3, .int s.1, .int s.2], [.int (3 + s.2), .ref l0, .int s.1])) (h1 := h) (cv := fun r => some (.int r)) rfl rfl rfl rfl (s206 h l0 (3 + s.2)) (fun r6 => ?_)
      refine Seg.blk0 (f' := (75, [.ref l0, .retAddr 0, .int l2, .int l3, .int s.1, .int s.2], [.int r6, .int s.1])) (h' := h) rfl rfl ?_
      exact Seg.w (mLw.k (mLw.k (mLw.k (mLw.k (mLw.u (mLw.k mLw.nil)))))) (s285_75 h l0 l2 l3 s.2 s.1 r6)
    · refine Seg.blk0 (f' := (75, [.ref l0, .retAddr 0, .int l2, .int l3, .int s.1, .int s.2], [.int 0, .int s.1])) (h' := h) rfl rfl ?_
      exact Seg.w (mLw.k (mLw.k (mLw.k (mLw.k (mLw.u (mLw.k mLw.nil)))))) (s285_75 h l0 l2 l3 s.2 s.1 0)
theorem s285 (h : mH) (l0 : Nat) (l1 : Int32) (l2 : Int32) (l3 : Int32) : Seg 285 (0, [.ref l0, .int l1, .int l2, .int l3, .retAddr 0, .retAddr 0], []) h (f285 h l0 l1 l2 l3) (fun (q : Int64 × mH) (res : Option Value × mH) => res = (some (.long q.1), q.2)) := by
  unfold f285
  refine Seg.blk (f' := (5, [.ref l0, .int l1, .int l2, .int l3, .retAddr 0, .retAddr 0], [])) (h' := (mSI h l0 0 0)) rfl rfl ?_
  refine Seg.callP (f1 := (8, [.ref l0, .int l1, .int l2, .int l3, .retAddr 0, .retAddr 0], [.int 5, .int 0, .int l2])) (h1 := (mSI h l0 0 0)) (cv := fun r => some (.int r)) rfl rfl rfl rfl (s179 (mSI h l0 0 0) l2 0 5) (fun r1 => ?_)
  refine Seg.blk0 (f' := (if (r1 : Int32) = 0 then 29 else 14, [.ref l0, .int l1, .int l2, .int l3, .retAddr 0, .retAddr 0], [])) (h' := (mSI h l0 0 0)) rfl rfl ?_
  refine Seg.ite (fun _ => ?_) (fun _ => ?_)
  · exact Seg.w (mLw.u (mLw.u (mLw.u (mLw.u (mLw.k (mLw.k mLw.nil)))))) (s285_29 (mSI h l0 0 0))
  · refine Seg.call (f1 := (16, [.ref l0, .int l1, .int l2, .int l3, .retAddr 0, .retAddr 0], [.int l1, .ref l0])) (h1 := (mSI h l0 0 0)) (cv := fun r => some (.int r)) rfl rfl rfl rfl (s205 (mSI h l0 0 0) l0 l1) (fun r2 => ?_)
    refine Seg.blk0 (f' := (if (r2.1 : Int32) = 0 then 29 else 22, [.ref l0, .int l1, .int l2, .int l3, .retAddr 0, .retAddr 0], [])) (h' := r2.2) rfl rfl ?_
    refine Seg.ite (fun _ => ?_) (fun _ => ?_)
    · exact Seg.w (mLw.u (mLw.u (mLw.u (mLw.u (mLw.k (mLw.k mLw.nil)))))) (s285_29 r2.2)
    · refine Seg.blk (f' := (if ((mI r2.2 l0 24) : Int32) = 0 then 29 else 33, [.ref l0, .int l1, .int l2, .int l3, .retAddr 0, .retAddr 0], [])) (h' := r2.2) rfl rfl ?_
      refine Seg.ite (fun _ => ?_) (fun _ => ?_)
      · exact Seg.w (mLw.u (mLw.u (mLw.u (mLw.u (mLw.k (mLw.k mLw.nil)))))) (s285_29 r2.2)
      · refine Seg.blk0 (f' := (39, [.ref l0, .int l1, .int l2, .int l3, .int 0, .int 0], [])) (h' := r2.2) rfl rfl ?_
        exact Seg.w (mLw.k (mLw.u (mLw.k (mLw.k (mLw.k (mLw.k mLw.nil)))))) (s285_39 r2.2 l0 l2 l3 mFuel (0, 0))
theorem s287_33 (h : mH) (l0 : Nat) (l2 : Int32) (q0 : Int32) (q1 : Int32) : Seg 287 (33, [.ref l0, .retAddr 0, .int l2], [.int q1, .int q0]) h (f287_33 h l0 l2 q0 q1) (Sum.elim (fun s : (Int32 × Int32) => Ev 287 (4, [.ref l0, .int s.1, .int s.2], []) h) (fun (q : Int32) (res : Option Value × mH) => res = (some (.int q), h))) := by
  unfold f287_33
  refine Seg.blk0 (f' := (4, [.ref l0, .int (q0 ||| q1), .int (l2 + 1)], [])) (h' := h) rfl rfl ?_
  exact Seg.cont (fun _ q => Ev.w (mLw.k (mLw.k (mLw.k mLw.nil))) q)
theorem s287_4 (h : mH) (l0 : Nat) : ∀ (n : Nat) (s : (Int32 × Int32)), Seg 287 (4, [.ref l0, .int s.1, .int s.2], []) h (mLoop (f287_4 h l0) n s) (fun (q : Int32) (res : Option Value × mH) => res = (some (.int q), h)) := by
  refine Seg.loop (F := fun s : (Int32 × Int32) => (4, [.ref l0, .int s.1, .int s.2], [])) (H := fun s : (Int32 × Int32) => h) (fun s => ?_)
  show Seg 287 (4, [.ref l0, .int s.1, .int s.2], []) h _ (Sum.elim (fun s : (Int32 × Int32) => Ev 287 (4, [.ref l0, .int s.1, .int s.2], []) h) (fun (q : Int32) (res : Option Value × mH) => res = (some (.int q), h)))
  unfold f287_4
  refine Seg.blk (f' := (if ((mI h l0 25) : Int32) ≤ s.2 then 41 else 12, [.ref l0, .int s.1, .int s.2], [])) (h' := h) rfl rfl ?_
  refine Seg.ite (fun _ => ?_) (fun _ => ?_)
  · refine Seg.x ?_
    exact Seg.ret (f1 := (42, [.ref l0, .int s.1, .int s.2], [.int s.1])) (h1 := h) rfl rfl rfl rfl (fun _ q => q)
  · refine Seg.blk (f' := (if ((mI h ((mR h l0 33).getD 0) (Int32.toNatClampNeg (8 * s.2))) : Int32) = (-1) then 32 else 26, [.ref l0, .int s.1, .int s.2], [.int s.1])) (h' := h) rfl rfl ?_
    refine Seg.ite (fun _ => ?_) (fun _ => ?_)
    · refine Seg.blk0 (f' := (33, [.ref l0, .int s.1, .int s.2], [.int 0, .int s.1])) (h' := h) rfl rfl ?_
      exact Seg.w (mLw.k (mLw.u (mLw.k mLw.nil))) (s287_33 h l0 s.2 s.1 0)
    · refine Seg.blk0 (f' := (33, [.ref l0, .int s.1, .int s.2], [.int ((1 : Int32) <<< (s.2 &&& (31 : Int32))), .int s.1])) (h' := h) rfl rfl ?_
      exact Seg.w (mLw.k (mLw.u (mLw.k mLw.nil))) (s287_33 h l0 s.2 s.1 ((1 : Int32) <<< (s.2 &&& (31 : Int32))))
theorem s287 (h : mH) (l0 : Nat) : Seg 287 (0, [.ref l0, .retAddr 0, .retAddr 0], []) h (f287 h l0) (fun (q : Int32) (res : Option Value × mH) => res = (some (.int q), h)) := by
  unfold f287
  refine Seg.blk0 (f' := (4, [.ref l0, .int 0, .int 0], [])) (h' := h) rfl rfl ?_
  exact Seg.w (mLw.k (mLw.k (mLw.k mLw.nil))) (s287_4 h l0 mFuel (0, 0))
theorem s286_31 (h : mH) : Seg 286 (31, [.retAddr 0, .retAddr 0, .retAddr 0, .retAddr 0, .retAddr 0, .retAddr 0], []) h (f286_31 h) (fun (q : Int32 × mH) (res : Option Value × mH) => res = (some (.int q.1), q.2)) := by
  unfold f286_31
  exact Seg.ret (f1 := (33, [.retAddr 0, .retAddr 0, .retAddr 0, .retAddr 0, .retAddr 0, .retAddr 0], [.int (-2)])) (h1 := h) rfl rfl rfl rfl (fun _ q => q)
theorem s286_116 (h : mH) (q0 : Int32) : Seg 286 (116, [.retAddr 0, .retAddr 0, .retAddr 0, .retAddr 0, .retAddr 0, .retAddr 0], [.int q0]) h (f286_116 h q0) (fun (q : Int32 × mH) (res : Option Value × mH) => res = (some (.int q.1), q.2)) := by
  unfold f286_116
  exact Seg.ret (f1 := (116, [.retAddr 0, .retAddr 0, .retAddr 0, .retAddr 0, .retAddr 0, .retAddr 0], [.int q0])) (h1 := h) rfl rfl rfl rfl (fun _ q => q)
theorem s286_89 (h : mH) (l0 : Nat) (l3 : Int32) : Seg 286 (89, [.ref l0, .retAddr 0, .retAddr 0, .int l3, .retAddr 0, .retAddr 0], []) h (f286_89 h l0 l3) (fun (q : Int32 × mH) (res : Option Value × mH) => res = (some (.int q.1), q.2)) := by
  unfold f286_89
  refine Seg.blk0 (f' := (if (l3 : Int32) = (-1) then 101 else 94, [.ref l0, .retAddr 0, .retAddr 0, .int l3, .retAddr 0, .retAddr 0], [])) (h' := h) rfl rfl ?_
  refine Seg.ite (fun _ => ?_) (fun _ => ?_)
  · refine Seg.callP (f1 := (102, [.ref l0, .retAddr 0, .retAddr 0, .int l3, .retAddr 0, .retAddr 0], [.ref l0])) (h1 := h) (cv := fun r => some (.int r)) rfl rfl rfl rfl (s287 h l0) (fun r4 => ?_)
    refine Seg.blk0 (f' := (if (r4 : Int32) = 0 then 108 else 115, [.ref l0, .retAddr 0, .retAddr 0, .int l3, .retAddr 0, .retAddr 0], [])) (h' := h) rfl rfl ?_
    refine Seg.ite (fun _ => ?_) (fun _ => ?_)
    · refine Seg.blk (f' := (116, [.ref l0, .retAddr 0, .retAddr 0, .int l3, .retAddr 0, .retAddr 0], [.int (mI h l0 30)])) (h' := h) rfl rfl ?_
      exact Seg.w (mLw.u (mLw.k (mLw.k (mLw.u (mLw.k (mLw.k mLw.nil)))))) (s286_116 h (mI h l0 30))
    · refine Seg.blk0 (f' := (116, [.ref l0, .retAddr 0, .retAddr 0, .int l3, .retAddr 0, .retAddr 0], [.int (-1)])) (h' := h) rfl rfl ?_
      exact Seg.w (mLw.u (mLw.k (mLw.k (mLw.u (mLw.k (mLw.k mLw.nil)))))) (s286_116 h (-1))
  · refine Seg.callP (f1 := (95, [.ref l0, .retAddr 0, .retAddr 0, .int l3, .retAddr 0, .retAddr 0], [.ref l0])) (h1 := h) (cv := fun r => some (.int r)) rfl rfl rfl rfl (s287 h l0) (fun r5 => ?_)
    refine Seg.blk0 (f' := (116, [.ref l0, .retAddr 0, .retAddr 0, .int l3, .retAddr 0, .retAddr 0], [.int r5])) (h' := h) rfl rfl ?_
    exact Seg.w (mLw.u (mLw.k (mLw.k (mLw.u (mLw.k (mLw.k mLw.nil)))))) (s286_116 h r5)
theorem s286_79 (h : mH) (l0 : Nat) (l3 : Int32) (l4 : Int32) (l5 : Int32) : Seg 286 (79, [.ref l0, .retAddr 0, .retAddr 0, .int l3, .int l4, .int l5], []) h (f286_79 h l0 l3 l4 l5) (Sum.elim (fun s : (Int32 × mH) => Ev 286 (60, [.ref l0, .retAddr 0, .retAddr 0, .int l3, .int l4, .int s.1], []) s.2) (fun (q : Int32 × mH) (res : Option Value × mH) => res = (some (.int q.1), q.2))) := by
  unfold f286_79
  refine Seg.call (f1 := (80, [.ref l0, .retAddr 0, .retAddr 0, .int l3, .int l4, .int l5], [.ref l0])) (h1 := h) (cv := fun _ => none) rfl rfl rfl rfl (s227 h l0) (fun r7 => ?_)
  refine Seg.blk0 (f' := (60, [.ref l0, .retAddr 0, .retAddr 0, .int l3, .int l4, .int (l5 + 1)], [])) (h' := r7.2) rfl rfl ?_
  exact Seg.cont (fun _ q => Ev.w (mLw.k (mLw.k (mLw.k (mLw.k (mLw.k (mLw.k mLw.nil)))))) q)
theorem s286_60 (l0 : Nat) (l3 : Int32) (l4 : Int32) : ∀ (n : Nat) (s : (Int32 × mH)), Seg 286 (60, [.ref l0, .retAddr 0, .retAddr 0, .int l3, .int l4, .int s.1], []) s.2 (mLoop (f286_60 l0 l3 l4) n s) (fun (q : Int32 × mH) (res : Option Value × mH) => res = (some (.int q.1), q.2)) := by
  refine Seg.loop (F := fun s : (Int32 × mH) => (60, [.ref l0, .retAddr 0, .retAddr 0, .int l3, .int l4, .int s.1], [])) (H := fun s : (Int32 × mH) => s.2) (fun s => ?_)
  show Seg 286 (60, [.ref l0, .retAddr 0, .retAddr 0, .int l3, .int l4, .int s.1], []) s.2 _ (Sum.elim (fun s : (Int32 × mH) => Ev 286 (60, [.ref l0, .retAddr 0, .retAddr 0, .int l3, .int l4, .int s.1], []) s.2) (fun (q : Int32 × mH) (res : Option Value × mH) => res = (some (.int q.1), q.2)))
  unfold f286_60
  refine Seg.blk0 (f' := (if (l4 : Int32) ≤ s.1 then 89 else 67, [.ref l0, .retAddr 0, .retAddr 0, .int l3, .int l4, .int s.1], [])) (h' := s.2) rfl rfl ?_
  refine Seg.ite (fun _ => ?_) (fun _ => ?_)
  · refine Seg.x ?_
    exact Seg.w (mLw.k (mLw.k (mLw.k (mLw.k (mLw.u (mLw.u mLw.nil)))))) (s286_89 s.2 l0 l3)
  · refine Seg.blk0 (f' := (if (l3 : Int32) = (-1) then 72 else 79, [.ref l0, .retAddr 0, .retAddr 0, .int l3, .int l4, .int s.1], [])) (h' := s.2) rfl rfl ?_
    refine Seg.ite (fun _ => ?_) (fun _ => ?_)
    · refine Seg.callP (f1 := (73, [.ref l0, .retAddr 0, .retAddr 0, .int l3, .int l4, .int s.1], [.ref l0])) (h1 := s.2) (cv := fun r => some (.int r)) rfl rfl rfl rfl (s287 s.2 l0) (fun r6 => ?_)
      refine Seg.blk0 (f' := (if (r6 : Int32) = 0 then 89 else 79, [.ref l0, .retAddr 0, .retAddr 0, .int l3, .int l4, .int s.1], [])) (h' := s.2) rfl rfl ?_
      refine Seg.ite (fun _ => ?_) (fun _ => ?_)
      · refine Seg.x ?_
        exact Seg.w (mLw.k (mLw.k (mLw.k (mLw.k (mLw.u (mLw.u mLw.nil)))))) (s286_89 s.2 l0 l3)
      · exact Seg.w (mLw.k (mLw.k (mLw.k (mLw.k (mLw.k (mLw.k mLw.nil)))))) (s286_79 s.2 l0 l3 l4 s.1)
    · exact Seg.w (mLw.k (mLw.k (mLw.k (mLw.k (mLw.k (mLw.k mLw.nil)))))) (s286_79 s.2 l0 l3 l4 s.1)
theorem s286_55 (h : mH) (l0 : Nat) (l3 : Int32) (q0 : Int32) : Seg 286 (55, [.ref l0, .retAddr 0, .retAddr 0, .int l3, .retAddr 0, .retAddr 0], [.int q0]) h (f286_55 h l0 l3 q0) (fun (q : Int32 × mH) (res : Option Value × mH) => res = (some (.int q.1), q.2)) := by
  unfold f286_55
  refine Seg.blk0 (f' := (60, [.ref l0, .retAddr 0, .retAddr 0, .int l3, .int q0, .int 0], [])) (h' := h) rfl rfl ?_
  exact Seg.w (mLw.k (mLw.k (mLw.k (mLw.k (mLw.k (mLw.k mLw.nil)))))) (s286_60 l0 l3 q0 mFuel (0, h))
theorem s286 (h : mH) (l0 : Nat) (l1 : Int32) (l2 : Int32) (l3 : Int32) : Seg 286 (0, [.ref l0, .int l1, .int l2, .int l3, .retAddr 0, .retAddr 0], []) h (f286 h l0 l1 l2 l3) (fun (q : Int32 × mH) (res : Option Value × mH) => res = (some (.int q.1), q.2)) := by
  unfold f286
  refine Seg.blk (f' := (5, [.ref l0, .int l1, .int l2, .int l3, .retAddr 0, .retAddr 0], [])) (h' := (mSI h l0 0 0)) rfl rfl ?_
  refine Seg.callP (f1 := (9, [.ref l0, .int l1, .int l2, .int l3, .retAddr 0, .retAddr 0], [.int 20, .int (-1), .int l3])) (h1 := (mSI h l0 0 0)) (cv := fun r => some (.int r)) rfl rfl rfl rfl (s179 (mSI h l0 0 0) l3 (-1) 20) (fun r1 => ?_)
  refine Seg.blk0 (f' := (if (r1 : Int32) = 0 then 31 else 15, [.ref l0, .int l1, .int l2, .int l3, .retAddr 0, .retAddr 0], [])) (h' := (mSI h l0 0 0)) rfl rfl ?_
  refine Seg.ite (fun _ => ?_) (fun _ => ?_)
  · exact Seg.w (mLw.u (mLw.u (mLw.u (mLw.u (mLw.k (mLw.k mLw.nil)))))) (s286_31 (mSI h l0 0 0))
  · refine Seg.call (f1 := (17, [.ref l0, .int l1, .int l2, .int l3, .retAddr 0, .retAddr 0], [.int l1, .ref l0])) (h1 := (mSI h l0 0 0)) (cv := fun r => some (.int r)) rfl rfl rfl rfl (s205 (mSI h l0 0 0) l0 l1) (fun r2 => ?_)
    refine Seg.blk0 (f' := (if (r2.1 : Int32) = 0 then 31 else 23, [.ref l0, .int l1, .int l2, .int l3, .retAddr 0, .retAddr 0], [])) (h' := r2.2) rfl rfl ?_
    refine Seg.ite (fun _ => ?_) (fun _ => ?_)
    · exact Seg.w (mLw.u (mLw.u (mLw.u (mLw.u (mLw.k (mLw.k mLw.nil)))))) (s286_31 r2.2)
    · refine Seg.callP (f1 := (25, [.ref l0, .int l1, .int l2, .int l3, .retAddr 0, .retAddr 0], [.int l2, .ref l0])) (h1 := r2.2) (cv := fun r => some (.int r)) rfl rfl rfl rfl (s226 r2.2 l0 l2) (fun r3 => ?_)
      refine Seg.blk0 (f' := (if (r3 : Int32) = 0 then 31 else 34, [.ref l0, .int l1, .int l2, .int l3, .retAddr 0, .retAddr 0], [])) (h' := r2.2) rfl rfl ?_
      refine Seg.ite (fun _ => ?_) (fun _ => ?_)
      · exact Seg.w (mLw.u (mLw.u (mLw.u (mLw.u (mLw.k (mLw.k mLw.nil)))))) (s286_31 r2.2)
      · refine Seg.blk (f' := (44, [.ref l0, .int l1, .int l2, .int l3, .retAddr 0, .retAddr 0], [])) (h' := (mSI r2.2 ((mR r2.2 l0 33).getD 0) (Int32.toNatClampNeg (8 * l2)) 0)) rfl rfl ?_
        refine Seg.blk0 (f' := (if (l3 : Int32) = (-1) then 49 else 54, [.ref l0, .int l1, .int l2, .int l3, .retAddr 0, .retAddr 0], [])) (h' := (mSI r2.2 ((mR r2.2 l0 33).getD 0) (Int32.toNatClampNeg (8 * l2)) 0)) rfl rfl ?_
        refine Seg.ite (fun _ => ?_) (fun _ => ?_)
        · refine Seg.blk0 (f' := (55, [.ref l0, .int l1, .int l2, .int l3, .retAddr 0, .retAddr 0], [.int 99])) (h' := (mSI r2.2 ((mR r2.2 l0 33).getD 0) (Int32.toNatClampNeg (8 * l2)) 0)) rfl rfl ?_
          exact Seg.w (mLw.k (mLw.u (mLw.u (mLw.k (mLw.k (mLw.k mLw.nil)))))) (s286_55 (mSI r2.2 ((mR r2.2 l0 33).getD 0) (Int32.toNatClampNeg (8 * l2)) 0) l0 l3 99)
        · refine Seg.blk0 (f' := (55, [.ref l0, .int l1, .int l2, .int l3, .retAddr 0, .retAddr 0], [.int l3])) (h' := (mSI r2.2 ((mR r2.2 l0 33).getD 0) (Int32.toNatClampNeg (8 * l2)) 0)) rfl rfl ?_
          exact Seg.w (mLw.k (mLw.u (mLw.u (mLw.k (mLw.k (mLw.k mLw.nil)))))) (s286_55 (mSI r2.2 ((mR r2.2 l0 33).getD 0) (Int32.toNatClampNeg (8 * l2)) 0) l0 l3 l3)
theorem s289_50 (h : mH) (q0 : Int32) : Seg 289 (50, [.retAddr 0, .retAddr 0, .retAddr 0, .retAddr 0, .retAddr 0], [.int q0]) h (f289_50 h q0) (fun (q : Int32) (res : Option Value × mH) => res = (some (.int q), h)) := by
  unfold f289_50
  exact Seg.ret (f1 := (50, [.retAddr 0, .retAddr 0, .retAddr 0, .retAddr 0, .retAddr 0], [.int q0])) (h1 := h) rfl rfl rfl rfl (fun _ q => q)
theorem s289_35 (h : mH) (l4 : Int32) : Seg 289 (35, [.retAddr 0, .retAddr 0, .retAddr 0, .retAddr 0, .int l4], []) h (f289_35 h l4) (fun (q : Int32) (res : Option Value × mH) => res = (some (.int q), h)) := by
  unfold f289_35
  refine Seg.blk0 (f' := (if (l4 : Int32) ≤ 6 then 48 else 42, [.retAddr 0, .retAddr 0, .retAddr 0, .retAddr 0, .int l4], [])) (h' := h) rfl rfl ?_
  refine Seg.ite (fun _ => ?_) (fun _ => ?_)
  · refine Seg.blk0 (f' := (50, [.retAddr 0, .retAddr 0, .retAddr 0, .retAddr 0, .int l4], [.int l4])) (h' := h) rfl rfl ?_
    exact Seg.w (mLw.k (mLw.k (mLw.k (mLw.k (mLw.u mLw.nil))))) (s289_50 h l4)
  · refine Seg.blk0 (f' := (50, [.retAddr 0, .retAddr 0, .retAddr 0, .retAddr 0, .int l4], [.int 1000000])) (h' := h) rfl rfl ?_
    exact Seg.w (mLw.k (mLw.k (mLw.k (mLw.k (mLw.u mLw.nil))))) (s289_50 h 1000000)
theorem s289_7 (h : mH) (l0 : Nat) (l2 : Int32) : ∀ (n : Nat) (s : (Int32 × Int32)), Seg 289 (7, [.ref l0, .retAddr 0, .int l2, .int s.1, .int s.2], []) h (mLoop (f289_7 h l0 l2) n s) (fun (q : Int32) (res : Option Value × mH) => res = (some (.int q), h)) := by
  refine Seg.loop (F := fun s : (Int32 × Int32) => (7, [.ref l0, .retAddr 0, .int l2, .int s.1, .int s.2], [])) (H := fun s : (Int32 × Int32) => h) (fun s => ?_)
  show Seg 289 (7, [.ref l0, .retAddr 0, .int l2, .int s.1, .int s.2], []) h _ (Sum.elim (fun s : (Int32 × Int32) => Ev 289 (7, [.ref l0, .retAddr 0, .int l2, .int s.1, .int s.2], []) h) (fun (q : Int32) (res : Option Value × mH) => res = (some (.int q), h)))
  unfold f289_7
  refine Seg.callP (f1 := (9, [.ref l0, .retAddr 0, .int l2, .int s.1, .int s.2], [.int l2, .int s.1])) (h1 := h) (cv := fun r => some (.int r)) rfl rfl rfl rfl (s221 h s.1 l2) (fun r1 => ?_)
  refine Seg.blk0 (f' := (if (r1 : Int32) = 0 then 15 else 35, [.ref l0, .retAddr 0, .int l2, .int s.1, .int s.2], [])) (h' := h) rfl rfl ?_
  refine Seg.ite (fun _ => ?_) (fun _ => ?_)
  · refine Seg.blk0 (f' := (if (6 : Int32) < s.2 then 35 else 22, [.ref l0, .retAddr 0, .int l2, .int s.1, .int s.2], [])) (h' := h) rfl rfl ?_
    refine Seg.ite (fun _ => ?_) (fun _ => ?_)
    · refine Seg.x ?_
      exact Seg.w (mLw.u (mLw.k (mLw.u (mLw.u (mLw.k mLw.nil))))) (s289_35 h s.2)
    · refine Seg.callP (f1 := (25, [.ref l0, .retAddr 0, .int l2, .int s.1, .int s.2], [.int 0, .int s.1, .ref l0])) (h1 := h) (cv := fun r => some (.int r)) rfl rfl rfl rfl (s247 h l0 s.1 0) (fun r2 => ?_)
      refine Seg.blk0 (f' := (7, [.ref l0, .retAddr 0, .int l2, .int r2, .int (s.2 + 1)], [])) (h' := h) rfl rfl ?_
      exact Seg.cont (fun _ q => Ev.w (mLw.k (mLw.k (mLw.k (mLw.k (mLw.k mLw.nil))))) q)
  · refine Seg.x ?_
    exact Seg.w (mLw.u (mLw.k (mLw.u (mLw.u (mLw.k mLw.nil))))) (s289_35 h s.2)
theorem s289 (h : mH) (l0 : Nat) (l1 : Int32) (l2 : Int32) : Seg 289 (0, [.ref l0, .int l1, .int l2, .retAddr 0, .retAddr 0], []) h (f289 h l0 l1 l2) (fun (q : Int32) (res : Option Value × mH) => res = (some (.int q), h)) := by
  unfold f289
  refine Seg.blk0 (f' := (7, [.ref l0, .int l1, .int l2, .int ((1 : Int32) <<< (l1 &&& (31 : Int32))), .int 0], [])) (h' := h) rfl rfl ?_
  exact Seg.w (mLw.k (mLw.u (mLw.k (mLw.k (mLw.k mLw.nil))))) (s289_7 h l0 l2 mFuel (((1 : Int32) <<< (l1 &&& (31 : Int32))), 0))
theorem s288_29 (h : mH) : Seg 288 (29, [.retAddr 0, .retAddr 0, .retAddr 0, .retAddr 0, .retAddr 0], []) h (f288_29 h) (fun (q : Int32 × mH) (res : Option Value × mH) => res = (some (.int q.1), q.2)) := by
  unfold f288_29
  exact Seg.ret (f1 := (30, [.retAddr 0, .retAddr 0, .retAddr 0, .retAddr 0, .retAddr 0], [.int (-1)])) (h1 := h) rfl rfl rfl rfl (fun _ q => q)
theorem s288_53 (h : mH) (q0 : Int32) : Seg 288 (53, [.retAddr 0, .retAddr 0, .retAddr 0, .retAddr 0, .retAddr 0], [.int q0]) h (f288_53 h q0) (fun (q : Int32 × mH) (res : Option Value × mH) => res = (some (.int q.1), q.2)) := by
  unfold f288_53
  exact Seg.ret (f1 := (53, [.retAddr 0, .retAddr 0, .retAddr 0, .retAddr 0, .retAddr 0], [.int q0])) (h1 := h) rfl rfl rfl rfl (fun _ q => q)
theorem s288 (h : mH) (l0 : Nat) (l1 : Int32) (l2 : Int32) (l3 : Int32) : Seg 288 (0, [.ref l0, .int l1, .int l2, .int l3, .retAddr 0], []) h (f288 h l0 l1 l2 l3) (fun (q : Int32 × mH) (res : Option Value × mH) => res = (some (.int q.1), q.2)) := by
  unfold f288
  refine Seg.blk (f' := (5, [.ref l0, .int l1, .int l2, .int l3, .retAddr 0], [])) (h' := (mSI h l0 0 0)) rfl rfl ?_
  refine Seg.call (f1 := (7, [.ref l0, .int l1, .int l2, .int l3, .retAddr 0], [.int l1, .ref l0])) (h1 := (mSI h l0 0 0)) (cv := fun r => some (.int r)) rfl rfl rfl rfl (s205 (mSI h l0 0 0) l0 l1) (fun r1 => ?_)
  refine Seg.blk0 (f' := (if (r1.1 : Int32) = 0 then 29 else 13, [.ref l0, .int l1, .int l2, .int l3, .retAddr 0], [])) (h' := r1.2) rfl rfl ?_
  refine Seg.ite (fun _ => ?_) (fun _ => ?_)
  · exact Seg.w (mLw.u (mLw.u (mLw.u (mLw.u (mLw.k mLw.nil))))) (s288_29 r1.2)
  · refine Seg.callP (f1 := (15, [.ref l0, .int l1, .int l2, .int l3, .retAddr 0], [.int l2, .ref l0])) (h1 := r1.2) (cv := fun r => some (.int r)) rfl rfl rfl rfl (s226 r1.2 l0 l2) (fun r2 => ?_)
    refine Seg.blk0 (f' := (if (r2 : Int32) = 0 then 29 else 21, [.ref l0, .int l1, .int l2, .int l3, .retAddr 0], [])) (h' := r1.2) rfl rfl ?_
    refine Seg.ite (fun _ => ?_) (fun _ => ?_)
    · exact Seg.w (mLw.u (mLw.u (mLw.u (mLw.u (mLw.k mLw.nil))))) (s288_29 r1.2)
    · refine Seg.callP (f1 := (23, [.ref l0, .int l1, .int l2, .int l3, .retAddr 0], [.int l3, .ref l0])) (h1 := r1.2) (cv := fun r => some (.int r)) rfl rfl rfl rfl (s226 r1.2 l0 l3) (fun r3 => ?_)
      refine Seg.blk0 (f' := (if (r3 : Int32) = 0 then 29 else 31, [.ref l0, .int l1, .int l2, .int l3, .retAddr 0], [])) (h' := r1.2) rfl rfl ?_
      refine Seg.ite (fun _ => ?_) (fun _ => ?_)
      · exact Seg.w (mLw.u (mLw.u (mLw.u (mLw.u (mLw.k mLw.nil))))) (s288_29 r1.2)
      · refine Seg.callP (f1 := (34, [.ref l0, .int l1, .int l2, .int l3, .retAddr 0], [.int l3, .int l2, .ref l0])) (h1 := r1.2) (cv := fun r => some (.int r)) rfl rfl rfl rfl (s289 r1.2 l0 l2 l3) (fun r4 => ?_)
        refine Seg.blk0 (f' := (if (r4 : Int32) < 1000000 then 51 else 47, [.ref l0, .int l1, .int l2, .int l3, .int r4], [])) (h' := r1.2) rfl rfl ?_
        refine Seg.ite (fun _ => ?_) (fun _ => ?_)
        · refine Seg.blk0 (f' := (53, [.ref l0, .int l1, .int l2, .int l3, .int r4], [.int r4])) (h' := r1.2) rfl rfl ?_
          exact Seg.w (mLw.u (mLw.u (mLw.u (mLw.u (mLw.u mLw.nil))))) (s288_53 r1.2 r4)
        · refine Seg.blk0 (f' := (53, [.ref l0, .int l1, .int l2, .int l3, .int r4], [.int (-1)])) (h' := r1.2) rfl rfl ?_
          exact Seg.w (mLw.u (mLw.u (mLw.u (mLw.u (mLw.u mLw.nil))))) (s288_53 r1.2 (-1))
theorem s290_114 (h : mH) (q0 : Int32) : Seg 290 (114, [.retAddr 0, .retAddr 0, .retAddr 0, .retAddr 0, .retAddr 0, .retAddr 0, .retAddr 0, .retAddr 0], [.int q0]) h (f290_114 h q0) (fun (q : Int32 × mH) (res : Option Value × mH) => res = (some (.int q.1), q.2)) := by
  unfold f290_114
  exact Seg.ret (f1 := (114, [.retAddr 0, .retAddr 0, .retAddr 0, .retAddr 0, .retAddr 0, .retAddr 0, .retAddr 0, .retAddr 0], [.int q0])) (h1 := h) rfl rfl rfl rfl (fun _ q => q)
theorem s290_108 (h : mH) (l3 : Int32) : Seg 290 (108, [.retAddr 0, .retAddr 0, .retAddr 0, .int l3, .retAddr 0, .retAddr 0, .retAddr 0, .retAddr 0], []) h (f290_108 h l3) (fun (q : Int32 × mH) (res : Option Value × mH) => res = (some (.int q.1), q.2)) := by
  unfold f290_108
  refine Seg.blk0 (f' := (114, [.retAddr 0, .retAddr 0, .retAddr 0, .int l3, .retAddr 0, .retAddr 0, .retAddr 0, .retAddr 0], [.int l3])) (h' := h) rfl rfl ?_
  exact Seg.w (mLw.k (mLw.k (mLw.k (mLw.u (mLw.k (mLw.k (mLw.k (mLw.k mLw.nil)))))))) (s290_114 h l3)
theorem s290_83 (h : mH) (l0 : Nat) (l2 : Int32) (l4 : Int32) (l5 : Int32) (l6 : Int32) (q0 : Int32) : Seg 290 (83, [.ref l0, .retAddr 0, .int l2, .retAddr 0, .int l4, .int l5, .int l6, .retAddr 0], [.int q0]) h (f290_83 h l0 l2 l4 l5 l6 q0) (Sum.elim (fun s : (Int32 × Int32 × Int32) => Ev 290 (25, [.ref l0, .retAddr 0, .int l2, .int s.1, .int s.2.1, .int s.2.2, .retAddr 0, .retAddr 0], []) h) (fun (q : Int32 × mH) (res : Option Value × mH) => res = (some (.int q.1), q.2))) := by
  unfold f290_83
  refine Seg.callP (f1 := (88, [.ref l0, .retAddr 0, .int l2, .int q0, .int l4, .int l5, .int l6, .retAddr 0], [.int l6, .int l4])) (h1 := h) (cv := fun r => some (.int r)) rfl rfl rfl rfl (s195 h l4 l6) (fun r2 => ?_)
  refine Seg.blk0 (f' := (25, [.ref l0, .retAddr 0, .int l2, .int q0, .int r2, .int (l5 + 1), .int l6, .retAddr 0], [])) (h' := h) rfl rfl ?_
  exact Seg.cont (fun _ q => Ev.w (mLw.k (mLw.k (mLw.k (mLw.k (mLw.k (mLw.k (mLw.u (mLw.k mLw.nil)))))))) q)
theorem s290_40 (h : mH) (l0 : Nat) (l2 : Int32) (l3 : Int32) (l4 : Int32) (l5 : Int32) : ∀ (n : Nat) (s : (Int32 × Int32)), Seg 290 (40, [.ref l0, .retAddr 0, .int l2, .int l3, .int l4, .int l5, .int s.1, .int s.2], []) h (mLoop (f290_40 h l0 l2 l3 l4 l5) n s) (Sum.elim (fun s : (Int32 × Int32 × Int32) => Ev 290 (25, [.ref l0, .retAddr 0, .int l2, .int s.1, .int s.2.1, .int s.2.2, .retAddr 0, .retAddr 0], []) h) (fun (q : Int32 × mH) (res : Option Value × mH) => res = (some (.int q.1), q.2))) := by
  refine Seg.loop (F := fun s : (Int32 × Int32) => (40, [.ref l0, .retAddr 0, .int l2, .int l3, .int l4, .int l5, .int s.1, .int s.2], [])) (H := fun s : (Int32 × Int32) => h) (fun s => ?_)
  show Seg 290 (40, [.ref l0, .retAddr 0, .int l2, .int l3, .int l4, .int l5, .int s.1, .int s.2], []) h _ (Sum.elim (fun s : (Int32 × Int32) => Ev 290 (40, [.ref l0, .retAddr 0, .int l2, .int l3, .int l4, .int l5, .int s.1, .int s.2], []) h) (Sum.elim (fun s : (Int32 × Int32 × Int32) => Ev 290 (25, [.ref l0, .retAddr 0, .int l2, .int s.1, .int s.2.1, .int s.2.2, .retAddr 0, .retAddr 0], []) h) (fun (q : Int32 × mH) (res : Option Value × mH) => res = (some (.int q.1), q.2))))
  unfold f290_40
  refine Seg.blk (f' := (if ((mI h l0 25) : Int32) ≤ s.2 then 70 else 49, [.ref l0, .retAddr 0, .int l2, .int l3, .int l4, .int l5, .int s.1, .int s.2], [])) (h' := h) rfl rfl ?_
  refine Seg.ite (fun _ => ?_) (fun _ => ?_)
  · refine Seg.x ?_
    refine Seg.blk0 (f' := (if (l4 : Int32) ≤ s.1 then 82 else 77, [.ref l0, .retAddr 0, .int l2, .int l3, .int l4, .int l5, .int s.1, .int s.2], [])) (h' := h) rfl rfl ?_
    refine Seg.ite (fun _ => ?_) (fun _ => ?_)
    · refine Seg.blk0 (f' := (83, [.ref l0, .retAddr 0, .int l2, .int l3, .int l4, .int l5, .int s.1, .int s.2], [.int l3])) (h' := h) rfl rfl ?_
      exact Seg.w (mLw.k (mLw.k (mLw.k (mLw.u (mLw.k (mLw.k (mLw.k (mLw.u mLw.nil)))))))) (s290_83 h l0 l2 l4 l5 s.1 l3)
    · refine Seg.blk0 (f' := (83, [.ref l0, .retAddr 0, .int l2, .int l3, .int l4, .int l5, .int s.1, .int s.2], [.int l5])) (h' := h) rfl rfl ?_
      exact Seg.w (mLw.k (mLw.k (mLw.k (mLw.u (mLw.k (mLw.k (mLw.k (mLw.u mLw.nil)))))))) (s290_83 h l0 l2 l4 l5 s.1 l5)
  · refine Seg.callP (f1 := (56, [.ref l0, .retAddr 0, .int l2, .int l3, .int l4, .int l5, .int s.1, .int s.2], [.int s.2, .int l5, .ref l0, .int s.1])) (h1 := h) (cv := fun r => some (.int r)) rfl rfl rfl rfl (s289 h l0 l5 s.2) (fun r3 => ?_)
    refine Seg.callP (f1 := (59, [.ref l0, .retAddr 0, .int l2, .int l3, .int l4, .int l5, .int s.1, .int s.2], [.int r3, .int s.1])) (h1 := h) (cv := fun r => some (.int r)) rfl rfl rfl rfl (s196 h s.1 r3) (fun r4 => ?_)
    refine Seg.blk0 (f' := (40, [.ref l0, .retAddr 0, .int l2, .int l3, .int l4, .int l5, .int r4, .int (s.2 + 1)], [])) (h' := h) rfl rfl ?_
    exact Seg.cont (fun _ q => Ev.w (mLw.k (mLw.k (mLw.k (mLw.k (mLw.k (mLw.k (mLw.k (mLw.k mLw.nil)))))))) q)
theorem s290_25 (h : mH) (l0 : Nat) (l2 : Int32) : ∀ (n : Nat) (s : (Int32 × Int32 × Int32)), Seg 290 (25, [.ref l0, .retAddr 0, .int l2, .int s.1, .int s.2.1, .int s.2.2, .retAddr 0, .retAddr 0], []) h (mLoop (f290_25 h l0 l2) n s) (fun (q : Int32 × mH) (res : Option Value × mH) => res = (some (.int q.1), q.2)) := by
  refine Seg.loop (F := fun s : (Int32 × Int32 × Int32) => (25, [.ref l0, .retAddr 0, .int l2, .int s.1, .int s.2.1, .int s.2.2, .retAddr 0, .retAddr 0], [])) (H := fun s : (Int32 × Int32 × Int32) => h) (fun s => ?_)
  show Seg 290 (25, [.ref l0, .retAddr 0, .int l2, .int s.1, .int s.2.1, .int s.2.2, .retAddr 0, .retAddr 0], []) h _ (Sum.elim (fun s : (Int32 × Int32 × Int32) => Ev 290 (25, [.ref l0, .retAddr 0, .int l2, .int s.1, .int s.2.1, .int s.2.2, .retAddr 0, .retAddr 0], []) h) (fun (q : Int32 × mH) (res : Option Value × mH) => res = (some (.int q.1), q.2)))
  unfold f290_25
  refine Seg.blk (f' := (if ((mI h l0 25) : Int32) ≤ s.2.2 then 99 else 34, [.ref l0, .retAddr 0, .int l2, .int s.1, .int s.2.1, .int s.2.2, .retAddr 0, .retAddr 0], [])) (h' := h) rfl rfl ?_
  refine Seg.ite (fun _ => ?_) (fun _ => ?_)
  · refine Seg.x ?_
    refine Seg.blk0 (f' := (if (s.1 : Int32) = (-1) then 108 else 104, [.ref l0, .retAddr 0, .int l2, .int s.1, .int s.2.1, .int s.2.2, .retAddr 0, .retAddr 0], [])) (h' := h) rfl rfl ?_
    refine Seg.ite (fun _ => ?_) (fun _ => ?_)
    · exact Seg.w (mLw.u (mLw.k (mLw.u (mLw.k (mLw.u (mLw.u (mLw.k (mLw.k mLw.nil)))))))) (s290_108 h s.1)
    · refine Seg.blk0 (f' := (if (l2 : Int32) = 0 then 108 else 112, [.ref l0, .retAddr 0, .int l2, .int s.1, .int s.2.1, .int s.2.2, .retAddr 0, .retAddr 0], [])) (h' := h) rfl rfl ?_
      refine Seg.ite (fun _ => ?_) (fun _ => ?_)
      · exact Seg.w (mLw.u (mLw.k (mLw.u (mLw.k (mLw.u (mLw.u (mLw.k (mLw.k mLw.nil)))))))) (s290_108 h s.1)
      · refine Seg.blk0 (f' := (114, [.ref l0, .retAddr 0, .int l2, .int s.1, .int s.2.1, .int s.2.2, .retAddr 0, .retAddr 0], [.int s.2.1])) (h' := h) rfl rfl ?_
        exact Seg.w (mLw.u (mLw.k (mLw.u (mLw.u (mLw.u (mLw.u (mLw.k (mLw.k mLw.nil)))))))) (s290_114 h s.2.1)
  · refine Seg.blk0 (f' := (40, [.ref l0, .retAddr 0, .int l2, .int s.1, .int s.2.1, .int s.2.2, .int 0, .int 0], [])) (h' := h) rfl rfl ?_
    exact Seg.w (mLw.k (mLw.k (mLw.k (mLw.k (mLw.k (mLw.k (mLw.k (mLw.k mLw.nil)))))))) (s290_40 h l0 l2 s.1 s.2.1 s.2.2 mFuel (0, 0))
theorem s290 (h : mH) (l0 : Nat) (l1 : Int32) (l2 : Int32) : Seg 290 (0, [.ref l0, .int l1, .int l2, .retAddr 0, .retAddr 0, .retAddr 0, .retAddr 0, .retAddr 0], []) h (f290 h l0 l1 l2) (fun (q : Int32 × mH) (res : Option Value × mH) => res = (some (.int q.1), q.2)) := by
  unfold f290
  refine Seg.blk (f' := (5, [.ref l0, .int l1, .int l2, .retAddr 0, .retAddr 0, .retAddr 0, .retAddr 0, .retAddr 0], [])) (h' := (mSI h l0 0 0)) rfl rfl ?_
  refine Seg.call (f1 := (7, [.ref l0, .int l1, .int l2, .retAddr 0, .retAddr 0, .retAddr 0, .retAddr 0, .retAddr 0], [.int l1, .ref l0])) (h1 := (mSI h l0 0 0)) (cv := fun r => some (.int r)) rfl rfl rfl rfl (s205 (mSI h l0 0 0) l0 l1) (fun r1 => ?_)
  refine Seg.blk0 (f' := (if (r1.1 : Int32) = 0 then 13 else 15, [.ref l0, .int l1, .int l2, .retAddr 0, .retAddr 0, .retAddr 0, .retAddr 0, .retAddr 0], [])) (h' := r1.2) rfl rfl ?_
  refine Seg.ite (fun _ => ?_) (fun _ => ?_)
  · exact Seg.ret (f1 := (14, [.ref l0, .int l1, .int l2, .retAddr 0, .retAddr 0, .retAddr 0, .retAddr 0, .retAddr 0], [.int (-1)])) (h1 := r1.2) rfl rfl rfl rfl (fun _ q => q)
  · refine Seg.blk0 (f' := (25, [.ref l0, .int l1, .int l2, .int (-1), .int 1000000, .int 0, .retAddr 0, .retAddr 0], [])) (h' := r1.2) rfl rfl ?_
    exact Seg.w (mLw.k (mLw.u (mLw.k (mLw.k (mLw.k (mLw.k (mLw.k (mLw.k mLw.nil)))))))) (s290_25 r1.2 l0 l2 mFuel ((-1), 1000000, 0))
theorem s291_21 (h : mH) : Seg 291 (21, [.retAddr 0, .retAddr 0, .retAddr 0, .retAddr 0, .retAddr 0, .retAddr 0, .retAddr 0, .retAddr 0], []) h (f291_21 h) (fun (q : Int32 × mH) (res : Option Value × mH) => res = (some (.int q.1), q.2)) := by
  unfold f291_21
  exact Seg.ret (f1 := (22, [.retAddr 0, .retAddr 0, .retAddr 0, .retAddr 0, .retAddr 0, .retAddr 0, .retAddr 0, .retAddr 0], [.int (-1)])) (h1 := h) rfl rfl rfl rfl (fun _ q => q)
theorem s291_123 (h : mH) (q0 : Int32) : Seg 291 (123, [.retAddr 0, .retAddr 0, .retAddr 0, .retAddr 0, .retAddr 0, .retAddr 0, .retAddr 0, .retAddr 0], [.int q0]) h (f291_123 h q0) (fun (q : Int32 × mH) (res : Option Value × mH) => res = (some (.int q.1), q.2)) := by
  unfold f291_123
  exact Seg.ret (f1 := (123, [.retAddr 0, .retAddr 0, .retAddr 0, .retAddr 0, .retAddr 0, .retAddr 0, .retAddr 0, .retAddr 0], [.int q0])) (h1 := h) rfl rfl rfl rfl (fun _ q => q)
theorem s291_116 (h : mH) (l4 : Int32) : Seg 291 (116, [.retAddr 0, .retAddr 0, .retAddr 0, .retAddr 0, .int l4, .retAddr 0, .retAddr 0, .retAddr 0], []) h (f291_116 h l4) (fun (q : Int32 × mH) (res : Option Value × mH) => res = (some (.int q.1), q.2)) := by
  unfold f291_116
  refine Seg.blk0 (f' := (123, [.retAddr 0, .retAddr 0, .retAddr 0, .retAddr 0, .int l4, .retAddr 0, .retAddr 0, .retAddr 0], [.int l4])) (h' := h) rfl rfl ?_
  exact Seg.w (mLw.k (mLw.k (mLw.k (mLw.k (mLw.u (mLw.k (mLw.k (mLw.k mLw.nil)))))))) (s291_123 h l4)
theorem s291_89 (h : mH) (l0 : Nat) (l2 : Int32) (l3 : Int32) (l5 : Int32) (l6 : Int32) (l7 : Int32) (q0 : Int32) : Seg 291 (89, [.ref l0, .retAddr 0, .int l2, .int l3, .retAddr 0, .int l5, .int l6, .int l7], [.int q0]) h (f291_89 h l0 l2 l3 l5 l6 l7 q0) (Sum.elim (fun s : (Int32 × Int32 × Int32) => Ev 291 (34, [.ref l0, .retAddr 0, .int l2, .int l3, .int s.1, .int s.2.1, .int s.2.2, .retAddr 0], []) h) (fun (q : Int32 × mH) (res : Option Value × mH) => res = (some (.int q.1), q.2))) := by
  unfold f291_89
  refine Seg.callP (f1 := (95, [.ref l0, .retAddr 0, .int l2, .int l3, .int q0, .int l5, .int l6, .int l7], [.int l7, .int l5])) (h1 := h) (cv := fun r => some (.int r)) rfl rfl rfl rfl (s195 h l5 l7) (fun r3 => ?_)
  refine Seg.blk0 (f' := (34, [.ref l0, .retAddr 0, .int l2, .int l3, .int q0, .int r3, .int (l6 + 1), .int l7], [])) (h' := h) rfl rfl ?_
  exact Seg.cont (fun _ q => Ev.w (mLw.k (mLw.k (mLw.k (mLw.k (mLw.k (mLw.k (mLw.k (mLw.u mLw.nil)))))))) q)
theorem s291_73 (h : mH) (l0 : Nat) (l2 : Int32) (l3 : Int32) (l4 : Int32) (l5 : Int32) (l6 : Int32) (q0 : Int32) : Seg 291 (73, [.ref l0, .retAddr 0, .int l2, .int l3, .int l4, .int l5, .int l6, .retAddr 0], [.int q0]) h (f291_73 h l0 l2 l3 l4 l5 l6 q0) (Sum.elim (fun s : (Int32 × Int32 × Int32) => Ev 291 (34, [.ref l0, .retAddr 0, .int l2, .int l3, .int s.1, .int s.2.1, .int s.2.2, .retAddr 0], []) h) (fun (q : Int32 × mH) (res : Option Value × mH) => res = (some (.int q.1), q.2))) := by
  unfold f291_73
  refine Seg.blk0 (f' := (if (l5 : Int32) ≤ q0 then 87 else 82, [.ref l0, .retAddr 0, .int l2, .int l3, .int l4, .int l5, .int l6, .int q0], [])) (h' := h) rfl rfl ?_
  refine Seg.ite (fun _ => ?_) (fun _ => ?_)
  · refine Seg.blk0 (f' := (89, [.ref l0, .retAddr 0, .int l2, .int l3, .int l4, .int l5, .int l6, .int q0], [.int l4])) (h' := h) rfl rfl ?_
    exact Seg.w (mLw.k (mLw.k (mLw.k (mLw.k (mLw.u (mLw.k (mLw.k (mLw.k mLw.nil)))))))) (s291_89 h l0 l2 l3 l5 l6 q0 l4)
  · refine Seg.blk0 (f' := (89, [.ref l0, .retAddr 0, .int l2, .int l3, .int l4, .int l5, .int l6, .int q0], [.int l6])) (h' := h) rfl rfl ?_
    exact Seg.w (mLw.k (mLw.k (mLw.k (mLw.k (mLw.u (mLw.k (mLw.k (mLw.k mLw.nil)))))))) (s291_89 h l0 l2 l3 l5 l6 q0 l6)
theorem s291_34 (h : mH) (l0 : Nat) (l2 : Int32) (l3 : Int32) : ∀ (n : Nat) (s : (Int32 × Int32 × Int32)), Seg 291 (34, [.ref l0, .retAddr 0, .int l2, .int l3, .int s.1, .int s.2.1, .int s.2.2, .retAddr 0], []) h (mLoop (f291_34 h l0 l2 l3) n s) (fun (q : Int32 × mH) (res : Option Value × mH) => res = (some (.int q.1), q.2)) := by
  refine Seg.loop (F := fun s : (Int32 × Int32 × Int32) => (34, [.ref l0, .retAddr 0, .int l2, .int l3, .int s.1, .int s.2.1, .int s.2.2, .retAddr 0], [])) (H := fun s : (Int32 × Int32 × Int32) => h) (fun s => ?_)
  show Seg 291 (34, [.ref l0, .retAddr 0, .int l2, .int l3, .int s.1, .int s.2.1, .int s.2.2, .retAddr 0], []) h _ (Sum.elim (fun s : (Int32 × Int32 × Int32) => Ev 291 (34, [.ref l0, .retAddr 0, .int l2, .int l3, .int s.1, .int s.2.1, .int s.2.2, .retAddr 0], []) h) (fun (q : Int32 × mH) (res : Option Value × mH) => res = (some (.int q.1), q.2)))
  unfold f291_34
  refine Seg.blk (f' := (if ((mI h l0 25) : Int32) ≤ s.2.2 then 106 else 43, [.ref l0, .retAddr 0, .int l2, .int l3, .int s.1, .int s.2.1, .int s.2.2, .retAddr 0], [])) (h' := h) rfl rfl ?_
  refine Seg.ite (fun _ => ?_) (fun _ => ?_)
  · refine Seg.x ?_
    refine Seg.blk0 (f' := (if (s.1 : Int32) = (-1) then 116 else 112, [.ref l0, .retAddr 0, .int l2, .int l3, .int s.1, .int s.2.1, .int s.2.2, .retAddr 0], [])) (h' := h) rfl rfl ?_
    refine Seg.ite (fun _ => ?_) (fun _ => ?_)
    · exact Seg.w (mLw.u (mLw.k (mLw.u (mLw.u (mLw.k (mLw.u (mLw.u (mLw.k mLw.nil)))))))) (s291_116 h s.1)
    · refine Seg.blk0 (f' := (if (l3 : Int32) = 0 then 116 else 121, [.ref l0, .retAddr 0, .int l2, .int l3, .int s.1, .int s.2.1, .int s.2.2, .retAddr 0], [])) (h' := h) rfl rfl ?_
      refine Seg.ite (fun _ => ?_) (fun _ => ?_)
      · exact Seg.w (mLw.u (mLw.k (mLw.u (mLw.u (mLw.k (mLw.u (mLw.u (mLw.k mLw.nil)))))))) (s291_116 h s.1)
      · refine Seg.blk0 (f' := (123, [.ref l0, .retAddr 0, .int l2, .int l3, .int s.1, .int s.2.1, .int s.2.2, .retAddr 0], [.int s.2.1])) (h' := h) rfl rfl ?_
        exact Seg.w (mLw.u (mLw.k (mLw.u (mLw.u (mLw.u (mLw.u (mLw.u (mLw.k mLw.nil)))))))) (s291_123 h s.2.1)
  · refine Seg.blk0 (f' := (if (s.2.2 : Int32) = l2 then 49 else 55, [.ref l0, .retAddr 0, .int l2, .int l3, .int s.1, .int s.2.1, .int s.2.2, .retAddr 0], [])) (h' := h) rfl rfl ?_
    refine Seg.ite (fun _ => ?_) (fun _ => ?_)
    · refine Seg.blk0 (f' := (73, [.ref l0, .retAddr 0, .int l2, .int l3, .int s.1, .int s.2.1, .int s.2.2, .retAddr 0], [.int 1000000])) (h' := h) rfl rfl ?_
      exact Seg.w (mLw.k (mLw.k (mLw.k (mLw.k (mLw.k (mLw.k (mLw.k (mLw.k mLw.nil)))))))) (s291_73 h l0 l2 l3 s.1 s.2.1 s.2.2 1000000)
    · refine Seg.callP (f1 := (65, [.ref l0, .retAddr 0, .int l2, .int l3, .int s.1, .int s.2.1, .int s.2.2, .retAddr 0], [.int ((1 : Int32) <<< (s.2.2 &&& (31 : Int32))), .int 9, .int ((1 : Int32) <<< (l2 &&& (31 : Int32))), .ref l0])) (h1 := h) (cv := fun r => some (.int r)) rfl rfl rfl rfl (s246 h l0 ((1 : Int32) <<< (l2 &&& (31 : Int32))) 9 ((1 : Int32) <<< (s.2.2 &&& (31 : Int32)))) (fun r4 => ?_)
      refine Seg.callP (f1 := (68, [.ref l0, .retAddr 0, .int l2, .int l3, .int s.1, .int s.2.1, .int s.2.2, .retAddr 0], [.int r4])) (h1 := h) (cv := fun r => some (.int r)) rfl rfl rfl rfl (s244 h r4) (fun r5 => ?_)
      refine Seg.blk0 (f' := (73, [.ref l0, .retAddr 0, .int l2, .int l3, .int s.1, .int s.2.1, .int s.2.2, .retAddr 0], [.int (r5 - 1)])) (h' := h) rfl rfl ?_
      exact Seg.w (mLw.k (mLw.k (mLw.k (mLw.k (mLw.k (mLw.k (mLw.k (mLw.k mLw.nil)))))))) (s291_73 h l0 l2 l3 s.1 s.2.1 s.2.2 (r5 - 1))
theorem s291 (h : mH) (l0 : Nat) (l1 : Int32) (l2 : Int32) (l3 : Int32) : Seg 291 (0, [.ref l0, .int l1, .int l2, .int l3, .retAddr 0, .retAddr 0, .retAddr 0, .retAddr 0], []) h (f291 h l0 l1 l2 l3) (fun (q : Int32 × mH) (res : Option Value × mH) => res = (some (.int q.1), q.2)) := by
  unfold f291
  refine Seg.blk (f' := (5, [.ref l0, .int l1, .int l2, .int l3, .retAddr 0, .retAddr 0, .retAddr 0, .retAddr 0], [])) (h' := (mSI h l0 0 0)) rfl rfl ?_
  refine Seg.call (f1 := (7, [.ref l0, .int l1, .int l2, .int l3, .retAddr 0, .retAddr 0, .retAddr 0, .retAddr 0], [.int l1, .ref l0])) (h1 := (mSI h l0 0 0)) (cv := fun r => some (.int r)) rfl rfl rfl rfl (s205 (mSI h l0 0 0) l0 l1) (fun r1 => ?_)
  refine Seg.blk0 (f' := (if (r1.1 : Int32) = 0 then 21 else 13, [.ref l0, .int l1, .int l2, .int l3, .retAddr 0, .retAddr 0, .retAddr 0, .retAddr 0], [])) (h' := r1.2) rfl rfl ?_
  refine Seg.ite (fun _ => ?_) (fun _ => ?_)
  · exact Seg.w (mLw.u (mLw.u (mLw.u (mLw.u (mLw.k (mLw.k (mLw.k (mLw.k mLw.nil)))))))) (s291_21 r1.2)
  · refine Seg.callP (f1 := (15, [.ref l0, .int l1, .int l2, .int l3, .retAddr 0, .retAddr 0, .retAddr 0, .retAddr 0], [.int l2, .ref l0])) (h1 := r1.2) (cv := fun r => some (.int r)) rfl rfl rfl rfl (s226 r1.2 l0 l2) (fun r2 => ?_)
    refine Seg.blk0 (f' := (if (r2 : Int32) = 0 then 21 else 23, [.ref l0, .int l1, .int l2, .int l3, .retAddr 0, .retAddr 0, .retAddr 0, .retAddr 0], [])) (h' := r1.2) rfl rfl ?_
    refine Seg.ite (fun _ => ?_) (fun _ => ?_)
    · exact Seg.w (mLw.u (mLw.u (mLw.u (mLw.u (mLw.k (mLw.k (mLw.k (mLw.k mLw.nil)))))))) (s291_21 r1.2)
    · refine Seg.blk0 (f' := (34, [.ref l0, .int l1, .int l2, .int l3, .int (-1), .int 1000000, .int 0, .retAddr 0], [])) (h' := r1.2) rfl rfl ?_
      exact Seg.w (mLw.k (mLw.u (mLw.k (mLw.k (mLw.k (mLw.k (mLw.k (mLw.k mLw.nil)))))))) (s291_34 r1.2 l0 l2 l3 mFuel ((-1), 1000000, 0))
theorem s292_31 (h : mH) : Seg 292 (31, [.retAddr 0, .retAddr 0, .retAddr 0, .retAddr 0, .retAddr 0], []) h (f292_31 h) (fun (q : Int64 × mH) (res : Option Value × mH) => res = (some (.long q.1), q.2)) := by
  unfold f292_31
  exact Seg.ret (f1 := (34, [.retAddr 0, .retAddr 0, .retAddr 0, .retAddr 0, .retAddr 0], [.long (-1)])) (h1 := h) rfl rfl rfl rfl (fun _ q => q)
theorem s292 (h : mH) (l0 : Nat) (l1 : Int32) (l2 : Int32) (l3 : Int32) (l4 : Int32) : Seg 292 (0, [.ref l0, .int l1, .int l2, .int l3, .int l4], []) h (f292 h l0 l1 l2 l3 l4) (fun (q : Int64 × mH) (res : Option Value × mH) => res = (some (.long q.1), q.2)) := by
  unfold f292
  refine Seg.blk (f' := (5, [.ref l0, .int l1, .int l2, .int l3, .int l4], [])) (h' := (mSI h l0 0 0)) rfl rfl ?_
  refine Seg.callP (f1 := (9, [.ref l0, .int l1, .int l2, .int l3, .int l4], [.int 9, .int 0, .int l3])) (h1 := (mSI h l0 0 0)) (cv := fun r => some (.int r)) rfl rfl rfl rfl (s179 (mSI h l0 0 0) l3 0 9) (fun r1 => ?_)
  refine Seg.blk0 (f' := (if (r1 : Int32) = 0 then 31 else 15, [.ref l0, .int l1, .int l2, .int l3, .int l4], [])) (h' := (mSI h l0 0 0)) rfl rfl ?_
  refine Seg.ite (fun _ => ?_) (fun _ => ?_)
  · exact Seg.w (mLw.u (mLw.u (mLw.u (mLw.u (mLw.u mLw.nil))))) (s292_31 (mSI h l0 0 0))
  · refine Seg.call (f1 := (17, [.ref l0, .int l1, .int l2, .int l3, .int l4], [.int l1, .ref l0])) (h1 := (mSI h l0 0 0)) (cv := fun r => some (.int r)) rfl rfl rfl rfl (s205 (mSI h l0 0 0) l0 l1) (fun r2 => ?_)
    refine Seg.blk0 (f' := (if (r2.1 : Int32) = 0 then 31 else 23, [.ref l0, .int l1, .int l2, .int l3, .int l4], [])) (h' := r2.2) rfl rfl ?_
    refine Seg.ite (fun _ => ?_) (fun _ => ?_)
    · exact Seg.w (mLw.u (mLw.u (mLw.u (mLw.u (mLw.u mLw.nil))))) (s292_31 r2.2)
    · refine Seg.callP (f1 := (25, [.ref l0, .int l1, .int l2, .int l3, .int l4], [.int l2, .ref l0])) (h1 := r2.2) (cv := fun r => some (.int r)) rfl rfl rfl rfl (s252 r2.2 l0 l2) (fun r3 => ?_)
      refine Seg.blk0 (f' := (if (r3 : Int32) = 0 then 31 else 35, [.ref l0, .int l1, .int l2, .int l3, .int l4], [])) (h' := r2.2) rfl rfl ?_
      refine Seg.ite (fun _ => ?_) (fun _ => ?_)
      · exact Seg.w (mLw.u (mLw.u (mLw.u (mLw.u (mLw.u mLw.nil))))) (s292_31 r2.2)
      · refine Seg.callP (f1 := (40, [.ref l0, .int l1, .int l2, .int l3, .int l4], [.int l2, .ref l0, .long 10])) (h1 := r2.2) (cv := fun r => some (.int r)) rfl rfl rfl rfl (s253 r2.2 l0 l2) (fun r4 => ?_)
        refine Seg.callP (f1 := (53, [.ref l0, .int l1, .int l2, .int l3, .int l4], [.int l4, .long (10 - (Int32.toInt64 l3)), .long (10 * (Int32.toInt64 r4))])) (h1 := r2.2) (cv := fun r => some (.long r)) rfl rfl rfl rfl (s255 r2.2 (10 * (Int32.toInt64 r4)) (10 - (Int32.toInt64 l3)) l4) (fun r5 => ?_)
        exact Seg.ret (f1 := (56, [.ref l0, .int l1, .int l2, .int l3, .int l4], [.long r5])) (h1 := r2.2) rfl rfl rfl rfl (fun _ q => q)
theorem s294_27 (h : mH) (l0 : Nat) (l2 : Int32) (q0 : Int32) (q1 : Int32) : Seg 294 (27, [.ref l0, .retAddr 0, .int l2], [.int q1, .int q0]) h (f294_27 h l0 l2 q0 q1) (Sum.elim (fun s : (Int32 × Int32) => Ev 294 (4, [.ref l0, .int s.1, .int s.2], []) h) (fun (q : Int32) (res : Option Value × mH) => res = (some (.int q), h))) := by
  unfold f294_27
  refine Seg.blk0 (f' := (4, [.ref l0, .int (q0 ||| q1), .int (l2 + 1)], [])) (h' := h) rfl rfl ?_
  exact Seg.cont (fun _ q => Ev.w (mLw.k (mLw.k (mLw.k mLw.nil))) q)
theorem s294_4 (h : mH) (l0 : Nat) : ∀ (n : Nat) (s : (Int32 × Int32)), Seg 294 (4, [.ref l0, .int s.1, .int s.2], []) h (mLoop (f294_4 h l0) n s) (fun (q : Int32) (res : Option Value × mH) => res = (some (.int q), h)) := by
  refine Seg.loop (F := fun s : (Int32 × Int32) => (4, [.ref l0, .int s.1, .int s.2], [])) (H := fun s : (Int32 × Int32) => h) (fun s => ?_)
  show Seg 294 (4, [.ref l0, .int s.1, .int s.2], []) h _ (Sum.elim (fun s : (Int32 × Int32) => Ev 294 (4, [.ref l0, .int s.1, .int s.2], []) h) (fun (q : Int32) (res : Option Value × mH) => res = (some (.int q), h)))
  unfold f294_4
  refine Seg.blk0 (f' := (if (6 : Int32) ≤ s.2 then 35 else 10, [.ref l0, .int s.1, .int s.2], [])) (h' := h) rfl rfl ?_
  refine Seg.ite (fun _ => ?_) (fun _ => ?_)
  · refine Seg.x ?_
    exact Seg.ret (f1 := (36, [.ref l0, .int s.1, .int s.2], [.int s.1])) (h1 := h) rfl rfl rfl rfl (fun _ q => q)
  · refine Seg.blk (f' := (if ((mI h ((mR h l0 32).getD 0) (Int32.toNatClampNeg s.2)) : Int32) = 0 then 20 else 26, [.ref l0, .int s.1, .int s.2], [.int s.1])) (h' := h) rfl rfl ?_
    refine Seg.ite (fun _ => ?_) (fun _ => ?_)
    · refine Seg.blk0 (f' := (27, [.ref l0, .int s.1, .int s.2], [.int ((1 : Int32) <<< (s.2 &&& (31 : Int32))), .int s.1])) (h' := h) rfl rfl ?_
      exact Seg.w (mLw.k (mLw.u (mLw.k mLw.nil))) (s294_27 h l0 s.2 s.1 ((1 : Int32) <<< (s.2 &&& (31 : Int32))))
    · refine Seg.blk0 (f' := (27, [.ref l0, .int s.1, .int s.2], [.int 0, .int s.1])) (h' := h) rfl rfl ?_
      exact Seg.w (mLw.k (mLw.u (mLw.k mLw.nil))) (s294_27 h l0 s.2 s.1 0)
theorem s294 (h : mH) (l0 : Nat) : Seg 294 (0, [.ref l0, .retAddr 0, .retAddr 0], []) h (f294 h l0) (fun (q : Int32) (res : Option Value × mH) => res = (some (.int q), h)) := by
  unfold f294
  refine Seg.blk0 (f' := (4, [.ref l0, .int 0, .int 0], [])) (h' := h) rfl rfl ?_
  exact Seg.w (mLw.k (mLw.k (mLw.k mLw.nil))) (s294_4 h l0 mFuel (0, 0))
theorem s293_23 (h : mH) : Seg 293 (23, [.retAddr 0, .retAddr 0, .retAddr 0, .retAddr 0, .retAddr 0, .retAddr 0, .retAddr 0, .retAddr 0, .retAddr 0, .retAddr 0, .retAddr 0, .retAddr 0, .retAddr 0], []) h (f293_23 h) (fun (q : Int32 × mH) (res : Option Value × mH) => res = (some (.int q.1), q.2)) := by
  unfold f293_23
  exact Seg.ret (f1 := (25, [.retAddr 0, .retAddr 0, .retAddr 0, .retAddr 0, .retAddr 0, .retAddr 0, .retAddr 0, .retAddr 0, .retAddr 0, .retAddr 0, .retAddr 0, .retAddr 0, .retAddr 0], [.int (-2)])) (h1 := h) rfl rfl rfl rfl (fun _ q => q)
theorem s293_186 (h : mH) (l0 : Nat) (l3 : Int32) (l4 : Int32) (l5 : Int32) (l6 : Int32) (l8 : Int32) (l9 : Int32) (l10 : Int32) (q0 : Int32) : Seg 293 (186, [.ref l0, .retAddr 0, .retAddr 0, .int l3, .int l4, .int l5, .int l6, .retAddr 0, .int l8, .int l9, .int l10, .retAddr 0, .retAddr 0], [.int q0]) h (f293_186 h l0 l3 l4 l5 l6 l8 l9 l10 q0) (Sum.elim (fun s : (Int32 × Int32 × Int32 × Int32 × Int32 × Int32 × Int32 × mH) => Ev 293 (47, [.ref l0, .retAddr 0, .retAddr 0, .int l3, .int s.1, .int s.2.1, .int s.2.2.1, .int s.2.2.2.1, .int s.2.2.2.2.1, .int s.2.2.2.2.2.1, .int s.2.2.2.2.2.2.1, .retAddr 0, .retAddr 0], []) s.2.2.2.2.2.2.2) (fun (q : Int32 × mH) (res : Option Value × mH) => res = (some (.int q.1), q.2))) := by
  unfold f293_186
  refine Seg.blk0 (f' := (47, [.ref l0, .retAddr 0, .retAddr 0, .int l3, .int l4, .int l5, .int l6, .int q0, .int l8, .int l9, .int (l10 + 1), .retAddr 0, .retAddr 0], [])) (h' := h) rfl rfl ?_
  exact Seg.cont (fun _ q => Ev.w (mLw.k (mLw.k (mLw.k (mLw.k (mLw.k (mLw.k (mLw.k (mLw.k (mLw.k (mLw.k (mLw.k (mLw.k (mLw.k mLw.nil))))))))))))) q)
theorem s293_184 (h : mH) (l0 : Nat) (l3 : Int32) (l4 : Int32) (l5 : Int32) (l6 : Int32) (l7 : Int32) (l8 : Int32) (l9 : Int32) (l10 : Int32) : Seg 293 (184, [.ref l0, .retAddr 0, .retAddr 0, .int l3, .int l4, .int l5, .int l6, .int l7, .int l8, .int l9, .int l10, .retAddr 0, .retAddr 0], []) h (f293_184 h l0 l3 l4 l5 l6 l7 l8 l9 l10) (Sum.elim (fun s : (Int32 × Int32 × Int32 × Int32 × Int32 × Int32 × Int32 × mH) => Ev 293 (47, [.ref l0, .retAddr 0, .retAddr 0, .int l3, .int s.1, .int s.2.1, .int s.2.2.1, .int s.2.2.2.1, .int s.2.2.2.2.1, .int s.2.2.2.2.2.1, .int s.2.2.2.2.2.2.1, .retAddr 0, .retAddr 0], []) s.2.2.2.2.2.2.2) (fun (q : Int32 × mH) (res : Option Value × mH) => res = (some (.int q.1), q.2))) := by
  unfold f293_184
  refine Seg.blk0 (f' := (186, [.ref l0, .retAddr 0, .retAddr 0, .int l3, .int l4, .int l5, .int l6, .int l7, .int l8, .int l9, .int l10, .retAddr 0, .retAddr 0], [.int l7])) (h' := h) rfl rfl ?_
  exact Seg.w (mLw.k (mLw.k (mLw.k (mLw.k (mLw.k (mLw.k (mLw.k (mLw.u (mLw.k (mLw.k (mLw.k (mLw.k (mLw.k mLw.nil))))))))))))) (s293_186 h l0 l3 l4 l5 l6 l8 l9 l10 l7)
theorem s293_163 (h : mH) (l0 : Nat) (l3 : Int32) (l5 : Int32) (l6 : Int32) (l7 : Int32) (l8 : Int32) (l9 : Int32) (l10 : Int32) (q0 : Int32) (q1 : Int32) : Seg 293 (163, [.ref l0, .retAddr 0, .retAddr 0, .int l3, .retAddr 0, .int l5, .int l6, .int l7, .int l8, .int l9, .int l10, .retAddr 0, .retAddr 0], [.int q1, .int q0]) h (f293_163 h l0 l3 l5 l6 l7 l8 l9 l10 q0 q1) (Sum.elim (fun s : (Int32 × Int32 × Int32 × Int32 × Int32 × Int32 × Int32 × mH) => Ev 293 (47, [.ref l0, .retAddr 0, .retAddr 0, .int l3, .int s.1, .int s.2.1, .int s.2.2.1, .int s.2.2.2.1, .int s.2.2.2.2.1, .int s.2.2.2.2.2.1, .int s.2.2.2.2.2.2.1, .retAddr 0, .retAddr 0], []) s.2.2.2.2.2.2.2) (fun (q : Int32 × mH) (res : Option Value × mH) => res = (some (.int q.1), q.2))) := by
  unfold f293_163
  refine Seg.blk0 (f' := (if (l7 : Int32) = (-1) then 172 else 184, [.ref l0, .retAddr 0, .retAddr 0, .int l3, .int (q0 + q1), .int l5, .int l6, .int l7, .int l8, .int l9, .int l10, .retAddr 0, .retAddr 0], [])) (h' := h) rfl rfl ?_
  refine Seg.ite (fun _ => ?_) (fun _ => ?_)
  · refine Seg.blk (f' := (if ((mI h l0 26) : Int32) = 0 then 184 else 179, [.ref l0, .retAddr 0, .retAddr 0, .int l3, .int (q0 + q1), .int l5, .int l6, .int l7, .int l8, .int l9, .int l10, .retAddr 0, .retAddr 0], [])) (h' := h) rfl rfl ?_
    refine Seg.ite (fun _ => ?_) (fun _ => ?_)
    · exact Seg.w (mLw.k (mLw.k (mLw.k (mLw.k (mLw.k (mLw.k (mLw.k (mLw.k (mLw.k (mLw.k (mLw.k (mLw.k (mLw.k mLw.nil))))))))))))) (s293_184 h l0 l3 (q0 + q1) l5 l6 l7 l8 l9 l10)
    · refine Seg.blk0 (f' := (186, [.ref l0, .retAddr 0, .retAddr 0, .int l3, .int (q0 + q1), .int l5, .int l6, .int l7, .int l8, .int l9, .int l10, .retAddr 0, .retAddr 0], [.int l10])) (h' := h) rfl rfl ?_
      exact Seg.w (mLw.k (mLw.k (mLw.k (mLw.k (mLw.k (mLw.k (mLw.k (mLw.u (mLw.k (mLw.k (mLw.k (mLw.k (mLw.k mLw.nil))))))))))))) (s293_186 h l0 l3 (q0 + q1) l5 l6 l8 l9 l10 l10)
  · exact Seg.w (mLw.k (mLw.k (mLw.k (mLw.k (mLw.k (mLw.k (mLw.k (mLw.k (mLw.k (mLw.k (mLw.k (mLw.k (mLw.k mLw.nil))))))))))))) (s293_184 h l0 l3 (q0 + q1) l5 l6 l7 l8 l9 l10)
theorem s293_162 (h : mH) (l0 : Nat) (l3 : Int32) (l5 : Int32) (l6 : Int32) (l7 : Int32) (l8 : Int32) (l9 : Int32) (l10 : Int32) (q0 : Int32) : Seg 293 (162, [.ref l0, .retAddr 0, .retAddr 0, .int l3, .retAddr 0, .int l5, .int l6, .int l7, .int l8, .int l9, .int l10, .retAddr 0, .retAddr 0], [.int q0]) h (f293_162 h l0 l3 l5 l6 l7 l8 l9 l10 q0) (Sum.elim (fun s : (Int32 × Int32 × Int32 × Int32 × Int32 × Int32 × Int32 × mH) => Ev 293 (47, [.ref l0, .retAddr 0, .retAddr 0, .int l3, .int s.1, .int s.2.1, .int s.2.2.1, .int s.2.2.2.1, .int s.2.2.2.2.1, .int s.2.2.2.2.2.1, .int s.2.2.2.2.2.2.1, .retAddr 0, .retAddr 0], []) s.2.2.2.2.2.2.2) (fun (q : Int32 × mH) (res : Option Value × mH) => res = (some (.int q.1), q.2))) := by
  unfold f293_162
  refine Seg.blk0 (f' := (163, [.ref l0, .retAddr 0, .retAddr 0, .int l3, .retAddr 0, .int l5, .int l6, .int l7, .int l8, .int l9, .int l10, .retAddr 0, .retAddr 0], [.int 0, .int q0])) (h' := h) rfl rfl ?_
  exact Seg.w (mLw.k (mLw.k (mLw.k (mLw.k (mLw.k (mLw.k (mLw.k (mLw.k (mLw.k (mLw.k (mLw.k (mLw.k (mLw.k mLw.nil))))))))))))) (s293_163 h l0 l3 l5 l6 l7 l8 l9 l10 q0 0)
theorem s293_138 (h : mH) (l0 : Nat) (l3 : Int32) (l4 : Int32) (l5 : Int32) (l6 : Int32) (l7 : Int32) (l8 : Int32) (l10 : Int32) (q0 : Int32) : Seg 293 (138, [.ref l0, .retAddr 0, .retAddr 0, .int l3, .int l4, .int l5, .int l6, .int l7, .int l8, .retAddr 0, .int l10, .retAddr 0, .retAddr 0], [.int q0]) h (f293_138 h l0 l3 l4 l5 l6 l7 l8 l10 q0) (Sum.elim (fun s : (Int32 × Int32 × Int32 × Int32 × Int32 × Int32 × Int32 × mH) => Ev 293 (47, [.ref l0, .retAddr 0, .retAddr 0, .int l3, .int s.1, .int s.2.1, .int s.2.2.1, .int s.2.2.2.1, .int s.2.2.2.2.1, .int s.2.2.2.2.2.1, .int s.2.2.2.2.2.2.1, .retAddr 0, .retAddr 0], []) s.2.2.2.2.2.2.2) (fun (q : Int32 × mH) (res : Option Value × mH) => res = (some (.int q.1), q.2))) := by
  unfold f293_138
  refine Seg.blk0 (f' := (if (q0 : Int32) = 0 then 162 else 147, [.ref l0, .retAddr 0, .retAddr 0, .int l3, .int l4, .int l5, .int l6, .int l7, .int l8, .int q0, .int l10, .retAddr 0, .retAddr 0], [.int l4])) (h' := h) rfl rfl ?_
  refine Seg.ite (fun _ => ?_) (fun _ => ?_)
  · exact Seg.w (mLw.k (mLw.k (mLw.k (mLw.k (mLw.u (mLw.k (mLw.k (mLw.k (mLw.k (mLw.k (mLw.k (mLw.k (mLw.k mLw.nil))))))))))))) (s293_162 h l0 l3 l5 l6 l7 l8 q0 l10 l4)
  · refine Seg.callP (f1 := (151, [.ref l0, .retAddr 0, .retAddr 0, .int l3, .int l4, .int l5, .int l6, .int l7, .int l8, .int q0, .int l10, .retAddr 0, .retAddr 0], [.int 0, .int l10, .ref l0, .int l4])) (h1 := h) (cv := fun r => some (.int r)) rfl rfl rfl rfl (s211 h l0 l10 0) (fun r5 => ?_)
    refine Seg.blk0 (f' := (if (r5 : Int32) = 2 then 158 else 162, [.ref l0, .retAddr 0, .retAddr 0, .int l3, .int l4, .int l5, .int l6, .int l7, .int l8, .int q0, .int l10, .retAddr 0, .retAddr 0], [.int l4])) (h' := h) rfl rfl ?_
    refine Seg.ite (fun _ => ?_) (fun _ => ?_)
    · refine Seg.blk0 (f' := (163, [.ref l0, .retAddr 0, .retAddr 0, .int l3, .int l4, .int l5, .int l6, .int l7, .int l8, .int q0, .int l10, .retAddr 0, .retAddr 0], [.int 1, .int l4])) (h' := h) rfl rfl ?_
      exact Seg.w (mLw.k (mLw.k (mLw.k (mLw.k (mLw.u (mLw.k (mLw.k (mLw.k (mLw.k (mLw.k (mLw.k (mLw.k (mLw.k mLw.nil))))))))))))) (s293_163 h l0 l3 l5 l6 l7 l8 q0 l10 l4 1)
    · exact Seg.w (mLw.k (mLw.k (mLw.k (mLw.k (mLw.u (mLw.k (mLw.k (mLw.k (mLw.k (mLw.k (mLw.k (mLw.k (mLw.k mLw.nil))))))))))))) (s293_162 h l0 l3 l5 l6 l7 l8 q0 l10 l4)
theorem s293_137 (h : mH) (l0 : Nat) (l3 : Int32) (l4 : Int32) (l5 : Int32) (l6 : Int32) (l7 : Int32) (l8 : Int32) (l10 : Int32) : Seg 293 (137, [.ref l0, .retAddr 0, .retAddr 0, .int l3, .int l4, .int l5, .int l6, .int l7, .int l8, .retAddr 0, .int l10, .retAddr 0, .retAddr 0], []) h (f293_137 h l0 l3 l4 l5 l6 l7 l8 l10) (Sum.elim (fun s : (Int32 × Int32 × Int32 × Int32 × Int32 × Int32 × Int32 × mH) => Ev 293 (47, [.ref l0, .retAddr 0, .retAddr 0, .int l3, .int s.1, .int s.2.1, .int s.2.2.1, .int s.2.2.2.1, .int s.2.2.2.2.1, .int s.2.2.2.2.2.1, .int s.2.2.2.2.2.2.1, .retAddr 0, .retAddr 0], []) s.2.2.2.2.2.2.2) (fun (q : Int32 × mH) (res : Option Value × mH) => res = (some (.int q.1), q.2))) := by
  unfold f293_137
  refine Seg.blk0 (f' := (138, [.ref l0, .retAddr 0, .retAddr 0, .int l3, .int l4, .int l5, .int l6, .int l7, .int l8, .retAddr 0, .int l10, .retAddr 0, .retAddr 0], [.int 0])) (h' := h) rfl rfl ?_
  exact Seg.w (mLw.k (mLw.k (mLw.k (mLw.k (mLw.k (mLw.k (mLw.k (mLw.k (mLw.k (mLw.k (mLw.k (mLw.k (mLw.k mLw.nil))))))))))))) (s293_138 h l0 l3 l4 l5 l6 l7 l8 l10 0)
theorem s293_89 (h : mH) (l0 : Nat) (l3 : Int32) (l4 : Int32) (l6 : Int32) (l7 : Int32) (l8 : Int32) (l10 : Int32) (l11 : Int32) (l12 : Int32) (q0 : Int32) : Seg 293 (89, [.ref l0, .retAddr 0, .retAddr 0, .int l3, .int l4, .retAddr 0, .int l6, .int l7, .int l8, .retAddr 0, .int l10, .int l11, .int l12], [.int q0]) h (f293_89 h l0 l3 l4 l6 l7 l8 l10 l11 l12 q0) (Sum.elim (fun s : (Int32 × Int32 × Int32) => Ev 293 (55, [.ref l0, .retAddr 0, .retAddr 0, .int l3, .int l4, .int s.1, .int s.2.1, .int l7, .int l8, .retAddr 0, .int l10, .int s.2.2, .retAddr 0], []) h) (Sum.elim (fun s : (Int32 × Int32 × Int32 × Int32 × Int32 × Int32 × Int32 × mH) => Ev 293 (47, [.ref l0, .retAddr 0, .retAddr 0, .int l3, .int s.1, .int s.2.1, .int s.2.2.1, .int s.2.2.2.1, .int s.2.2.2.2.1, .int s.2.2.2.2.2.1, .int s.2.2.2.2.2.2.1, .retAddr 0, .retAddr 0], []) s.2.2.2.2.2.2.2) (fun (q : Int32 × mH) (res : Option Value × mH) => res = (some (.int q.1), q.2)))) := by
  unfold f293_89
  refine Seg.callP (f1 := (95, [.ref l0, .retAddr 0, .retAddr 0, .int l3, .int l4, .int q0, .int l6, .int l7, .int l8, .retAddr 0, .int l10, .int l11, .int l12], [.int l12, .int l6])) (h1 := h) (cv := fun r => some (.int r)) rfl rfl rfl rfl (s196 h l6 l12) (fun r9 => ?_)
  refine Seg.blk0 (f' := (55, [.ref l0, .retAddr 0, .retAddr 0, .int l3, .int l4, .int q0, .int r9, .int l7, .int l8, .retAddr 0, .int l10, .int (l11 + 1), .int l12], [])) (h' := h) rfl rfl ?_
  exact Seg.cont (fun _ q => Ev.w (mLw.k (mLw.k (mLw.k (mLw.k (mLw.k (mLw.k (mLw.k (mLw.k (mLw.k (mLw.k (mLw.k (mLw.k (mLw.u mLw.nil))))))))))))) q)
theorem s293_55 (h : mH) (l0 : Nat) (l3 : Int32) (l4 : Int32) (l7 : Int32) (l8 : Int32) (l10 : Int32) : ∀ (n : Nat) (s : (Int32 × Int32 × Int32)), Seg 293 (55, [.ref l0, .retAddr 0, .retAddr 0, .int l3, .int l4, .int s.1, .int s.2.1, .int l7, .int l8, .retAddr 0, .int l10, .int s.2.2, .retAddr 0], []) h (mLoop (f293_55 h l0 l3 l4 l7 l8 l10) n s) (Sum.elim (fun s : (Int32 × Int32 × Int32 × Int32 × Int32 × Int32 × Int32 × mH) => Ev 293 (47, [.ref l0, .retAddr 0, .retAddr 0, .int l3, .int s.1, .int s.2.1, .int s.2.2.1, .int s.2.2.2.1, .int s.2.2.2.2.1, .int s.2.2.2.2.2.1, .int s.2.2.2.2.2.2.1, .retAddr 0, .retAddr 0], []) s.2.2.2.2.2.2.2) (fun (q : Int32 × mH) (res : Option Value × mH) => res = (some (.int q.1), q.2))) := by
  refine Seg.loop (F := fun s : (Int32 × Int32 × Int32) => (55, [.ref l0, .retAddr 0, .retAddr 0, .int l3, .int l4, .int s.1, .int s.2.1, .int l7, .int l8, .retAddr 0, .int l10, .int s.2.2, .retAddr 0], [])) (H := fun s : (Int32 × Int32 × Int32) => h) (fun s => ?_)
  show Seg 293 (55, [.ref l0, .retAddr 0, .retAddr 0, .int l3, .int l4, .int s.1, .int s.2.1, .int l7, .int l8, .retAddr 0, .int l10, .int s.2.2, .retAddr 0], []) h _ (Sum.elim (fun s : (Int32 × Int32 × Int32) => Ev 293 (55, [.ref l0, .retAddr 0, .retAddr 0, .int l3, .int l4, .int s.1, .int s.2.1, .int l7, .int l8, .retAddr 0, .int l10, .int s.2.2, .retAddr 0], []) h) (Sum.elim (fun s : (Int32 × Int32 × Int32 × Int32 × Int32 × Int32 × Int32 × mH) => Ev 293 (47, [.ref l0, .retAddr 0, .retAddr 0, .int l3, .int s.1, .int s.2.1, .int s.2.2.1, .int s.2.2.2.1, .int s.2.2.2.2.1, .int s.2.2.2.2.2.1, .int s.2.2.2.2.2.2.1, .retAddr 0, .retAddr 0], []) s.2.2.2.2.2.2.2) (fun (q : Int32 × mH) (res : Option Value × mH) => res = (some (.int q.1), q.2))))
  unfold f293_55
  refine Seg.blk (f' := (if ((mI h l0 25) : Int32) ≤ s.2.2 then 106 else 64, [.ref l0, .retAddr 0, .retAddr 0, .int l3, .int l4, .int s.1, .int s.2.1, .int l7, .int l8, .retAddr 0, .int l10, .int s.2.2, .retAddr 0], [])) (h' := h) rfl rfl ?_
  refine Seg.ite (fun _ => ?_) (fun _ => ?_)
  · refine Seg.x ?_
    refine Seg.callP (f1 := (109, [.ref l0, .retAddr 0, .retAddr 0, .int l3, .int l4, .int s.1, .int s.2.1, .int l7, .int l8, .retAddr 0, .int l10, .int s.2.2, .retAddr 0], [.ref l0, .int l8])) (h1 := h) (cv := fun r => some (.int r)) rfl rfl rfl rfl (s294 h l0) (fun r3 => ?_)
    refine Seg.callP (f1 := (118, [.ref l0, .retAddr 0, .retAddr 0, .int l3, .int l4, .int s.1, .int s.2.1, .int l7, .int (l8 ||| r3), .retAddr 0, .int l10, .int s.2.2, .retAddr 0], [.ref l0, .int l10])) (h1 := h) (cv := fun r => some (.int r)) rfl rfl rfl rfl (s210 h l0) (fun r4 => ?_)
    refine Seg.blk0 (f' := (if (r4 : Int32) ≤ l10 then 137 else 124, [.ref l0, .retAddr 0, .retAddr 0, .int l3, .int l4, .int s.1, .int s.2.1, .int l7, .int (l8 ||| r3), .retAddr 0, .int l10, .int s.2.2, .retAddr 0], [])) (h' := h) rfl rfl ?_
    refine Seg.ite (fun _ => ?_) (fun _ => ?_)
    · exact Seg.w (mLw.k (mLw.k (mLw.k (mLw.k (mLw.k (mLw.k (mLw.k (mLw.k (mLw.k (mLw.k (mLw.k (mLw.u (mLw.k mLw.nil))))))))))))) (s293_137 h l0 l3 l4 s.1 s.2.1 l7 (l8 ||| r3) l10)
    · refine Seg.call (f1 := (127, [.ref l0, .retAddr 0, .retAddr 0, .int l3, .int l4, .int s.1, .int s.2.1, .int l7, .int (l8 ||| r3), .retAddr 0, .int l10, .int s.2.2, .retAddr 0], [.int l10, .ref l0])) (h1 := h) (cv := fun r => some (.int r)) rfl rfl rfl rfl (s215 h l0 l10) (fun r6 => ?_)
      refine Seg.blk0 (f' := (if (r6.1 : Int32) = 0 then 137 else 133, [.ref l0, .retAddr 0, .retAddr 0, .int l3, .int l4, .int s.1, .int s.2.1, .int l7, .int (l8 ||| r3), .retAddr 0, .int l10, .int s.2.2, .retAddr 0], [])) (h' := r6.2) rfl rfl ?_
      refine Seg.ite (fun _ => ?_) (fun _ => ?_)
      · exact Seg.w (mLw.k (mLw.k (mLw.k (mLw.k (mLw.k (mLw.k (mLw.k (mLw.k (mLw.k (mLw.k (mLw.k (mLw.u (mLw.k mLw.nil))))))))))))) (s293_137 r6.2 l0 l3 l4 s.1 s.2.1 l7 (l8 ||| r3) l10)
      · refine Seg.blk0 (f' := (138, [.ref l0, .retAddr 0, .retAddr 0, .int l3, .int l4, .int s.1, .int s.2.1, .int l7, .int (l8 ||| r3), .retAddr 0, .int l10, .int s.2.2, .retAddr 0], [.int 1])) (h' := r6.2) rfl rfl ?_
        exact Seg.w (mLw.k (mLw.k (mLw.k (mLw.k (mLw.k (mLw.k (mLw.k (mLw.k (mLw.k (mLw.k (mLw.k (mLw.u (mLw.k mLw.nil))))))))))))) (s293_138 r6.2 l0 l3 l4 s.1 s.2.1 l7 (l8 ||| r3) l10 1)
  · refine Seg.callP (f1 := (67, [.ref l0, .retAddr 0, .retAddr 0, .int l3, .int l4, .int s.1, .int s.2.1, .int l7, .int l8, .retAddr 0, .int l10, .int s.2.2, .retAddr 0], [.int s.2.2, .ref l0])) (h1 := h) (cv := fun r => some (.int r)) rfl rfl rfl rfl (s231 h l0 s.2.2) (fun r7 => ?_)
    refine Seg.callP (f1 := (70, [.ref l0, .retAddr 0, .retAddr 0, .int l3, .int l4, .int s.1, .int s.2.1, .int l7, .int l8, .retAddr 0, .int l10, .int s.2.2, .retAddr 0], [.int r7])) (h1 := h) (cv := fun r => some (.int r)) rfl rfl rfl rfl (s244 h r7) (fun r8 => ?_)
    refine Seg.blk0 (f' := (if (r8 : Int32) ≤ s.2.1 then 87 else 82, [.ref l0, .retAddr 0, .retAddr 0, .int l3, .int l4, .int s.1, .int s.2.1, .int l7, .int l8, .retAddr 0, .int l10, .int s.2.2, .int r8], [])) (h' := h) rfl rfl ?_
    refine Seg.ite (fun _ => ?_) (fun _ => ?_)
    · refine Seg.blk0 (f' := (89, [.ref l0, .retAddr 0, .retAddr 0, .int l3, .int l4, .int s.1, .int s.2.1, .int l7, .int l8, .retAddr 0, .int l10, .int s.2.2, .int r8], [.int s.1])) (h' := h) rfl rfl ?_
      exact Seg.w (mLw.k (mLw.k (mLw.k (mLw.k (mLw.k (mLw.u (mLw.k (mLw.k (mLw.k (mLw.k (mLw.k (mLw.k (mLw.k mLw.nil))))))))))))) (s293_89 h l0 l3 l4 s.2.1 l7 l8 l10 s.2.2 r8 s.1)
    · refine Seg.blk0 (f' := (89, [.ref l0, .retAddr 0, .retAddr 0, .int l3, .int l4, .int s.1, .int s.2.1, .int l7, .int l8, .retAddr 0, .int l10, .int s.2.2, .int r8], [.int s.2.2])) (h' := h) rfl rfl ?_
      exact Seg.w (mLw.k (mLw.k (mLw.k (mLw.k (mLw.k (mLw.u (mLw.k (mLw.k (mLw.k (mLw.k (mLw.k (mLw.k (mLw.k mLw.nil))))))))))))) (s293_89 h l0 l3 l4 s.2.1 l7 l8 l10 s.2.2 r8 s.2.2)
theorem s293_47 (l0 : Nat) (l3 : Int32) : ∀ (n : Nat) (s : (Int32 × Int32 × Int32 × Int32 × Int32 × Int32 × Int32 × mH)), Seg 293 (47, [.ref l0, .retAddr 0, .retAddr 0, .int l3, .int s.1, .int s.2.1, .int s.2.2.1, .int s.2.2.2.1, .int s.2.2.2.2.1, .int s.2.2.2.2.2.1, .int s.2.2.2.2.2.2.1, .retAddr 0, .retAddr 0], []) s.2.2.2.2.2.2.2 (mLoop (f293_47 l0 l3) n s) (fun (q : Int32 × mH) (res : Option Value × mH) => res = (some (.int q.1), q.2)) := by
  refine Seg.loop (F := fun s : (Int32 × Int32 × Int32 × Int32 × Int32 × Int32 × Int32 × mH) => (47, [.ref l0, .retAddr 0, .retAddr 0, .int l3, .int s.1, .int s.2.1, .int s.2.2.1, .int s.2.2.2.1, .int s.2.2.2.2.1, .int s.2.2.2.2.2.1, .int s.2.2.2.2.2.2.1, .retAddr 0, .retAddr 0], [])) (H := fun s : (Int32 × Int32 × Int32 × Int32 × Int32 × Int32 × Int32 × mH) => s.2.2.2.2.2.2.2) (fun s => ?_)
  show Seg 293 (47, [.ref l0, .retAddr 0, .retAddr 0, .int l3, .int s.1, .int s.2.1, .int s.2.2.1, .int s.2.2.2.1, .int s.2.2.2.2.1, .int s.2.2.2.2.2.1, .int s.2.2.2.2.2.2.1, .retAddr 0, .retAddr 0], []) s.2.2.2.2.2.2.2 _ (Sum.elim (fun s : (Int32 × Int32 × Int32 × Int32 × Int32 × Int32 × Int32 × mH) => Ev 293 (47, [.ref l0, .retAddr 0, .retAddr 0, .int l3, .int s.1, .int s.2.1, .int s.2.2.1, .int s.2.2.2.1, .int s.2.2.2.2.1, .int s.2.2.2.2.2.1, .int s.2.2.2.2.2.2.1, .retAddr 0, .retAddr 0], []) s.2.2.2.2.2.2.2) (fun (q : Int32 × mH) (res : Option Value × mH) => res = (some (.int q.1), q.2)))
  unfold f293_47
  refine Seg.blk0 (f' := (if (s.2.2.2.2.2.1 : Int32) = 0 then 194 else 52, [.ref l0, .retAddr 0, .retAddr 0, .int l3, .int s.1, .int s.2.1, .int s.2.2.1, .int s.2.2.2.1, .int s.2.2.2.2.1, .int s.2.2.2.2.2.1, .int s.2.2.2.2.2.2.1, .retAddr 0, .retAddr 0], [])) (h' := s.2.2.2.2.2.2.2) rfl rfl ?_
  refine Seg.ite (fun _ => ?_) (fun _ => ?_)
  · refine Seg.x ?_
    refine Seg.blk0 (f' := (if (l3 : Int32) = 0 then 224 else if (l3 : Int32) = 1 then 227 else if (l3 : Int32) = 2 then 232 else if (l3 : Int32) = 3 then 235 else 238, [.ref l0, .retAddr 0, .retAddr 0, .int l3, .int s.1, .int s.2.1, .int s.2.2.1, .int s.2.2.2.1, .int s.2.2.2.2.1, .int s.2.2.2.2.2.1, .int s.2.2.2.2.2.2.1, .retAddr 0, .retAddr 0], [])) (h' := s.2.2.2.2.2.2.2) rfl rfl ?_
    refine Seg.ite (fun _ => ?_) (fun _ => ?_)
    · exact Seg.ret (f1 := (226, [.ref l0, .retAddr 0, .retAddr 0, .int l3, .int s.1, .int s.2.1, .int s.2.2.1, .int s.2.2.2.1, .int s.2.2.2.2.1, .int s.2.2.2.2.2.1, .int s.2.2.2.2.2.2.1, .retAddr 0, .retAddr 0], [.int s.1])) (h1 := s.2.2.2.2.2.2.2) rfl rfl rfl rfl (fun _ q => q)
    refine Seg.ite (fun _ => ?_) (fun _ => ?_)
    · exact Seg.ret (f1 := (231, [.ref l0, .retAddr 0, .retAddr 0, .int l3, .int s.1, .int s.2.1, .int s.2.2.1, .int s.2.2.2.1, .int s.2.2.2.2.1, .int s.2.2.2.2.2.1, .int s.2.2.2.2.2.2.1, .retAddr 0, .retAddr 0], [.int (mI s.2.2.2.2.2.2.2 l0 31)])) (h1 := s.2.2.2.2.2.2.2) rfl rfl rfl rfl (fun _ q => q)
    refine Seg.ite (fun _ => ?_) (fun _ => ?_)
    · exact Seg.ret (f1 := (234, [.ref l0, .retAddr 0, .retAddr 0, .int l3, .int s.1, .int s.2.1, .int s.2.2.1, .int s.2.2.2.1, .int s.2.2.2.2.1, .int s.2.2.2.2.2.1, .int s.2.2.2.2.2.2.1, .retAddr 0, .retAddr 0], [.int s.2.1])) (h1 := s.2.2.2.2.2.2.2) rfl rfl rfl rfl (fun _ q => q)
    refine Seg.ite (fun _ => ?_) (fun _ => ?_)
    · exact Seg.ret (f1 := (237, [.ref l0, .retAddr 0, .retAddr 0, .int l3, .int s.1, .int s.2.1, .int s.2.2.1, .int s.2.2.2.1, .int s.2.2.2.2.1, .int s.2.2.2.2.2.1, .int s.2.2.2.2.2.2.1, .retAddr 0, .retAddr 0], [.int s.2.2.2.1])) (h1 := s.2.2.2.2.2.2.2) rfl rfl rfl rfl (fun _ q => q)
    · exact Seg.ret (f1 := (240, [.ref l0, .retAddr 0, .retAddr 0, .int l3, .int s.1, .int s.2.1, .int s.2.2.1, .int s.2.2.2.1, .int s.2.2.2.2.1, .int s.2.2.2.2.2.1, .int s.2.2.2.2.2.2.1, .retAddr 0, .retAddr 0], [.int s.2.2.2.2.1])) (h1 := s.2.2.2.2.2.2.2) rfl rfl rfl rfl (fun _ q => q)
  · refine Seg.blk0 (f' := (55, [.ref l0, .retAddr 0, .retAddr 0, .int l3, .int s.1, .int s.2.1, .int s.2.2.1, .int s.2.2.2.1, .int s.2.2.2.2.1, .int s.2.2.2.2.2.1, .int s.2.2.2.2.2.2.1, .int 0, .retAddr 0], [])) (h' := s.2.2.2.2.2.2.2) rfl rfl ?_
    exact Seg.w (mLw.k (mLw.k (mLw.k (mLw.k (mLw.k (mLw.k (mLw.k (mLw.k (mLw.k (mLw.u (mLw.k (mLw.k (mLw.k mLw.nil))))))))))))) (s293_55 s.2.2.2.2.2.2.2 l0 l3 s.1 s.2.2.2.1 s.2.2.2.2.1 s.2.2.2.2.2.2.1 mFuel (s.2.1, s.2.2.1, 0))
