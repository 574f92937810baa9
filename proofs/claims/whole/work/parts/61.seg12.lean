/-! The small machine runs the programs; printed by a program of ours. -/
theorem s273_68 (h : mH) (q0 : Int32) : Seg 273 (68, [.retAddr 0, .retAddr 0, .retAddr 0, .retAddr 0], [.int q0]) h (f273_68 h q0) (fun (q : Int32 × mH) (res : Option Value × mH) => res = (some (.int q.1), q.2)) := by
  unfold f273_68
  exact Seg.ret (f1 := (68, [.retAddr 0, .retAddr 0, .retAddr 0, .retAddr 0], [.int q0])) (h1 := h) rfl rfl rfl rfl (fun _ q => q)
theorem s273_40 (h : mH) (l0 : Nat) (l1 : Int32) (l2 : Int32) (l3 : Int32) : Seg 273 (40, [.ref l0, .int l1, .int l2, .int l3], []) h (f273_40 h l0 l1 l2 l3) (fun (q : Int32 × mH) (res : Option Value × mH) => res = (some (.int q.1), q.2)) := by
  unfold f273_40
  refine Seg.blk0 (f' := (if (l1 : Int32) = 0 then 55 else 44, [.ref l0, .int l1, .int l2, .int l3], [])) (h' := h) rfl rfl ?_
  refine Seg.ite (fun _ => ?_) (fun _ => ?_)
  · refine Seg.blk (f' := (if ((mI h l0 26) : Int32) = l3 then 63 else 67, [.ref l0, .int l1, .int l2, .int l3], [])) (h' := h) rfl rfl ?_
    refine Seg.ite (fun _ => ?_) (fun _ => ?_)
    · refine Seg.blk0 (f' := (68, [.ref l0, .int l1, .int l2, .int l3], [.int l2])) (h' := h) rfl rfl ?_
      exact Seg.w (mLw.u (mLw.u (mLw.u (mLw.u mLw.nil)))) (s273_68 h l2)
    · refine Seg.blk0 (f' := (68, [.ref l0, .int l1, .int l2, .int l3], [.int (-1)])) (h' := h) rfl rfl ?_
      exact Seg.w (mLw.u (mLw.u (mLw.u (mLw.u mLw.nil)))) (s273_68 h (-1))
  · refine Seg.blk (f' := (68, [.ref l0, .int l1, .int l2, .int l3], [.int (l3 &&& ((mI h l0 26) ^^^ (-1)))])) (h' := h) rfl rfl ?_
    exact Seg.w (mLw.u (mLw.u (mLw.u (mLw.u mLw.nil)))) (s273_68 h (l3 &&& ((mI h l0 26) ^^^ (-1))))
theorem s273_15 (l0 : Nat) (l1 : Int32) (l3 : Int32) : ∀ (n : Nat) (s : (Int32 × mH)), Seg 273 (15, [.ref l0, .int l1, .int s.1, .int l3], []) s.2 (mLoop (f273_15 l0 l1 l3) n s) (fun (q : Int32 × mH) (res : Option Value × mH) => res = (some (.int q.1), q.2)) := by
  refine Seg.loop (F := fun s : (Int32 × mH) => (15, [.ref l0, .int l1, .int s.1, .int l3], [])) (H := fun s : (Int32 × mH) => s.2) (fun s => ?_)
  show Seg 273 (15, [.ref l0, .int l1, .int s.1, .int l3], []) s.2 _ (Sum.elim (fun s : (Int32 × mH) => Ev 273 (15, [.ref l0, .int l1, .int s.1, .int l3], []) s.2) (fun (q : Int32 × mH) (res : Option Value × mH) => res = (some (.int q.1), q.2)))
  unfold f273_15
  refine Seg.blk (f' := (if ((mI s.2 l0 26) : Int32) = l3 then 40 else 23, [.ref l0, .int l1, .int s.1, .int l3], [])) (h' := s.2) rfl rfl ?_
  refine Seg.ite (fun _ => ?_) (fun _ => ?_)
  · refine Seg.x ?_
    exact Seg.w (mLw.k (mLw.k (mLw.k (mLw.k mLw.nil)))) (s273_40 s.2 l0 l1 s.1 l3)
  · refine Seg.blk0 (f' := (if (99 : Int32) ≤ s.1 then 40 else 29, [.ref l0, .int l1, .int s.1, .int l3], [])) (h' := s.2) rfl rfl ?_
    refine Seg.ite (fun _ => ?_) (fun _ => ?_)
    · refine Seg.x ?_
      exact Seg.w (mLw.k (mLw.k (mLw.k (mLw.k mLw.nil)))) (s273_40 s.2 l0 l1 s.1 l3)
    · refine Seg.call (f1 := (31, [.ref l0, .int l1, .int s.1, .int l3], [.int 1, .ref l0])) (h1 := s.2) (cv := fun _ => none) rfl rfl rfl rfl (s234 s.2 l0 1) (fun r2 => ?_)
      refine Seg.blk0 (f' := (15, [.ref l0, .int l1, .int (s.1 + 1), .int l3], [])) (h' := r2.2) rfl rfl ?_
      exact Seg.cont (fun _ q => Ev.w (mLw.k (mLw.k (mLw.k (mLw.k mLw.nil)))) q)
theorem s273 (h : mH) (l0 : Nat) (l1 : Int32) : Seg 273 (0, [.ref l0, .int l1, .retAddr 0, .retAddr 0], []) h (f273 h l0 l1) (fun (q : Int32 × mH) (res : Option Value × mH) => res = (some (.int q.1), q.2)) := by
  unfold f273
  refine Seg.call (f1 := (1, [.ref l0, .int l1, .retAddr 0, .retAddr 0], [.ref l0])) (h1 := h) (cv := fun _ => none) rfl rfl rfl rfl (s207 h l0) (fun r1 => ?_)
  refine Seg.blk (f' := (15, [.ref l0, .int l1, .int 0, .int (((1 : Int32) <<< ((mI r1.2 l0 24) &&& (31 : Int32))) - 1)], [])) (h' := r1.2) rfl rfl ?_
  exact Seg.w (mLw.k (mLw.k (mLw.k (mLw.k mLw.nil)))) (s273_15 l0 l1 (((1 : Int32) <<< ((mI r1.2 l0 24) &&& (31 : Int32))) - 1) mFuel (0, r1.2))
theorem s274_96 (h : mH) (q0 : Int32) : Seg 274 (96, [.retAddr 0, .retAddr 0, .retAddr 0, .retAddr 0, .retAddr 0, .retAddr 0, .retAddr 0], [.int q0]) h (f274_96 h q0) (fun (q : Int32) (res : Option Value × mH) => res = (some (.int q), h)) := by
  unfold f274_96
  exact Seg.ret (f1 := (96, [.retAddr 0, .retAddr 0, .retAddr 0, .retAddr 0, .retAddr 0, .retAddr 0, .retAddr 0], [.int q0])) (h1 := h) rfl rfl rfl rfl (fun _ q => q)
theorem s274_73 (h : mH) (l0 : Nat) (l1 : Int32) (l3 : Int32) (l4 : Int32) (l5 : Int32) (q0 : Int32) : Seg 274 (73, [.ref l0, .int l1, .retAddr 0, .int l3, .int l4, .int l5, .retAddr 0], [.int q0]) h (f274_73 h l0 l1 l3 l4 l5 q0) (Sum.elim (fun s : (Int32 × Int32 × Int32) => Ev 274 (7, [.ref l0, .int l1, .int s.1, .int s.2.1, .int s.2.2, .retAddr 0, .retAddr 0], []) h) (fun (q : Int32) (res : Option Value × mH) => res = (some (.int q), h))) := by
  unfold f274_73
  refine Seg.callP (f1 := (77, [.ref l0, .int l1, .int q0, .int l3, .int l4, .int l5, .retAddr 0], [.int l5, .int l3])) (h1 := h) (cv := fun r => some (.int r)) rfl rfl rfl rfl (s196 h l3 l5) (fun r1 => ?_)
  refine Seg.blk0 (f' := (7, [.ref l0, .int l1, .int q0, .int r1, .int (l4 + 1), .int l5, .retAddr 0], [])) (h' := h) rfl rfl ?_
  exact Seg.cont (fun _ q => Ev.w (mLw.k (mLw.k (mLw.k (mLw.k (mLw.k (mLw.u (mLw.k mLw.nil))))))) q)
theorem s274_52 (h : mH) (l0 : Nat) (l1 : Int32) (l2 : Int32) (l3 : Int32) (l4 : Int32) (l6 : Int32) (q0 : Int32) (q1 : Int32) : Seg 274 (52, [.ref l0, .int l1, .int l2, .int l3, .int l4, .retAddr 0, .int l6], [.int q1, .int q0]) h (f274_52 h l0 l1 l2 l3 l4 l6 q0 q1) (Sum.elim (fun s : (Int32 × Int32) => Ev 274 (22, [.ref l0, .int l1, .int l2, .int l3, .int l4, .int s.1, .int s.2], []) h) (Sum.elim (fun s : (Int32 × Int32 × Int32) => Ev 274 (7, [.ref l0, .int l1, .int s.1, .int s.2.1, .int s.2.2, .retAddr 0, .retAddr 0], []) h) (fun (q : Int32) (res : Option Value × mH) => res = (some (.int q), h)))) := by
  unfold f274_52
  refine Seg.blk0 (f' := (22, [.ref l0, .int l1, .int l2, .int l3, .int l4, .int (q0 + q1), .int (l6 + 1)], [])) (h' := h) rfl rfl ?_
  exact Seg.cont (fun _ q => Ev.w (mLw.k (mLw.k (mLw.k (mLw.k (mLw.k (mLw.k (mLw.k mLw.nil))))))) q)
theorem s274_22 (h : mH) (l0 : Nat) (l1 : Int32) (l2 : Int32) (l3 : Int32) (l4 : Int32) : ∀ (n : Nat) (s : (Int32 × Int32)), Seg 274 (22, [.ref l0, .int l1, .int l2, .int l3, .int l4, .int s.1, .int s.2], []) h (mLoop (f274_22 h l0 l1 l2 l3 l4) n s) (Sum.elim (fun s : (Int32 × Int32 × Int32) => Ev 274 (7, [.ref l0, .int l1, .int s.1, .int s.2.1, .int s.2.2, .retAddr 0, .retAddr 0], []) h) (fun (q : Int32) (res : Option Value × mH) => res = (some (.int q), h))) := by
  refine Seg.loop (F := fun s : (Int32 × Int32) => (22, [.ref l0, .int l1, .int l2, .int l3, .int l4, .int s.1, .int s.2], [])) (H := fun s : (Int32 × Int32) => h) (fun s => ?_)
  show Seg 274 (22, [.ref l0, .int l1, .int l2, .int l3, .int l4, .int s.1, .int s.2], []) h _ (Sum.elim (fun s : (Int32 × Int32) => Ev 274 (22, [.ref l0, .int l1, .int l2, .int l3, .int l4, .int s.1, .int s.2], []) h) (Sum.elim (fun s : (Int32 × Int32 × Int32) => Ev 274 (7, [.ref l0, .int l1, .int s.1, .int s.2.1, .int s.2.2, .retAddr 0, .retAddr 0], []) h) (fun (q : Int32) (res : Option Value × mH) => res = (some (.int q), h))))
  unfold f274_22
  refine Seg.blk (f' := (if ((mI h l0 24) : Int32) ≤ s.2 then 61 else 31, [.ref l0, .int l1, .int l2, .int l3, .int l4, .int s.1, .int s.2], [])) (h' := h) rfl rfl ?_
  refine Seg.ite (fun _ => ?_) (fun _ => ?_)
  · refine Seg.x ?_
    refine Seg.blk0 (f' := (if (s.1 : Int32) ≤ l3 then 72 else 67, [.ref l0, .int l1, .int l2, .int l3, .int l4, .int s.1, .int s.2], [])) (h' := h) rfl rfl ?_
    refine Seg.ite (fun _ => ?_) (fun _ => ?_)
    · refine Seg.blk0 (f' := (73, [.ref l0, .int l1, .int l2, .int l3, .int l4, .int s.1, .int s.2], [.int l2])) (h' := h) rfl rfl ?_
      exact Seg.w (mLw.k (mLw.k (mLw.u (mLw.k (mLw.k (mLw.k (mLw.u mLw.nil))))))) (s274_73 h l0 l1 l3 l4 s.1 l2)
    · refine Seg.blk0 (f' := (73, [.ref l0, .int l1, .int l2, .int l3, .int l4, .int s.1, .int s.2], [.int l4])) (h' := h) rfl rfl ?_
      exact Seg.w (mLw.k (mLw.k (mLw.u (mLw.k (mLw.k (mLw.k (mLw.u mLw.nil))))))) (s274_73 h l0 l1 l3 l4 s.1 l4)
  · refine Seg.callP (f1 := (36, [.ref l0, .int l1, .int l2, .int l3, .int l4, .int s.1, .int s.2], [.int s.2, .ref l0, .int s.1])) (h1 := h) (cv := fun r => some (.int r)) rfl rfl rfl rfl (s271 h l0 s.2) (fun r2 => ?_)
    refine Seg.callP (f1 := (41, [.ref l0, .int l1, .int l2, .int l3, .int l4, .int s.1, .int s.2], [.int l4, .int r2, .int s.1])) (h1 := h) (cv := fun r => some (.int r)) rfl rfl rfl rfl (s221 h r2 l4) (fun r3 => ?_)
    refine Seg.blk0 (f' := (if (r3 : Int32) = 0 then 51 else 47, [.ref l0, .int l1, .int l2, .int l3, .int l4, .int s.1, .int s.2], [.int s.1])) (h' := h) rfl rfl ?_
    refine Seg.ite (fun _ => ?_) (fun _ => ?_)
    · refine Seg.blk0 (f' := (52, [.ref l0, .int l1, .int l2, .int l3, .int l4, .int s.1, .int s.2], [.int 0, .int s.1])) (h' := h) rfl rfl ?_
      exact Seg.w (mLw.k (mLw.k (mLw.k (mLw.k (mLw.k (mLw.u (mLw.k mLw.nil))))))) (s274_52 h l0 l1 l2 l3 l4 s.2 s.1 0)
    · refine Seg.blk0 (f' := (52, [.ref l0, .int l1, .int l2, .int l3, .int l4, .int s.1, .int s.2], [.int 1, .int s.1])) (h' := h) rfl rfl ?_
      exact Seg.w (mLw.k (mLw.k (mLw.k (mLw.k (mLw.k (mLw.u (mLw.k mLw.nil))))))) (s274_52 h l0 l1 l2 l3 l4 s.2 s.1 1)
theorem s274_7 (h : mH) (l0 : Nat) (l1 : Int32) : ∀ (n : Nat) (s : (Int32 × Int32 × Int32)), Seg 274 (7, [.ref l0, .int l1, .int s.1, .int s.2.1, .int s.2.2, .retAddr 0, .retAddr 0], []) h (mLoop (f274_7 h l0 l1) n s) (fun (q : Int32) (res : Option Value × mH) => res = (some (.int q), h)) := by
  refine Seg.loop (F := fun s : (Int32 × Int32 × Int32) => (7, [.ref l0, .int l1, .int s.1, .int s.2.1, .int s.2.2, .retAddr 0, .retAddr 0], [])) (H := fun s : (Int32 × Int32 × Int32) => h) (fun s => ?_)
  show Seg 274 (7, [.ref l0, .int l1, .int s.1, .int s.2.1, .int s.2.2, .retAddr 0, .retAddr 0], []) h _ (Sum.elim (fun s : (Int32 × Int32 × Int32) => Ev 274 (7, [.ref l0, .int l1, .int s.1, .int s.2.1, .int s.2.2, .retAddr 0, .retAddr 0], []) h) (fun (q : Int32) (res : Option Value × mH) => res = (some (.int q), h)))
  unfold f274_7
  refine Seg.blk (f' := (if ((mI h l0 24) : Int32) ≤ s.2.2 then 87 else 16, [.ref l0, .int l1, .int s.1, .int s.2.1, .int s.2.2, .retAddr 0, .retAddr 0], [])) (h' := h) rfl rfl ?_
  refine Seg.ite (fun _ => ?_) (fun _ => ?_)
  · refine Seg.x ?_
    refine Seg.blk0 (f' := (if (l1 : Int32) = 0 then 95 else 91, [.ref l0, .int l1, .int s.1, .int s.2.1, .int s.2.2, .retAddr 0, .retAddr 0], [])) (h' := h) rfl rfl ?_
    refine Seg.ite (fun _ => ?_) (fun _ => ?_)
    · refine Seg.blk0 (f' := (96, [.ref l0, .int l1, .int s.1, .int s.2.1, .int s.2.2, .retAddr 0, .retAddr 0], [.int s.1])) (h' := h) rfl rfl ?_
      exact Seg.w (mLw.u (mLw.u (mLw.u (mLw.u (mLw.u (mLw.k (mLw.k mLw.nil))))))) (s274_96 h s.1)
    · refine Seg.blk0 (f' := (96, [.ref l0, .int l1, .int s.1, .int s.2.1, .int s.2.2, .retAddr 0, .retAddr 0], [.int s.2.1])) (h' := h) rfl rfl ?_
      exact Seg.w (mLw.u (mLw.u (mLw.u (mLw.u (mLw.u (mLw.k (mLw.k mLw.nil))))))) (s274_96 h s.2.1)
  · refine Seg.blk0 (f' := (22, [.ref l0, .int l1, .int s.1, .int s.2.1, .int s.2.2, .int 0, .int 0], [])) (h' := h) rfl rfl ?_
    exact Seg.w (mLw.k (mLw.k (mLw.k (mLw.k (mLw.k (mLw.k (mLw.k mLw.nil))))))) (s274_22 h l0 l1 s.1 s.2.1 s.2.2 mFuel (0, 0))
theorem s274 (h : mH) (l0 : Nat) (l1 : Int32) : Seg 274 (0, [.ref l0, .int l1, .retAddr 0, .retAddr 0, .retAddr 0, .retAddr 0, .retAddr 0], []) h (f274 h l0 l1) (fun (q : Int32) (res : Option Value × mH) => res = (some (.int q), h)) := by
  unfold f274
  refine Seg.blk0 (f' := (7, [.ref l0, .int l1, .int (-1), .int (-1), .int 0, .retAddr 0, .retAddr 0], [])) (h' := h) rfl rfl ?_
  exact Seg.w (mLw.k (mLw.k (mLw.k (mLw.k (mLw.k (mLw.k (mLw.k mLw.nil))))))) (s274_7 h l0 l1 mFuel ((-1), (-1), 0))
theorem s275_73 (h : mH) (l0 : Nat) (l1 : Int32) (l2 : Int32) (l3 : Int32) : Seg 275 (73, [.ref l0, .int l1, .int l2, .int l3], []) h (f275_73 h l0 l1 l2 l3) (Sum.elim (fun s : (Int32 × mH) => Ev 275 (33, [.ref l0, .int l1, .int l2, .int s.1], []) s.2) (Sum.elim (fun s : (Int32 × mH) => Ev 275 (11, [.ref l0, .int l1, .int s.1, .retAddr 0], []) s.2) (fun (q : Int32 × mH) (res : Option Value × mH) => res = (some (.int q.1), q.2)))) := by
  unfold f275_73
  refine Seg.blk0 (f' := (33, [.ref l0, .int l1, .int l2, .int (l3 + 1)], [])) (h' := h) rfl rfl ?_
  exact Seg.cont (fun _ q => Ev.w (mLw.k (mLw.k (mLw.k (mLw.k mLw.nil)))) q)
theorem s275_33 (l0 : Nat) (l1 : Int32) (l2 : Int32) : ∀ (n : Nat) (s : (Int32 × mH)), Seg 275 (33, [.ref l0, .int l1, .int l2, .int s.1], []) s.2 (mLoop (f275_33 l0 l1 l2) n s) (Sum.elim (fun s : (Int32 × mH) => Ev 275 (11, [.ref l0, .int l1, .int s.1, .retAddr 0], []) s.2) (fun (q : Int32 × mH) (res : Option Value × mH) => res = (some (.int q.1), q.2))) := by
  refine Seg.loop (F := fun s : (Int32 × mH) => (33, [.ref l0, .int l1, .int l2, .int s.1], [])) (H := fun s : (Int32 × mH) => s.2) (fun s => ?_)
  show Seg 275 (33, [.ref l0, .int l1, .int l2, .int s.1], []) s.2 _ (Sum.elim (fun s : (Int32 × mH) => Ev 275 (33, [.ref l0, .int l1, .int l2, .int s.1], []) s.2) (Sum.elim (fun s : (Int32 × mH) => Ev 275 (11, [.ref l0, .int l1, .int s.1, .retAddr 0], []) s.2) (fun (q : Int32 × mH) (res : Option Value × mH) => res = (some (.int q.1), q.2))))
  unfold f275_33
  refine Seg.blk (f' := (if ((mI s.2 l0 24) : Int32) ≤ s.1 then 79 else 41, [.ref l0, .int l1, .int l2, .int s.1], [])) (h' := s.2) rfl rfl ?_
  refine Seg.ite (fun _ => ?_) (fun _ => ?_)
  · refine Seg.x ?_
    refine Seg.blk0 (f' := (11, [.ref l0, .int l1, .int (l2 + (-1)), .int s.1], [])) (h' := s.2) rfl rfl ?_
    exact Seg.cont (fun _ q => Ev.w (mLw.k (mLw.k (mLw.k (mLw.u mLw.nil)))) q)
  · refine Seg.callP (f1 := (51, [.ref l0, .int l1, .int l2, .int s.1], [.int l2, .int s.1, .ref l0, .int (mI s.2 ((mR s.2 l0 46).getD 0) (Int32.toNatClampNeg l2)), .int l2, .ref ((mR s.2 l0 46).getD 0)])) (h1 := s.2) (cv := fun r => some (.int r)) rfl rfl rfl rfl (s220 s.2 l0 s.1 l2) (fun r1 => ?_)
    refine Seg.blk0 (f' := (if (r1 : Int32) = 0 then 70 else 57, [.ref l0, .int l1, .int l2, .int s.1], [.int (mI s.2 ((mR s.2 l0 46).getD 0) (Int32.toNatClampNeg l2)), .int l2, .ref ((mR s.2 l0 46).getD 0)])) (h' := s.2) rfl rfl ?_
    refine Seg.ite (fun _ => ?_) (fun _ => ?_)
    · refine Seg.blk0 (f' := (71, [.ref l0, .int l1, .int l2, .int s.1], [.int 0, .int (mI s.2 ((mR s.2 l0 46).getD 0) (Int32.toNatClampNeg l2)), .int l2, .ref ((mR s.2 l0 46).getD 0)])) (h' := s.2) rfl rfl ?_
      refine Seg.blk (f' := (73, [.ref l0, .int l1, .int l2, .int s.1], [])) (h' := (mSI s.2 ((mR s.2 l0 46).getD 0) (Int32.toNatClampNeg l2) ((mI s.2 ((mR s.2 l0 46).getD 0) (Int32.toNatClampNeg l2)) + 0))) rfl rfl ?_
      refine Seg.blk0 (f' := (33, [.ref l0, .int l1, .int l2, .int (s.1 + 1)], [])) (h' := (mSI s.2 ((mR s.2 l0 46).getD 0) (Int32.toNatClampNeg l2) ((mI s.2 ((mR s.2 l0 46).getD 0) (Int32.toNatClampNeg l2)) + 0))) rfl rfl ?_
      exact Seg.cont (fun _ q => Ev.w (mLw.k (mLw.k (mLw.k (mLw.k mLw.nil)))) q)
    · refine Seg.blk (f' := (71, [.ref l0, .int l1, .int l2, .int s.1], [.int (mI s.2 ((mR s.2 l0 46).getD 0) (Int32.toNatClampNeg (l2 ||| ((1 : Int32) <<< (s.1 &&& (31 : Int32)))))), .int (mI s.2 ((mR s.2 l0 46).getD 0) (Int32.toNatClampNeg l2)), .int l2, .ref ((mR s.2 l0 46).getD 0)])) (h' := s.2) rfl rfl ?_
      refine Seg.blk (f' := (73, [.ref l0, .int l1, .int l2, .int s.1], [])) (h' := (mSI s.2 ((mR s.2 l0 46).getD 0) (Int32.toNatClampNeg l2) ((mI s.2 ((mR s.2 l0 46).getD 0) (Int32.toNatClampNeg l2)) + (mI s.2 ((mR s.2 l0 46).getD 0) (Int32.toNatClampNeg (l2 ||| ((1 : Int32) <<< (s.1 &&& (31 : Int32))))))))) rfl rfl ?_
      exact Seg.w (mLw.k (mLw.k (mLw.k (mLw.k mLw.nil)))) (s275_73 (mSI s.2 ((mR s.2 l0 46).getD 0) (Int32.toNatClampNeg l2) ((mI s.2 ((mR s.2 l0 46).getD 0) (Int32.toNatClampNeg l2)) + (mI s.2 ((mR s.2 l0 46).getD 0) (Int32.toNatClampNeg (l2 ||| ((1 : Int32) <<< (s.1 &&& (31 : Int32)))))))) l0 l1 l2 s.1)
theorem s275_11 (l0 : Nat) (l1 : Int32) : ∀ (n : Nat) (s : (Int32 × mH)), Seg 275 (11, [.ref l0, .int l1, .int s.1, .retAddr 0], []) s.2 (mLoop (f275_11 l0 l1) n s) (fun (q : Int32 × mH) (res : Option Value × mH) => res = (some (.int q.1), q.2)) := by
  refine Seg.loop (F := fun s : (Int32 × mH) => (11, [.ref l0, .int l1, .int s.1, .retAddr 0], [])) (H := fun s : (Int32 × mH) => s.2) (fun s => ?_)
  show Seg 275 (11, [.ref l0, .int l1, .int s.1, .retAddr 0], []) s.2 _ (Sum.elim (fun s : (Int32 × mH) => Ev 275 (11, [.ref l0, .int l1, .int s.1, .retAddr 0], []) s.2) (fun (q : Int32 × mH) (res : Option Value × mH) => res = (some (.int q.1), q.2)))
  unfold f275_11
  refine Seg.blk0 (f' := (if (s.1 : Int32) < 0 then 85 else 15, [.ref l0, .int l1, .int s.1, .retAddr 0], [])) (h' := s.2) rfl rfl ?_
  refine Seg.ite (fun _ => ?_) (fun _ => ?_)
  · refine Seg.x ?_
    exact Seg.ret (f1 := (91, [.ref l0, .int l1, .int s.1, .retAddr 0], [.int (mI s.2 ((mR s.2 l0 46).getD 0) (Int32.toNatClampNeg 0))])) (h1 := s.2) rfl rfl rfl rfl (fun _ q => q)
  · refine Seg.blk (f' := (if (s.1 : Int32) = l1 then 25 else 29, [.ref l0, .int l1, .int s.1, .retAddr 0], [.int s.1, .ref ((mR s.2 l0 46).getD 0)])) (h' := s.2) rfl rfl ?_
    refine Seg.ite (fun _ => ?_) (fun _ => ?_)
    · refine Seg.blk0 (f' := (30, [.ref l0, .int l1, .int s.1, .retAddr 0], [.int 1, .int s.1, .ref ((mR s.2 l0 46).getD 0)])) (h' := s.2) rfl rfl ?_
      refine Seg.blk (f' := (31, [.ref l0, .int l1, .int s.1, .retAddr 0], [])) (h' := (mSI s.2 ((mR s.2 l0 46).getD 0) (Int32.toNatClampNeg s.1) 1)) rfl rfl ?_
      refine Seg.blk0 (f' := (33, [.ref l0, .int l1, .int s.1, .int 0], [])) (h' := (mSI s.2 ((mR s.2 l0 46).getD 0) (Int32.toNatClampNeg s.1) 1)) rfl rfl ?_
      exact Seg.w (mLw.k (mLw.k (mLw.k (mLw.k mLw.nil)))) (s275_33 l0 l1 s.1 mFuel (0, (mSI s.2 ((mR s.2 l0 46).getD 0) (Int32.toNatClampNeg s.1) 1)))
    · refine Seg.blk0 (f' := (30, [.ref l0, .int l1, .int s.1, .retAddr 0], [.int 0, .int s.1, .ref ((mR s.2 l0 46).getD 0)])) (h' := s.2) rfl rfl ?_
      refine Seg.blk (f' := (31, [.ref l0, .int l1, .int s.1, .retAddr 0], [])) (h' := (mSI s.2 ((mR s.2 l0 46).getD 0) (Int32.toNatClampNeg s.1) 0)) rfl rfl ?_
      refine Seg.blk0 (f' := (33, [.ref l0, .int l1, .int s.1, .int 0], [])) (h' := (mSI s.2 ((mR s.2 l0 46).getD 0) (Int32.toNatClampNeg s.1) 0)) rfl rfl ?_
      exact Seg.w (mLw.k (mLw.k (mLw.k (mLw.k mLw.nil)))) (s275_33 l0 l1 s.1 mFuel (0, (mSI s.2 ((mR s.2 l0 46).getD 0) (Int32.toNatClampNeg s.1) 0)))
theorem s275 (h : mH) (l0 : Nat) : Seg 275 (0, [.ref l0, .retAddr 0, .retAddr 0, .retAddr 0], []) h (f275 h l0) (fun (q : Int32 × mH) (res : Option Value × mH) => res = (some (.int q.1), q.2)) := by
  unfold f275
  refine Seg.blk (f' := (11, [.ref l0, .int (((1 : Int32) <<< ((mI h l0 24) &&& (31 : Int32))) - 1), .int (((1 : Int32) <<< ((mI h l0 24) &&& (31 : Int32))) - 1), .retAddr 0], [])) (h' := h) rfl rfl ?_
  exact Seg.w (mLw.k (mLw.k (mLw.k (mLw.k mLw.nil)))) (s275_11 l0 (((1 : Int32) <<< ((mI h l0 24) &&& (31 : Int32))) - 1) mFuel ((((1 : Int32) <<< ((mI h l0 24) &&& (31 : Int32))) - 1), h))
theorem s276_98 (h : mH) (q0 : Int32) : Seg 276 (98, [.retAddr 0, .retAddr 0, .retAddr 0, .retAddr 0, .retAddr 0, .retAddr 0, .retAddr 0], [.int q0]) h (f276_98 h q0) (fun (q : Int32) (res : Option Value × mH) => res = (some (.int q), h)) := by
  unfold f276_98
  exact Seg.ret (f1 := (98, [.retAddr 0, .retAddr 0, .retAddr 0, .retAddr 0, .retAddr 0, .retAddr 0, .retAddr 0], [.int q0])) (h1 := h) rfl rfl rfl rfl (fun _ q => q)
theorem s276_75 (h : mH) (l0 : Nat) (l1 : Int32) (l3 : Int32) (l4 : Int32) (l5 : Int32) (l6 : Int32) (q0 : Int32) : Seg 276 (75, [.ref l0, .int l1, .retAddr 0, .int l3, .int l4, .int l5, .int l6], [.int q0]) h (f276_75 h l0 l1 l3 l4 l5 l6 q0) (Sum.elim (fun s : (Int32 × Int32 × Int32) => Ev 276 (19, [.ref l0, .int l1, .int s.1, .int s.2.1, .int l4, .int s.2.2, .retAddr 0], []) h) (fun (q : Int32) (res : Option Value × mH) => res = (some (.int q), h))) := by
  unfold f276_75
  refine Seg.callP (f1 := (79, [.ref l0, .int l1, .int q0, .int l3, .int l4, .int l5, .int l6], [.int l6, .int l3])) (h1 := h) (cv := fun r => some (.int r)) rfl rfl rfl rfl (s195 h l3 l6) (fun r3 => ?_)
  refine Seg.blk0 (f' := (19, [.ref l0, .int l1, .int q0, .int r3, .int l4, .int (l5 + 1), .int l6], [])) (h' := h) rfl rfl ?_
  exact Seg.cont (fun _ q => Ev.w (mLw.k (mLw.k (mLw.k (mLw.k (mLw.k (mLw.k (mLw.u mLw.nil))))))) q)
theorem s276_61 (h : mH) (l0 : Nat) (l1 : Int32) (l2 : Int32) (l3 : Int32) (l4 : Int32) (l5 : Int32) (q0 : Int32) : Seg 276 (61, [.ref l0, .int l1, .int l2, .int l3, .int l4, .int l5, .retAddr 0], [.int q0]) h (f276_61 h l0 l1 l2 l3 l4 l5 q0) (Sum.elim (fun s : (Int32 × Int32 × Int32) => Ev 276 (19, [.ref l0, .int l1, .int s.1, .int s.2.1, .int l4, .int s.2.2, .retAddr 0], []) h) (fun (q : Int32) (res : Option Value × mH) => res = (some (.int q), h))) := by
  unfold f276_61
  refine Seg.blk0 (f' := (if (l3 : Int32) ≤ q0 then 74 else 69, [.ref l0, .int l1, .int l2, .int l3, .int l4, .int l5, .int q0], [])) (h' := h) rfl rfl ?_
  refine Seg.ite (fun _ => ?_) (fun _ => ?_)
  · refine Seg.blk0 (f' := (75, [.ref l0, .int l1, .int l2, .int l3, .int l4, .int l5, .int q0], [.int l2])) (h' := h) rfl rfl ?_
    exact Seg.w (mLw.k (mLw.k (mLw.u (mLw.k (mLw.k (mLw.k (mLw.k mLw.nil))))))) (s276_75 h l0 l1 l3 l4 l5 q0 l2)
  · refine Seg.blk0 (f' := (75, [.ref l0, .int l1, .int l2, .int l3, .int l4, .int l5, .int q0], [.int l5])) (h' := h) rfl rfl ?_
    exact Seg.w (mLw.k (mLw.k (mLw.u (mLw.k (mLw.k (mLw.k (mLw.k mLw.nil))))))) (s276_75 h l0 l1 l3 l4 l5 q0 l5)
theorem s276_19 (h : mH) (l0 : Nat) (l1 : Int32) (l4 : Int32) : ∀ (n : Nat) (s : (Int32 × Int32 × Int32)), Seg 276 (19, [.ref l0, .int l1, .int s.1, .int s.2.1, .int l4, .int s.2.2, .retAddr 0], []) h (mLoop (f276_19 h l0 l1 l4) n s) (fun (q : Int32) (res : Option Value × mH) => res = (some (.int q), h)) := by
  refine Seg.loop (F := fun s : (Int32 × Int32 × Int32) => (19, [.ref l0, .int l1, .int s.1, .int s.2.1, .int l4, .int s.2.2, .retAddr 0], [])) (H := fun s : (Int32 × Int32 × Int32) => h) (fun s => ?_)
  show Seg 276 (19, [.ref l0, .int l1, .int s.1, .int s.2.1, .int l4, .int s.2.2, .retAddr 0], []) h _ (Sum.elim (fun s : (Int32 × Int32 × Int32) => Ev 276 (19, [.ref l0, .int l1, .int s.1, .int s.2.1, .int l4, .int s.2.2, .retAddr 0], []) h) (fun (q : Int32) (res : Option Value × mH) => res = (some (.int q), h)))
  unfold f276_19
  refine Seg.blk0 (f' := (if ((l4 >>> (1 &&& (31 : Int32))) : Int32) < s.2.2 then 89 else 28, [.ref l0, .int l1, .int s.1, .int s.2.1, .int l4, .int s.2.2, .retAddr 0], [])) (h' := h) rfl rfl ?_
  refine Seg.ite (fun _ => ?_) (fun _ => ?_)
  · refine Seg.x ?_
    refine Seg.blk0 (f' := (if (l1 : Int32) = 0 then 97 else 93, [.ref l0, .int l1, .int s.1, .int s.2.1, .int l4, .int s.2.2, .retAddr 0], [])) (h' := h) rfl rfl ?_
    refine Seg.ite (fun _ => ?_) (fun _ => ?_)
    · refine Seg.blk0 (f' := (98, [.ref l0, .int l1, .int s.1, .int s.2.1, .int l4, .int s.2.2, .retAddr 0], [.int s.2.1])) (h' := h) rfl rfl ?_
      exact Seg.w (mLw.u (mLw.u (mLw.u (mLw.u (mLw.u (mLw.u (mLw.k mLw.nil))))))) (s276_98 h s.2.1)
    · refine Seg.blk0 (f' := (98, [.ref l0, .int l1, .int s.1, .int s.2.1, .int l4, .int s.2.2, .retAddr 0], [.int s.1])) (h' := h) rfl rfl ?_
      exact Seg.w (mLw.u (mLw.u (mLw.u (mLw.u (mLw.u (mLw.u (mLw.k mLw.nil))))))) (s276_98 h s.1)
  · refine Seg.callP (f1 := (31, [.ref l0, .int l1, .int s.1, .int s.2.1, .int l4, .int s.2.2, .retAddr 0], [.int s.2.2, .ref l0])) (h1 := h) (cv := fun r => some (.int r)) rfl rfl rfl rfl (s243 h l0 s.2.2) (fun r1 => ?_)
    refine Seg.callP (f1 := (42, [.ref l0, .int l1, .int s.1, .int s.2.1, .int l4, .int s.2.2, .retAddr 0], [.int (l4 &&& (s.2.2 ^^^ (-1))), .ref l0, .int r1])) (h1 := h) (cv := fun r => some (.int r)) rfl rfl rfl rfl (s243 h l0 (l4 &&& (s.2.2 ^^^ (-1)))) (fun r2 => ?_)
    refine Seg.blk0 (f' := (if (0 : Int32) ≤ (r1 - r2) then 59 else 53, [.ref l0, .int l1, .int s.1, .int s.2.1, .int l4, .int s.2.2, .int (r1 - r2)], [])) (h' := h) rfl rfl ?_
    refine Seg.ite (fun _ => ?_) (fun _ => ?_)
    · refine Seg.blk0 (f' := (61, [.ref l0, .int l1, .int s.1, .int s.2.1, .int l4, .int s.2.2, .int (r1 - r2)], [.int (r1 - r2)])) (h' := h) rfl rfl ?_
      exact Seg.w (mLw.k (mLw.k (mLw.k (mLw.k (mLw.k (mLw.k (mLw.u mLw.nil))))))) (s276_61 h l0 l1 s.1 s.2.1 l4 s.2.2 (r1 - r2))
    · refine Seg.blk0 (f' := (61, [.ref l0, .int l1, .int s.1, .int s.2.1, .int l4, .int s.2.2, .int (r1 - r2)], [.int (-(r1 - r2))])) (h' := h) rfl rfl ?_
      exact Seg.w (mLw.k (mLw.k (mLw.k (mLw.k (mLw.k (mLw.k (mLw.u mLw.nil))))))) (s276_61 h l0 l1 s.1 s.2.1 l4 s.2.2 (-(r1 - r2)))
theorem s276 (h : mH) (l0 : Nat) (l1 : Int32) : Seg 276 (0, [.ref l0, .int l1, .retAddr 0, .retAddr 0, .retAddr 0, .retAddr 0, .retAddr 0], []) h (f276 h l0 l1) (fun (q : Int32) (res : Option Value × mH) => res = (some (.int q), h)) := by
  unfold f276
  refine Seg.blk (f' := (19, [.ref l0, .int l1, .int 0, .int 1000000, .int (((1 : Int32) <<< ((mI h l0 24) &&& (31 : Int32))) - 1), .int 0, .retAddr 0], [])) (h' := h) rfl rfl ?_
  exact Seg.w (mLw.k (mLw.k (mLw.k (mLw.k (mLw.k (mLw.k (mLw.k mLw.nil))))))) (s276_19 h l0 l1 (((1 : Int32) <<< ((mI h l0 24) &&& (31 : Int32))) - 1) mFuel (0, 1000000, 0))
theorem s270_120 (h : mH) (l0 : Nat) (l2 : Int32) : Seg 270 (120, [.ref l0, .retAddr 0, .int l2, .retAddr 0], []) h (f270_120 h l0 l2) (fun (q : Int32 × mH) (res : Option Value × mH) => res = (some (.int q.1), q.2)) := by
  unfold f270_120
  refine Seg.blk0 (f' := (if (l2 : Int32) = 1 then 126 else 130, [.ref l0, .retAddr 0, .int l2, .retAddr 0], [.ref l0])) (h' := h) rfl rfl ?_
  refine Seg.ite (fun _ => ?_) (fun _ => ?_)
  · refine Seg.blk0 (f' := (131, [.ref l0, .retAddr 0, .int l2, .retAddr 0], [.int 1, .ref l0])) (h' := h) rfl rfl ?_
    refine Seg.call (f1 := (131, [.ref l0, .retAddr 0, .int l2, .retAddr 0], [.int 1, .ref l0])) (h1 := h) (cv := fun r => some (.int r)) rfl rfl rfl rfl (s273 h l0 1) (fun r4 => ?_)
    exact Seg.ret (f1 := (134, [.ref l0, .retAddr 0, .int l2, .retAddr 0], [.int r4.1])) (h1 := r4.2) rfl rfl rfl rfl (fun _ q => q)
  · refine Seg.blk0 (f' := (131, [.ref l0, .retAddr 0, .int l2, .retAddr 0], [.int 0, .ref l0])) (h' := h) rfl rfl ?_
    refine Seg.call (f1 := (131, [.ref l0, .retAddr 0, .int l2, .retAddr 0], [.int 0, .ref l0])) (h1 := h) (cv := fun r => some (.int r)) rfl rfl rfl rfl (s273 h l0 0) (fun r5 => ?_)
    exact Seg.ret (f1 := (134, [.ref l0, .retAddr 0, .int l2, .retAddr 0], [.int r5.1])) (h1 := r5.2) rfl rfl rfl rfl (fun _ q => q)
theorem s270_135 (h : mH) (l0 : Nat) (l2 : Int32) : Seg 270 (135, [.ref l0, .retAddr 0, .int l2, .retAddr 0], []) h (f270_135 h l0 l2) (fun (q : Int32 × mH) (res : Option Value × mH) => res = (some (.int q.1), q.2)) := by
  unfold f270_135
  refine Seg.blk0 (f' := (if (l2 : Int32) = 3 then 141 else 145, [.ref l0, .retAddr 0, .int l2, .retAddr 0], [.ref l0])) (h' := h) rfl rfl ?_
  refine Seg.ite (fun _ => ?_) (fun _ => ?_)
  · refine Seg.blk0 (f' := (146, [.ref l0, .retAddr 0, .int l2, .retAddr 0], [.int 1, .ref l0])) (h' := h) rfl rfl ?_
    refine Seg.callP (f1 := (146, [.ref l0, .retAddr 0, .int l2, .retAddr 0], [.int 1, .ref l0])) (h1 := h) (cv := fun r => some (.int r)) rfl rfl rfl rfl (s274 h l0 1) (fun r6 => ?_)
    exact Seg.ret (f1 := (149, [.ref l0, .retAddr 0, .int l2, .retAddr 0], [.int r6])) (h1 := h) rfl rfl rfl rfl (fun _ q => q)
  · refine Seg.blk0 (f' := (146, [.ref l0, .retAddr 0, .int l2, .retAddr 0], [.int 0, .ref l0])) (h' := h) rfl rfl ?_
    refine Seg.callP (f1 := (146, [.ref l0, .retAddr 0, .int l2, .retAddr 0], [.int 0, .ref l0])) (h1 := h) (cv := fun r => some (.int r)) rfl rfl rfl rfl (s274 h l0 0) (fun r7 => ?_)
    exact Seg.ret (f1 := (149, [.ref l0, .retAddr 0, .int l2, .retAddr 0], [.int r7])) (h1 := h) rfl rfl rfl rfl (fun _ q => q)
theorem s270_162 (h : mH) (q0 : Int32) : Seg 270 (162, [.retAddr 0, .retAddr 0, .retAddr 0, .retAddr 0], [.int q0]) h (f270_162 h q0) (fun (q : Int32 × mH) (res : Option Value × mH) => res = (some (.int q.1), q.2)) := by
  unfold f270_162
  exact Seg.ret (f1 := (162, [.retAddr 0, .retAddr 0, .retAddr 0, .retAddr 0], [.int q0])) (h1 := h) rfl rfl rfl rfl (fun _ q => q)
theorem s270_168 (h : mH) (l0 : Nat) (l2 : Int32) : Seg 270 (168, [.ref l0, .retAddr 0, .int l2, .retAddr 0], []) h (f270_168 h l0 l2) (fun (q : Int32 × mH) (res : Option Value × mH) => res = (some (.int q.1), q.2)) := by
  unfold f270_168
  refine Seg.blk0 (f' := (if (l2 : Int32) = 7 then 175 else 179, [.ref l0, .retAddr 0, .int l2, .retAddr 0], [.ref l0])) (h' := h) rfl rfl ?_
  refine Seg.ite (fun _ => ?_) (fun _ => ?_)
  · refine Seg.blk0 (f' := (180, [.ref l0, .retAddr 0, .int l2, .retAddr 0], [.int 1, .ref l0])) (h' := h) rfl rfl ?_
    refine Seg.callP (f1 := (180, [.ref l0, .retAddr 0, .int l2, .retAddr 0], [.int 1, .ref l0])) (h1 := h) (cv := fun r => some (.int r)) rfl rfl rfl rfl (s276 h l0 1) (fun r9 => ?_)
    exact Seg.ret (f1 := (183, [.ref l0, .retAddr 0, .int l2, .retAddr 0], [.int r9])) (h1 := h) rfl rfl rfl rfl (fun _ q => q)
  · refine Seg.blk0 (f' := (180, [.ref l0, .retAddr 0, .int l2, .retAddr 0], [.int 0, .ref l0])) (h' := h) rfl rfl ?_
    refine Seg.callP (f1 := (180, [.ref l0, .retAddr 0, .int l2, .retAddr 0], [.int 0, .ref l0])) (h1 := h) (cv := fun r => some (.int r)) rfl rfl rfl rfl (s276 h l0 0) (fun r10 => ?_)
    exact Seg.ret (f1 := (183, [.ref l0, .retAddr 0, .int l2, .retAddr 0], [.int r10])) (h1 := h) rfl rfl rfl rfl (fun _ q => q)
theorem s270_73 (h : mH) (l0 : Nat) (l2 : Int32) (q0 : Int32) : Seg 270 (73, [.ref l0, .retAddr 0, .int l2, .retAddr 0], [.int q0]) h (f270_73 h l0 l2 q0) (fun (q : Int32 × mH) (res : Option Value × mH) => res = (some (.int q.1), q.2)) := by
  unfold f270_73
  refine Seg.blk0 (f' := (if (l2 : Int32) = 0 then 120 else if (l2 : Int32) = 1 then 120 else if (l2 : Int32) = 2 then 135 else if (l2 : Int32) = 3 then 135 else if (l2 : Int32) = 4 then 150 else if (l2 : Int32) = 5 then 163 else if (l2 : Int32) = 6 then 168 else if (l2 : Int32) = 7 then 168 else 184, [.ref l0, .retAddr 0, .int l2, .int q0], [])) (h' := h) rfl rfl ?_
  refine Seg.ite (fun _ => ?_) (fun _ => ?_)
  · exact Seg.w (mLw.k (mLw.k (mLw.k (mLw.u mLw.nil)))) (s270_120 h l0 l2)
  refine Seg.ite (fun _ => ?_) (fun _ => ?_)
  · exact Seg.w (mLw.k (mLw.k (mLw.k (mLw.u mLw.nil)))) (s270_120 h l0 l2)
  refine Seg.ite (fun _ => ?_) (fun _ => ?_)
  · exact Seg.w (mLw.k (mLw.k (mLw.k (mLw.u mLw.nil)))) (s270_135 h l0 l2)
  refine Seg.ite (fun _ => ?_) (fun _ => ?_)
  · exact Seg.w (mLw.k (mLw.k (mLw.k (mLw.u mLw.nil)))) (s270_135 h l0 l2)
  refine Seg.ite (fun _ => ?_) (fun _ => ?_)
  · refine Seg.blk0 (f' := (if (q0 : Int32) < 1000000 then 161 else 157, [.ref l0, .retAddr 0, .int l2, .int q0], [])) (h' := h) rfl rfl ?_
    refine Seg.ite (fun _ => ?_) (fun _ => ?_)
    · refine Seg.blk0 (f' := (162, [.ref l0, .retAddr 0, .int l2, .int q0], [.int q0])) (h' := h) rfl rfl ?_
      exact Seg.w (mLw.u (mLw.k (mLw.u (mLw.u mLw.nil)))) (s270_162 h q0)
    · refine Seg.blk0 (f' := (162, [.ref l0, .retAddr 0, .int l2, .int q0], [.int (-1)])) (h' := h) rfl rfl ?_
      exact Seg.w (mLw.u (mLw.k (mLw.u (mLw.u mLw.nil)))) (s270_162 h (-1))
  refine Seg.ite (fun _ => ?_) (fun _ => ?_)
  · refine Seg.call (f1 := (164, [.ref l0, .retAddr 0, .int l2, .int q0], [.ref l0])) (h1 := h) (cv := fun r => some (.int r)) rfl rfl rfl rfl (s275 h l0) (fun r8 => ?_)
    exact Seg.ret (f1 := (167, [.ref l0, .retAddr 0, .int l2, .int q0], [.int r8.1])) (h1 := r8.2) rfl rfl rfl rfl (fun _ q => q)
  refine Seg.ite (fun _ => ?_) (fun _ => ?_)
  · exact Seg.w (mLw.k (mLw.k (mLw.k (mLw.u mLw.nil)))) (s270_168 h l0 l2)
  refine Seg.ite (fun _ => ?_) (fun _ => ?_)
  · exact Seg.w (mLw.k (mLw.k (mLw.k (mLw.u mLw.nil)))) (s270_168 h l0 l2)
  · exact Seg.ret (f1 := (186, [.ref l0, .retAddr 0, .int l2, .int q0], [.int (-2)])) (h1 := h) rfl rfl rfl rfl (fun _ q => q)
theorem s270_46 (h : mH) (q0 : Int32) : Seg 270 (46, [.retAddr 0, .retAddr 0, .retAddr 0, .retAddr 0], [.int q0]) h (f270_46 h q0) (fun (q : Int32 × mH) (res : Option Value × mH) => res = (some (.int q.1), q.2)) := by
  unfold f270_46
  exact Seg.ret (f1 := (46, [.retAddr 0, .retAddr 0, .retAddr 0, .retAddr 0], [.int q0])) (h1 := h) rfl rfl rfl rfl (fun _ q => q)
theorem s270 (h : mH) (l0 : Nat) (l1 : Int32) (l2 : Int32) : Seg 270 (0, [.ref l0, .int l1, .int l2, .retAddr 0], []) h (f270 h l0 l1 l2) (fun (q : Int32 × mH) (res : Option Value × mH) => res = (some (.int q.1), q.2)) := by
  unfold f270
  refine Seg.blk (f' := (5, [.ref l0, .int l1, .int l2, .retAddr 0], [])) (h' := (mSI h l0 0 0)) rfl rfl ?_
  refine Seg.call (f1 := (7, [.ref l0, .int l1, .int l2, .retAddr 0], [.int l1, .ref l0])) (h1 := (mSI h l0 0 0)) (cv := fun r => some (.int r)) rfl rfl rfl rfl (s205 (mSI h l0 0 0) l0 l1) (fun r1 => ?_)
  refine Seg.blk0 (f' := (if (r1.1 : Int32) = 0 then 13 else 16, [.ref l0, .int l1, .int l2, .retAddr 0], [])) (h' := r1.2) rfl rfl ?_
  refine Seg.ite (fun _ => ?_) (fun _ => ?_)
  · exact Seg.ret (f1 := (15, [.ref l0, .int l1, .int l2, .retAddr 0], [.int (-2)])) (h1 := r1.2) rfl rfl rfl rfl (fun _ q => q)
  · refine Seg.blk0 (f' := (if (l2 : Int32) < 10 then 47 else 22, [.ref l0, .int l1, .int l2, .retAddr 0], [])) (h' := r1.2) rfl rfl ?_
    refine Seg.ite (fun _ => ?_) (fun _ => ?_)
    · refine Seg.blk0 (f' := (if (l2 : Int32) = 4 then 52 else 72, [.ref l0, .int l1, .int l2, .retAddr 0], [])) (h' := r1.2) rfl rfl ?_
      refine Seg.ite (fun _ => ?_) (fun _ => ?_)
      · refine Seg.callP (f1 := (63, [.ref l0, .int l1, .int l2, .retAddr 0], [.int 2, .ref l0, .int (((1 : Int32) <<< ((mI r1.2 l0 24) &&& (31 : Int32))) - 1), .ref l0])) (h1 := r1.2) (cv := fun r => some (.int r)) rfl rfl rfl rfl (s206 r1.2 l0 2) (fun r2 => ?_)
        refine Seg.call (f1 := (66, [.ref l0, .int l1, .int l2, .retAddr 0], [.int r2, .int (((1 : Int32) <<< ((mI r1.2 l0 24) &&& (31 : Int32))) - 1), .ref l0])) (h1 := r1.2) (cv := fun r => some (.int r)) rfl rfl rfl rfl (s272 r1.2 l0 (((1 : Int32) <<< ((mI r1.2 l0 24) &&& (31 : Int32))) - 1) r2) (fun r3 => ?_)
        refine Seg.blk0 (f' := (73, [.ref l0, .int l1, .int l2, .retAddr 0], [.int r3.1])) (h' := r3.2) rfl rfl ?_
        exact Seg.w (mLw.k (mLw.u (mLw.k (mLw.k mLw.nil)))) (s270_73 r3.2 l0 l2 r3.1)
      · refine Seg.blk0 (f' := (73, [.ref l0, .int l1, .int l2, .retAddr 0], [.int 0])) (h' := r1.2) rfl rfl ?_
        exact Seg.w (mLw.k (mLw.u (mLw.k (mLw.k mLw.nil)))) (s270_73 r1.2 l0 l2 0)
    · refine Seg.callP (f1 := (27, [.ref l0, .int l1, .int l2, .retAddr 0], [.int (l2 - 10), .ref l0])) (h1 := r1.2) (cv := fun r => some (.int r)) rfl rfl rfl rfl (s218 r1.2 l0 (l2 - 10)) (fun r11 => ?_)
      refine Seg.blk0 (f' := (if (r11 : Int32) = 0 then 44 else 33, [.ref l0, .int l1, .int l2, .retAddr 0], [])) (h' := r1.2) rfl rfl ?_
      refine Seg.ite (fun _ => ?_) (fun _ => ?_)
      · refine Seg.blk0 (f' := (46, [.ref l0, .int l1, .int l2, .retAddr 0], [.int (-2)])) (h' := r1.2) rfl rfl ?_
        exact Seg.w (mLw.u (mLw.u (mLw.u (mLw.k mLw.nil)))) (s270_46 r1.2 (-2))
      · refine Seg.callP (f1 := (38, [.ref l0, .int l1, .int l2, .retAddr 0], [.int (l2 - 10), .ref l0])) (h1 := r1.2) (cv := fun r => some (.int r)) rfl rfl rfl rfl (s271 r1.2 l0 (l2 - 10)) (fun r12 => ?_)
        refine Seg.blk0 (f' := (46, [.ref l0, .int l1, .int l2, .retAddr 0], [.int r12])) (h' := r1.2) rfl rfl ?_
        exact Seg.w (mLw.u (mLw.u (mLw.u (mLw.k mLw.nil)))) (s270_46 r1.2 r12)
theorem s278_20 (h : mH) (l0 : Nat) (l1 : Int32) (l2 : Int32) (l3 : Int32) : ∀ (n : Nat) (s : (Int32 × Int32)), Seg 278 (20, [.ref l0, .int l1, .int l2, .int l3, .int s.1, .int s.2], []) h (mLoop (f278_20 h l0 l1 l2 l3) n s) (Sum.elim (fun s : (Int32 × Int32) => Ev 278 (4, [.ref l0, .int l1, .int s.1, .int s.2, .retAddr 0, .retAddr 0], []) h) (fun (q : Int32) (res : Option Value × mH) => res = (some (.int q), h))) := by
  refine Seg.loop (F := fun s : (Int32 × Int32) => (20, [.ref l0, .int l1, .int l2, .int l3, .int s.1, .int s.2], [])) (H := fun s : (Int32 × Int32) => h) (fun s => ?_)
  show Seg 278 (20, [.ref l0, .int l1, .int l2, .int l3, .int s.1, .int s.2], []) h _ (Sum.elim (fun s : (Int32 × Int32) => Ev 278 (20, [.ref l0, .int l1, .int l2, .int l3, .int s.1, .int s.2], []) h) (Sum.elim (fun s : (Int32 × Int32) => Ev 278 (4, [.ref l0, .int l1, .int s.1, .int s.2, .retAddr 0, .retAddr 0], []) h) (fun (q : Int32) (res : Option Value × mH) => res = (some (.int q), h))))
  unfold f278_20
  refine Seg.blk (f' := (if ((mI h ((mR h l0 47).getD 0) (Int32.toNatClampNeg (l3 + 1))) : Int32) ≤ s.2 then 52 else 33, [.ref l0, .int l1, .int l2, .int l3, .int s.1, .int s.2], [])) (h' := h) rfl rfl ?_
  refine Seg.ite (fun _ => ?_) (fun _ => ?_)
  · refine Seg.x ?_
    refine Seg.callP (f1 := (55, [.ref l0, .int l1, .int l2, .int l3, .int s.1, .int s.2], [.int s.1, .int l2])) (h1 := h) (cv := fun r => some (.int r)) rfl rfl rfl rfl (s196 h l2 s.1) (fun r1 => ?_)
    refine Seg.blk0 (f' := (4, [.ref l0, .int l1, .int r1, .int (l3 + 1), .int s.1, .int s.2], [])) (h' := h) rfl rfl ?_
    exact Seg.cont (fun _ q => Ev.w (mLw.k (mLw.k (mLw.k (mLw.k (mLw.u (mLw.u mLw.nil)))))) q)
  · refine Seg.callP (f1 := (40, [.ref l0, .int l1, .int l2, .int l3, .int s.1, .int s.2], [.int (3 + s.2), .ref l0, .int s.1])) (h1 := h) (cv := fun r => some (.int r)) rfl rfl rfl rfl (s206 h l0 (3 + s.2)) (fun r2 => ?_)
    refine Seg.blk0 (f' := (20, [.ref l0, .int l1, .int l2, .int l3, .int (s.1 + r2), .int (s.2 + 1)], [])) (h' := h) rfl rfl ?_
    exact Seg.cont (fun _ q => Ev.w (mLw.k (mLw.k (mLw.k (mLw.k (mLw.k (mLw.k mLw.nil)))))) q)
theorem s278_4 (h : mH) (l0 : Nat) (l1 : Int32) : ∀ (n : Nat) (s : (Int32 × Int32)), Seg 278 (4, [.ref l0, .int l1, .int s.1, .int s.2, .retAddr 0, .retAddr 0], []) h (mLoop (f278_4 h l0 l1) n s) (fun (q : Int32) (res : Option Value × mH) => res = (some (.int q), h)) := by
  refine Seg.loop (F := fun s : (Int32 × Int32) => (4, [.ref l0, .int l1, .int s.1, .int s.2, .retAddr 0, .retAddr 0], [])) (H := fun s : (Int32 × Int32) => h) (fun s => ?_)
  show Seg 278 (4, [.ref l0, .int l1, .int s.1, .int s.2, .retAddr 0, .retAddr 0], []) h _ (Sum.elim (fun s : (Int32 × Int32) => Ev 278 (4, [.ref l0, .int l1, .int s.1, .int s.2, .retAddr 0, .retAddr 0], []) h) (fun (q : Int32) (res : Option Value × mH) => res = (some (.int q), h)))
  unfold f278_4
  refine Seg.blk0 (f' := (if (l1 : Int32) ≤ s.2 then 65 else 9, [.ref l0, .int l1, .int s.1, .int s.2, .retAddr 0, .retAddr 0], [])) (h' := h) rfl rfl ?_
  refine Seg.ite (fun _ => ?_) (fun _ => ?_)
  · refine Seg.x ?_
    exact Seg.ret (f1 := (66, [.ref l0, .int l1, .int s.1, .int s.2, .retAddr 0, .retAddr 0], [.int s.1])) (h1 := h) rfl rfl rfl rfl (fun _ q => q)
  · refine Seg.blk (f' := (20, [.ref l0, .int l1, .int s.1, .int s.2, .int 0, .int (mI h ((mR h l0 47).getD 0) (Int32.toNatClampNeg s.2))], [])) (h' := h) rfl rfl ?_
    exact Seg.w (mLw.k (mLw.k (mLw.k (mLw.k (mLw.k (mLw.k mLw.nil)))))) (s278_20 h l0 l1 s.1 s.2 mFuel (0, (mI h ((mR h l0 47).getD 0) (Int32.toNatClampNeg s.2))))
theorem s278 (h : mH) (l0 : Nat) (l1 : Int32) : Seg 278 (0, [.ref l0, .int l1, .retAddr 0, .retAddr 0, .retAddr 0, .retAddr 0], []) h (f278 h l0 l1) (fun (q : Int32) (res : Option Value × mH) => res = (some (.int q), h)) := by
  unfold f278
  refine Seg.blk0 (f' := (4, [.ref l0, .int l1, .int 0, .int 0, .retAddr 0, .retAddr 0], [])) (h' := h) rfl rfl ?_
  exact Seg.w (mLw.k (mLw.k (mLw.k (mLw.k (mLw.k (mLw.k mLw.nil)))))) (s278_4 h l0 l1 mFuel (0, 0))
theorem s279_46 (l0 : Nat) (l1 : Int32) (l3 : Int32) : ∀ (n : Nat) (s : (Int32 × mH)), Seg 279 (46, [.ref l0, .int l1, .retAddr 0, .int l3, .int s.1], []) s.2 (mLoop (f279_46 l0 l1 l3) n s) (fun (q : Int32 × mH) (res : Option Value × mH) => res = (some (.int q.1), q.2)) := by
  refine Seg.loop (F := fun s : (Int32 × mH) => (46, [.ref l0, .int l1, .retAddr 0, .int l3, .int s.1], [])) (H := fun s : (Int32 × mH) => s.2) (fun s => ?_)
  show Seg 279 (46, [.ref l0, .int l1, .retAddr 0, .int l3, .int s.1], []) s.2 _ (Sum.elim (fun s : (Int32 × mH) => Ev 279 (46, [.ref l0, .int l1, .retAddr 0, .int l3, .int s.1], []) s.2) (fun (q : Int32 × mH) (res : Option Value × mH) => res = (some (.int q.1), q.2)))
  unfold f279_46
  refine Seg.blk0 (f' := (if (l1 : Int32) ≤ s.1 then 66 else 52, [.ref l0, .int l1, .retAddr 0, .int l3, .int s.1], [])) (h' := s.2) rfl rfl ?_
  refine Seg.ite (fun _ => ?_) (fun _ => ?_)
  · refine Seg.x ?_
    exact Seg.ret (f1 := (67, [.ref l0, .int l1, .retAddr 0, .int l3, .int s.1], [.int 1])) (h1 := s.2) rfl rfl rfl rfl (fun _ q => q)
  · refine Seg.blk (f' := (60, [.ref l0, .int l1, .retAddr 0, .int l3, .int s.1], [])) (h' := (mSI s.2 ((mR s.2 l0 47).getD 0) (Int32.toNatClampNeg s.1) l3)) rfl rfl ?_
    refine Seg.blk0 (f' := (46, [.ref l0, .int l1, .retAddr 0, .int l3, .int (s.1 + 1)], [])) (h' := (mSI s.2 ((mR s.2 l0 47).getD 0) (Int32.toNatClampNeg s.1) l3)) rfl rfl ?_
    exact Seg.cont (fun _ q => Ev.w (mLw.k (mLw.k (mLw.k (mLw.k (mLw.k mLw.nil))))) q)
theorem s279_27 (h : mH) (l0 : Nat) (l1 : Int32) (l2 : Int32) : Seg 279 (27, [.ref l0, .int l1, .int l2, .retAddr 0, .retAddr 0], []) h (f279_27 h l0 l1 l2) (fun (q : Int32 × mH) (res : Option Value × mH) => res = (some (.int q.1), q.2)) := by
  unfold f279_27
  refine Seg.blk0 (f' := (if (1 : Int32) ≤ l2 then 34 else 32, [.ref l0, .int l1, .int l2, .retAddr 0, .retAddr 0], [])) (h' := h) rfl rfl ?_
  refine Seg.ite (fun _ => ?_) (fun _ => ?_)
  · refine Seg.blk (f' := (46, [.ref l0, .int l1, .int l2, .int ((mI h ((mR h l0 47).getD 0) (Int32.toNatClampNeg l2)) + 1), .int l2], [])) (h' := h) rfl rfl ?_
    exact Seg.w (mLw.k (mLw.k (mLw.u (mLw.k (mLw.k mLw.nil))))) (s279_46 l0 l1 ((mI h ((mR h l0 47).getD 0) (Int32.toNatClampNeg l2)) + 1) mFuel (l2, h))
  · exact Seg.ret (f1 := (33, [.ref l0, .int l1, .int l2, .retAddr 0, .retAddr 0], [.int 0])) (h1 := h) rfl rfl rfl rfl (fun _ q => q)
theorem s279_4 (h : mH) (l0 : Nat) (l1 : Int32) : ∀ (n : Nat) (s : (Int32)), Seg 279 (4, [.ref l0, .int l1, .int s, .retAddr 0, .retAddr 0], []) h (mLoop (f279_4 h l0 l1) n s) (fun (q : Int32 × mH) (res : Option Value × mH) => res = (some (.int q.1), q.2)) := by
  refine Seg.loop (F := fun s : (Int32) => (4, [.ref l0, .int l1, .int s, .retAddr 0, .retAddr 0], [])) (H := fun s : (Int32) => h) (fun s => ?_)
  show Seg 279 (4, [.ref l0, .int l1, .int s, .retAddr 0, .retAddr 0], []) h _ (Sum.elim (fun s : (Int32) => Ev 279 (4, [.ref l0, .int l1, .int s, .retAddr 0, .retAddr 0], []) h) (fun (q : Int32 × mH) (res : Option Value × mH) => res = (some (.int q.1), q.2)))
  unfold f279_4
  refine Seg.blk0 (f' := (if (s : Int32) ≤ 0 then 27 else 8, [.ref l0, .int l1, .int s, .retAddr 0, .retAddr 0], [])) (h' := h) rfl rfl ?_
  refine Seg.ite (fun _ => ?_) (fun _ => ?_)
  · refine Seg.x ?_
    exact Seg.w (mLw.k (mLw.k (mLw.k (mLw.k (mLw.k mLw.nil))))) (s279_27 h l0 l1 s)
  · refine Seg.blk (f' := (if ((mI h ((mR h l0 47).getD 0) (Int32.toNatClampNeg s)) : Int32) = (mI h l0 24) then 21 else 27, [.ref l0, .int l1, .int s, .retAddr 0, .retAddr 0], [])) (h' := h) rfl rfl ?_
    refine Seg.ite (fun _ => ?_) (fun _ => ?_)
    · refine Seg.blk0 (f' := (4, [.ref l0, .int l1, .int (s + (-1)), .retAddr 0, .retAddr 0], [])) (h' := h) rfl rfl ?_
      exact Seg.cont (fun _ q => Ev.w (mLw.k (mLw.k (mLw.k (mLw.k (mLw.k mLw.nil))))) q)
    · refine Seg.x ?_
      exact Seg.w (mLw.k (mLw.k (mLw.k (mLw.k (mLw.k mLw.nil))))) (s279_27 h l0 l1 s)
theorem s279 (h : mH) (l0 : Nat) (l1 : Int32) : Seg 279 (0, [.ref l0, .int l1, .retAddr 0, .retAddr 0, .retAddr 0], []) h (f279 h l0 l1) (fun (q : Int32 × mH) (res : Option Value × mH) => res = (some (.int q.1), q.2)) := by
  unfold f279
  refine Seg.blk0 (f' := (4, [.ref l0, .int l1, .int (l1 - 1), .retAddr 0, .retAddr 0], [])) (h' := h) rfl rfl ?_
  exact Seg.w (mLw.k (mLw.k (mLw.k (mLw.k (mLw.k mLw.nil))))) (s279_4 h l0 l1 mFuel ((l1 - 1)))
theorem s277_33 (h : mH) : Seg 277 (33, [.retAddr 0, .retAddr 0, .retAddr 0, .retAddr 0, .retAddr 0, .retAddr 0, .retAddr 0, .retAddr 0], []) h (f277_33 h) (fun (q : Int32 × mH) (res : Option Value × mH) => res = (some (.int q.1), q.2)) := by
  unfold f277_33
  exact Seg.ret (f1 := (34, [.retAddr 0, .retAddr 0, .retAddr 0, .retAddr 0, .retAddr 0, .retAddr 0, .retAddr 0, .retAddr 0], [.int (-1)])) (h1 := h) rfl rfl rfl rfl (fun _ q => q)
theorem s277_159 (h : mH) (q0 : Int32) : Seg 277 (159, [.retAddr 0, .retAddr 0, .retAddr 0, .retAddr 0, .retAddr 0, .retAddr 0, .retAddr 0, .retAddr 0], [.int q0]) h (f277_159 h q0) (fun (q : Int32 × mH) (res : Option Value × mH) => res = (some (.int q.1), q.2)) := by
  unfold f277_159
  exact Seg.ret (f1 := (159, [.retAddr 0, .retAddr 0, .retAddr 0, .retAddr 0, .retAddr 0, .retAddr 0, .retAddr 0, .retAddr 0], [.int q0])) (h1 := h) rfl rfl rfl rfl (fun _ q => q)
theorem s277_124 (h : mH) (l0 : Nat) (l2 : Int32) (l3 : Int32) (l4 : Int32) (l6 : Int32) : Seg 277 (124, [.ref l0, .retAddr 0, .int l2, .int l3, .int l4, .retAddr 0, .int l6, .retAddr 0], []) h (f277_124 h l0 l2 l3 l4 l6) (Sum.elim (fun s : (Int32 × Int32 × mH) => Ev 277 (76, [.ref l0, .retAddr 0, .int l2, .int l3, .int s.1, .int s.2.1, .retAddr 0, .retAddr 0], []) s.2.2) (fun (q : Int32 × mH) (res : Option Value × mH) => res = (some (.int q.1), q.2))) := by
  unfold f277_124
  refine Seg.callP (f1 := (128, [.ref l0, .retAddr 0, .int l2, .int l3, .int l4, .retAddr 0, .int l6, .retAddr 0], [.int l6, .int l4])) (h1 := h) (cv := fun r => some (.int r)) rfl rfl rfl rfl (s195 h l4 l6) (fun r5 => ?_)
  refine Seg.call (f1 := (135, [.ref l0, .retAddr 0, .int l2, .int l3, .int r5, .retAddr 0, .int l6, .retAddr 0], [.int l2, .ref l0])) (h1 := h) (cv := fun r => some (.int r)) rfl rfl rfl rfl (s279 h l0 l2) (fun r6 => ?_)
  refine Seg.blk0 (f' := (76, [.ref l0, .retAddr 0, .int l2, .int l3, .int r5, .int r6.1, .int l6, .retAddr 0], [])) (h' := r6.2) rfl rfl ?_
  exact Seg.cont (fun _ q => Ev.w (mLw.k (mLw.k (mLw.k (mLw.k (mLw.k (mLw.k (mLw.u (mLw.k mLw.nil)))))))) q)
theorem s277_91 (l0 : Nat) (l2 : Int32) (l3 : Int32) (l4 : Int32) (l6 : Int32) : ∀ (n : Nat) (s : (Int32 × mH)), Seg 277 (91, [.ref l0, .retAddr 0, .int l2, .int l3, .int l4, .retAddr 0, .int l6, .int s.1], []) s.2 (mLoop (f277_91 l0 l2 l3 l4 l6) n s) (Sum.elim (fun s : (Int32 × Int32 × mH) => Ev 277 (76, [.ref l0, .retAddr 0, .int l2, .int l3, .int s.1, .int s.2.1, .retAddr 0, .retAddr 0], []) s.2.2) (fun (q : Int32 × mH) (res : Option Value × mH) => res = (some (.int q.1), q.2))) := by
  refine Seg.loop (F := fun s : (Int32 × mH) => (91, [.ref l0, .retAddr 0, .int l2, .int l3, .int l4, .retAddr 0, .int l6, .int s.1], [])) (H := fun s : (Int32 × mH) => s.2) (fun s => ?_)
  show Seg 277 (91, [.ref l0, .retAddr 0, .int l2, .int l3, .int l4, .retAddr 0, .int l6, .int s.1], []) s.2 _ (Sum.elim (fun s : (Int32 × mH) => Ev 277 (91, [.ref l0, .retAddr 0, .int l2, .int l3, .int l4, .retAddr 0, .int l6, .int s.1], []) s.2) (Sum.elim (fun s : (Int32 × Int32 × mH) => Ev 277 (76, [.ref l0, .retAddr 0, .int l2, .int l3, .int s.1, .int s.2.1, .retAddr 0, .retAddr 0], []) s.2.2) (fun (q : Int32 × mH) (res : Option Value × mH) => res = (some (.int q.1), q.2))))
  unfold f277_91
  refine Seg.blk0 (f' := (if (l2 : Int32) ≤ s.1 then 124 else 97, [.ref l0, .retAddr 0, .int l2, .int l3, .int l4, .retAddr 0, .int l6, .int s.1], [])) (h' := s.2) rfl rfl ?_
  refine Seg.ite (fun _ => ?_) (fun _ => ?_)
  · refine Seg.x ?_
    exact Seg.w (mLw.k (mLw.k (mLw.k (mLw.k (mLw.k (mLw.k (mLw.k (mLw.u mLw.nil)))))))) (s277_124 s.2 l0 l2 l3 l4 l6)
  · refine Seg.blk0 (f' := (if (l4 : Int32) ≤ l6 then 124 else 104, [.ref l0, .retAddr 0, .int l2, .int l3, .int l4, .retAddr 0, .int l6, .int s.1], [])) (h' := s.2) rfl rfl ?_
    refine Seg.ite (fun _ => ?_) (fun _ => ?_)
    · refine Seg.x ?_
      exact Seg.w (mLw.k (mLw.k (mLw.k (mLw.k (mLw.k (mLw.k (mLw.k (mLw.u mLw.nil)))))))) (s277_124 s.2 l0 l2 l3 l4 l6)
    · refine Seg.blk (f' := (118, [.ref l0, .retAddr 0, .int l2, .int l3, .int l4, .retAddr 0, .int l6, .int s.1], [])) (h' := (mSI s.2 ((mR s.2 l0 48).getD 0) (Int32.toNatClampNeg s.1) (mI s.2 ((mR s.2 l0 47).getD 0) (Int32.toNatClampNeg s.1)))) rfl rfl ?_
      refine Seg.blk0 (f' := (91, [.ref l0, .retAddr 0, .int l2, .int l3, .int l4, .retAddr 0, .int l6, .int (s.1 + 1)], [])) (h' := (mSI s.2 ((mR s.2 l0 48).getD 0) (Int32.toNatClampNeg s.1) (mI s.2 ((mR s.2 l0 47).getD 0) (Int32.toNatClampNeg s.1)))) rfl rfl ?_
      exact Seg.cont (fun _ q => Ev.w (mLw.k (mLw.k (mLw.k (mLw.k (mLw.k (mLw.k (mLw.k (mLw.k mLw.nil)))))))) q)
theorem s277_76 (l0 : Nat) (l2 : Int32) (l3 : Int32) : ∀ (n : Nat) (s : (Int32 × Int32 × mH)), Seg 277 (76, [.ref l0, .retAddr 0, .int l2, .int l3, .int s.1, .int s.2.1, .retAddr 0, .retAddr 0], []) s.2.2 (mLoop (f277_76 l0 l2 l3) n s) (fun (q : Int32 × mH) (res : Option Value × mH) => res = (some (.int q.1), q.2)) := by
  refine Seg.loop (F := fun s : (Int32 × Int32 × mH) => (76, [.ref l0, .retAddr 0, .int l2, .int l3, .int s.1, .int s.2.1, .retAddr 0, .retAddr 0], [])) (H := fun s : (Int32 × Int32 × mH) => s.2.2) (fun s => ?_)
  show Seg 277 (76, [.ref l0, .retAddr 0, .int l2, .int l3, .int s.1, .int s.2.1, .retAddr 0, .retAddr 0], []) s.2.2 _ (Sum.elim (fun s : (Int32 × Int32 × mH) => Ev 277 (76, [.ref l0, .retAddr 0, .int l2, .int l3, .int s.1, .int s.2.1, .retAddr 0, .retAddr 0], []) s.2.2) (fun (q : Int32 × mH) (res : Option Value × mH) => res = (some (.int q.1), q.2)))
  unfold f277_76
  refine Seg.blk0 (f' := (if (s.2.1 : Int32) = 0 then 143 else 81, [.ref l0, .retAddr 0, .int l2, .int l3, .int s.1, .int s.2.1, .retAddr 0, .retAddr 0], [])) (h' := s.2.2) rfl rfl ?_
  refine Seg.ite (fun _ => ?_) (fun _ => ?_)
  · refine Seg.x ?_
    refine Seg.blk0 (f' := (if (l3 : Int32) = (-1) then 148 else 153, [.ref l0, .retAddr 0, .int l2, .int l3, .int s.1, .int s.2.1, .retAddr 0, .retAddr 0], [])) (h' := s.2.2) rfl rfl ?_
    refine Seg.ite (fun _ => ?_) (fun _ => ?_)
    · refine Seg.blk0 (f' := (159, [.ref l0, .retAddr 0, .int l2, .int l3, .int s.1, .int s.2.1, .retAddr 0, .retAddr 0], [.int s.1])) (h' := s.2.2) rfl rfl ?_
      exact Seg.w (mLw.u (mLw.k (mLw.u (mLw.u (mLw.u (mLw.u (mLw.k (mLw.k mLw.nil)))))))) (s277_159 s.2.2 s.1)
    · refine Seg.blk (f' := (159, [.ref l0, .retAddr 0, .int l2, .int l3, .int s.1, .int s.2.1, .retAddr 0, .retAddr 0], [.int (mI s.2.2 ((mR s.2.2 l0 48).getD 0) (Int32.toNatClampNeg l3))])) (h' := s.2.2) rfl rfl ?_
      exact Seg.w (mLw.u (mLw.k (mLw.u (mLw.u (mLw.u (mLw.u (mLw.k (mLw.k mLw.nil)))))))) (s277_159 s.2.2 (mI s.2.2 ((mR s.2.2 l0 48).getD 0) (Int32.toNatClampNeg l3)))
  · refine Seg.callP (f1 := (83, [.ref l0, .retAddr 0, .int l2, .int l3, .int s.1, .int s.2.1, .retAddr 0, .retAddr 0], [.int l2, .ref l0])) (h1 := s.2.2) (cv := fun r => some (.int r)) rfl rfl rfl rfl (s278 s.2.2 l0 l2) (fun r4 => ?_)
    refine Seg.blk0 (f' := (91, [.ref l0, .retAddr 0, .int l2, .int l3, .int s.1, .int s.2.1, .int r4, .int 0], [])) (h' := s.2.2) rfl rfl ?_
    exact Seg.w (mLw.k (mLw.k (mLw.k (mLw.k (mLw.k (mLw.u (mLw.k (mLw.k mLw.nil)))))))) (s277_91 l0 l2 l3 s.1 r4 mFuel (0, s.2.2))
theorem s277_38 (l0 : Nat) (l2 : Int32) (l3 : Int32) : ∀ (n : Nat) (s : (Int32 × mH)), Seg 277 (38, [.ref l0, .retAddr 0, .int l2, .int l3, .int s.1, .retAddr 0, .retAddr 0, .retAddr 0], []) s.2 (mLoop (f277_38 l0 l2 l3) n s) (fun (q : Int32 × mH) (res : Option Value × mH) => res = (some (.int q.1), q.2)) := by
  refine Seg.loop (F := fun s : (Int32 × mH) => (38, [.ref l0, .retAddr 0, .int l2, .int l3, .int s.1, .retAddr 0, .retAddr 0, .retAddr 0], [])) (H := fun s : (Int32 × mH) => s.2) (fun s => ?_)
  show Seg 277 (38, [.ref l0, .retAddr 0, .int l2, .int l3, .int s.1, .retAddr 0, .retAddr 0, .retAddr 0], []) s.2 _ (Sum.elim (fun s : (Int32 × mH) => Ev 277 (38, [.ref l0, .retAddr 0, .int l2, .int l3, .int s.1, .retAddr 0, .retAddr 0, .retAddr 0], []) s.2) (fun (q : Int32 × mH) (res : Option Value × mH) => res = (some (.int q.1), q.2)))
  unfold f277_38
  refine Seg.blk0 (f' := (if (l2 : Int32) ≤ s.1 then 58 else 44, [.ref l0, .retAddr 0, .int l2, .int l3, .int s.1, .retAddr 0, .retAddr 0, .retAddr 0], [])) (h' := s.2) rfl rfl ?_
  refine Seg.ite (fun _ => ?_) (fun _ => ?_)
  · refine Seg.x ?_
    refine Seg.blk (f' := (68, [.ref l0, .retAddr 0, .int l2, .int l3, .int s.1, .retAddr 0, .retAddr 0, .retAddr 0], [])) (h' := (mSI s.2 ((mR s.2 l0 47).getD 0) (Int32.toNatClampNeg l2) (mI s.2 l0 24))) rfl rfl ?_
    refine Seg.blk0 (f' := (76, [.ref l0, .retAddr 0, .int l2, .int l3, .int 1000000, .int 1, .retAddr 0, .retAddr 0], [])) (h' := (mSI s.2 ((mR s.2 l0 47).getD 0) (Int32.toNatClampNeg l2) (mI s.2 l0 24))) rfl rfl ?_
    exact Seg.w (mLw.k (mLw.k (mLw.k (mLw.k (mLw.k (mLw.k (mLw.k (mLw.k mLw.nil)))))))) (s277_76 l0 l2 l3 mFuel (1000000, 1, (mSI s.2 ((mR s.2 l0 47).getD 0) (Int32.toNatClampNeg l2) (mI s.2 l0 24))))
  · refine Seg.blk (f' := (52, [.ref l0, .retAddr 0, .int l2, .int l3, .int s.1, .retAddr 0, .retAddr 0, .retAddr 0], [])) (h' := (mSI s.2 ((mR s.2 l0 47).getD 0) (Int32.toNatClampNeg s.1) 0)) rfl rfl ?_
    refine Seg.blk0 (f' := (38, [.ref l0, .retAddr 0, .int l2, .int l3, .int (s.1 + 1), .retAddr 0, .retAddr 0, .retAddr 0], [])) (h' := (mSI s.2 ((mR s.2 l0 47).getD 0) (Int32.toNatClampNeg s.1) 0)) rfl rfl ?_
    exact Seg.cont (fun _ q => Ev.w (mLw.k (mLw.k (mLw.k (mLw.k (mLw.k (mLw.k (mLw.k (mLw.k mLw.nil)))))))) q)
theorem s277 (h : mH) (l0 : Nat) (l1 : Int32) (l2 : Int32) (l3 : Int32) : Seg 277 (0, [.ref l0, .int l1, .int l2, .int l3, .retAddr 0, .retAddr 0, .retAddr 0, .retAddr 0], []) h (f277 h l0 l1 l2 l3) (fun (q : Int32 × mH) (res : Option Value × mH) => res = (some (.int q.1), q.2)) := by
  unfold f277
  refine Seg.blk (f' := (5, [.ref l0, .int l1, .int l2, .int l3, .retAddr 0, .retAddr 0, .retAddr 0, .retAddr 0], [])) (h' := (mSI h l0 0 0)) rfl rfl ?_
  refine Seg.callP (f1 := (8, [.ref l0, .int l1, .int l2, .int l3, .retAddr 0, .retAddr 0, .retAddr 0, .retAddr 0], [.int 4, .int 1, .int l2])) (h1 := (mSI h l0 0 0)) (cv := fun r => some (.int r)) rfl rfl rfl rfl (s179 (mSI h l0 0 0) l2 1 4) (fun r1 => ?_)
  refine Seg.blk0 (f' := (if (r1 : Int32) = 0 then 33 else 14, [.ref l0, .int l1, .int l2, .int l3, .retAddr 0, .retAddr 0, .retAddr 0, .retAddr 0], [])) (h' := (mSI h l0 0 0)) rfl rfl ?_
  refine Seg.ite (fun _ => ?_) (fun _ => ?_)
  · exact Seg.w (mLw.u (mLw.u (mLw.u (mLw.u (mLw.k (mLw.k (mLw.k (mLw.k mLw.nil)))))))) (s277_33 (mSI h l0 0 0))
  · refine Seg.call (f1 := (16, [.ref l0, .int l1, .int l2, .int l3, .retAddr 0, .retAddr 0, .retAddr 0, .retAddr 0], [.int l1, .ref l0])) (h1 := (mSI h l0 0 0)) (cv := fun r => some (.int r)) rfl rfl rfl rfl (s205 (mSI h l0 0 0) l0 l1) (fun r2 => ?_)
    refine Seg.blk0 (f' := (if (r2.1 : Int32) = 0 then 33 else 22, [.ref l0, .int l1, .int l2, .int l3, .retAddr 0, .retAddr 0, .retAddr 0, .retAddr 0], [])) (h' := r2.2) rfl rfl ?_
    refine Seg.ite (fun _ => ?_) (fun _ => ?_)
    · exact Seg.w (mLw.u (mLw.u (mLw.u (mLw.u (mLw.k (mLw.k (mLw.k (mLw.k mLw.nil)))))))) (s277_33 r2.2)
    · refine Seg.callP (f1 := (27, [.ref l0, .int l1, .int l2, .int l3, .retAddr 0, .retAddr 0, .retAddr 0, .retAddr 0], [.int (l2 - 1), .int (-1), .int l3])) (h1 := r2.2) (cv := fun r => some (.int r)) rfl rfl rfl rfl (s179 r2.2 l3 (-1) (l2 - 1)) (fun r3 => ?_)
      refine Seg.blk0 (f' := (if (r3 : Int32) = 0 then 33 else 35, [.ref l0, .int l1, .int l2, .int l3, .retAddr 0, .retAddr 0, .retAddr 0, .retAddr 0], [])) (h' := r2.2) rfl rfl ?_
      refine Seg.ite (fun _ => ?_) (fun _ => ?_)
      · exact Seg.w (mLw.u (mLw.u (mLw.u (mLw.u (mLw.k (mLw.k (mLw.k (mLw.k mLw.nil)))))))) (s277_33 r2.2)
      · refine Seg.blk0 (f' := (38, [.ref l0, .int l1, .int l2, .int l3, .int 0, .retAddr 0, .retAddr 0, .retAddr 0], [])) (h' := r2.2) rfl rfl ?_
        exact Seg.w (mLw.k (mLw.u (mLw.k (mLw.k (mLw.k (mLw.k (mLw.k (mLw.k mLw.nil)))))))) (s277_38 l0 l2 l3 mFuel (0, r2.2))
theorem s280_44 (h : mH) : Seg 280 (44, [.retAddr 0, .retAddr 0, .retAddr 0, .retAddr 0, .retAddr 0, .retAddr 0, .retAddr 0, .retAddr 0], []) h (f280_44 h) (fun (q : Int32 × mH) (res : Option Value × mH) => res = (some (.int q.1), q.2)) := by
  unfold f280_44
  exact Seg.ret (f1 := (45, [.retAddr 0, .retAddr 0, .retAddr 0, .retAddr 0, .retAddr 0, .retAddr 0, .retAddr 0, .retAddr 0], [.int (-1)])) (h1 := h) rfl rfl rfl rfl (fun _ q => q)
theorem s280_145 (h : mH) (q0 : Int32) : Seg 280 (145, [.retAddr 0, .retAddr 0, .retAddr 0, .retAddr 0, .retAddr 0, .retAddr 0, .retAddr 0, .retAddr 0], [.int q0]) h (f280_145 h q0) (fun (q : Int32 × mH) (res : Option Value × mH) => res = (some (.int q.1), q.2)) := by
  unfold f280_145
  exact Seg.ret (f1 := (145, [.retAddr 0, .retAddr 0, .retAddr 0, .retAddr 0, .retAddr 0, .retAddr 0, .retAddr 0, .retAddr 0], [.int q0])) (h1 := h) rfl rfl rfl rfl (fun _ q => q)
theorem s280_106 (h : mH) (l0 : Nat) (l2 : Int32) (l3 : Int32) (l4 : Int32) (l5 : Int32) : Seg 280 (106, [.ref l0, .retAddr 0, .int l2, .int l3, .int l4, .int l5, .retAddr 0, .retAddr 0], []) h (f280_106 h l0 l2 l3 l4 l5) (Sum.elim (fun s : (Int32 × Int32 × mH) => Ev 280 (57, [.ref l0, .retAddr 0, .int l2, .int l3, .int l4, .int s.1, .int s.2.1, .retAddr 0], []) s.2.2) (fun (q : Int32 × mH) (res : Option Value × mH) => res = (some (.int q.1), q.2))) := by
  unfold f280_106
  refine Seg.callP (f1 := (112, [.ref l0, .retAddr 0, .int l2, .int l3, .int l4, .int l5, .retAddr 0, .retAddr 0], [.int (mI h l0 37), .int l5])) (h1 := h) (cv := fun r => some (.int r)) rfl rfl rfl rfl (s196 h l5 (mI h l0 37)) (fun r7 => ?_)
  refine Seg.call (f1 := (119, [.ref l0, .retAddr 0, .int l2, .int l3, .int l4, .int r7, .retAddr 0, .retAddr 0], [.int l3, .ref l0])) (h1 := h) (cv := fun r => some (.int r)) rfl rfl rfl rfl (s240 h l0 l3) (fun r8 => ?_)
  refine Seg.blk0 (f' := (57, [.ref l0, .retAddr 0, .int l2, .int l3, .int l4, .int r7, .int r8.1, .retAddr 0], [])) (h' := r8.2) rfl rfl ?_
  exact Seg.cont (fun _ q => Ev.w (mLw.k (mLw.k (mLw.k (mLw.k (mLw.k (mLw.k (mLw.k (mLw.k mLw.nil)))))))) q)
theorem s280_71 (l0 : Nat) (l2 : Int32) (l3 : Int32) (l4 : Int32) (l5 : Int32) : ∀ (n : Nat) (s : (Int32 × mH)), Seg 280 (71, [.ref l0, .retAddr 0, .int l2, .int l3, .int l4, .int l5, .retAddr 0, .int s.1], []) s.2 (mLoop (f280_71 l0 l2 l3 l4 l5) n s) (Sum.elim (fun s : (Int32 × Int32 × mH) => Ev 280 (57, [.ref l0, .retAddr 0, .int l2, .int l3, .int l4, .int s.1, .int s.2.1, .retAddr 0], []) s.2.2) (fun (q : Int32 × mH) (res : Option Value × mH) => res = (some (.int q.1), q.2))) := by
  refine Seg.loop (F := fun s : (Int32 × mH) => (71, [.ref l0, .retAddr 0, .int l2, .int l3, .int l4, .int l5, .retAddr 0, .int s.1], [])) (H := fun s : (Int32 × mH) => s.2) (fun s => ?_)
  show Seg 280 (71, [.ref l0, .retAddr 0, .int l2, .int l3, .int l4, .int l5, .retAddr 0, .int s.1], []) s.2 _ (Sum.elim (fun s : (Int32 × mH) => Ev 280 (71, [.ref l0, .retAddr 0, .int l2, .int l3, .int l4, .int l5, .retAddr 0, .int s.1], []) s.2) (Sum.elim (fun s : (Int32 × Int32 × mH) => Ev 280 (57, [.ref l0, .retAddr 0, .int l2, .int l3, .int l4, .int s.1, .int s.2.1, .retAddr 0], []) s.2.2) (fun (q : Int32 × mH) (res : Option Value × mH) => res = (some (.int q.1), q.2))))
  unfold f280_71
  refine Seg.blk0 (f' := (if (l3 : Int32) ≤ s.1 then 106 else 77, [.ref l0, .retAddr 0, .int l2, .int l3, .int l4, .int l5, .retAddr 0, .int s.1], [])) (h' := s.2) rfl rfl ?_
  refine Seg.ite (fun _ => ?_) (fun _ => ?_)
  · refine Seg.x ?_
    exact Seg.w (mLw.k (mLw.k (mLw.k (mLw.k (mLw.k (mLw.k (mLw.k (mLw.u mLw.nil)))))))) (s280_106 s.2 l0 l2 l3 l4 l5)
  · refine Seg.blk (f' := (if ((mI s.2 l0 37) : Int32) ≤ l5 then 106 else 86, [.ref l0, .retAddr 0, .int l2, .int l3, .int l4, .int l5, .retAddr 0, .int s.1], [])) (h' := s.2) rfl rfl ?_
    refine Seg.ite (fun _ => ?_) (fun _ => ?_)
    · refine Seg.x ?_
      exact Seg.w (mLw.k (mLw.k (mLw.k (mLw.k (mLw.k (mLw.k (mLw.k (mLw.u mLw.nil)))))))) (s280_106 s.2 l0 l2 l3 l4 l5)
    · refine Seg.blk (f' := (100, [.ref l0, .retAddr 0, .int l2, .int l3, .int l4, .int l5, .retAddr 0, .int s.1], [])) (h' := (mSI s.2 ((mR s.2 l0 39).getD 0) (Int32.toNatClampNeg s.1) (mI s.2 ((mR s.2 l0 38).getD 0) (Int32.toNatClampNeg s.1)))) rfl rfl ?_
      refine Seg.blk0 (f' := (71, [.ref l0, .retAddr 0, .int l2, .int l3, .int l4, .int l5, .retAddr 0, .int (s.1 + 1)], [])) (h' := (mSI s.2 ((mR s.2 l0 39).getD 0) (Int32.toNatClampNeg s.1) (mI s.2 ((mR s.2 l0 38).getD 0) (Int32.toNatClampNeg s.1)))) rfl rfl ?_
      exact Seg.cont (fun _ q => Ev.w (mLw.k (mLw.k (mLw.k (mLw.k (mLw.k (mLw.k (mLw.k (mLw.k mLw.nil)))))))) q)
theorem s280_57 (l0 : Nat) (l2 : Int32) (l3 : Int32) (l4 : Int32) : ∀ (n : Nat) (s : (Int32 × Int32 × mH)), Seg 280 (57, [.ref l0, .retAddr 0, .int l2, .int l3, .int l4, .int s.1, .int s.2.1, .retAddr 0], []) s.2.2 (mLoop (f280_57 l0 l2 l3 l4) n s) (fun (q : Int32 × mH) (res : Option Value × mH) => res = (some (.int q.1), q.2)) := by
  refine Seg.loop (F := fun s : (Int32 × Int32 × mH) => (57, [.ref l0, .retAddr 0, .int l2, .int l3, .int l4, .int s.1, .int s.2.1, .retAddr 0], [])) (H := fun s : (Int32 × Int32 × mH) => s.2.2) (fun s => ?_)
  show Seg 280 (57, [.ref l0, .retAddr 0, .int l2, .int l3, .int l4, .int s.1, .int s.2.1, .retAddr 0], []) s.2.2 _ (Sum.elim (fun s : (Int32 × Int32 × mH) => Ev 280 (57, [.ref l0, .retAddr 0, .int l2, .int l3, .int l4, .int s.1, .int s.2.1, .retAddr 0], []) s.2.2) (fun (q : Int32 × mH) (res : Option Value × mH) => res = (some (.int q.1), q.2)))
  unfold f280_57
  refine Seg.blk0 (f' := (if (s.2.1 : Int32) = 0 then 127 else 62, [.ref l0, .retAddr 0, .int l2, .int l3, .int l4, .int s.1, .int s.2.1, .retAddr 0], [])) (h' := s.2.2) rfl rfl ?_
  refine Seg.ite (fun _ => ?_) (fun _ => ?_)
  · refine Seg.x ?_
    refine Seg.blk0 (f' := (if (l4 : Int32) = (-1) then 133 else 138, [.ref l0, .retAddr 0, .int l2, .int l3, .int l4, .int s.1, .int s.2.1, .retAddr 0], [])) (h' := s.2.2) rfl rfl ?_
    refine Seg.ite (fun _ => ?_) (fun _ => ?_)
    · refine Seg.blk0 (f' := (145, [.ref l0, .retAddr 0, .int l2, .int l3, .int l4, .int s.1, .int s.2.1, .retAddr 0], [.int s.1])) (h' := s.2.2) rfl rfl ?_
      exact Seg.w (mLw.u (mLw.k (mLw.u (mLw.u (mLw.u (mLw.u (mLw.u (mLw.k mLw.nil)))))))) (s280_145 s.2.2 s.1)
    · refine Seg.blk (f' := (145, [.ref l0, .retAddr 0, .int l2, .int l3, .int l4, .int s.1, .int s.2.1, .retAddr 0], [.int (mI s.2.2 ((mR s.2.2 l0 39).getD 0) (Int32.toNatClampNeg l4))])) (h' := s.2.2) rfl rfl ?_
      exact Seg.w (mLw.u (mLw.k (mLw.u (mLw.u (mLw.u (mLw.u (mLw.u (mLw.k mLw.nil)))))))) (s280_145 s.2.2 (mI s.2.2 ((mR s.2.2 l0 39).getD 0) (Int32.toNatClampNeg l4)))
  · refine Seg.call (f1 := (65, [.ref l0, .retAddr 0, .int l2, .int l3, .int l4, .int s.1, .int s.2.1, .retAddr 0], [.int l2, .int l3, .ref l0])) (h1 := s.2.2) (cv := fun _ => none) rfl rfl rfl rfl (s239 s.2.2 l0 l3 l2) (fun r6 => ?_)
    refine Seg.blk0 (f' := (71, [.ref l0, .retAddr 0, .int l2, .int l3, .int l4, .int s.1, .int s.2.1, .int 0], [])) (h' := r6.2) rfl rfl ?_
    exact Seg.w (mLw.k (mLw.k (mLw.k (mLw.k (mLw.k (mLw.k (mLw.u (mLw.k mLw.nil)))))))) (s280_71 l0 l2 l3 l4 s.1 mFuel (0, r6.2))
theorem s280 (h : mH) (l0 : Nat) (l1 : Int32) (l2 : Int32) (l3 : Int32) (l4 : Int32) : Seg 280 (0, [.ref l0, .int l1, .int l2, .int l3, .int l4, .retAddr 0, .retAddr 0, .retAddr 0], []) h (f280 h l0 l1 l2 l3 l4) (fun (q : Int32 × mH) (res : Option Value × mH) => res = (some (.int q.1), q.2)) := by
  unfold f280
  refine Seg.blk (f' := (5, [.ref l0, .int l1, .int l2, .int l3, .int l4, .retAddr 0, .retAddr 0, .retAddr 0], [])) (h' := (mSI h l0 0 0)) rfl rfl ?_
  refine Seg.callP (f1 := (9, [.ref l0, .int l1, .int l2, .int l3, .int l4, .retAddr 0, .retAddr 0, .retAddr 0], [.int 20, .int 0, .int l2])) (h1 := (mSI h l0 0 0)) (cv := fun r => some (.int r)) rfl rfl rfl rfl (s179 (mSI h l0 0 0) l2 0 20) (fun r1 => ?_)
  refine Seg.blk0 (f' := (if (r1 : Int32) = 0 then 44 else 15, [.ref l0, .int l1, .int l2, .int l3, .int l4, .retAddr 0, .retAddr 0, .retAddr 0], [])) (h' := (mSI h l0 0 0)) rfl rfl ?_
  refine Seg.ite (fun _ => ?_) (fun _ => ?_)
  · exact Seg.w (mLw.u (mLw.u (mLw.u (mLw.u (mLw.u (mLw.k (mLw.k (mLw.k mLw.nil)))))))) (s280_44 (mSI h l0 0 0))
  · refine Seg.callP (f1 := (18, [.ref l0, .int l1, .int l2, .int l3, .int l4, .retAddr 0, .retAddr 0, .retAddr 0], [.int 3, .int 0, .int l3])) (h1 := (mSI h l0 0 0)) (cv := fun r => some (.int r)) rfl rfl rfl rfl (s179 (mSI h l0 0 0) l3 0 3) (fun r2 => ?_)
    refine Seg.blk0 (f' := (if (r2 : Int32) = 0 then 44 else 24, [.ref l0, .int l1, .int l2, .int l3, .int l4, .retAddr 0, .retAddr 0, .retAddr 0], [])) (h' := (mSI h l0 0 0)) rfl rfl ?_
    refine Seg.ite (fun _ => ?_) (fun _ => ?_)
    · exact Seg.w (mLw.u (mLw.u (mLw.u (mLw.u (mLw.u (mLw.k (mLw.k (mLw.k mLw.nil)))))))) (s280_44 (mSI h l0 0 0))
    · refine Seg.call (f1 := (26, [.ref l0, .int l1, .int l2, .int l3, .int l4, .retAddr 0, .retAddr 0, .retAddr 0], [.int l1, .ref l0])) (h1 := (mSI h l0 0 0)) (cv := fun r => some (.int r)) rfl rfl rfl rfl (s205 (mSI h l0 0 0) l0 l1) (fun r3 => ?_)
      refine Seg.blk0 (f' := (if (r3.1 : Int32) = 0 then 44 else 32, [.ref l0, .int l1, .int l2, .int l3, .int l4, .retAddr 0, .retAddr 0, .retAddr 0], [])) (h' := r3.2) rfl rfl ?_
      refine Seg.ite (fun _ => ?_) (fun _ => ?_)
      · exact Seg.w (mLw.u (mLw.u (mLw.u (mLw.u (mLw.u (mLw.k (mLw.k (mLw.k mLw.nil)))))))) (s280_44 r3.2)
      · refine Seg.callP (f1 := (38, [.ref l0, .int l1, .int l2, .int l3, .int l4, .retAddr 0, .retAddr 0, .retAddr 0], [.int (l3 - 1), .int (-1), .int l4])) (h1 := r3.2) (cv := fun r => some (.int r)) rfl rfl rfl rfl (s179 r3.2 l4 (-1) (l3 - 1)) (fun r4 => ?_)
        refine Seg.blk0 (f' := (if (r4 : Int32) = 0 then 44 else 46, [.ref l0, .int l1, .int l2, .int l3, .int l4, .retAddr 0, .retAddr 0, .retAddr 0], [])) (h' := r3.2) rfl rfl ?_
        refine Seg.ite (fun _ => ?_) (fun _ => ?_)
        · exact Seg.w (mLw.u (mLw.u (mLw.u (mLw.u (mLw.u (mLw.k (mLw.k (mLw.k mLw.nil)))))))) (s280_44 r3.2)
        · refine Seg.call (f1 := (51, [.ref l0, .int l1, .int l2, .int l3, .int l4, .int (-1), .retAddr 0, .retAddr 0], [.int l3, .ref l0])) (h1 := r3.2) (cv := fun _ => none) rfl rfl rfl rfl (s238 r3.2 l0 l3) (fun r5 => ?_)
          refine Seg.blk0 (f' := (57, [.ref l0, .int l1, .int l2, .int l3, .int l4, .int (-1), .int 1, .retAddr 0], [])) (h' := r5.2) rfl rfl ?_
          exact Seg.w (mLw.k (mLw.u (mLw.k (mLw.k (mLw.k (mLw.k (mLw.k (mLw.k mLw.nil)))))))) (s280_57 l0 l2 l3 l4 mFuel ((-1), 1, r5.2))
theorem s281_32 (h : mH) : Seg 281 (32, [.retAddr 0, .retAddr 0, .retAddr 0, .retAddr 0, .retAddr 0], []) h (f281_32 h) (fun (q : Int32 × mH) (res : Option Value × mH) => res = (some (.int q.1), q.2)) := by
  unfold f281_32
  exact Seg.ret (f1 := (34, [.retAddr 0, .retAddr 0, .retAddr 0, .retAddr 0, .retAddr 0], [.int (-99)])) (h1 := h) rfl rfl rfl rfl (fun _ q => q)
theorem s281 (h : mH) (l0 : Nat) (l1 : Int32) (l2 : Int32) (l3 : Int32) : Seg 281 (0, [.ref l0, .int l1, .int l2, .int l3, .retAddr 0], []) h (f281 h l0 l1 l2 l3) (fun (q : Int32 × mH) (res : Option Value × mH) => res = (some (.int q.1), q.2)) := by
  unfold f281
  refine Seg.blk (f' := (5, [.ref l0, .int l1, .int l2, .int l3, .retAddr 0], [])) (h' := (mSI h l0 0 0)) rfl rfl ?_
  refine Seg.callP (f1 := (8, [.ref l0, .int l1, .int l2, .int l3, .retAddr 0], [.int 5, .int 0, .int l2])) (h1 := (mSI h l0 0 0)) (cv := fun r => some (.int r)) rfl rfl rfl rfl (s179 (mSI h l0 0 0) l2 0 5) (fun r1 => ?_)
  refine Seg.blk0 (f' := (if (r1 : Int32) = 0 then 32 else 14, [.ref l0, .int l1, .int l2, .int l3, .retAddr 0], [])) (h' := (mSI h l0 0 0)) rfl rfl ?_
  refine Seg.ite (fun _ => ?_) (fun _ => ?_)
  · exact Seg.w (mLw.u (mLw.u (mLw.u (mLw.u (mLw.k mLw.nil))))) (s281_32 (mSI h l0 0 0))
  · refine Seg.callP (f1 := (18, [.ref l0, .int l1, .int l2, .int l3, .retAddr 0], [.int 20, .int 0, .int l3])) (h1 := (mSI h l0 0 0)) (cv := fun r => some (.int r)) rfl rfl rfl rfl (s179 (mSI h l0 0 0) l3 0 20) (fun r2 => ?_)
    refine Seg.blk0 (f' := (if (r2 : Int32) = 0 then 32 else 24, [.ref l0, .int l1, .int l2, .int l3, .retAddr 0], [])) (h' := (mSI h l0 0 0)) rfl rfl ?_
    refine Seg.ite (fun _ => ?_) (fun _ => ?_)
    · exact Seg.w (mLw.u (mLw.u (mLw.u (mLw.u (mLw.k mLw.nil))))) (s281_32 (mSI h l0 0 0))
    · refine Seg.call (f1 := (26, [.ref l0, .int l1, .int l2, .int l3, .retAddr 0], [.int l1, .ref l0])) (h1 := (mSI h l0 0 0)) (cv := fun r => some (.int r)) rfl rfl rfl rfl (s205 (mSI h l0 0 0) l0 l1) (fun r3 => ?_)
      refine Seg.blk0 (f' := (if (r3.1 : Int32) = 0 then 32 else 35, [.ref l0, .int l1, .int l2, .int l3, .retAddr 0], [])) (h' := r3.2) rfl rfl ?_
      refine Seg.ite (fun _ => ?_) (fun _ => ?_)
      · exact Seg.w (mLw.u (mLw.u (mLw.u (mLw.u (mLw.k mLw.nil))))) (s281_32 r3.2)
      · refine Seg.call (f1 := (37, [.ref l0, .int l1, .int l2, .int l3, .retAddr 0], [.int l3, .ref l0])) (h1 := r3.2) (cv := fun _ => none) rfl rfl rfl rfl (s234 r3.2 l0 l3) (fun r4 => ?_)
        refine Seg.blk (f' := (53, [.ref l0, .int l1, .int l2, .int l3, .int (mI r4.2 l0 37)], [])) (h' := (mSI r4.2 ((mR r4.2 l0 38).getD 0) (Int32.toNatClampNeg 0) l2)) rfl rfl ?_
        refine Seg.call (f1 := (56, [.ref l0, .int l1, .int l2, .int l3, .int (mI r4.2 l0 37)], [.int l3, .int 1, .ref l0])) (h1 := (mSI r4.2 ((mR r4.2 l0 38).getD 0) (Int32.toNatClampNeg 0) l2)) (cv := fun _ => none) rfl rfl rfl rfl (s239 (mSI r4.2 ((mR r4.2 l0 38).getD 0) (Int32.toNatClampNeg 0) l2) l0 1 l3) (fun r5 => ?_)
        exact Seg.ret (f1 := (66, [.ref l0, .int l1, .int l2, .int l3, .int (mI r4.2 l0 37)], [.int ((mI r5.2 l0 37) - (mI r4.2 l0 37))])) (h1 := r5.2) rfl rfl rfl rfl (fun _ q => q)
theorem s282_156 (h : mH) (q0 : Int32) : Seg 282 (156, [.retAddr 0, .retAddr 0, .retAddr 0, .retAddr 0, .retAddr 0, .retAddr 0, .retAddr 0, .retAddr 0, .retAddr 0], [.int q0]) h (f282_156 h q0) (fun (q : Int32 × mH) (res : Option Value × mH) => res = (some (.int q.1), q.2)) := by
  unfold f282_156
  exact Seg.ret (f1 := (156, [.retAddr 0, .retAddr 0, .retAddr 0, .retAddr 0, .retAddr 0, .retAddr 0, .retAddr 0, .retAddr 0, .retAddr 0], [.int q0])) (h1 := h) rfl rfl rfl rfl (fun _ q => q)
theorem s282_146 (h : mH) (l2 : Int32) (l3 : Int32) : Seg 282 (146, [.retAddr 0, .retAddr 0, .int l2, .int l3, .retAddr 0, .retAddr 0, .retAddr 0, .retAddr 0, .retAddr 0], []) h (f282_146 h l2 l3) (fun (q : Int32 × mH) (res : Option Value × mH) => res = (some (.int q.1), q.2)) := by
  unfold f282_146
  refine Seg.blk0 (f' := (if (l2 : Int32) = (-1) then 151 else 155, [.retAddr 0, .retAddr 0, .int l2, .int l3, .retAddr 0, .retAddr 0, .retAddr 0, .retAddr 0, .retAddr 0], [])) (h' := h) rfl rfl ?_
  refine Seg.ite (fun _ => ?_) (fun _ => ?_)
  · refine Seg.blk0 (f' := (156, [.retAddr 0, .retAddr 0, .int l2, .int l3, .retAddr 0, .retAddr 0, .retAddr 0, .retAddr 0, .retAddr 0], [.int l3])) (h' := h) rfl rfl ?_
    exact Seg.w (mLw.k (mLw.k (mLw.u (mLw.u (mLw.k (mLw.k (mLw.k (mLw.k (mLw.k mLw.nil))))))))) (s282_156 h l3)
  · refine Seg.blk0 (f' := (156, [.retAddr 0, .retAddr 0, .int l2, .int l3, .retAddr 0, .retAddr 0, .retAddr 0, .retAddr 0, .retAddr 0], [.int (-1)])) (h' := h) rfl rfl ?_
    exact Seg.w (mLw.k (mLw.k (mLw.u (mLw.u (mLw.k (mLw.k (mLw.k (mLw.k (mLw.k mLw.nil))))))))) (s282_156 h (-1))
theorem s282_241 (h : mH) (l0 : Nat) (l2 : Int32) (l3 : Int32) (l4 : Int32) (l5 : Int32) (l7 : Int32) (q0 : Int32) : Seg 282 (241, [.ref l0, .retAddr 0, .int l2, .int l3, .int l4, .int l5, .retAddr 0, .int l7, .retAddr 0], [.int q0]) h (f282_241 h l0 l2 l3 l4 l5 l7 q0) (Sum.elim (fun s : (Int32 × Int32) => Ev 282 (180, [.ref l0, .retAddr 0, .int l2, .int l3, .int l4, .int l5, .int s.1, .int s.2, .retAddr 0], []) h) (Sum.elim (fun s : (Int32 × Int32) => Ev 282 (163, [.ref l0, .retAddr 0, .int l2, .int l3, .int s.1, .int s.2, .retAddr 0, .retAddr 0, .retAddr 0], []) h) (fun (q : Int32 × mH) (res : Option Value × mH) => res = (some (.int q.1), q.2)))) := by
  unfold f282_241
  refine Seg.blk0 (f' := (180, [.ref l0, .retAddr 0, .int l2, .int l3, .int l4, .int l5, .int q0, .int (l7 + (-1)), .retAddr 0], [])) (h' := h) rfl rfl ?_
  exact Seg.cont (fun _ q => Ev.w (mLw.k (mLw.k (mLw.k (mLw.k (mLw.k (mLw.k (mLw.k (mLw.k (mLw.k mLw.nil))))))))) q)
theorem s282_227 (h : mH) (l0 : Nat) (l2 : Int32) (l3 : Int32) (l4 : Int32) (l5 : Int32) (l6 : Int32) (l7 : Int32) (q0 : Int32) : Seg 282 (227, [.ref l0, .retAddr 0, .int l2, .int l3, .int l4, .int l5, .int l6, .int l7, .retAddr 0], [.int q0]) h (f282_227 h l0 l2 l3 l4 l5 l6 l7 q0) (Sum.elim (fun s : (Int32 × Int32) => Ev 282 (180, [.ref l0, .retAddr 0, .int l2, .int l3, .int l4, .int l5, .int s.1, .int s.2, .retAddr 0], []) h) (Sum.elim (fun s : (Int32 × Int32) => Ev 282 (163, [.ref l0, .retAddr 0, .int l2, .int l3, .int s.1, .int s.2, .retAddr 0, .retAddr 0, .retAddr 0], []) h) (fun (q : Int32 × mH) (res : Option Value × mH) => res = (some (.int q.1), q.2)))) := by
  unfold f282_227
  refine Seg.blk0 (f' := (if (q0 : Int32) = 0 then 239 else 234, [.ref l0, .retAddr 0, .int l2, .int l3, .int l4, .int l5, .int l6, .int l7, .int q0], [])) (h' := h) rfl rfl ?_
  refine Seg.ite (fun _ => ?_) (fun _ => ?_)
  · refine Seg.blk0 (f' := (241, [.ref l0, .retAddr 0, .int l2, .int l3, .int l4, .int l5, .int l6, .int l7, .int q0], [.int l6])) (h' := h) rfl rfl ?_
    exact Seg.w (mLw.k (mLw.k (mLw.k (mLw.k (mLw.k (mLw.k (mLw.u (mLw.k (mLw.u mLw.nil))))))))) (s282_241 h l0 l2 l3 l4 l5 l7 l6)
  · refine Seg.blk0 (f' := (241, [.ref l0, .retAddr 0, .int l2, .int l3, .int l4, .int l5, .int l6, .int l7, .int q0], [.int l7])) (h' := h) rfl rfl ?_
    exact Seg.w (mLw.k (mLw.k (mLw.k (mLw.k (mLw.k (mLw.k (mLw.u (mLw.k (mLw.u mLw.nil))))))))) (s282_241 h l0 l2 l3 l4 l5 l7 l7)
theorem s282_222 (h : mH) (l0 : Nat) (l2 : Int32) (l3 : Int32) (l4 : Int32) (l5 : Int32) (l6 : Int32) (l7 : Int32) : Seg 282 (222, [.ref l0, .retAddr 0, .int l2, .int l3, .int l4, .int l5, .int l6, .int l7, .retAddr 0], []) h (f282_222 h l0 l2 l3 l4 l5 l6 l7) (Sum.elim (fun s : (Int32 × Int32) => Ev 282 (180, [.ref l0, .retAddr 0, .int l2, .int l3, .int l4, .int l5, .int s.1, .int s.2, .retAddr 0], []) h) (Sum.elim (fun s : (Int32 × Int32) => Ev 282 (163, [.ref l0, .retAddr 0, .int l2, .int l3, .int s.1, .int s.2, .retAddr 0, .retAddr 0, .retAddr 0], []) h) (fun (q : Int32 × mH) (res : Option Value × mH) => res = (some (.int q.1), q.2)))) := by
  unfold f282_222
  refine Seg.blk0 (f' := (227, [.ref l0, .retAddr 0, .int l2, .int l3, .int l4, .int l5, .int l6, .int l7, .retAddr 0], [.int 1])) (h' := h) rfl rfl ?_
  exact Seg.w (mLw.k (mLw.k (mLw.k (mLw.k (mLw.k (mLw.k (mLw.k (mLw.k (mLw.k mLw.nil))))))))) (s282_227 h l0 l2 l3 l4 l5 l6 l7 1)
theorem s282_226 (h : mH) (l0 : Nat) (l2 : Int32) (l3 : Int32) (l4 : Int32) (l5 : Int32) (l6 : Int32) (l7 : Int32) : Seg 282 (226, [.ref l0, .retAddr 0, .int l2, .int l3, .int l4, .int l5, .int l6, .int l7, .retAddr 0], []) h (f282_226 h l0 l2 l3 l4 l5 l6 l7) (Sum.elim (fun s : (Int32 × Int32) => Ev 282 (180, [.ref l0, .retAddr 0, .int l2, .int l3, .int l4, .int l5, .int s.1, .int s.2, .retAddr 0], []) h) (Sum.elim (fun s : (Int32 × Int32) => Ev 282 (163, [.ref l0, .retAddr 0, .int l2, .int l3, .int s.1, .int s.2, .retAddr 0, .retAddr 0, .retAddr 0], []) h) (fun (q : Int32 × mH) (res : Option Value × mH) => res = (some (.int q.1), q.2)))) := by
  unfold f282_226
  refine Seg.blk0 (f' := (227, [.ref l0, .retAddr 0, .int l2, .int l3, .int l4, .int l5, .int l6, .int l7, .retAddr 0], [.int 0])) (h' := h) rfl rfl ?_
  exact Seg.w (mLw.k (mLw.k (mLw.k (mLw.k (mLw.k (mLw.k (mLw.k (mLw.k (mLw.k mLw.nil))))))))) (s282_227 h l0 l2 l3 l4 l5 l6 l7 0)
theorem s282_180 (h : mH) (l0 : Nat) (l2 : Int32) (l3 : Int32) (l4 : Int32) (l5 : Int32) : ∀ (n : Nat) (s : (Int32 × Int32)), Seg 282 (180, [.ref l0, .retAddr 0, .int l2, .int l3, .int l4, .int l5, .int s.1, .int s.2, .retAddr 0], []) h (mLoop (f282_180 h l0 l2 l3 l4 l5) n s) (Sum.elim (fun s : (Int32 × Int32) => Ev 282 (163, [.ref l0, .retAddr 0, .int l2, .int l3, .int s.1, .int s.2, .retAddr 0, .retAddr 0, .retAddr 0], []) h) (fun (q : Int32 × mH) (res : Option Value × mH) => res = (some (.int q.1), q.2))) := by
  refine Seg.loop (F := fun s : (Int32 × Int32) => (180, [.ref l0, .retAddr 0, .int l2, .int l3, .int l4, .int l5, .int s.1, .int s.2, .retAddr 0], [])) (H := fun s : (Int32 × Int32) => h) (fun s => ?_)
  show Seg 282 (180, [.ref l0, .retAddr 0, .int l2, .int l3, .int l4, .int l5, .int s.1, .int s.2, .retAddr 0], []) h _ (Sum.elim (fun s : (Int32 × Int32) => Ev 282 (180, [.ref l0, .retAddr 0, .int l2, .int l3, .int l4, .int l5, .int s.1, .int s.2, .retAddr 0], []) h) (Sum.elim (fun s : (Int32 × Int32) => Ev 282 (163, [.ref l0, .retAddr 0, .int l2, .int l3, .int s.1, .int s.2, .retAddr 0, .retAddr 0, .retAddr 0], []) h) (fun (q : Int32 × mH) (res : Option Value × mH) => res = (some (.int q.1), q.2))))
  unfold f282_180
  refine Seg.blk0 (f' := (if (s.2 : Int32) < 0 then 249 else 185, [.ref l0, .retAddr 0, .int l2, .int l3, .int l4, .int l5, .int s.1, .int s.2, .retAddr 0], [])) (h' := h) rfl rfl ?_
  refine Seg.ite (fun _ => ?_) (fun _ => ?_)
  · refine Seg.x ?_
    refine Seg.blk0 (f' := (163, [.ref l0, .retAddr 0, .int l2, .int l3, .int s.1, .int (l5 + 1), .int s.1, .int s.2, .retAddr 0], [])) (h' := h) rfl rfl ?_
    exact Seg.cont (fun _ q => Ev.w (mLw.k (mLw.k (mLw.k (mLw.k (mLw.k (mLw.k (mLw.u (mLw.u (mLw.k mLw.nil))))))))) q)
  · refine Seg.blk (f' := (if ((mI h ((mR h l0 49).getD 0) (Int32.toNatClampNeg s.2)) : Int32) = (l3 - l5) then 199 else 226, [.ref l0, .retAddr 0, .int l2, .int l3, .int l4, .int l5, .int s.1, .int s.2, .retAddr 0], [])) (h' := h) rfl rfl ?_
    refine Seg.ite (fun _ => ?_) (fun _ => ?_)
    · refine Seg.blk0 (f' := (if (l4 : Int32) = (-1) then 222 else 205, [.ref l0, .retAddr 0, .int l2, .int l3, .int l4, .int l5, .int s.1, .int s.2, .retAddr 0], [])) (h' := h) rfl rfl ?_
      refine Seg.ite (fun _ => ?_) (fun _ => ?_)
      · exact Seg.w (mLw.k (mLw.k (mLw.k (mLw.k (mLw.k (mLw.k (mLw.k (mLw.k (mLw.k mLw.nil))))))))) (s282_222 h l0 l2 l3 l4 l5 s.1 s.2)
      · refine Seg.callP (f1 := (211, [.ref l0, .retAddr 0, .int l2, .int l3, .int l4, .int l5, .int s.1, .int s.2, .retAddr 0], [.int (19 + s.2), .ref l0])) (h1 := h) (cv := fun r => some (.int r)) rfl rfl rfl rfl (s206 h l0 (19 + s.2)) (fun r3 => ?_)
        refine Seg.callP (f1 := (216, [.ref l0, .retAddr 0, .int l2, .int l3, .int l4, .int l5, .int s.1, .int s.2, .retAddr 0], [.int l4, .int r3])) (h1 := h) (cv := fun r => some (.int r)) rfl rfl rfl rfl (s221 h r3 l4) (fun r4 => ?_)
        refine Seg.blk0 (f' := (if (r4 : Int32) = 0 then 226 else 222, [.ref l0, .retAddr 0, .int l2, .int l3, .int l4, .int l5, .int s.1, .int s.2, .retAddr 0], [])) (h' := h) rfl rfl ?_
        refine Seg.ite (fun _ => ?_) (fun _ => ?_)
        · exact Seg.w (mLw.k (mLw.k (mLw.k (mLw.k (mLw.k (mLw.k (mLw.k (mLw.k (mLw.k mLw.nil))))))))) (s282_226 h l0 l2 l3 l4 l5 s.1 s.2)
        · exact Seg.w (mLw.k (mLw.k (mLw.k (mLw.k (mLw.k (mLw.k (mLw.k (mLw.k (mLw.k mLw.nil))))))))) (s282_222 h l0 l2 l3 l4 l5 s.1 s.2)
    · exact Seg.w (mLw.k (mLw.k (mLw.k (mLw.k (mLw.k (mLw.k (mLw.k (mLw.k (mLw.k mLw.nil))))))))) (s282_226 h l0 l2 l3 l4 l5 s.1 s.2)
theorem s282_163 (h : mH) (l0 : Nat) (l2 : Int32) (l3 : Int32) : ∀ (n : Nat) (s : (Int32 × Int32)), Seg 282 (163, [.ref l0, .retAddr 0, .int l2, .int l3, .int s.1, .int s.2, .retAddr 0, .retAddr 0, .retAddr 0], []) h (mLoop (f282_163 h l0 l2 l3) n s) (fun (q : Int32 × mH) (res : Option Value × mH) => res = (some (.int q.1), q.2)) := by
  refine Seg.loop (F := fun s : (Int32 × Int32) => (163, [.ref l0, .retAddr 0, .int l2, .int l3, .int s.1, .int s.2, .retAddr 0, .retAddr 0, .retAddr 0], [])) (H := fun s : (Int32 × Int32) => h) (fun s => ?_)
  show Seg 282 (163, [.ref l0, .retAddr 0, .int l2, .int l3, .int s.1, .int s.2, .retAddr 0, .retAddr 0, .retAddr 0], []) h _ (Sum.elim (fun s : (Int32 × Int32) => Ev 282 (163, [.ref l0, .retAddr 0, .int l2, .int l3, .int s.1, .int s.2, .retAddr 0, .retAddr 0, .retAddr 0], []) h) (fun (q : Int32 × mH) (res : Option Value × mH) => res = (some (.int q.1), q.2)))
  unfold f282_163
  refine Seg.blk0 (f' := (if (l2 : Int32) < s.2 then 259 else 169, [.ref l0, .retAddr 0, .int l2, .int l3, .int s.1, .int s.2, .retAddr 0, .retAddr 0, .retAddr 0], [])) (h' := h) rfl rfl ?_
  refine Seg.ite (fun _ => ?_) (fun _ => ?_)
  · refine Seg.x ?_
    exact Seg.ret (f1 := (261, [.ref l0, .retAddr 0, .int l2, .int l3, .int s.1, .int s.2, .retAddr 0, .retAddr 0, .retAddr 0], [.int s.1])) (h1 := h) rfl rfl rfl rfl (fun _ q => q)
  · refine Seg.blk (f' := (180, [.ref l0, .retAddr 0, .int l2, .int l3, .int s.1, .int s.2, .int (-1), .int ((mI h l0 24) - 1), .retAddr 0], [])) (h' := h) rfl rfl ?_
    exact Seg.w (mLw.k (mLw.k (mLw.k (mLw.k (mLw.k (mLw.k (mLw.k (mLw.k (mLw.k mLw.nil))))))))) (s282_180 h l0 l2 l3 s.1 s.2 mFuel ((-1), ((mI h l0 24) - 1)))
theorem s282_105 (h : mH) (l0 : Nat) (l2 : Int32) (l3 : Int32) (l4 : Int32) (l5 : Int32) (q0 : Nat) (q1 : Int32) (q2 : Int32) : Seg 282 (105, [.ref l0, .retAddr 0, .int l2, .int l3, .int l4, .int l5, .retAddr 0, .retAddr 0, .retAddr 0], [.int q2, .int q1, .ref q0]) h (f282_105 h l0 l2 l3 l4 l5 q0 q1 q2) (Sum.elim (fun s : (Int32 × mH) => Ev 282 (44, [.ref l0, .retAddr 0, .int l2, .int l3, .int l4, .int s.1, .retAddr 0, .retAddr 0, .retAddr 0], []) s.2) (Sum.elim (fun s : (Int32 × Int32 × mH) => Ev 282 (25, [.ref l0, .retAddr 0, .int l2, .int s.1, .int s.2.1, .retAddr 0, .retAddr 0, .retAddr 0, .retAddr 0], []) s.2.2) (fun (q : Int32 × mH) (res : Option Value × mH) => res = (some (.int q.1), q.2)))) := by
  unfold f282_105
  refine Seg.blk (f' := (106, [.ref l0, .retAddr 0, .int l2, .int l3, .int l4, .int l5, .retAddr 0, .retAddr 0, .retAddr 0], [])) (h' := (mSI h q0 (Int32.toNatClampNeg q1) q2)) rfl rfl ?_
  refine Seg.blk0 (f' := (44, [.ref l0, .retAddr 0, .int l2, .int l3, .int l4, .int (l5 + 1), .retAddr 0, .retAddr 0, .retAddr 0], [])) (h' := (mSI h q0 (Int32.toNatClampNeg q1) q2)) rfl rfl ?_
  exact Seg.cont (fun _ q => Ev.w (mLw.k (mLw.k (mLw.k (mLw.k (mLw.k (mLw.k (mLw.k (mLw.k (mLw.k mLw.nil))))))))) q)
theorem s282_44d (l0 : Nat) (l2 : Int32) (l3 : Int32) (l4 : Int32) (s : (Int32 × mH)) : Seg 282 (98, [.ref l0, .retAddr 0, .int l2, .int l3, .int l4, .int s.1, .retAddr 0, .retAddr 0, .retAddr 0], [.int l4, .ref ((mR s.2 l0 49).getD 0)]) s.2 (mGd ((Nat.beq (mK s.2 l0).1 12 && (mR s.2 l0 49).isSome) && ((Nat.beq (mK s.2 ((mR s.2 l0 49).getD 0)).1 100 && mIn l4 (mK s.2 ((mR s.2 l0 49).getD 0)).2) && true)) (
        f282_105 s.2 l0 l2 l3 l4 s.1 ((mR s.2 l0 49).getD 0) l4 (mI s.2 ((mR s.2 l0 49).getD 0) (Int32.toNatClampNeg l4)))) (Sum.elim (fun s : (Int32 × mH) => Ev 282 (44, [.ref l0, .retAddr 0, .int l2, .int l3, .int l4, .int s.1, .retAddr 0, .retAddr 0, .retAddr 0], []) s.2) (Sum.elim (fun s : (Int32 × Int32 × mH) => Ev 282 (25, [.ref l0, .retAddr 0, .int l2, .int s.1, .int s.2.1, .retAddr 0, .retAddr 0, .retAddr 0, .retAddr 0], []) s.2.2) (fun (q : Int32 × mH) (res : Option Value × mH) => res = (some (.int q.1), q.2)))) := by
  refine Seg.blk (f' := (105, [.ref l0, .retAddr 0, .int l2, .int l3, .int l4, .int s.1, .retAddr 0, .retAddr 0, .retAddr 0], [.int (mI s.2 ((mR s.2 l0 49).getD 0) (Int32.toNatClampNeg l4)), .int l4, .ref ((mR s.2 l0 49).getD 0)])) (h' := s.2) rfl rfl ?_
  exact Seg.w (mLw.k (mLw.k (mLw.k (mLw.k (mLw.k (mLw.k (mLw.k (mLw.k (mLw.k mLw.nil))))))))) (s282_105 s.2 l0 l2 l3 l4 s.1 ((mR s.2 l0 49).getD 0) l4 (mI s.2 ((mR s.2 l0 49).getD 0) (Int32.toNatClampNeg l4)))
theorem s282_44c (l0 : Nat) (l2 : Int32) (l3 : Int32) (l4 : Int32) (s : (Int32 × mH)) : Seg 282 (76, [.ref l0, .retAddr 0, .int l2, .int l3, .int l4, .int s.1, .retAddr 0, .retAddr 0, .retAddr 0], [.int l4, .ref ((mR s.2 l0 49).getD 0)]) s.2 (mGd (((Nat.beq (mK s.2 l0).1 12 && (mR s.2 l0 49).isSome) && ((Nat.beq (mK s.2 ((mR s.2 l0 49).getD 0)).1 100 && mIn l4 (mK s.2 ((mR s.2 l0 49).getD 0)).2) && ((Nat.beq (mK s.2 l0).1 12 && (mR s.2 l0 49).isSome) && ((Nat.beq (mK s.2 ((mR s.2 l0 49).getD 0)).1 100 && mIn s.1 (mK s.2 ((mR s.2 l0 49).getD 0)).2) && true)))) && true) ((f196 s.2 (mI s.2 ((mR s.2 l0 49).getD 0) (Int32.toNatClampNeg l4)) (1 + (mI s.2 ((mR s.2 l0 49).getD 0) (Int32.toNatClampNeg s.1)))).bind (fun r8 =>
        f282_105 s.2 l0 l2 l3 l4 s.1 ((mR s.2 l0 49).getD 0) l4 r8))) (Sum.elim (fun s : (Int32 × mH) => Ev 282 (44, [.ref l0, .retAddr 0, .int l2, .int l3, .int l4, .int s.1, .retAddr 0, .retAddr 0, .retAddr 0], []) s.2) (Sum.elim (fun s : (Int32 × Int32 × mH) => Ev 282 (25, [.ref l0, .retAddr 0, .int l2, .int s.1, .int s.2.1, .retAddr 0, .retAddr 0, .retAddr 0, .retAddr 0], []) s.2.2) (fun (q : Int32 × mH) (res : Option Value × mH) => res = (some (.int q.1), q.2)))) := by
  refine Seg.callP (f1 := (92, [.ref l0, .retAddr 0, .int l2, .int l3, .int l4, .int s.1, .retAddr 0, .retAddr 0, .retAddr 0], [.int (1 + (mI s.2 ((mR s.2 l0 49).getD 0) (Int32.toNatClampNeg s.1))), .int (mI s.2 ((mR s.2 l0 49).getD 0) (Int32.toNatClampNeg l4)), .int l4, .ref ((mR s.2 l0 49).getD 0)])) (h1 := s.2) (cv := fun r => some (.int r)) rfl rfl rfl rfl (s196 s.2 (mI s.2 ((mR s.2 l0 49).getD 0) (Int32.toNatClampNeg l4)) (1 + (mI s.2 ((mR s.2 l0 49).getD 0) (Int32.toNatClampNeg s.1)))) (fun r8 => ?_)
  refine Seg.blk0 (f' := (105, [.ref l0, .retAddr 0, .int l2, .int l3, .int l4, .int s.1, .retAddr 0, .retAddr 0, .retAddr 0], [.int r8, .int l4, .ref ((mR s.2 l0 49).getD 0)])) (h' := s.2) rfl rfl ?_
  exact Seg.w (mLw.k (mLw.k (mLw.k (mLw.k (mLw.k (mLw.k (mLw.k (mLw.k (mLw.k mLw.nil))))))))) (s282_105 s.2 l0 l2 l3 l4 s.1 ((mR s.2 l0 49).getD 0) l4 r8)
theorem s282_44b (l0 : Nat) (l2 : Int32) (l3 : Int32) (l4 : Int32) (s : (Int32 × mH)) : Seg 282 (53, [.ref l0, .retAddr 0, .int l2, .int l3, .int l4, .int s.1, .retAddr 0, .retAddr 0, .retAddr 0], []) s.2 (mGd (((Nat.beq (mK s.2 l0).1 12 && (mR s.2 l0 49).isSome) && true) && Nat.beq (mK s.2 l0).1 12) ((f206 s.2 l0 (19 + s.1)).bind (fun r6 =>
      mGd (true && true) ((f221 s.2 r6 l4).bind (fun r7 =>
      if (r7 : Int32) = 0 then
      mGd ((Nat.beq (mK s.2 l0).1 12 && (mR s.2 l0 49).isSome) && ((Nat.beq (mK s.2 ((mR s.2 l0 49).getD 0)).1 100 && mIn l4 (mK s.2 ((mR s.2 l0 49).getD 0)).2) && true)) (
        f282_105 s.2 l0 l2 l3 l4 s.1 ((mR s.2 l0 49).getD 0) l4 (mI s.2 ((mR s.2 l0 49).getD 0) (Int32.toNatClampNeg l4)))
    else 
      mGd (((Nat.beq (mK s.2 l0).1 12 && (mR s.2 l0 49).isSome) && ((Nat.beq (mK s.2 ((mR s.2 l0 49).getD 0)).1 100 && mIn l4 (mK s.2 ((mR s.2 l0 49).getD 0)).2) && ((Nat.beq (mK s.2 l0).1 12 && (mR s.2 l0 49).isSome) && ((Nat.beq (mK s.2 ((mR s.2 l0 49).getD 0)).1 100 && mIn s.1 (mK s.2 ((mR s.2 l0 49).getD 0)).2) && true)))) && true) ((f196 s.2 (mI s.2 ((mR s.2 l0 49).getD 0) (Int32.toNatClampNeg l4)) (1 + (mI s.2 ((mR s.2 l0 49).getD 0) (Int32.toNatClampNeg s.1)))).bind (fun r8 =>
        f282_105 s.2 l0 l2 l3 l4 s.1 ((mR s.2 l0 49).getD 0) l4 r8))))))) (Sum.elim (fun s : (Int32 × mH) => Ev 282 (44, [.ref l0, .retAddr 0, .int l2, .int l3, .int l4, .int s.1, .retAddr 0, .retAddr 0, .retAddr 0], []) s.2) (Sum.elim (fun s : (Int32 × Int32 × mH) => Ev 282 (25, [.ref l0, .retAddr 0, .int l2, .int s.1, .int s.2.1, .retAddr 0, .retAddr 0, .retAddr 0, .retAddr 0], []) s.2.2) (fun (q : Int32 × mH) (res : Option Value × mH) => res = (some (.int q.1), q.2)))) := by
  refine Seg.callP (f1 := (65, [.ref l0, .retAddr 0, .int l2, .int l3, .int l4, .int s.1, .retAddr 0, .retAddr 0, .retAddr 0], [.int (19 + s.1), .ref l0, .int l4, .ref ((mR s.2 l0 49).getD 0)])) (h1 := s.2) (cv := fun r => some (.int r)) rfl rfl rfl rfl (s206 s.2 l0 (19 + s.1)) (fun r6 => ?_)
  refine Seg.callP (f1 := (70, [.ref l0, .retAddr 0, .int l2, .int l3, .int l4, .int s.1, .retAddr 0, .retAddr 0, .retAddr 0], [.int l4, .int r6, .int l4, .ref ((mR s.2 l0 49).getD 0)])) (h1 := s.2) (cv := fun r => some (.int r)) rfl rfl rfl rfl (s221 s.2 r6 l4) (fun r7 => ?_)
  refine Seg.blk0 (f' := (if (r7 : Int32) = 0 then 98 else 76, [.ref l0, .retAddr 0, .int l2, .int l3, .int l4, .int s.1, .retAddr 0, .retAddr 0, .retAddr 0], [.int l4, .ref ((mR s.2 l0 49).getD 0)])) (h' := s.2) rfl rfl ?_
  refine Seg.ite (fun _ => ?_) (fun _ => ?_)
  · exact s282_44d l0 l2 l3 l4 s
  · exact s282_44c l0 l2 l3 l4 s
