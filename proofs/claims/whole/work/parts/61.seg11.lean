/-! The small machine runs the programs; printed by a program of ours. -/
theorem s256_6 (h : mH) : ∀ (n : Nat) (s : (Int64 × Int64)), Seg 256 (6, [.retAddr 0, .retAddr 0, .retAddr 0, .retAddr 0, .long s.1, .retAddr 0, .long s.2, .retAddr 0, .retAddr 0, .retAddr 0], []) h (mLoop (f256_6 h) n s) (fun (q : Int64) (res : Option Value × mH) => res = (some (.long q), h)) := by
  refine Seg.loop (F := fun s : (Int64 × Int64) => (6, [.retAddr 0, .retAddr 0, .retAddr 0, .retAddr 0, .long s.1, .retAddr 0, .long s.2, .retAddr 0, .retAddr 0, .retAddr 0], [])) (H := fun s : (Int64 × Int64) => h) (fun s => ?_)
  show Seg 256 (6, [.retAddr 0, .retAddr 0, .retAddr 0, .retAddr 0, .long s.1, .retAddr 0, .long s.2, .retAddr 0, .retAddr 0, .retAddr 0], []) h _ (Sum.elim (fun s : (Int64 × Int64) => Ev 256 (6, [.retAddr 0, .retAddr 0, .retAddr 0, .retAddr 0, .long s.1, .retAddr 0, .long s.2, .retAddr 0, .retAddr 0, .retAddr 0], []) h) (fun (q : Int64) (res : Option Value × mH) => res = (some (.long q), h)))
  unfold f256_6
  refine Seg.blk0 (f' := (if ((lg_cmp s.2 0) : Int32) = 0 then 31 else 13, [.retAddr 0, .retAddr 0, .retAddr 0, .retAddr 0, .long s.1, .retAddr 0, .long s.2, .retAddr 0, .retAddr 0, .retAddr 0], [])) (h' := h) rfl rfl ?_
  refine Seg.ite (fun _ => ?_) (fun _ => ?_)
  · refine Seg.x ?_
    exact Seg.ret (f1 := (33, [.retAddr 0, .retAddr 0, .retAddr 0, .retAddr 0, .long s.1, .retAddr 0, .long s.2, .retAddr 0, .retAddr 0, .retAddr 0], [.long s.1])) (h1 := h) rfl rfl rfl rfl (fun _ q => q)
  · refine Seg.blk (f' := (6, [.retAddr 0, .retAddr 0, .retAddr 0, .retAddr 0, .long s.2, .retAddr 0, .long (s.1 - s.1 / s.2 * s.2), .retAddr 0, .long (s.1 - s.1 / s.2 * s.2), .retAddr 0], [])) (h' := h) rfl rfl ?_
    exact Seg.cont (fun _ q => Ev.w (mLw.k (mLw.k (mLw.k (mLw.k (mLw.k (mLw.k (mLw.k (mLw.k (mLw.u (mLw.k mLw.nil)))))))))) q)
theorem s256 (h : mH) (l0 : Int64) (l2 : Int64) : Seg 256 (0, [.long l0, .retAddr 0, .long l2, .retAddr 0, .retAddr 0, .retAddr 0, .retAddr 0, .retAddr 0, .retAddr 0, .retAddr 0], []) h (f256 h l0 l2) (fun (q : Int64) (res : Option Value × mH) => res = (some (.long q), h)) := by
  unfold f256
  refine Seg.blk0 (f' := (6, [.long l0, .retAddr 0, .long l2, .retAddr 0, .long l0, .retAddr 0, .long l2, .retAddr 0, .retAddr 0, .retAddr 0], [])) (h' := h) rfl rfl ?_
  exact Seg.w (mLw.u (mLw.k (mLw.u (mLw.k (mLw.k (mLw.k (mLw.k (mLw.k (mLw.k (mLw.k mLw.nil)))))))))) (s256_6 h mFuel (l0, l2))
theorem s255_10 (h : mH) (l0 : Int64) (l2 : Int64) (q0 : Int64) : Seg 255 (10, [.long l0, .retAddr 0, .long l2, .retAddr 0, .retAddr 0], [.long q0]) h (f255_10 h l0 l2 q0) (fun (q : Int64) (res : Option Value × mH) => res = (some (.long q), h)) := by
  unfold f255_10
  refine Seg.callP (f1 := (12, [.long l0, .retAddr 0, .long l2, .retAddr 0, .retAddr 0], [.long l0, .long l2, .long q0])) (h1 := h) (cv := fun r => some (.long r)) rfl rfl rfl rfl (s256 h l2 l0) (fun r1 => ?_)
  exact Seg.ret (f1 := (16, [.long l0, .retAddr 0, .long l2, .retAddr 0, .retAddr 0], [.long (q0 / r1)])) (h1 := h) rfl rfl rfl rfl (fun _ q => q)
theorem s255 (h : mH) (l0 : Int64) (l2 : Int64) (l4 : Int32) : Seg 255 (0, [.long l0, .retAddr 0, .long l2, .retAddr 0, .int l4], []) h (f255 h l0 l2 l4) (fun (q : Int64) (res : Option Value × mH) => res = (some (.long q), h)) := by
  unfold f255
  refine Seg.blk0 (f' := (if (l4 : Int32) = 0 then 9 else 5, [.long l0, .retAddr 0, .long l2, .retAddr 0, .int l4], [])) (h' := h) rfl rfl ?_
  refine Seg.ite (fun _ => ?_) (fun _ => ?_)
  · refine Seg.blk0 (f' := (10, [.long l0, .retAddr 0, .long l2, .retAddr 0, .int l4], [.long l0])) (h' := h) rfl rfl ?_
    exact Seg.w (mLw.k (mLw.k (mLw.k (mLw.k (mLw.u mLw.nil))))) (s255_10 h l0 l2 l0)
  · refine Seg.blk0 (f' := (10, [.long l0, .retAddr 0, .long l2, .retAddr 0, .int l4], [.long l2])) (h' := h) rfl rfl ?_
    exact Seg.w (mLw.k (mLw.k (mLw.k (mLw.k (mLw.u mLw.nil))))) (s255_10 h l0 l2 l2)
theorem s251_42 (h : mH) : Seg 251 (42, [.retAddr 0, .retAddr 0, .retAddr 0, .retAddr 0, .retAddr 0, .retAddr 0, .retAddr 0, .retAddr 0, .retAddr 0, .retAddr 0, .retAddr 0], []) h (f251_42 h) (fun (q : Int64 × mH) (res : Option Value × mH) => res = (some (.long q.1), q.2)) := by
  unfold f251_42
  exact Seg.ret (f1 := (45, [.retAddr 0, .retAddr 0, .retAddr 0, .retAddr 0, .retAddr 0, .retAddr 0, .retAddr 0, .retAddr 0, .retAddr 0, .retAddr 0, .retAddr 0], [.long (-1)])) (h1 := h) rfl rfl rfl rfl (fun _ q => q)
theorem s251_122 (h : mH) (l0 : Nat) (l2 : Int32) (l3 : Int32) (l4 : Int32) (l5 : Int32) (l6 : Int64) (l8 : Int64) (l10 : Int32) : Seg 251 (122, [.ref l0, .retAddr 0, .int l2, .int l3, .int l4, .int l5, .long l6, .retAddr 0, .long l8, .retAddr 0, .int l10], []) h (f251_122 h l0 l2 l3 l4 l5 l6 l8 l10) (Sum.elim (fun s : (Int64 × Int64 × Int32) => Ev 251 (55, [.ref l0, .retAddr 0, .int l2, .int l3, .int l4, .int l5, .long s.1, .retAddr 0, .long s.2.1, .retAddr 0, .int s.2.2], []) h) (fun (q : Int64 × mH) (res : Option Value × mH) => res = (some (.long q.1), q.2))) := by
  unfold f251_122
  refine Seg.blk0 (f' := (55, [.ref l0, .retAddr 0, .int l2, .int l3, .int l4, .int l5, .long l6, .retAddr 0, .long l8, .retAddr 0, .int (l10 + 1)], [])) (h' := h) rfl rfl ?_
  exact Seg.cont (fun _ q => Ev.w (mLw.k (mLw.k (mLw.k (mLw.k (mLw.k (mLw.k (mLw.k (mLw.k (mLw.k (mLw.k (mLw.k mLw.nil))))))))))) q)
theorem s251_106 (h : mH) (l0 : Nat) (l2 : Int32) (l3 : Int32) (l4 : Int32) (l5 : Int32) (l6 : Int64) (l8 : Int64) (l10 : Int32) : Seg 251 (106, [.ref l0, .retAddr 0, .int l2, .int l3, .int l4, .int l5, .long l6, .retAddr 0, .long l8, .retAddr 0, .int l10], []) h (f251_106 h l0 l2 l3 l4 l5 l6 l8 l10) (Sum.elim (fun s : (Int64 × Int64 × Int32) => Ev 251 (55, [.ref l0, .retAddr 0, .int l2, .int l3, .int l4, .int l5, .long s.1, .retAddr 0, .long s.2.1, .retAddr 0, .int s.2.2], []) h) (fun (q : Int64 × mH) (res : Option Value × mH) => res = (some (.long q.1), q.2))) := by
  unfold f251_106
  refine Seg.blk (f' := (122, [.ref l0, .retAddr 0, .int l2, .int l3, .int l4, .int l5, .long l6, .retAddr 0, .long ((l8 * (Int32.toInt64 (l3 - l10))) / (Int32.toInt64 (l10 + 1))), .retAddr 0, .int l10], [])) (h' := h) rfl rfl ?_
  exact Seg.w (mLw.k (mLw.k (mLw.k (mLw.k (mLw.k (mLw.k (mLw.k (mLw.k (mLw.k (mLw.k (mLw.k mLw.nil))))))))))) (s251_122 h l0 l2 l3 l4 l5 l6 ((l8 * (Int32.toInt64 (l3 - l10))) / (Int32.toInt64 (l10 + 1))) l10)
theorem s251_103 (h : mH) (l0 : Nat) (l2 : Int32) (l3 : Int32) (l4 : Int32) (l5 : Int32) (l8 : Int64) (l10 : Int32) (q0 : Int64) (q1 : Int64) : Seg 251 (103, [.ref l0, .retAddr 0, .int l2, .int l3, .int l4, .int l5, .retAddr 0, .retAddr 0, .long l8, .retAddr 0, .int l10], [.long q1, .long q0]) h (f251_103 h l0 l2 l3 l4 l5 l8 l10 q0 q1) (Sum.elim (fun s : (Int64 × Int64 × Int32) => Ev 251 (55, [.ref l0, .retAddr 0, .int l2, .int l3, .int l4, .int l5, .long s.1, .retAddr 0, .long s.2.1, .retAddr 0, .int s.2.2], []) h) (fun (q : Int64 × mH) (res : Option Value × mH) => res = (some (.long q.1), q.2))) := by
  unfold f251_103
  refine Seg.blk0 (f' := (106, [.ref l0, .retAddr 0, .int l2, .int l3, .int l4, .int l5, .long (q0 + q1), .retAddr 0, .long l8, .retAddr 0, .int l10], [])) (h' := h) rfl rfl ?_
  exact Seg.w (mLw.k (mLw.k (mLw.k (mLw.k (mLw.k (mLw.k (mLw.k (mLw.k (mLw.k (mLw.k (mLw.k mLw.nil))))))))))) (s251_106 h l0 l2 l3 l4 l5 (q0 + q1) l8 l10)
theorem s251_55 (h : mH) (l0 : Nat) (l2 : Int32) (l3 : Int32) (l4 : Int32) (l5 : Int32) : ∀ (n : Nat) (s : (Int64 × Int64 × Int32)), Seg 251 (55, [.ref l0, .retAddr 0, .int l2, .int l3, .int l4, .int l5, .long s.1, .retAddr 0, .long s.2.1, .retAddr 0, .int s.2.2], []) h (mLoop (f251_55 h l0 l2 l3 l4 l5) n s) (fun (q : Int64 × mH) (res : Option Value × mH) => res = (some (.long q.1), q.2)) := by
  refine Seg.loop (F := fun s : (Int64 × Int64 × Int32) => (55, [.ref l0, .retAddr 0, .int l2, .int l3, .int l4, .int l5, .long s.1, .retAddr 0, .long s.2.1, .retAddr 0, .int s.2.2], [])) (H := fun s : (Int64 × Int64 × Int32) => h) (fun s => ?_)
  show Seg 251 (55, [.ref l0, .retAddr 0, .int l2, .int l3, .int l4, .int l5, .long s.1, .retAddr 0, .long s.2.1, .retAddr 0, .int s.2.2], []) h _ (Sum.elim (fun s : (Int64 × Int64 × Int32) => Ev 251 (55, [.ref l0, .retAddr 0, .int l2, .int l3, .int l4, .int l5, .long s.1, .retAddr 0, .long s.2.1, .retAddr 0, .int s.2.2], []) h) (fun (q : Int64 × mH) (res : Option Value × mH) => res = (some (.long q.1), q.2)))
  unfold f251_55
  refine Seg.blk0 (f' := (if (l3 : Int32) < s.2.2 then 128 else 61, [.ref l0, .retAddr 0, .int l2, .int l3, .int l4, .int l5, .long s.1, .retAddr 0, .long s.2.1, .retAddr 0, .int s.2.2], [])) (h' := h) rfl rfl ?_
  refine Seg.ite (fun _ => ?_) (fun _ => ?_)
  · refine Seg.x ?_
    refine Seg.callP (f1 := (134, [.ref l0, .retAddr 0, .int l2, .int l3, .int l4, .int l5, .long s.1, .retAddr 0, .long s.2.1, .retAddr 0, .int s.2.2], [.int l3, .long 10, .long s.1])) (h1 := h) (cv := fun r => some (.long r)) rfl rfl rfl rfl (s254 h 10 l3) (fun r5 => ?_)
    refine Seg.callP (f1 := (139, [.ref l0, .retAddr 0, .int l2, .int l3, .int l4, .int l5, .long s.1, .retAddr 0, .long s.2.1, .retAddr 0, .int s.2.2], [.int l5, .long r5, .long s.1])) (h1 := h) (cv := fun r => some (.long r)) rfl rfl rfl rfl (s255 h s.1 r5 l5) (fun r6 => ?_)
    exact Seg.ret (f1 := (142, [.ref l0, .retAddr 0, .int l2, .int l3, .int l4, .int l5, .long s.1, .retAddr 0, .long s.2.1, .retAddr 0, .int s.2.2], [.long r6])) (h1 := h) rfl rfl rfl rfl (fun _ q => q)
  · refine Seg.callP (f1 := (67, [.ref l0, .retAddr 0, .int l2, .int l3, .int l4, .int l5, .long s.1, .retAddr 0, .long s.2.1, .retAddr 0, .int s.2.2], [.int l2, .ref l0, .int s.2.2, .long s.1])) (h1 := h) (cv := fun r => some (.int r)) rfl rfl rfl rfl (s253 h l0 l2) (fun r7 => ?_)
    refine Seg.blk0 (f' := (if (s.2.2 : Int32) < r7 then 102 else 73, [.ref l0, .retAddr 0, .int l2, .int l3, .int l4, .int l5, .long s.1, .retAddr 0, .long s.2.1, .retAddr 0, .int s.2.2], [.long s.1])) (h' := h) rfl rfl ?_
    refine Seg.ite (fun _ => ?_) (fun _ => ?_)
    · refine Seg.blk0 (f' := (103, [.ref l0, .retAddr 0, .int l2, .int l3, .int l4, .int l5, .long s.1, .retAddr 0, .long s.2.1, .retAddr 0, .int s.2.2], [.long 0, .long s.1])) (h' := h) rfl rfl ?_
      exact Seg.w (mLw.k (mLw.k (mLw.k (mLw.k (mLw.k (mLw.k (mLw.u (mLw.k (mLw.k (mLw.k (mLw.k mLw.nil))))))))))) (s251_103 h l0 l2 l3 l4 l5 s.2.1 s.2.2 s.1 0)
    · refine Seg.callP (f1 := (84, [.ref l0, .retAddr 0, .int l2, .int l3, .int l4, .int l5, .long s.1, .retAddr 0, .long s.2.1, .retAddr 0, .int s.2.2], [.int s.2.2, .long (10 - (Int32.toInt64 l4)), .long s.2.1, .long s.1])) (h1 := h) (cv := fun r => some (.long r)) rfl rfl rfl rfl (s254 h (10 - (Int32.toInt64 l4)) s.2.2) (fun r8 => ?_)
      refine Seg.callP (f1 := (95, [.ref l0, .retAddr 0, .int l2, .int l3, .int l4, .int l5, .long s.1, .retAddr 0, .long s.2.1, .retAddr 0, .int s.2.2], [.int (l3 - s.2.2), .long (Int32.toInt64 l4), .long (s.2.1 * r8), .long s.1])) (h1 := h) (cv := fun r => some (.long r)) rfl rfl rfl rfl (s254 h (Int32.toInt64 l4) (l3 - s.2.2)) (fun r9 => ?_)
      refine Seg.blk0 (f' := (103, [.ref l0, .retAddr 0, .int l2, .int l3, .int l4, .int l5, .long s.1, .retAddr 0, .long s.2.1, .retAddr 0, .int s.2.2], [.long ((s.2.1 * r8) * r9), .long s.1])) (h' := h) rfl rfl ?_
      exact Seg.w (mLw.k (mLw.k (mLw.k (mLw.k (mLw.k (mLw.k (mLw.u (mLw.k (mLw.k (mLw.k (mLw.k mLw.nil))))))))))) (s251_103 h l0 l2 l3 l4 l5 s.2.1 s.2.2 s.1 ((s.2.1 * r8) * r9))
theorem s251_52 (h : mH) (l0 : Nat) (l2 : Int32) (l3 : Int32) (l4 : Int32) (l5 : Int32) (l6 : Int64) (l8 : Int64) : Seg 251 (52, [.ref l0, .retAddr 0, .int l2, .int l3, .int l4, .int l5, .long l6, .retAddr 0, .long l8, .retAddr 0, .retAddr 0], []) h (f251_52 h l0 l2 l3 l4 l5 l6 l8) (fun (q : Int64 × mH) (res : Option Value × mH) => res = (some (.long q.1), q.2)) := by
  unfold f251_52
  refine Seg.blk0 (f' := (55, [.ref l0, .retAddr 0, .int l2, .int l3, .int l4, .int l5, .long l6, .retAddr 0, .long l8, .retAddr 0, .int 0], [])) (h' := h) rfl rfl ?_
  exact Seg.w (mLw.k (mLw.k (mLw.k (mLw.k (mLw.k (mLw.k (mLw.k (mLw.k (mLw.k (mLw.k (mLw.k mLw.nil))))))))))) (s251_55 h l0 l2 l3 l4 l5 mFuel (l6, l8, 0))
theorem s251_49 (h : mH) (l0 : Nat) (l2 : Int32) (l3 : Int32) (l4 : Int32) (l5 : Int32) (l6 : Int64) : Seg 251 (49, [.ref l0, .retAddr 0, .int l2, .int l3, .int l4, .int l5, .long l6, .retAddr 0, .retAddr 0, .retAddr 0, .retAddr 0], []) h (f251_49 h l0 l2 l3 l4 l5 l6) (fun (q : Int64 × mH) (res : Option Value × mH) => res = (some (.long q.1), q.2)) := by
  unfold f251_49
  refine Seg.blk0 (f' := (52, [.ref l0, .retAddr 0, .int l2, .int l3, .int l4, .int l5, .long l6, .retAddr 0, .long 1, .retAddr 0, .retAddr 0], [])) (h' := h) rfl rfl ?_
  exact Seg.w (mLw.k (mLw.k (mLw.k (mLw.k (mLw.k (mLw.k (mLw.k (mLw.k (mLw.k (mLw.k (mLw.k mLw.nil))))))))))) (s251_52 h l0 l2 l3 l4 l5 l6 1)
theorem s251 (h : mH) (l0 : Nat) (l1 : Int32) (l2 : Int32) (l3 : Int32) (l4 : Int32) (l5 : Int32) : Seg 251 (0, [.ref l0, .int l1, .int l2, .int l3, .int l4, .int l5, .retAddr 0, .retAddr 0, .retAddr 0, .retAddr 0, .retAddr 0], []) h (f251 h l0 l1 l2 l3 l4 l5) (fun (q : Int64 × mH) (res : Option Value × mH) => res = (some (.long q.1), q.2)) := by
  unfold f251
  refine Seg.blk (f' := (5, [.ref l0, .int l1, .int l2, .int l3, .int l4, .int l5, .retAddr 0, .retAddr 0, .retAddr 0, .retAddr 0, .retAddr 0], [])) (h' := (mSI h l0 0 0)) rfl rfl ?_
  refine Seg.callP (f1 := (9, [.ref l0, .int l1, .int l2, .int l3, .int l4, .int l5, .retAddr 0, .retAddr 0, .retAddr 0, .retAddr 0, .retAddr 0], [.int 9, .int 1, .int l3])) (h1 := (mSI h l0 0 0)) (cv := fun r => some (.int r)) rfl rfl rfl rfl (s179 (mSI h l0 0 0) l3 1 9) (fun r1 => ?_)
  refine Seg.blk0 (f' := (if (r1 : Int32) = 0 then 42 else 15, [.ref l0, .int l1, .int l2, .int l3, .int l4, .int l5, .retAddr 0, .retAddr 0, .retAddr 0, .retAddr 0, .retAddr 0], [])) (h' := (mSI h l0 0 0)) rfl rfl ?_
  refine Seg.ite (fun _ => ?_) (fun _ => ?_)
  · exact Seg.w (mLw.u (mLw.u (mLw.u (mLw.u (mLw.u (mLw.u (mLw.k (mLw.k (mLw.k (mLw.k (mLw.k mLw.nil))))))))))) (s251_42 (mSI h l0 0 0))
  · refine Seg.callP (f1 := (20, [.ref l0, .int l1, .int l2, .int l3, .int l4, .int l5, .retAddr 0, .retAddr 0, .retAddr 0, .retAddr 0, .retAddr 0], [.int 10, .int 0, .int l4])) (h1 := (mSI h l0 0 0)) (cv := fun r => some (.int r)) rfl rfl rfl rfl (s179 (mSI h l0 0 0) l4 0 10) (fun r2 => ?_)
    refine Seg.blk0 (f' := (if (r2 : Int32) = 0 then 42 else 26, [.ref l0, .int l1, .int l2, .int l3, .int l4, .int l5, .retAddr 0, .retAddr 0, .retAddr 0, .retAddr 0, .retAddr 0], [])) (h' := (mSI h l0 0 0)) rfl rfl ?_
    refine Seg.ite (fun _ => ?_) (fun _ => ?_)
    · exact Seg.w (mLw.u (mLw.u (mLw.u (mLw.u (mLw.u (mLw.u (mLw.k (mLw.k (mLw.k (mLw.k (mLw.k mLw.nil))))))))))) (s251_42 (mSI h l0 0 0))
    · refine Seg.call (f1 := (28, [.ref l0, .int l1, .int l2, .int l3, .int l4, .int l5, .retAddr 0, .retAddr 0, .retAddr 0, .retAddr 0, .retAddr 0], [.int l1, .ref l0])) (h1 := (mSI h l0 0 0)) (cv := fun r => some (.int r)) rfl rfl rfl rfl (s205 (mSI h l0 0 0) l0 l1) (fun r3 => ?_)
      refine Seg.blk0 (f' := (if (r3.1 : Int32) = 0 then 42 else 34, [.ref l0, .int l1, .int l2, .int l3, .int l4, .int l5, .retAddr 0, .retAddr 0, .retAddr 0, .retAddr 0, .retAddr 0], [])) (h' := r3.2) rfl rfl ?_
      refine Seg.ite (fun _ => ?_) (fun _ => ?_)
      · exact Seg.w (mLw.u (mLw.u (mLw.u (mLw.u (mLw.u (mLw.u (mLw.k (mLw.k (mLw.k (mLw.k (mLw.k mLw.nil))))))))))) (s251_42 r3.2)
      · refine Seg.callP (f1 := (36, [.ref l0, .int l1, .int l2, .int l3, .int l4, .int l5, .retAddr 0, .retAddr 0, .retAddr 0, .retAddr 0, .retAddr 0], [.int l2, .ref l0])) (h1 := r3.2) (cv := fun r => some (.int r)) rfl rfl rfl rfl (s252 r3.2 l0 l2) (fun r4 => ?_)
        refine Seg.blk0 (f' := (if (r4 : Int32) = 0 then 42 else 46, [.ref l0, .int l1, .int l2, .int l3, .int l4, .int l5, .retAddr 0, .retAddr 0, .retAddr 0, .retAddr 0, .retAddr 0], [])) (h' := r3.2) rfl rfl ?_
        refine Seg.ite (fun _ => ?_) (fun _ => ?_)
        · exact Seg.w (mLw.u (mLw.u (mLw.u (mLw.u (mLw.u (mLw.u (mLw.k (mLw.k (mLw.k (mLw.k (mLw.k mLw.nil))))))))))) (s251_42 r3.2)
        · refine Seg.blk0 (f' := (49, [.ref l0, .int l1, .int l2, .int l3, .int l4, .int l5, .long 0, .retAddr 0, .retAddr 0, .retAddr 0, .retAddr 0], [])) (h' := r3.2) rfl rfl ?_
          exact Seg.w (mLw.k (mLw.u (mLw.k (mLw.k (mLw.k (mLw.k (mLw.k (mLw.k (mLw.k (mLw.k (mLw.k mLw.nil))))))))))) (s251_49 r3.2 l0 l2 l3 l4 l5 0)
theorem s258 (h : mH) (l0 : Nat) (l1 : Int32) : Seg 258 (0, [.ref l0, .int l1], []) h (f258 h l0 l1) (fun (q : Int32 × mH) (res : Option Value × mH) => res = (some (.int q.1), q.2)) := by
  unfold f258
  refine Seg.blk (f' := (5, [.ref l0, .int l1], [])) (h' := (mSI h l0 41 l1)) rfl rfl ?_
  refine Seg.callP (f1 := (8, [.ref l0, .int l1], [.int l1, .int 2, .ref l0])) (h1 := (mSI h l0 41 l1)) (cv := fun r => some (.int r)) rfl rfl rfl rfl (s181 (mSI h l0 41 l1) l0 2 l1) (fun r1 => ?_)
  exact Seg.ret (f1 := (11, [.ref l0, .int l1], [.int r1])) (h1 := (mSI h l0 41 l1)) rfl rfl rfl rfl (fun _ q => q)
theorem s259 (h : mH) (l0 : Nat) : Seg 259 (0, [.ref l0], []) h (f259 h l0) (fun (q : Int32) (res : Option Value × mH) => res = (some (.int q), h)) := by
  unfold f259
  exact Seg.ret (f1 := (12, [.ref l0], [.int (mI h ((mR h l0 8).getD 0) (Int32.toNatClampNeg (17 * (mI h l0 41))))])) (h1 := h) rfl rfl rfl rfl (fun _ q => q)
theorem s260 (h : mH) (l0 : Nat) (l1 : Int32) (l2 : Int32) : Seg 260 (0, [.ref l0, .int l1, .int l2], []) h (f260 h l0 l1 l2) (fun (q : Int32) (res : Option Value × mH) => res = (some (.int q), h)) := by
  unfold f260
  exact Seg.ret (f1 := (20, [.ref l0, .int l1, .int l2], [.int (mI h ((mR h l0 8).getD 0) (Int32.toNatClampNeg ((((17 * (mI h l0 41)) + 1) + (2 * l1)) + l2)))])) (h1 := h) rfl rfl rfl rfl (fun _ q => q)
theorem s257_34 (h : mH) (q0 : Int32) : Seg 257 (34, [.retAddr 0, .retAddr 0, .retAddr 0, .retAddr 0], [.int q0]) h (f257_34 h q0) (fun (q : Int32 × mH) (res : Option Value × mH) => res = (some (.int q.1), q.2)) := by
  unfold f257_34
  exact Seg.ret (f1 := (34, [.retAddr 0, .retAddr 0, .retAddr 0, .retAddr 0], [.int q0])) (h1 := h) rfl rfl rfl rfl (fun _ q => q)
theorem s257_69 (h : mH) (q0 : Int32) : Seg 257 (69, [.retAddr 0, .retAddr 0, .retAddr 0, .retAddr 0], [.int q0]) h (f257_69 h q0) (fun (q : Int32 × mH) (res : Option Value × mH) => res = (some (.int q.1), q.2)) := by
  unfold f257_69
  exact Seg.ret (f1 := (69, [.retAddr 0, .retAddr 0, .retAddr 0, .retAddr 0], [.int q0])) (h1 := h) rfl rfl rfl rfl (fun _ q => q)
theorem s257_67 (h : mH) : Seg 257 (67, [.retAddr 0, .retAddr 0, .retAddr 0, .retAddr 0], []) h (f257_67 h) (fun (q : Int32 × mH) (res : Option Value × mH) => res = (some (.int q.1), q.2)) := by
  unfold f257_67
  refine Seg.blk0 (f' := (69, [.retAddr 0, .retAddr 0, .retAddr 0, .retAddr 0], [.int (-2)])) (h' := h) rfl rfl ?_
  exact Seg.w (mLw.k (mLw.k (mLw.k (mLw.k mLw.nil)))) (s257_69 h (-2))
theorem s257 (h : mH) (l0 : Nat) (l1 : Int32) (l2 : Int32) (l3 : Int32) : Seg 257 (0, [.ref l0, .int l1, .int l2, .int l3], []) h (f257 h l0 l1 l2 l3) (fun (q : Int32 × mH) (res : Option Value × mH) => res = (some (.int q.1), q.2)) := by
  unfold f257
  refine Seg.blk (f' := (5, [.ref l0, .int l1, .int l2, .int l3], [])) (h' := (mSI h l0 0 0)) rfl rfl ?_
  refine Seg.call (f1 := (7, [.ref l0, .int l1, .int l2, .int l3], [.int l1, .ref l0])) (h1 := (mSI h l0 0 0)) (cv := fun r => some (.int r)) rfl rfl rfl rfl (s258 (mSI h l0 0 0) l0 l1) (fun r1 => ?_)
  refine Seg.blk0 (f' := (if (r1.1 : Int32) = 0 then 13 else 16, [.ref l0, .int l1, .int l2, .int l3], [])) (h' := r1.2) rfl rfl ?_
  refine Seg.ite (fun _ => ?_) (fun _ => ?_)
  · exact Seg.ret (f1 := (15, [.ref l0, .int l1, .int l2, .int l3], [.int (-2)])) (h1 := r1.2) rfl rfl rfl rfl (fun _ q => q)
  · refine Seg.blk0 (f' := (if (l2 : Int32) = (-1) then 21 else 35, [.ref l0, .int l1, .int l2, .int l3], [])) (h' := r1.2) rfl rfl ?_
    refine Seg.ite (fun _ => ?_) (fun _ => ?_)
    · refine Seg.blk0 (f' := (if (l3 : Int32) = 0 then 25 else 32, [.ref l0, .int l1, .int l2, .int l3], [])) (h' := r1.2) rfl rfl ?_
      refine Seg.ite (fun _ => ?_) (fun _ => ?_)
      · refine Seg.callP (f1 := (26, [.ref l0, .int l1, .int l2, .int l3], [.ref l0])) (h1 := r1.2) (cv := fun r => some (.int r)) rfl rfl rfl rfl (s259 r1.2 l0) (fun r2 => ?_)
        refine Seg.blk0 (f' := (34, [.ref l0, .int l1, .int l2, .int l3], [.int r2])) (h' := r1.2) rfl rfl ?_
        exact Seg.w (mLw.u (mLw.u (mLw.u (mLw.u mLw.nil)))) (s257_34 r1.2 r2)
      · refine Seg.blk0 (f' := (34, [.ref l0, .int l1, .int l2, .int l3], [.int (-2)])) (h' := r1.2) rfl rfl ?_
        exact Seg.w (mLw.u (mLw.u (mLw.u (mLw.u mLw.nil)))) (s257_34 r1.2 (-2))
    · refine Seg.callP (f1 := (38, [.ref l0, .int l1, .int l2, .int l3], [.ref l0, .int 0, .int l2])) (h1 := r1.2) (cv := fun r => some (.int r)) rfl rfl rfl rfl (s259 r1.2 l0) (fun r3 => ?_)
      refine Seg.callP (f1 := (43, [.ref l0, .int l1, .int l2, .int l3], [.int (r3 - 1), .int 0, .int l2])) (h1 := r1.2) (cv := fun r => some (.int r)) rfl rfl rfl rfl (s179 r1.2 l2 0 (r3 - 1)) (fun r4 => ?_)
      refine Seg.blk0 (f' := (if (r4 : Int32) = 0 then 67 else 49, [.ref l0, .int l1, .int l2, .int l3], [])) (h' := r1.2) rfl rfl ?_
      refine Seg.ite (fun _ => ?_) (fun _ => ?_)
      · exact Seg.w (mLw.u (mLw.u (mLw.u (mLw.u mLw.nil)))) (s257_67 r1.2)
      · refine Seg.callP (f1 := (52, [.ref l0, .int l1, .int l2, .int l3], [.int 1, .int 0, .int l3])) (h1 := r1.2) (cv := fun r => some (.int r)) rfl rfl rfl rfl (s179 r1.2 l3 0 1) (fun r5 => ?_)
        refine Seg.blk0 (f' := (if (r5 : Int32) = 0 then 67 else 58, [.ref l0, .int l1, .int l2, .int l3], [])) (h' := r1.2) rfl rfl ?_
        refine Seg.ite (fun _ => ?_) (fun _ => ?_)
        · exact Seg.w (mLw.u (mLw.u (mLw.u (mLw.u mLw.nil)))) (s257_67 r1.2)
        · refine Seg.callP (f1 := (61, [.ref l0, .int l1, .int l2, .int l3], [.int l3, .int l2, .ref l0])) (h1 := r1.2) (cv := fun r => some (.int r)) rfl rfl rfl rfl (s260 r1.2 l0 l2 l3) (fun r6 => ?_)
          refine Seg.blk0 (f' := (69, [.ref l0, .int l1, .int l2, .int l3], [.int r6])) (h' := r1.2) rfl rfl ?_
          exact Seg.w (mLw.u (mLw.u (mLw.u (mLw.u mLw.nil)))) (s257_69 r1.2 r6)
theorem s263 (h : mH) (l0 : Nat) (l1 : Int32) : Seg 263 (0, [.ref l0, .int l1], []) h (f263 h l0 l1) (fun (q : Int32) (res : Option Value × mH) => res = (some (.int q), h)) := by
  unfold f263
  refine Seg.callP (f1 := (12, [.ref l0, .int l1], [.int 0, .int (l1 - l1 / 10 * 10), .int ((1 : Int32) <<< ((l1 / 10) &&& (31 : Int32))), .ref l0])) (h1 := h) (cv := fun r => some (.int r)) rfl rfl rfl rfl (s246 h l0 ((1 : Int32) <<< ((l1 / 10) &&& (31 : Int32))) (l1 - l1 / 10 * 10) 0) (fun r1 => ?_)
  exact Seg.ret (f1 := (15, [.ref l0, .int l1], [.int r1])) (h1 := h) rfl rfl rfl rfl (fun _ q => q)
theorem s262_16 (h : mH) : Seg 262 (16, [.retAddr 0, .retAddr 0, .retAddr 0, .retAddr 0, .retAddr 0, .retAddr 0], []) h (f262_16 h) (fun (q : Int32 × mH) (res : Option Value × mH) => res = (some (.int q.1), q.2)) := by
  unfold f262_16
  exact Seg.ret (f1 := (17, [.retAddr 0, .retAddr 0, .retAddr 0, .retAddr 0, .retAddr 0, .retAddr 0], [.int 0])) (h1 := h) rfl rfl rfl rfl (fun _ q => q)
theorem s262_171 (h : mH) (l0 : Nat) (l3 : Int32) : Seg 262 (171, [.ref l0, .retAddr 0, .retAddr 0, .int l3, .retAddr 0, .retAddr 0], []) h (f262_171 h l0 l3) (Sum.elim (fun s : (Int32 × mH) => Ev 262 (56, [.ref l0, .retAddr 0, .retAddr 0, .int s.1, .retAddr 0, .retAddr 0], []) s.2) (fun (q : Int32 × mH) (res : Option Value × mH) => res = (some (.int q.1), q.2))) := by
  unfold f262_171
  refine Seg.blk0 (f' := (56, [.ref l0, .retAddr 0, .retAddr 0, .int (l3 + 1), .retAddr 0, .retAddr 0], [])) (h' := h) rfl rfl ?_
  exact Seg.cont (fun _ q => Ev.w (mLw.k (mLw.k (mLw.k (mLw.k (mLw.k (mLw.k mLw.nil)))))) q)
theorem s262_125 (h : mH) (l0 : Nat) (l3 : Int32) (l5 : Int32) (q0 : Int32) : Seg 262 (125, [.ref l0, .retAddr 0, .retAddr 0, .int l3, .retAddr 0, .int l5], [.int q0]) h (f262_125 h l0 l3 l5 q0) (Sum.elim (fun s : (Int32 × Int32) => Ev 262 (73, [.ref l0, .retAddr 0, .retAddr 0, .int l3, .int s.1, .int s.2], []) h) (Sum.elim (fun s : (Int32 × mH) => Ev 262 (56, [.ref l0, .retAddr 0, .retAddr 0, .int s.1, .retAddr 0, .retAddr 0], []) s.2) (fun (q : Int32 × mH) (res : Option Value × mH) => res = (some (.int q.1), q.2)))) := by
  unfold f262_125
  refine Seg.blk0 (f' := (73, [.ref l0, .retAddr 0, .retAddr 0, .int l3, .int q0, .int (l5 + 1)], [])) (h' := h) rfl rfl ?_
  exact Seg.cont (fun _ q => Ev.w (mLw.k (mLw.k (mLw.k (mLw.k (mLw.k (mLw.k mLw.nil)))))) q)
theorem s262_124 (h : mH) (l0 : Nat) (l3 : Int32) (l5 : Int32) : Seg 262 (124, [.ref l0, .retAddr 0, .retAddr 0, .int l3, .retAddr 0, .int l5], []) h (f262_124 h l0 l3 l5) (Sum.elim (fun s : (Int32 × Int32) => Ev 262 (73, [.ref l0, .retAddr 0, .retAddr 0, .int l3, .int s.1, .int s.2], []) h) (Sum.elim (fun s : (Int32 × mH) => Ev 262 (56, [.ref l0, .retAddr 0, .retAddr 0, .int s.1, .retAddr 0, .retAddr 0], []) s.2) (fun (q : Int32 × mH) (res : Option Value × mH) => res = (some (.int q.1), q.2)))) := by
  unfold f262_124
  refine Seg.blk0 (f' := (125, [.ref l0, .retAddr 0, .retAddr 0, .int l3, .retAddr 0, .int l5], [.int 0])) (h' := h) rfl rfl ?_
  exact Seg.w (mLw.k (mLw.k (mLw.k (mLw.k (mLw.k (mLw.k mLw.nil)))))) (s262_125 h l0 l3 l5 0)
theorem s262_117 (h : mH) (l0 : Nat) (l3 : Int32) (l5 : Int32) (q0 : Int32) (q1 : Int32) : Seg 262 (117, [.ref l0, .retAddr 0, .retAddr 0, .int l3, .retAddr 0, .int l5], [.int q1, .int q0]) h (f262_117 h l0 l3 l5 q0 q1) (Sum.elim (fun s : (Int32 × Int32) => Ev 262 (73, [.ref l0, .retAddr 0, .retAddr 0, .int l3, .int s.1, .int s.2], []) h) (Sum.elim (fun s : (Int32 × mH) => Ev 262 (56, [.ref l0, .retAddr 0, .retAddr 0, .int s.1, .retAddr 0, .retAddr 0], []) s.2) (fun (q : Int32 × mH) (res : Option Value × mH) => res = (some (.int q.1), q.2)))) := by
  unfold f262_117
  refine Seg.blk0 (f' := (if (q0 : Int32) = q1 then 120 else 124, [.ref l0, .retAddr 0, .retAddr 0, .int l3, .retAddr 0, .int l5], [])) (h' := h) rfl rfl ?_
  refine Seg.ite (fun _ => ?_) (fun _ => ?_)
  · refine Seg.blk0 (f' := (125, [.ref l0, .retAddr 0, .retAddr 0, .int l3, .retAddr 0, .int l5], [.int 1])) (h' := h) rfl rfl ?_
    exact Seg.w (mLw.k (mLw.k (mLw.k (mLw.k (mLw.k (mLw.k mLw.nil)))))) (s262_125 h l0 l3 l5 1)
  · exact Seg.w (mLw.k (mLw.k (mLw.k (mLw.k (mLw.k (mLw.k mLw.nil)))))) (s262_124 h l0 l3 l5)
theorem s262_73 (h : mH) (l0 : Nat) (l3 : Int32) : ∀ (n : Nat) (s : (Int32 × Int32)), Seg 262 (73, [.ref l0, .retAddr 0, .retAddr 0, .int l3, .int s.1, .int s.2], []) h (mLoop (f262_73 h l0 l3) n s) (Sum.elim (fun s : (Int32 × mH) => Ev 262 (56, [.ref l0, .retAddr 0, .retAddr 0, .int s.1, .retAddr 0, .retAddr 0], []) s.2) (fun (q : Int32 × mH) (res : Option Value × mH) => res = (some (.int q.1), q.2))) := by
  refine Seg.loop (F := fun s : (Int32 × Int32) => (73, [.ref l0, .retAddr 0, .retAddr 0, .int l3, .int s.1, .int s.2], [])) (H := fun s : (Int32 × Int32) => h) (fun s => ?_)
  show Seg 262 (73, [.ref l0, .retAddr 0, .retAddr 0, .int l3, .int s.1, .int s.2], []) h _ (Sum.elim (fun s : (Int32 × Int32) => Ev 262 (73, [.ref l0, .retAddr 0, .retAddr 0, .int l3, .int s.1, .int s.2], []) h) (Sum.elim (fun s : (Int32 × mH) => Ev 262 (56, [.ref l0, .retAddr 0, .retAddr 0, .int s.1, .retAddr 0, .retAddr 0], []) s.2) (fun (q : Int32 × mH) (res : Option Value × mH) => res = (some (.int q.1), q.2))))
  unfold f262_73
  refine Seg.callP (f1 := (76, [.ref l0, .retAddr 0, .retAddr 0, .int l3, .int s.1, .int s.2], [.ref l0, .int s.2])) (h1 := h) (cv := fun r => some (.int r)) rfl rfl rfl rfl (s259 h l0) (fun r4 => ?_)
  refine Seg.blk0 (f' := (if (r4 : Int32) ≤ s.2 then 133 else 82, [.ref l0, .retAddr 0, .retAddr 0, .int l3, .int s.1, .int s.2], [])) (h' := h) rfl rfl ?_
  refine Seg.ite (fun _ => ?_) (fun _ => ?_)
  · refine Seg.x ?_
    refine Seg.blk (f' := (if (s.1 : Int32) = 0 then 150 else 146, [.ref l0, .retAddr 0, .retAddr 0, .int l3, .int s.1, .int s.2], [.int (mI h l0 43), .ref ((mR h l0 42).getD 0)])) (h' := h) rfl rfl ?_
    refine Seg.ite (fun _ => ?_) (fun _ => ?_)
    · refine Seg.blk0 (f' := (151, [.ref l0, .retAddr 0, .retAddr 0, .int l3, .int s.1, .int s.2], [.int 0, .int (mI h l0 43), .ref ((mR h l0 42).getD 0)])) (h' := h) rfl rfl ?_
      refine Seg.blk (f' := (152, [.ref l0, .retAddr 0, .retAddr 0, .int l3, .int s.1, .int s.2], [])) (h' := (mSI h ((mR h l0 42).getD 0) (Int32.toNatClampNeg (mI h l0 43)) 0)) rfl rfl ?_
      refine Seg.blk (f' := (if (s.1 : Int32) = 0 then 166 else 162, [.ref l0, .retAddr 0, .retAddr 0, .int l3, .int s.1, .int s.2], [.int (mI (mSI h ((mR h l0 42).getD 0) (Int32.toNatClampNeg (mI h l0 43)) 0) l0 43), .ref l0])) (h' := (mSI h ((mR h l0 42).getD 0) (Int32.toNatClampNeg (mI h l0 43)) 0)) rfl rfl ?_
      refine Seg.ite (fun _ => ?_) (fun _ => ?_)
      · refine Seg.blk0 (f' := (167, [.ref l0, .retAddr 0, .retAddr 0, .int l3, .int s.1, .int s.2], [.int 0, .int (mI (mSI h ((mR h l0 42).getD 0) (Int32.toNatClampNeg (mI h l0 43)) 0) l0 43), .ref l0])) (h' := (mSI h ((mR h l0 42).getD 0) (Int32.toNatClampNeg (mI h l0 43)) 0)) rfl rfl ?_
        refine Seg.blk (f' := (171, [.ref l0, .retAddr 0, .retAddr 0, .int l3, .int s.1, .int s.2], [])) (h' := (mSI (mSI h ((mR h l0 42).getD 0) (Int32.toNatClampNeg (mI h l0 43)) 0) l0 43 ((mI (mSI h ((mR h l0 42).getD 0) (Int32.toNatClampNeg (mI h l0 43)) 0) l0 43) + 0))) rfl rfl ?_
        exact Seg.w (mLw.k (mLw.k (mLw.k (mLw.k (mLw.u (mLw.u mLw.nil)))))) (s262_171 (mSI (mSI h ((mR h l0 42).getD 0) (Int32.toNatClampNeg (mI h l0 43)) 0) l0 43 ((mI (mSI h ((mR h l0 42).getD 0) (Int32.toNatClampNeg (mI h l0 43)) 0) l0 43) + 0)) l0 l3)
      · refine Seg.blk0 (f' := (167, [.ref l0, .retAddr 0, .retAddr 0, .int l3, .int s.1, .int s.2], [.int 1, .int (mI (mSI h ((mR h l0 42).getD 0) (Int32.toNatClampNeg (mI h l0 43)) 0) l0 43), .ref l0])) (h' := (mSI h ((mR h l0 42).getD 0) (Int32.toNatClampNeg (mI h l0 43)) 0)) rfl rfl ?_
        refine Seg.blk (f' := (171, [.ref l0, .retAddr 0, .retAddr 0, .int l3, .int s.1, .int s.2], [])) (h' := (mSI (mSI h ((mR h l0 42).getD 0) (Int32.toNatClampNeg (mI h l0 43)) 0) l0 43 ((mI (mSI h ((mR h l0 42).getD 0) (Int32.toNatClampNeg (mI h l0 43)) 0) l0 43) + 1))) rfl rfl ?_
        exact Seg.w (mLw.k (mLw.k (mLw.k (mLw.k (mLw.u (mLw.u mLw.nil)))))) (s262_171 (mSI (mSI h ((mR h l0 42).getD 0) (Int32.toNatClampNeg (mI h l0 43)) 0) l0 43 ((mI (mSI h ((mR h l0 42).getD 0) (Int32.toNatClampNeg (mI h l0 43)) 0) l0 43) + 1)) l0 l3)
    · refine Seg.blk0 (f' := (151, [.ref l0, .retAddr 0, .retAddr 0, .int l3, .int s.1, .int s.2], [.int l3, .int (mI h l0 43), .ref ((mR h l0 42).getD 0)])) (h' := h) rfl rfl ?_
      refine Seg.blk (f' := (152, [.ref l0, .retAddr 0, .retAddr 0, .int l3, .int s.1, .int s.2], [])) (h' := (mSI h ((mR h l0 42).getD 0) (Int32.toNatClampNeg (mI h l0 43)) l3)) rfl rfl ?_
      refine Seg.blk (f' := (if (s.1 : Int32) = 0 then 166 else 162, [.ref l0, .retAddr 0, .retAddr 0, .int l3, .int s.1, .int s.2], [.int (mI (mSI h ((mR h l0 42).getD 0) (Int32.toNatClampNeg (mI h l0 43)) l3) l0 43), .ref l0])) (h' := (mSI h ((mR h l0 42).getD 0) (Int32.toNatClampNeg (mI h l0 43)) l3)) rfl rfl ?_
      refine Seg.ite (fun _ => ?_) (fun _ => ?_)
      · refine Seg.blk0 (f' := (167, [.ref l0, .retAddr 0, .retAddr 0, .int l3, .int s.1, .int s.2], [.int 0, .int (mI (mSI h ((mR h l0 42).getD 0) (Int32.toNatClampNeg (mI h l0 43)) l3) l0 43), .ref l0])) (h' := (mSI h ((mR h l0 42).getD 0) (Int32.toNatClampNeg (mI h l0 43)) l3)) rfl rfl ?_
        refine Seg.blk (f' := (171, [.ref l0, .retAddr 0, .retAddr 0, .int l3, .int s.1, .int s.2], [])) (h' := (mSI (mSI h ((mR h l0 42).getD 0) (Int32.toNatClampNeg (mI h l0 43)) l3) l0 43 ((mI (mSI h ((mR h l0 42).getD 0) (Int32.toNatClampNeg (mI h l0 43)) l3) l0 43) + 0))) rfl rfl ?_
        exact Seg.w (mLw.k (mLw.k (mLw.k (mLw.k (mLw.u (mLw.u mLw.nil)))))) (s262_171 (mSI (mSI h ((mR h l0 42).getD 0) (Int32.toNatClampNeg (mI h l0 43)) l3) l0 43 ((mI (mSI h ((mR h l0 42).getD 0) (Int32.toNatClampNeg (mI h l0 43)) l3) l0 43) + 0)) l0 l3)
      · refine Seg.blk0 (f' := (167, [.ref l0, .retAddr 0, .retAddr 0, .int l3, .int s.1, .int s.2], [.int 1, .int (mI (mSI h ((mR h l0 42).getD 0) (Int32.toNatClampNeg (mI h l0 43)) l3) l0 43), .ref l0])) (h' := (mSI h ((mR h l0 42).getD 0) (Int32.toNatClampNeg (mI h l0 43)) l3)) rfl rfl ?_
        refine Seg.blk (f' := (171, [.ref l0, .retAddr 0, .retAddr 0, .int l3, .int s.1, .int s.2], [])) (h' := (mSI (mSI h ((mR h l0 42).getD 0) (Int32.toNatClampNeg (mI h l0 43)) l3) l0 43 ((mI (mSI h ((mR h l0 42).getD 0) (Int32.toNatClampNeg (mI h l0 43)) l3) l0 43) + 1))) rfl rfl ?_
        exact Seg.w (mLw.k (mLw.k (mLw.k (mLw.k (mLw.u (mLw.u mLw.nil)))))) (s262_171 (mSI (mSI h ((mR h l0 42).getD 0) (Int32.toNatClampNeg (mI h l0 43)) l3) l0 43 ((mI (mSI h ((mR h l0 42).getD 0) (Int32.toNatClampNeg (mI h l0 43)) l3) l0 43) + 1)) l0 l3)
  · refine Seg.blk0 (f' := (if (s.1 : Int32) = 0 then 124 else 87, [.ref l0, .retAddr 0, .retAddr 0, .int l3, .int s.1, .int s.2], [])) (h' := h) rfl rfl ?_
    refine Seg.ite (fun _ => ?_) (fun _ => ?_)
    · exact Seg.w (mLw.k (mLw.k (mLw.k (mLw.k (mLw.u (mLw.k mLw.nil)))))) (s262_124 h l0 l3 s.2)
    · refine Seg.callP (f1 := (89, [.ref l0, .retAddr 0, .retAddr 0, .int l3, .int s.1, .int s.2], [.int l3, .ref l0])) (h1 := h) (cv := fun r => some (.int r)) rfl rfl rfl rfl (s263 h l0 l3) (fun r5 => ?_)
      refine Seg.callP (f1 := (96, [.ref l0, .retAddr 0, .retAddr 0, .int l3, .int s.1, .int s.2], [.int 1, .int s.2, .ref l0, .int r5])) (h1 := h) (cv := fun r => some (.int r)) rfl rfl rfl rfl (s260 h l0 s.2 1) (fun r6 => ?_)
      refine Seg.callP (f1 := (99, [.ref l0, .retAddr 0, .retAddr 0, .int l3, .int s.1, .int s.2], [.int r6, .int r5])) (h1 := h) (cv := fun r => some (.int r)) rfl rfl rfl rfl (s221 h r5 r6) (fun r7 => ?_)
      refine Seg.callP (f1 := (106, [.ref l0, .retAddr 0, .retAddr 0, .int l3, .int s.1, .int s.2], [.int 0, .int s.2, .ref l0, .int r7])) (h1 := h) (cv := fun r => some (.int r)) rfl rfl rfl rfl (s260 h l0 s.2 0) (fun r8 => ?_)
      refine Seg.blk0 (f' := (if (r8 : Int32) = 0 then 112 else 116, [.ref l0, .retAddr 0, .retAddr 0, .int l3, .int s.1, .int s.2], [.int r7])) (h' := h) rfl rfl ?_
      refine Seg.ite (fun _ => ?_) (fun _ => ?_)
      · refine Seg.blk0 (f' := (117, [.ref l0, .retAddr 0, .retAddr 0, .int l3, .int s.1, .int s.2], [.int 1, .int r7])) (h' := h) rfl rfl ?_
        exact Seg.w (mLw.k (mLw.k (mLw.k (mLw.k (mLw.u (mLw.k mLw.nil)))))) (s262_117 h l0 l3 s.2 r7 1)
      · refine Seg.blk0 (f' := (117, [.ref l0, .retAddr 0, .retAddr 0, .int l3, .int s.1, .int s.2], [.int 0, .int r7])) (h' := h) rfl rfl ?_
        exact Seg.w (mLw.k (mLw.k (mLw.k (mLw.k (mLw.u (mLw.k mLw.nil)))))) (s262_117 h l0 l3 s.2 r7 0)
theorem s262_56 (l0 : Nat) : ∀ (n : Nat) (s : (Int32 × mH)), Seg 262 (56, [.ref l0, .retAddr 0, .retAddr 0, .int s.1, .retAddr 0, .retAddr 0], []) s.2 (mLoop (f262_56 l0) n s) (fun (q : Int32 × mH) (res : Option Value × mH) => res = (some (.int q.1), q.2)) := by
  refine Seg.loop (F := fun s : (Int32 × mH) => (56, [.ref l0, .retAddr 0, .retAddr 0, .int s.1, .retAddr 0, .retAddr 0], [])) (H := fun s : (Int32 × mH) => s.2) (fun s => ?_)
  show Seg 262 (56, [.ref l0, .retAddr 0, .retAddr 0, .int s.1, .retAddr 0, .retAddr 0], []) s.2 _ (Sum.elim (fun s : (Int32 × mH) => Ev 262 (56, [.ref l0, .retAddr 0, .retAddr 0, .int s.1, .retAddr 0, .retAddr 0], []) s.2) (fun (q : Int32 × mH) (res : Option Value × mH) => res = (some (.int q.1), q.2)))
  unfold f262_56
  refine Seg.blk (f' := (if ((10 * (mI s.2 l0 25)) : Int32) ≤ s.1 then 177 else 67, [.ref l0, .retAddr 0, .retAddr 0, .int s.1, .retAddr 0, .retAddr 0], [])) (h' := s.2) rfl rfl ?_
  refine Seg.ite (fun _ => ?_) (fun _ => ?_)
  · refine Seg.x ?_
    exact Seg.ret (f1 := (178, [.ref l0, .retAddr 0, .retAddr 0, .int s.1, .retAddr 0, .retAddr 0], [.int 1])) (h1 := s.2) rfl rfl rfl rfl (fun _ q => q)
  · refine Seg.blk0 (f' := (73, [.ref l0, .retAddr 0, .retAddr 0, .int s.1, .int 1, .int 0], [])) (h' := s.2) rfl rfl ?_
    exact Seg.w (mLw.k (mLw.k (mLw.k (mLw.k (mLw.k (mLw.k mLw.nil)))))) (s262_73 s.2 l0 s.1 mFuel (1, 0))
theorem s262_20 (h : mH) (l0 : Nat) : ∀ (n : Nat) (s : (Int32)), Seg 262 (20, [.ref l0, .retAddr 0, .retAddr 0, .int s, .retAddr 0, .retAddr 0], []) h (mLoop (f262_20 h l0) n s) (fun (q : Int32 × mH) (res : Option Value × mH) => res = (some (.int q.1), q.2)) := by
  refine Seg.loop (F := fun s : (Int32) => (20, [.ref l0, .retAddr 0, .retAddr 0, .int s, .retAddr 0, .retAddr 0], [])) (H := fun s : (Int32) => h) (fun s => ?_)
  show Seg 262 (20, [.ref l0, .retAddr 0, .retAddr 0, .int s, .retAddr 0, .retAddr 0], []) h _ (Sum.elim (fun s : (Int32) => Ev 262 (20, [.ref l0, .retAddr 0, .retAddr 0, .int s, .retAddr 0, .retAddr 0], []) h) (fun (q : Int32 × mH) (res : Option Value × mH) => res = (some (.int q.1), q.2)))
  unfold f262_20
  refine Seg.callP (f1 := (22, [.ref l0, .retAddr 0, .retAddr 0, .int s, .retAddr 0, .retAddr 0], [.ref l0, .int s])) (h1 := h) (cv := fun r => some (.int r)) rfl rfl rfl rfl (s259 h l0) (fun r3 => ?_)
  refine Seg.blk0 (f' := (if (r3 : Int32) ≤ s then 49 else 28, [.ref l0, .retAddr 0, .retAddr 0, .int s, .retAddr 0, .retAddr 0], [])) (h' := h) rfl rfl ?_
  refine Seg.ite (fun _ => ?_) (fun _ => ?_)
  · refine Seg.x ?_
    refine Seg.blk (f' := (54, [.ref l0, .retAddr 0, .retAddr 0, .int s, .retAddr 0, .retAddr 0], [])) (h' := (mSI h l0 43 0)) rfl rfl ?_
    refine Seg.blk0 (f' := (56, [.ref l0, .retAddr 0, .retAddr 0, .int 0, .retAddr 0, .retAddr 0], [])) (h' := (mSI h l0 43 0)) rfl rfl ?_
    exact Seg.w (mLw.k (mLw.k (mLw.k (mLw.k (mLw.k (mLw.k mLw.nil)))))) (s262_56 l0 mFuel (0, (mSI h l0 43 0)))
  · refine Seg.callP (f1 := (32, [.ref l0, .retAddr 0, .retAddr 0, .int s, .retAddr 0, .retAddr 0], [.int 1, .int s, .ref l0, .ref l0])) (h1 := h) (cv := fun r => some (.int r)) rfl rfl rfl rfl (s260 h l0 s 1) (fun r9 => ?_)
    refine Seg.callP (f1 := (35, [.ref l0, .retAddr 0, .retAddr 0, .int s, .retAddr 0, .retAddr 0], [.int r9, .ref l0])) (h1 := h) (cv := fun r => some (.int r)) rfl rfl rfl rfl (s226 h l0 r9) (fun r10 => ?_)
    refine Seg.blk0 (f' := (if (r10 : Int32) = 0 then 41 else 43, [.ref l0, .retAddr 0, .retAddr 0, .int s, .retAddr 0, .retAddr 0], [])) (h' := h) rfl rfl ?_
    refine Seg.ite (fun _ => ?_) (fun _ => ?_)
    · refine Seg.x ?_
      exact Seg.ret (f1 := (42, [.ref l0, .retAddr 0, .retAddr 0, .int s, .retAddr 0, .retAddr 0], [.int 0])) (h1 := h) rfl rfl rfl rfl (fun _ q => q)
    · refine Seg.blk0 (f' := (20, [.ref l0, .retAddr 0, .retAddr 0, .int (s + 1), .retAddr 0, .retAddr 0], [])) (h' := h) rfl rfl ?_
      exact Seg.cont (fun _ q => Ev.w (mLw.k (mLw.k (mLw.k (mLw.k (mLw.k (mLw.k mLw.nil)))))) q)
theorem s262 (h : mH) (l0 : Nat) (l1 : Int32) (l2 : Int32) : Seg 262 (0, [.ref l0, .int l1, .int l2, .retAddr 0, .retAddr 0, .retAddr 0], []) h (f262 h l0 l1 l2) (fun (q : Int32 × mH) (res : Option Value × mH) => res = (some (.int q.1), q.2)) := by
  unfold f262
  refine Seg.call (f1 := (2, [.ref l0, .int l1, .int l2, .retAddr 0, .retAddr 0, .retAddr 0], [.int l2, .ref l0])) (h1 := h) (cv := fun r => some (.int r)) rfl rfl rfl rfl (s258 h l0 l2) (fun r1 => ?_)
  refine Seg.blk0 (f' := (if (r1.1 : Int32) = 0 then 16 else 8, [.ref l0, .int l1, .int l2, .retAddr 0, .retAddr 0, .retAddr 0], [])) (h' := r1.2) rfl rfl ?_
  refine Seg.ite (fun _ => ?_) (fun _ => ?_)
  · exact Seg.w (mLw.u (mLw.u (mLw.u (mLw.k (mLw.k (mLw.k mLw.nil)))))) (s262_16 r1.2)
  · refine Seg.call (f1 := (10, [.ref l0, .int l1, .int l2, .retAddr 0, .retAddr 0, .retAddr 0], [.int l1, .ref l0])) (h1 := r1.2) (cv := fun r => some (.int r)) rfl rfl rfl rfl (s205 r1.2 l0 l1) (fun r2 => ?_)
    refine Seg.blk0 (f' := (if (r2.1 : Int32) = 0 then 16 else 18, [.ref l0, .int l1, .int l2, .retAddr 0, .retAddr 0, .retAddr 0], [])) (h' := r2.2) rfl rfl ?_
    refine Seg.ite (fun _ => ?_) (fun _ => ?_)
    · exact Seg.w (mLw.u (mLw.u (mLw.u (mLw.k (mLw.k (mLw.k mLw.nil)))))) (s262_16 r2.2)
    · refine Seg.blk0 (f' := (20, [.ref l0, .int l1, .int l2, .int 0, .retAddr 0, .retAddr 0], [])) (h' := r2.2) rfl rfl ?_
      exact Seg.w (mLw.k (mLw.u (mLw.u (mLw.k (mLw.k (mLw.k mLw.nil)))))) (s262_20 r2.2 l0 mFuel (0))
theorem s264_49 (h : mH) (l0 : Nat) (l2 : Int32) (q0 : Int32) : Seg 264 (49, [.ref l0, .retAddr 0, .int l2], [.int q0]) h (f264_49 h l0 l2 q0) (Sum.elim (fun s : (Int32 × Int32) => Ev 264 (23, [.ref l0, .int s.1, .int s.2], []) h) (fun (q : Int32) (res : Option Value × mH) => res = (some (.int q), h))) := by
  unfold f264_49
  refine Seg.blk0 (f' := (23, [.ref l0, .int q0, .int (l2 + 1)], [])) (h' := h) rfl rfl ?_
  exact Seg.cont (fun _ q => Ev.w (mLw.k (mLw.k (mLw.k mLw.nil))) q)
theorem s264_23 (h : mH) (l0 : Nat) : ∀ (n : Nat) (s : (Int32 × Int32)), Seg 264 (23, [.ref l0, .int s.1, .int s.2], []) h (mLoop (f264_23 h l0) n s) (fun (q : Int32) (res : Option Value × mH) => res = (some (.int q), h)) := by
  refine Seg.loop (F := fun s : (Int32 × Int32) => (23, [.ref l0, .int s.1, .int s.2], [])) (H := fun s : (Int32 × Int32) => h) (fun s => ?_)
  show Seg 264 (23, [.ref l0, .int s.1, .int s.2], []) h _ (Sum.elim (fun s : (Int32 × Int32) => Ev 264 (23, [.ref l0, .int s.1, .int s.2], []) h) (fun (q : Int32) (res : Option Value × mH) => res = (some (.int q), h)))
  unfold f264_23
  refine Seg.blk (f' := (if ((mI h l0 43) : Int32) ≤ s.2 then 56 else 31, [.ref l0, .int s.1, .int s.2], [])) (h' := h) rfl rfl ?_
  refine Seg.ite (fun _ => ?_) (fun _ => ?_)
  · refine Seg.x ?_
    exact Seg.ret (f1 := (57, [.ref l0, .int s.1, .int s.2], [.int s.1])) (h1 := h) rfl rfl rfl rfl (fun _ q => q)
  · refine Seg.blk (f' := (if (((mI h ((mR h l0 42).getD 0) (Int32.toNatClampNeg s.2)) / 10) : Int32) = s.1 then 44 else 48, [.ref l0, .int s.1, .int s.2], [])) (h' := h) rfl rfl ?_
    refine Seg.ite (fun _ => ?_) (fun _ => ?_)
    · refine Seg.blk0 (f' := (49, [.ref l0, .int s.1, .int s.2], [.int s.1])) (h' := h) rfl rfl ?_
      exact Seg.w (mLw.k (mLw.u (mLw.k mLw.nil))) (s264_49 h l0 s.2 s.1)
    · refine Seg.blk0 (f' := (49, [.ref l0, .int s.1, .int s.2], [.int (-1)])) (h' := h) rfl rfl ?_
      exact Seg.w (mLw.k (mLw.u (mLw.k mLw.nil))) (s264_49 h l0 s.2 (-1))
theorem s264_20 (h : mH) (l0 : Nat) (q0 : Int32) : Seg 264 (20, [.ref l0, .retAddr 0, .retAddr 0], [.int q0]) h (f264_20 h l0 q0) (fun (q : Int32) (res : Option Value × mH) => res = (some (.int q), h)) := by
  unfold f264_20
  refine Seg.blk0 (f' := (23, [.ref l0, .int q0, .int 0], [])) (h' := h) rfl rfl ?_
  exact Seg.w (mLw.k (mLw.k (mLw.k mLw.nil))) (s264_23 h l0 mFuel (q0, 0))
theorem s264 (h : mH) (l0 : Nat) : Seg 264 (0, [.ref l0, .retAddr 0, .retAddr 0], []) h (f264 h l0) (fun (q : Int32) (res : Option Value × mH) => res = (some (.int q), h)) := by
  unfold f264
  refine Seg.blk (f' := (if ((mI h l0 43) : Int32) = 0 then 7 else 11, [.ref l0, .retAddr 0, .retAddr 0], [])) (h' := h) rfl rfl ?_
  refine Seg.ite (fun _ => ?_) (fun _ => ?_)
  · refine Seg.blk0 (f' := (20, [.ref l0, .retAddr 0, .retAddr 0], [.int (-1)])) (h' := h) rfl rfl ?_
    exact Seg.w (mLw.k (mLw.k (mLw.k mLw.nil))) (s264_20 h l0 (-1))
  · refine Seg.blk (f' := (20, [.ref l0, .retAddr 0, .retAddr 0], [.int ((mI h ((mR h l0 42).getD 0) (Int32.toNatClampNeg 0)) / 10)])) (h' := h) rfl rfl ?_
    exact Seg.w (mLw.k (mLw.k (mLw.k mLw.nil))) (s264_20 h l0 ((mI h ((mR h l0 42).getD 0) (Int32.toNatClampNeg 0)) / 10))
theorem s266_35 (h : mH) (l0 : Nat) (l1 : Int32) (l3 : Int32) (q0 : Int32) (q1 : Int32) : Seg 266 (35, [.ref l0, .int l1, .retAddr 0, .int l3], [.int q1, .int q0]) h (f266_35 h l0 l1 l3 q0 q1) (Sum.elim (fun s : (Int32 × Int32) => Ev 266 (4, [.ref l0, .int l1, .int s.1, .int s.2], []) h) (fun (q : Int32) (res : Option Value × mH) => res = (some (.int q), h))) := by
  unfold f266_35
  refine Seg.blk0 (f' := (4, [.ref l0, .int l1, .int (q0 + q1), .int (l3 + 1)], [])) (h' := h) rfl rfl ?_
  exact Seg.cont (fun _ q => Ev.w (mLw.k (mLw.k (mLw.k (mLw.k mLw.nil)))) q)
theorem s266_4 (h : mH) (l0 : Nat) (l1 : Int32) : ∀ (n : Nat) (s : (Int32 × Int32)), Seg 266 (4, [.ref l0, .int l1, .int s.1, .int s.2], []) h (mLoop (f266_4 h l0 l1) n s) (fun (q : Int32) (res : Option Value × mH) => res = (some (.int q), h)) := by
  refine Seg.loop (F := fun s : (Int32 × Int32) => (4, [.ref l0, .int l1, .int s.1, .int s.2], [])) (H := fun s : (Int32 × Int32) => h) (fun s => ?_)
  show Seg 266 (4, [.ref l0, .int l1, .int s.1, .int s.2], []) h _ (Sum.elim (fun s : (Int32 × Int32) => Ev 266 (4, [.ref l0, .int l1, .int s.1, .int s.2], []) h) (fun (q : Int32) (res : Option Value × mH) => res = (some (.int q), h)))
  unfold f266_4
  refine Seg.blk (f' := (if ((mI h l0 43) : Int32) ≤ s.2 then 43 else 12, [.ref l0, .int l1, .int s.1, .int s.2], [])) (h' := h) rfl rfl ?_
  refine Seg.ite (fun _ => ?_) (fun _ => ?_)
  · refine Seg.x ?_
    exact Seg.ret (f1 := (44, [.ref l0, .int l1, .int s.1, .int s.2], [.int s.1])) (h1 := h) rfl rfl rfl rfl (fun _ q => q)
  · refine Seg.callP (f1 := (20, [.ref l0, .int l1, .int s.1, .int s.2], [.int (mI h ((mR h l0 42).getD 0) (Int32.toNatClampNeg s.2)), .ref l0, .int s.1])) (h1 := h) (cv := fun r => some (.int r)) rfl rfl rfl rfl (s263 h l0 (mI h ((mR h l0 42).getD 0) (Int32.toNatClampNeg s.2))) (fun r1 => ?_)
    refine Seg.callP (f1 := (24, [.ref l0, .int l1, .int s.1, .int s.2], [.int l1, .int r1, .int s.1])) (h1 := h) (cv := fun r => some (.int r)) rfl rfl rfl rfl (s221 h r1 l1) (fun r2 => ?_)
    refine Seg.blk0 (f' := (if (r2 : Int32) = 0 then 34 else 30, [.ref l0, .int l1, .int s.1, .int s.2], [.int s.1])) (h' := h) rfl rfl ?_
    refine Seg.ite (fun _ => ?_) (fun _ => ?_)
    · refine Seg.blk0 (f' := (35, [.ref l0, .int l1, .int s.1, .int s.2], [.int 0, .int s.1])) (h' := h) rfl rfl ?_
      exact Seg.w (mLw.k (mLw.k (mLw.u (mLw.k mLw.nil)))) (s266_35 h l0 l1 s.2 s.1 0)
    · refine Seg.blk0 (f' := (35, [.ref l0, .int l1, .int s.1, .int s.2], [.int 1, .int s.1])) (h' := h) rfl rfl ?_
      exact Seg.w (mLw.k (mLw.k (mLw.u (mLw.k mLw.nil)))) (s266_35 h l0 l1 s.2 s.1 1)
theorem s266 (h : mH) (l0 : Nat) (l1 : Int32) : Seg 266 (0, [.ref l0, .int l1, .retAddr 0, .retAddr 0], []) h (f266 h l0 l1) (fun (q : Int32) (res : Option Value × mH) => res = (some (.int q), h)) := by
  unfold f266
  refine Seg.blk0 (f' := (4, [.ref l0, .int l1, .int 0, .int 0], [])) (h' := h) rfl rfl ?_
  exact Seg.w (mLw.k (mLw.k (mLw.k (mLw.k mLw.nil)))) (s266_4 h l0 l1 mFuel (0, 0))
theorem s265_68 (h : mH) (l1 : Int32) : Seg 265 (68, [.retAddr 0, .int l1, .retAddr 0, .retAddr 0, .retAddr 0], []) h (f265_68 h l1) (fun (q : Int32) (res : Option Value × mH) => res = (some (.int q), h)) := by
  unfold f265_68
  exact Seg.ret (f1 := (69, [.retAddr 0, .int l1, .retAddr 0, .retAddr 0, .retAddr 0], [.int l1])) (h1 := h) rfl rfl rfl rfl (fun _ q => q)
theorem s265_54 (h : mH) (l0 : Nat) (l2 : Int32) (l3 : Int32) (l4 : Int32) (q0 : Int32) : Seg 265 (54, [.ref l0, .retAddr 0, .int l2, .int l3, .int l4], [.int q0]) h (f265_54 h l0 l2 l3 l4 q0) (Sum.elim (fun s : (Int32 × Int32 × Int32) => Ev 265 (8, [.ref l0, .int s.1, .int s.2.1, .int s.2.2, .retAddr 0], []) h) (fun (q : Int32) (res : Option Value × mH) => res = (some (.int q), h))) := by
  unfold f265_54
  refine Seg.callP (f1 := (58, [.ref l0, .int q0, .int l2, .int l3, .int l4], [.int l4, .int l2])) (h1 := h) (cv := fun r => some (.int r)) rfl rfl rfl rfl (s195 h l2 l4) (fun r4 => ?_)
  refine Seg.blk0 (f' := (8, [.ref l0, .int q0, .int r4, .int (l3 + 1), .int l4], [])) (h' := h) rfl rfl ?_
  exact Seg.cont (fun _ q => Ev.w (mLw.k (mLw.k (mLw.k (mLw.k (mLw.u mLw.nil))))) q)
theorem s265_8 (h : mH) (l0 : Nat) : ∀ (n : Nat) (s : (Int32 × Int32 × Int32)), Seg 265 (8, [.ref l0, .int s.1, .int s.2.1, .int s.2.2, .retAddr 0], []) h (mLoop (f265_8 h l0) n s) (fun (q : Int32) (res : Option Value × mH) => res = (some (.int q), h)) := by
  refine Seg.loop (F := fun s : (Int32 × Int32 × Int32) => (8, [.ref l0, .int s.1, .int s.2.1, .int s.2.2, .retAddr 0], [])) (H := fun s : (Int32 × Int32 × Int32) => h) (fun s => ?_)
  show Seg 265 (8, [.ref l0, .int s.1, .int s.2.1, .int s.2.2, .retAddr 0], []) h _ (Sum.elim (fun s : (Int32 × Int32 × Int32) => Ev 265 (8, [.ref l0, .int s.1, .int s.2.1, .int s.2.2, .retAddr 0], []) h) (fun (q : Int32) (res : Option Value × mH) => res = (some (.int q), h)))
  unfold f265_8
  refine Seg.blk (f' := (if ((mI h l0 25) : Int32) ≤ s.2.2 then 68 else 16, [.ref l0, .int s.1, .int s.2.1, .int s.2.2, .retAddr 0], [])) (h' := h) rfl rfl ?_
  refine Seg.ite (fun _ => ?_) (fun _ => ?_)
  · refine Seg.x ?_
    exact Seg.w (mLw.u (mLw.k (mLw.u (mLw.u (mLw.k mLw.nil))))) (s265_68 h s.1)
  · refine Seg.blk (f' := (if ((mI h l0 43) : Int32) ≤ 0 then 68 else 23, [.ref l0, .int s.1, .int s.2.1, .int s.2.2, .retAddr 0], [])) (h' := h) rfl rfl ?_
    refine Seg.ite (fun _ => ?_) (fun _ => ?_)
    · refine Seg.x ?_
      exact Seg.w (mLw.u (mLw.k (mLw.u (mLw.u (mLw.k mLw.nil))))) (s265_68 h s.1)
    · refine Seg.callP (f1 := (25, [.ref l0, .int s.1, .int s.2.1, .int s.2.2, .retAddr 0], [.int s.2.2, .ref l0])) (h1 := h) (cv := fun r => some (.int r)) rfl rfl rfl rfl (s266 h l0 s.2.2) (fun r1 => ?_)
      refine Seg.callP (f1 := (34, [.ref l0, .int s.1, .int s.2.1, .int s.2.2, .retAddr 0], [.int s.2.2, .ref l0, .int (mI h l0 43), .int r1])) (h1 := h) (cv := fun r => some (.int r)) rfl rfl rfl rfl (s266 h l0 s.2.2) (fun r2 => ?_)
      refine Seg.callP (f1 := (38, [.ref l0, .int s.1, .int s.2.1, .int s.2.2, .retAddr 0], [.int ((mI h l0 43) - r2), .int r1])) (h1 := h) (cv := fun r => some (.int r)) rfl rfl rfl rfl (s196 h r1 ((mI h l0 43) - r2)) (fun r3 => ?_)
      refine Seg.blk0 (f' := (if (s.2.1 : Int32) ≤ r3 then 53 else 49, [.ref l0, .int s.1, .int s.2.1, .int s.2.2, .int r3], [])) (h' := h) rfl rfl ?_
      refine Seg.ite (fun _ => ?_) (fun _ => ?_)
      · refine Seg.blk0 (f' := (54, [.ref l0, .int s.1, .int s.2.1, .int s.2.2, .int r3], [.int s.1])) (h' := h) rfl rfl ?_
        exact Seg.w (mLw.k (mLw.u (mLw.k (mLw.k (mLw.k mLw.nil))))) (s265_54 h l0 s.2.1 s.2.2 r3 s.1)
      · refine Seg.blk0 (f' := (54, [.ref l0, .int s.1, .int s.2.1, .int s.2.2, .int r3], [.int s.2.2])) (h' := h) rfl rfl ?_
        exact Seg.w (mLw.k (mLw.u (mLw.k (mLw.k (mLw.k mLw.nil))))) (s265_54 h l0 s.2.1 s.2.2 r3 s.2.2)
theorem s265 (h : mH) (l0 : Nat) : Seg 265 (0, [.ref l0, .retAddr 0, .retAddr 0, .retAddr 0, .retAddr 0], []) h (f265 h l0) (fun (q : Int32) (res : Option Value × mH) => res = (some (.int q), h)) := by
  unfold f265
  refine Seg.blk0 (f' := (8, [.ref l0, .int (-1), .int 1000000, .int 0, .retAddr 0], [])) (h' := h) rfl rfl ?_
  exact Seg.w (mLw.k (mLw.k (mLw.k (mLw.k (mLw.k mLw.nil))))) (s265_8 h l0 mFuel ((-1), 1000000, 0))
theorem s261_48 (h : mH) (q0 : Int32) : Seg 261 (48, [.retAddr 0, .retAddr 0, .retAddr 0, .retAddr 0], [.int q0]) h (f261_48 h q0) (fun (q : Int32 × mH) (res : Option Value × mH) => res = (some (.int q.1), q.2)) := by
  unfold f261_48
  exact Seg.ret (f1 := (48, [.retAddr 0, .retAddr 0, .retAddr 0, .retAddr 0], [.int q0])) (h1 := h) rfl rfl rfl rfl (fun _ q => q)
theorem s261 (h : mH) (l0 : Nat) (l1 : Int32) (l2 : Int32) (l3 : Int32) : Seg 261 (0, [.ref l0, .int l1, .int l2, .int l3], []) h (f261 h l0 l1 l2 l3) (fun (q : Int32 × mH) (res : Option Value × mH) => res = (some (.int q.1), q.2)) := by
  unfold f261
  refine Seg.blk (f' := (5, [.ref l0, .int l1, .int l2, .int l3], [])) (h' := (mSI h l0 0 0)) rfl rfl ?_
  refine Seg.call (f1 := (8, [.ref l0, .int l1, .int l2, .int l3], [.int l2, .int l1, .ref l0])) (h1 := (mSI h l0 0 0)) (cv := fun r => some (.int r)) rfl rfl rfl rfl (s262 (mSI h l0 0 0) l0 l1 l2) (fun r1 => ?_)
  refine Seg.blk0 (f' := (if (r1.1 : Int32) = 0 then 14 else 17, [.ref l0, .int l1, .int l2, .int l3], [])) (h' := r1.2) rfl rfl ?_
  refine Seg.ite (fun _ => ?_) (fun _ => ?_)
  · exact Seg.ret (f1 := (16, [.ref l0, .int l1, .int l2, .int l3], [.int (-2)])) (h1 := r1.2) rfl rfl rfl rfl (fun _ q => q)
  · refine Seg.blk0 (f' := (if (l3 : Int32) < 10 then 49 else 23, [.ref l0, .int l1, .int l2, .int l3], [])) (h' := r1.2) rfl rfl ?_
    refine Seg.ite (fun _ => ?_) (fun _ => ?_)
    · refine Seg.blk0 (f' := (if (l3 : Int32) = 0 then 76 else if (l3 : Int32) = 1 then 81 else if (l3 : Int32) = 2 then 86 else 91, [.ref l0, .int l1, .int l2, .int l3], [])) (h' := r1.2) rfl rfl ?_
      refine Seg.ite (fun _ => ?_) (fun _ => ?_)
      · exact Seg.ret (f1 := (80, [.ref l0, .int l1, .int l2, .int l3], [.int (mI r1.2 l0 43)])) (h1 := r1.2) rfl rfl rfl rfl (fun _ q => q)
      refine Seg.ite (fun _ => ?_) (fun _ => ?_)
      · refine Seg.callP (f1 := (82, [.ref l0, .int l1, .int l2, .int l3], [.ref l0])) (h1 := r1.2) (cv := fun r => some (.int r)) rfl rfl rfl rfl (s264 r1.2 l0) (fun r2 => ?_)
        exact Seg.ret (f1 := (85, [.ref l0, .int l1, .int l2, .int l3], [.int r2])) (h1 := r1.2) rfl rfl rfl rfl (fun _ q => q)
      refine Seg.ite (fun _ => ?_) (fun _ => ?_)
      · refine Seg.callP (f1 := (87, [.ref l0, .int l1, .int l2, .int l3], [.ref l0])) (h1 := r1.2) (cv := fun r => some (.int r)) rfl rfl rfl rfl (s265 r1.2 l0) (fun r3 => ?_)
        exact Seg.ret (f1 := (90, [.ref l0, .int l1, .int l2, .int l3], [.int r3])) (h1 := r1.2) rfl rfl rfl rfl (fun _ q => q)
      · exact Seg.ret (f1 := (93, [.ref l0, .int l1, .int l2, .int l3], [.int (-2)])) (h1 := r1.2) rfl rfl rfl rfl (fun _ q => q)
    · refine Seg.blk (f' := (if ((mI r1.2 l0 43) : Int32) ≤ (l3 - 10) then 46 else 34, [.ref l0, .int l1, .int l2, .int l3], [])) (h' := r1.2) rfl rfl ?_
      refine Seg.ite (fun _ => ?_) (fun _ => ?_)
      · refine Seg.blk0 (f' := (48, [.ref l0, .int l1, .int l2, .int l3], [.int (-2)])) (h' := r1.2) rfl rfl ?_
        exact Seg.w (mLw.u (mLw.u (mLw.u (mLw.u mLw.nil)))) (s261_48 r1.2 (-2))
      · refine Seg.blk (f' := (48, [.ref l0, .int l1, .int l2, .int l3], [.int (mI r1.2 ((mR r1.2 l0 42).getD 0) (Int32.toNatClampNeg (l3 - 10)))])) (h' := r1.2) rfl rfl ?_
        exact Seg.w (mLw.u (mLw.u (mLw.u (mLw.u mLw.nil)))) (s261_48 r1.2 (mI r1.2 ((mR r1.2 l0 42).getD 0) (Int32.toNatClampNeg (l3 - 10))))
theorem s269 (h : mH) (l0 : Nat) (l1 : Int32) : Seg 269 (0, [.ref l0, .int l1], []) h (f269 h l0 l1) (fun (q : Int32 × mH) (res : Option Value × mH) => res = (some (.int q.1), q.2)) := by
  unfold f269
  refine Seg.blk (f' := (16, [.ref l0, .int l1], [])) (h' := (mSI h l0 44 (((mI h l0 44) * 1103515245) + 12345))) rfl rfl ?_
  exact Seg.ret (f1 := (25, [.ref l0, .int l1], [.int (((Int32.toUInt32 (mI (mSI h l0 44 (((mI h l0 44) * 1103515245) + 12345)) l0 44) >>> (Int32.toUInt32 16 &&& Int32.toUInt32 31)).toInt32) - ((Int32.toUInt32 (mI (mSI h l0 44 (((mI h l0 44) * 1103515245) + 12345)) l0 44) >>> (Int32.toUInt32 16 &&& Int32.toUInt32 31)).toInt32) / l1 * l1)])) (h1 := (mSI h l0 44 (((mI h l0 44) * 1103515245) + 12345))) rfl rfl rfl rfl (fun _ q => q)
theorem s268_135 (h : mH) : Seg 268 (135, [.retAddr 0, .retAddr 0, .retAddr 0], []) h (f268_135 h) (fun (q : Unit × mH) (res : Option Value × mH) => res = (none, q.2)) := by
  unfold f268_135
  exact Seg.ret (f1 := (135, [.retAddr 0, .retAddr 0, .retAddr 0], [])) (h1 := h) rfl rfl rfl rfl (fun _ q => q)
theorem s268_97 (h : mH) (l0 : Nat) : Seg 268 (97, [.ref l0, .retAddr 0, .retAddr 0], []) h (f268_97 h l0) (fun (q : Unit × mH) (res : Option Value × mH) => res = (none, q.2)) := by
  unfold f268_97
  refine Seg.blk (f' := (if ((mI h l0 24) : Int32) ≤ 0 then 135 else 104, [.ref l0, .retAddr 0, .retAddr 0], [])) (h' := h) rfl rfl ?_
  refine Seg.ite (fun _ => ?_) (fun _ => ?_)
  · exact Seg.w (mLw.u (mLw.k (mLw.k mLw.nil))) (s268_135 h)
  · refine Seg.blk (f' := (if ((mI h l0 25) : Int32) ≤ 0 then 135 else 111, [.ref l0, .retAddr 0, .retAddr 0], [])) (h' := h) rfl rfl ?_
    refine Seg.ite (fun _ => ?_) (fun _ => ?_)
    · exact Seg.w (mLw.u (mLw.k (mLw.k mLw.nil))) (s268_135 h)
    · refine Seg.call (f1 := (116, [.ref l0, .retAddr 0, .retAddr 0], [.int (mI h l0 24), .ref l0])) (h1 := h) (cv := fun r => some (.int r)) rfl rfl rfl rfl (s269 h l0 (mI h l0 24)) (fun r6 => ?_)
      refine Seg.call (f1 := (128, [.ref l0, .retAddr 0, .int r6.1], [.int (mI r6.2 l0 25), .ref l0, .int r6.1, .int 3, .ref l0])) (h1 := r6.2) (cv := fun r => some (.int r)) rfl rfl rfl rfl (s269 r6.2 l0 (mI r6.2 l0 25)) (fun r7 => ?_)
      refine Seg.call (f1 := (131, [.ref l0, .retAddr 0, .int r6.1], [.int r7.1, .int r6.1, .int 3, .ref l0])) (h1 := r7.2) (cv := fun r => some (.int r)) rfl rfl rfl rfl (s216 r7.2 l0 3 r6.1 r7.1) (fun r8 => ?_)
      refine Seg.blk0 (f' := (135, [.ref l0, .retAddr 0, .int r6.1], [])) (h' := r8.2) rfl rfl ?_
      exact Seg.w (mLw.u (mLw.k (mLw.u mLw.nil))) (s268_135 r8.2)
theorem s268 (h : mH) (l0 : Nat) : Seg 268 (0, [.ref l0, .retAddr 0, .retAddr 0], []) h (f268 h l0) (fun (q : Unit × mH) (res : Option Value × mH) => res = (none, q.2)) := by
  unfold f268
  refine Seg.call (f1 := (3, [.ref l0, .retAddr 0, .retAddr 0], [.int 8, .ref l0])) (h1 := h) (cv := fun r => some (.int r)) rfl rfl rfl rfl (s269 h l0 8) (fun r1 => ?_)
  refine Seg.blk0 (f' := (if (r1.1 : Int32) = 3 then 12 else 28, [.ref l0, .int r1.1, .retAddr 0], [])) (h' := r1.2) rfl rfl ?_
  refine Seg.ite (fun _ => ?_) (fun _ => ?_)
  · refine Seg.call (f1 := (17, [.ref l0, .int r1.1, .retAddr 0], [.int 6, .ref l0, .int 2, .ref l0])) (h1 := r1.2) (cv := fun r => some (.int r)) rfl rfl rfl rfl (s269 r1.2 l0 6) (fun r2 => ?_)
    refine Seg.call (f1 := (21, [.ref l0, .int r1.1, .retAddr 0], [.int (-1), .int r2.1, .int 2, .ref l0])) (h1 := r2.2) (cv := fun r => some (.int r)) rfl rfl rfl rfl (s216 r2.2 l0 2 r2.1 (-1)) (fun r3 => ?_)
    refine Seg.blk0 (f' := (135, [.ref l0, .int r1.1, .retAddr 0], [])) (h' := r3.2) rfl rfl ?_
    exact Seg.w (mLw.u (mLw.u (mLw.k mLw.nil))) (s268_135 r3.2)
  · refine Seg.blk0 (f' := (if (r1.1 : Int32) = 6 then 34 else 45, [.ref l0, .int r1.1, .retAddr 0], [])) (h' := r1.2) rfl rfl ?_
    refine Seg.ite (fun _ => ?_) (fun _ => ?_)
    · refine Seg.call (f1 := (38, [.ref l0, .int r1.1, .retAddr 0], [.int (-1), .int (-1), .int 4, .ref l0])) (h1 := r1.2) (cv := fun r => some (.int r)) rfl rfl rfl rfl (s216 r1.2 l0 4 (-1) (-1)) (fun r4 => ?_)
      refine Seg.blk0 (f' := (135, [.ref l0, .int r1.1, .retAddr 0], [])) (h' := r4.2) rfl rfl ?_
      exact Seg.w (mLw.u (mLw.u (mLw.k mLw.nil))) (s268_135 r4.2)
    · refine Seg.blk0 (f' := (if (r1.1 : Int32) = 7 then 51 else 58, [.ref l0, .int r1.1, .retAddr 0], [])) (h' := r1.2) rfl rfl ?_
      refine Seg.ite (fun _ => ?_) (fun _ => ?_)
      · refine Seg.call (f1 := (52, [.ref l0, .int r1.1, .retAddr 0], [.ref l0])) (h1 := r1.2) (cv := fun _ => none) rfl rfl rfl rfl (s227 r1.2 l0) (fun r5 => ?_)
        refine Seg.blk0 (f' := (135, [.ref l0, .int r1.1, .retAddr 0], [])) (h' := r5.2) rfl rfl ?_
        exact Seg.w (mLw.u (mLw.u (mLw.k mLw.nil))) (s268_135 r5.2)
      · refine Seg.blk (f' := (if ((mI r1.2 l0 24) : Int32) ≤ 0 then 97 else 65, [.ref l0, .int r1.1, .retAddr 0], [])) (h' := r1.2) rfl rfl ?_
        refine Seg.ite (fun _ => ?_) (fun _ => ?_)
        · exact Seg.w (mLw.k (mLw.u (mLw.k mLw.nil))) (s268_97 r1.2 l0)
        · refine Seg.blk0 (f' := (if (3 : Int32) ≤ r1.1 then 97 else 70, [.ref l0, .int r1.1, .retAddr 0], [])) (h' := r1.2) rfl rfl ?_
          refine Seg.ite (fun _ => ?_) (fun _ => ?_)
          · exact Seg.w (mLw.k (mLw.u (mLw.k mLw.nil))) (s268_97 r1.2 l0)
          · refine Seg.blk0 (f' := (if (2 : Int32) ≤ r1.1 then 80 else 76, [.ref l0, .int r1.1, .retAddr 0], [.ref l0])) (h' := r1.2) rfl rfl ?_
            refine Seg.ite (fun _ => ?_) (fun _ => ?_)
            · refine Seg.blk0 (f' := (81, [.ref l0, .int r1.1, .retAddr 0], [.int 1, .ref l0])) (h' := r1.2) rfl rfl ?_
              refine Seg.call (f1 := (86, [.ref l0, .int r1.1, .retAddr 0], [.int (mI r1.2 l0 24), .ref l0, .int 1, .ref l0])) (h1 := r1.2) (cv := fun r => some (.int r)) rfl rfl rfl rfl (s269 r1.2 l0 (mI r1.2 l0 24)) (fun r9 => ?_)
              refine Seg.call (f1 := (90, [.ref l0, .int r1.1, .retAddr 0], [.int (-1), .int r9.1, .int 1, .ref l0])) (h1 := r9.2) (cv := fun r => some (.int r)) rfl rfl rfl rfl (s216 r9.2 l0 1 r9.1 (-1)) (fun r10 => ?_)
              refine Seg.blk0 (f' := (135, [.ref l0, .int r1.1, .retAddr 0], [])) (h' := r10.2) rfl rfl ?_
              exact Seg.w (mLw.u (mLw.u (mLw.k mLw.nil))) (s268_135 r10.2)
            · refine Seg.blk0 (f' := (81, [.ref l0, .int r1.1, .retAddr 0], [.int 0, .ref l0])) (h' := r1.2) rfl rfl ?_
              refine Seg.call (f1 := (86, [.ref l0, .int r1.1, .retAddr 0], [.int (mI r1.2 l0 24), .ref l0, .int 0, .ref l0])) (h1 := r1.2) (cv := fun r => some (.int r)) rfl rfl rfl rfl (s269 r1.2 l0 (mI r1.2 l0 24)) (fun r11 => ?_)
              refine Seg.call (f1 := (90, [.ref l0, .int r1.1, .retAddr 0], [.int (-1), .int r11.1, .int 0, .ref l0])) (h1 := r11.2) (cv := fun r => some (.int r)) rfl rfl rfl rfl (s216 r11.2 l0 0 r11.1 (-1)) (fun r12 => ?_)
              refine Seg.blk0 (f' := (135, [.ref l0, .int r1.1, .retAddr 0], [])) (h' := r12.2) rfl rfl ?_
              exact Seg.w (mLw.u (mLw.u (mLw.k mLw.nil))) (s268_135 r12.2)
theorem s267_23 (h : mH) : Seg 267 (23, [.retAddr 0, .retAddr 0, .retAddr 0, .retAddr 0, .retAddr 0, .retAddr 0], []) h (f267_23 h) (fun (q : Int32 × mH) (res : Option Value × mH) => res = (some (.int q.1), q.2)) := by
  unfold f267_23
  exact Seg.ret (f1 := (25, [.retAddr 0, .retAddr 0, .retAddr 0, .retAddr 0, .retAddr 0, .retAddr 0], [.int (-2)])) (h1 := h) rfl rfl rfl rfl (fun _ q => q)
theorem s267_34 (l0 : Nat) (l3 : Int32) (l4 : Int32) : ∀ (n : Nat) (s : (Int32 × mH)), Seg 267 (34, [.ref l0, .retAddr 0, .retAddr 0, .int l3, .int l4, .int s.1], []) s.2 (mLoop (f267_34 l0 l3 l4) n s) (fun (q : Int32 × mH) (res : Option Value × mH) => res = (some (.int q.1), q.2)) := by
  refine Seg.loop (F := fun s : (Int32 × mH) => (34, [.ref l0, .retAddr 0, .retAddr 0, .int l3, .int l4, .int s.1], [])) (H := fun s : (Int32 × mH) => s.2) (fun s => ?_)
  show Seg 267 (34, [.ref l0, .retAddr 0, .retAddr 0, .int l3, .int l4, .int s.1], []) s.2 _ (Sum.elim (fun s : (Int32 × mH) => Ev 267 (34, [.ref l0, .retAddr 0, .retAddr 0, .int l3, .int l4, .int s.1], []) s.2) (fun (q : Int32 × mH) (res : Option Value × mH) => res = (some (.int q.1), q.2)))
  unfold f267_34
  refine Seg.blk0 (f' := (if (l3 : Int32) ≤ s.1 then 50 else 40, [.ref l0, .retAddr 0, .retAddr 0, .int l3, .int l4, .int s.1], [])) (h' := s.2) rfl rfl ?_
  refine Seg.ite (fun _ => ?_) (fun _ => ?_)
  · refine Seg.x ?_
    refine Seg.callP (f1 := (53, [.ref l0, .retAddr 0, .retAddr 0, .int l3, .int l4, .int s.1], [.int l4, .ref l0])) (h1 := s.2) (cv := fun r => some (.int r)) rfl rfl rfl rfl (s230 s.2 l0 l4) (fun r3 => ?_)
    exact Seg.ret (f1 := (56, [.ref l0, .retAddr 0, .retAddr 0, .int l3, .int l4, .int s.1], [.int r3])) (h1 := s.2) rfl rfl rfl rfl (fun _ q => q)
  · refine Seg.call (f1 := (41, [.ref l0, .retAddr 0, .retAddr 0, .int l3, .int l4, .int s.1], [.ref l0])) (h1 := s.2) (cv := fun _ => none) rfl rfl rfl rfl (s268 s.2 l0) (fun r4 => ?_)
    refine Seg.blk0 (f' := (34, [.ref l0, .retAddr 0, .retAddr 0, .int l3, .int l4, .int (s.1 + 1)], [])) (h' := r4.2) rfl rfl ?_
    exact Seg.cont (fun _ q => Ev.w (mLw.k (mLw.k (mLw.k (mLw.k (mLw.k (mLw.k mLw.nil)))))) q)
theorem s267 (h : mH) (l0 : Nat) (l1 : Int32) (l2 : Int32) (l3 : Int32) (l4 : Int32) : Seg 267 (0, [.ref l0, .int l1, .int l2, .int l3, .int l4, .retAddr 0], []) h (f267 h l0 l1 l2 l3 l4) (fun (q : Int32 × mH) (res : Option Value × mH) => res = (some (.int q.1), q.2)) := by
  unfold f267
  refine Seg.blk (f' := (5, [.ref l0, .int l1, .int l2, .int l3, .int l4, .retAddr 0], [])) (h' := (mSI h l0 0 0)) rfl rfl ?_
  refine Seg.callP (f1 := (9, [.ref l0, .int l1, .int l2, .int l3, .int l4, .retAddr 0], [.int 60, .int 0, .int l3])) (h1 := (mSI h l0 0 0)) (cv := fun r => some (.int r)) rfl rfl rfl rfl (s179 (mSI h l0 0 0) l3 0 60) (fun r1 => ?_)
  refine Seg.blk0 (f' := (if (r1 : Int32) = 0 then 23 else 15, [.ref l0, .int l1, .int l2, .int l3, .int l4, .retAddr 0], [])) (h' := (mSI h l0 0 0)) rfl rfl ?_
  refine Seg.ite (fun _ => ?_) (fun _ => ?_)
  · exact Seg.w (mLw.u (mLw.u (mLw.u (mLw.u (mLw.u (mLw.k mLw.nil)))))) (s267_23 (mSI h l0 0 0))
  · refine Seg.call (f1 := (17, [.ref l0, .int l1, .int l2, .int l3, .int l4, .retAddr 0], [.int l1, .ref l0])) (h1 := (mSI h l0 0 0)) (cv := fun r => some (.int r)) rfl rfl rfl rfl (s205 (mSI h l0 0 0) l0 l1) (fun r2 => ?_)
    refine Seg.blk0 (f' := (if (r2.1 : Int32) = 0 then 23 else 26, [.ref l0, .int l1, .int l2, .int l3, .int l4, .retAddr 0], [])) (h' := r2.2) rfl rfl ?_
    refine Seg.ite (fun _ => ?_) (fun _ => ?_)
    · exact Seg.w (mLw.u (mLw.u (mLw.u (mLw.u (mLw.u (mLw.k mLw.nil)))))) (s267_23 r2.2)
    · refine Seg.blk (f' := (31, [.ref l0, .int l1, .int l2, .int l3, .int l4, .retAddr 0], [])) (h' := (mSI r2.2 l0 44 l2)) rfl rfl ?_
      refine Seg.blk0 (f' := (34, [.ref l0, .int l1, .int l2, .int l3, .int l4, .int 0], [])) (h' := (mSI r2.2 l0 44 l2)) rfl rfl ?_
      exact Seg.w (mLw.k (mLw.u (mLw.u (mLw.k (mLw.k (mLw.k mLw.nil)))))) (s267_34 l0 l3 l4 mFuel (0, (mSI r2.2 l0 44 l2)))
theorem s271_38 (h : mH) (l0 : Nat) (l3 : Int32) (q0 : Int32) (q1 : Int32) : Seg 271 (38, [.ref l0, .retAddr 0, .retAddr 0, .int l3], [.int q1, .int q0]) h (f271_38 h l0 l3 q0 q1) (Sum.elim (fun s : (Int32 × Int32) => Ev 271 (13, [.ref l0, .retAddr 0, .int s.1, .int s.2], []) h) (fun (q : Int32) (res : Option Value × mH) => res = (some (.int q), h))) := by
  unfold f271_38
  refine Seg.blk0 (f' := (13, [.ref l0, .retAddr 0, .int (q0 ||| q1), .int (l3 + (-1))], [])) (h' := h) rfl rfl ?_
  exact Seg.cont (fun _ q => Ev.w (mLw.k (mLw.k (mLw.k (mLw.k mLw.nil)))) q)
theorem s271_13 (h : mH) (l0 : Nat) : ∀ (n : Nat) (s : (Int32 × Int32)), Seg 271 (13, [.ref l0, .retAddr 0, .int s.1, .int s.2], []) h (mLoop (f271_13 h l0) n s) (fun (q : Int32) (res : Option Value × mH) => res = (some (.int q), h)) := by
  refine Seg.loop (F := fun s : (Int32 × Int32) => (13, [.ref l0, .retAddr 0, .int s.1, .int s.2], [])) (H := fun s : (Int32 × Int32) => h) (fun s => ?_)
  show Seg 271 (13, [.ref l0, .retAddr 0, .int s.1, .int s.2], []) h _ (Sum.elim (fun s : (Int32 × Int32) => Ev 271 (13, [.ref l0, .retAddr 0, .int s.1, .int s.2], []) h) (fun (q : Int32) (res : Option Value × mH) => res = (some (.int q), h)))
  unfold f271_13
  refine Seg.blk0 (f' := (if (s.2 : Int32) < 0 then 46 else 17, [.ref l0, .retAddr 0, .int s.1, .int s.2], [])) (h' := h) rfl rfl ?_
  refine Seg.ite (fun _ => ?_) (fun _ => ?_)
  · refine Seg.x ?_
    exact Seg.ret (f1 := (47, [.ref l0, .retAddr 0, .int s.1, .int s.2], [.int s.1])) (h1 := h) rfl rfl rfl rfl (fun _ q => q)
  · refine Seg.callP (f1 := (20, [.ref l0, .retAddr 0, .int s.1, .int s.2], [.int s.2, .int s.1, .int s.1])) (h1 := h) (cv := fun r => some (.int r)) rfl rfl rfl rfl (s221 h s.1 s.2) (fun r2 => ?_)
    refine Seg.blk0 (f' := (if (r2 : Int32) = 0 then 37 else 26, [.ref l0, .retAddr 0, .int s.1, .int s.2], [.int s.1])) (h' := h) rfl rfl ?_
    refine Seg.ite (fun _ => ?_) (fun _ => ?_)
    · refine Seg.blk0 (f' := (38, [.ref l0, .retAddr 0, .int s.1, .int s.2], [.int 0, .int s.1])) (h' := h) rfl rfl ?_
      exact Seg.w (mLw.k (mLw.k (mLw.u (mLw.k mLw.nil)))) (s271_38 h l0 s.2 s.1 0)
    · refine Seg.callP (f1 := (31, [.ref l0, .retAddr 0, .int s.1, .int s.2], [.int (19 + s.2), .ref l0, .int s.1])) (h1 := h) (cv := fun r => some (.int r)) rfl rfl rfl rfl (s206 h l0 (19 + s.2)) (fun r3 => ?_)
      refine Seg.blk0 (f' := (38, [.ref l0, .retAddr 0, .int s.1, .int s.2], [.int r3, .int s.1])) (h' := h) rfl rfl ?_
      exact Seg.w (mLw.k (mLw.k (mLw.u (mLw.k mLw.nil)))) (s271_38 h l0 s.2 s.1 r3)
theorem s271 (h : mH) (l0 : Nat) (l1 : Int32) : Seg 271 (0, [.ref l0, .int l1, .retAddr 0, .retAddr 0], []) h (f271 h l0 l1) (fun (q : Int32) (res : Option Value × mH) => res = (some (.int q), h)) := by
  unfold f271
  refine Seg.callP (f1 := (5, [.ref l0, .int l1, .retAddr 0, .retAddr 0], [.int (19 + l1), .ref l0])) (h1 := h) (cv := fun r => some (.int r)) rfl rfl rfl rfl (s206 h l0 (19 + l1)) (fun r1 => ?_)
  refine Seg.blk0 (f' := (13, [.ref l0, .int l1, .int r1, .int (l1 - 1)], [])) (h' := h) rfl rfl ?_
  exact Seg.w (mLw.k (mLw.u (mLw.k (mLw.k mLw.nil)))) (s271_13 h l0 mFuel (r1, (l1 - 1)))
theorem s272_255 (h : mH) (q0 : Int32) : Seg 272 (255, [.retAddr 0, .retAddr 0, .retAddr 0, .retAddr 0, .retAddr 0, .retAddr 0, .retAddr 0, .retAddr 0, .retAddr 0, .retAddr 0], [.int q0]) h (f272_255 h q0) (fun (q : Int32 × mH) (res : Option Value × mH) => res = (some (.int q.1), q.2)) := by
  unfold f272_255
  exact Seg.ret (f1 := (255, [.retAddr 0, .retAddr 0, .retAddr 0, .retAddr 0, .retAddr 0, .retAddr 0, .retAddr 0, .retAddr 0, .retAddr 0, .retAddr 0], [.int q0])) (h1 := h) rfl rfl rfl rfl (fun _ q => q)
theorem s272_222 (h : mH) (l0 : Nat) (l2 : Int32) (l3 : Int32) (l5 : Int32) : Seg 272 (222, [.ref l0, .retAddr 0, .int l2, .int l3, .retAddr 0, .int l5, .retAddr 0, .retAddr 0, .retAddr 0, .retAddr 0], []) h (f272_222 h l0 l2 l3 l5) (Sum.elim (fun s : (Int32 × mH) => Ev 272 (56, [.ref l0, .retAddr 0, .int l2, .int l3, .retAddr 0, .int s.1, .retAddr 0, .retAddr 0, .retAddr 0, .retAddr 0], []) s.2) (fun (q : Int32 × mH) (res : Option Value × mH) => res = (some (.int q.1), q.2))) := by
  unfold f272_222
  refine Seg.blk0 (f' := (56, [.ref l0, .retAddr 0, .int l2, .int l3, .retAddr 0, .int (l5 + 1), .retAddr 0, .retAddr 0, .retAddr 0, .retAddr 0], [])) (h' := h) rfl rfl ?_
  exact Seg.cont (fun _ q => Ev.w (mLw.k (mLw.k (mLw.k (mLw.k (mLw.k (mLw.k (mLw.k (mLw.k (mLw.k (mLw.k mLw.nil)))))))))) q)
theorem s272_216 (h : mH) (l0 : Nat) (l2 : Int32) (l3 : Int32) (l5 : Int32) (l6 : Int32) : Seg 272 (216, [.ref l0, .retAddr 0, .int l2, .int l3, .retAddr 0, .int l5, .int l6, .retAddr 0, .retAddr 0, .retAddr 0], []) h (f272_216 h l0 l2 l3 l5 l6) (Sum.elim (fun s : (Int32 × mH) => Ev 272 (65, [.ref l0, .retAddr 0, .int l2, .int l3, .retAddr 0, .int l5, .int s.1, .retAddr 0, .retAddr 0, .retAddr 0], []) s.2) (Sum.elim (fun s : (Int32 × mH) => Ev 272 (56, [.ref l0, .retAddr 0, .int l2, .int l3, .retAddr 0, .int s.1, .retAddr 0, .retAddr 0, .retAddr 0, .retAddr 0], []) s.2) (fun (q : Int32 × mH) (res : Option Value × mH) => res = (some (.int q.1), q.2)))) := by
  unfold f272_216
  refine Seg.blk0 (f' := (65, [.ref l0, .retAddr 0, .int l2, .int l3, .retAddr 0, .int l5, .int (l6 + 1), .retAddr 0, .retAddr 0, .retAddr 0], [])) (h' := h) rfl rfl ?_
  exact Seg.cont (fun _ q => Ev.w (mLw.k (mLw.k (mLw.k (mLw.k (mLw.k (mLw.k (mLw.k (mLw.k (mLw.k (mLw.k mLw.nil)))))))))) q)
theorem s272_185 (h : mH) (l0 : Nat) (l2 : Int32) (l3 : Int32) (l5 : Int32) (l6 : Int32) (q0 : Int32) : Seg 272 (185, [.ref l0, .retAddr 0, .int l2, .int l3, .retAddr 0, .int l5, .int l6, .retAddr 0, .retAddr 0, .retAddr 0], [.int q0]) h (f272_185 h l0 l2 l3 l5 l6 q0) (Sum.elim (fun s : (Int32 × mH) => Ev 272 (65, [.ref l0, .retAddr 0, .int l2, .int l3, .retAddr 0, .int l5, .int s.1, .retAddr 0, .retAddr 0, .retAddr 0], []) s.2) (Sum.elim (fun s : (Int32 × mH) => Ev 272 (56, [.ref l0, .retAddr 0, .int l2, .int l3, .retAddr 0, .int s.1, .retAddr 0, .retAddr 0, .retAddr 0, .retAddr 0], []) s.2) (fun (q : Int32 × mH) (res : Option Value × mH) => res = (some (.int q.1), q.2)))) := by
  unfold f272_185
  refine Seg.callP (f1 := (212, [.ref l0, .retAddr 0, .int l2, .int l3, .retAddr 0, .int l5, .int l6, .retAddr 0, .retAddr 0, .int q0], [.int q0, .int (mI h ((mR h l0 45).getD 0) (Int32.toNatClampNeg (l5 ||| ((1 : Int32) <<< (l6 &&& (31 : Int32)))))), .int (l5 ||| ((1 : Int32) <<< (l6 &&& (31 : Int32)))), .ref ((mR h l0 45).getD 0)])) (h1 := h) (cv := fun r => some (.int r)) rfl rfl rfl rfl (s195 h (mI h ((mR h l0 45).getD 0) (Int32.toNatClampNeg (l5 ||| ((1 : Int32) <<< (l6 &&& (31 : Int32)))))) q0) (fun r3 => ?_)
  refine Seg.blk (f' := (216, [.ref l0, .retAddr 0, .int l2, .int l3, .retAddr 0, .int l5, .int l6, .retAddr 0, .retAddr 0, .int q0], [])) (h' := (mSI h ((mR h l0 45).getD 0) (Int32.toNatClampNeg (l5 ||| ((1 : Int32) <<< (l6 &&& (31 : Int32))))) r3)) rfl rfl ?_
  exact Seg.w (mLw.k (mLw.k (mLw.k (mLw.k (mLw.k (mLw.k (mLw.k (mLw.k (mLw.k (mLw.u mLw.nil)))))))))) (s272_216 (mSI h ((mR h l0 45).getD 0) (Int32.toNatClampNeg (l5 ||| ((1 : Int32) <<< (l6 &&& (31 : Int32))))) r3) l0 l2 l3 l5 l6)
theorem s272_146 (h : mH) (l0 : Nat) (l2 : Int32) (l3 : Int32) (l5 : Int32) (l6 : Int32) (l7 : Int32) (q0 : Int32) : Seg 272 (146, [.ref l0, .retAddr 0, .int l2, .int l3, .retAddr 0, .int l5, .int l6, .int l7, .retAddr 0, .retAddr 0], [.int q0]) h (f272_146 h l0 l2 l3 l5 l6 l7 q0) (Sum.elim (fun s : (Int32 × mH) => Ev 272 (65, [.ref l0, .retAddr 0, .int l2, .int l3, .retAddr 0, .int l5, .int s.1, .retAddr 0, .retAddr 0, .retAddr 0], []) s.2) (Sum.elim (fun s : (Int32 × mH) => Ev 272 (56, [.ref l0, .retAddr 0, .int l2, .int l3, .retAddr 0, .int s.1, .retAddr 0, .retAddr 0, .retAddr 0, .retAddr 0], []) s.2) (fun (q : Int32 × mH) (res : Option Value × mH) => res = (some (.int q.1), q.2)))) := by
  unfold f272_146
  refine Seg.blk0 (f' := (if (q0 : Int32) = 0 then 166 else 153, [.ref l0, .retAddr 0, .int l2, .int l3, .retAddr 0, .int l5, .int l6, .int l7, .int q0, .retAddr 0], [])) (h' := h) rfl rfl ?_
  refine Seg.ite (fun _ => ?_) (fun _ => ?_)
  · refine Seg.blk (f' := (185, [.ref l0, .retAddr 0, .int l2, .int l3, .retAddr 0, .int l5, .int l6, .int l7, .int q0, .retAddr 0], [.int (((((mI h ((mR h l0 45).getD 0) (Int32.toNatClampNeg l5)) / 100) * 100) + 100) + l7)])) (h' := h) rfl rfl ?_
    exact Seg.w (mLw.k (mLw.k (mLw.k (mLw.k (mLw.k (mLw.k (mLw.k (mLw.u (mLw.u (mLw.k mLw.nil)))))))))) (s272_185 h l0 l2 l3 l5 l6 (((((mI h ((mR h l0 45).getD 0) (Int32.toNatClampNeg l5)) / 100) * 100) + 100) + l7))
  · refine Seg.blk (f' := (185, [.ref l0, .retAddr 0, .int l2, .int l3, .retAddr 0, .int l5, .int l6, .int l7, .int q0, .retAddr 0], [.int ((mI h ((mR h l0 45).getD 0) (Int32.toNatClampNeg l5)) + l7)])) (h' := h) rfl rfl ?_
    exact Seg.w (mLw.k (mLw.k (mLw.k (mLw.k (mLw.k (mLw.k (mLw.k (mLw.u (mLw.u (mLw.k mLw.nil)))))))))) (s272_185 h l0 l2 l3 l5 l6 ((mI h ((mR h l0 45).getD 0) (Int32.toNatClampNeg l5)) + l7))
theorem s272_145 (h : mH) (l0 : Nat) (l2 : Int32) (l3 : Int32) (l5 : Int32) (l6 : Int32) (l7 : Int32) : Seg 272 (145, [.ref l0, .retAddr 0, .int l2, .int l3, .retAddr 0, .int l5, .int l6, .int l7, .retAddr 0, .retAddr 0], []) h (f272_145 h l0 l2 l3 l5 l6 l7) (Sum.elim (fun s : (Int32 × mH) => Ev 272 (65, [.ref l0, .retAddr 0, .int l2, .int l3, .retAddr 0, .int l5, .int s.1, .retAddr 0, .retAddr 0, .retAddr 0], []) s.2) (Sum.elim (fun s : (Int32 × mH) => Ev 272 (56, [.ref l0, .retAddr 0, .int l2, .int l3, .retAddr 0, .int s.1, .retAddr 0, .retAddr 0, .retAddr 0, .retAddr 0], []) s.2) (fun (q : Int32 × mH) (res : Option Value × mH) => res = (some (.int q.1), q.2)))) := by
  unfold f272_145
  refine Seg.blk0 (f' := (146, [.ref l0, .retAddr 0, .int l2, .int l3, .retAddr 0, .int l5, .int l6, .int l7, .retAddr 0, .retAddr 0], [.int 0])) (h' := h) rfl rfl ?_
  exact Seg.w (mLw.k (mLw.k (mLw.k (mLw.k (mLw.k (mLw.k (mLw.k (mLw.k (mLw.k (mLw.k mLw.nil)))))))))) (s272_146 h l0 l2 l3 l5 l6 l7 0)
theorem s272_65 (l0 : Nat) (l2 : Int32) (l3 : Int32) (l5 : Int32) : ∀ (n : Nat) (s : (Int32 × mH)), Seg 272 (65, [.ref l0, .retAddr 0, .int l2, .int l3, .retAddr 0, .int l5, .int s.1, .retAddr 0, .retAddr 0, .retAddr 0], []) s.2 (mLoop (f272_65 l0 l2 l3 l5) n s) (Sum.elim (fun s : (Int32 × mH) => Ev 272 (56, [.ref l0, .retAddr 0, .int l2, .int l3, .retAddr 0, .int s.1, .retAddr 0, .retAddr 0, .retAddr 0, .retAddr 0], []) s.2) (fun (q : Int32 × mH) (res : Option Value × mH) => res = (some (.int q.1), q.2))) := by
  refine Seg.loop (F := fun s : (Int32 × mH) => (65, [.ref l0, .retAddr 0, .int l2, .int l3, .retAddr 0, .int l5, .int s.1, .retAddr 0, .retAddr 0, .retAddr 0], [])) (H := fun s : (Int32 × mH) => s.2) (fun s => ?_)
  show Seg 272 (65, [.ref l0, .retAddr 0, .int l2, .int l3, .retAddr 0, .int l5, .int s.1, .retAddr 0, .retAddr 0, .retAddr 0], []) s.2 _ (Sum.elim (fun s : (Int32 × mH) => Ev 272 (65, [.ref l0, .retAddr 0, .int l2, .int l3, .retAddr 0, .int l5, .int s.1, .retAddr 0, .retAddr 0, .retAddr 0], []) s.2) (Sum.elim (fun s : (Int32 × mH) => Ev 272 (56, [.ref l0, .retAddr 0, .int l2, .int l3, .retAddr 0, .int s.1, .retAddr 0, .retAddr 0, .retAddr 0, .retAddr 0], []) s.2) (fun (q : Int32 × mH) (res : Option Value × mH) => res = (some (.int q.1), q.2))))
  unfold f272_65
  refine Seg.blk (f' := (if ((mI s.2 l0 24) : Int32) ≤ s.1 then 222 else 74, [.ref l0, .retAddr 0, .int l2, .int l3, .retAddr 0, .int l5, .int s.1, .retAddr 0, .retAddr 0, .retAddr 0], [])) (h' := s.2) rfl rfl ?_
  refine Seg.ite (fun _ => ?_) (fun _ => ?_)
  · refine Seg.x ?_
    exact Seg.w (mLw.k (mLw.k (mLw.k (mLw.k (mLw.k (mLw.k (mLw.u (mLw.k (mLw.k (mLw.k mLw.nil)))))))))) (s272_222 s.2 l0 l2 l3 l5)
  · refine Seg.blk (f' := (if (1000000 : Int32) ≤ (mI s.2 ((mR s.2 l0 45).getD 0) (Int32.toNatClampNeg l5)) then 222 else 87, [.ref l0, .retAddr 0, .int l2, .int l3, .retAddr 0, .int l5, .int s.1, .retAddr 0, .retAddr 0, .retAddr 0], [])) (h' := s.2) rfl rfl ?_
    refine Seg.ite (fun _ => ?_) (fun _ => ?_)
    · refine Seg.x ?_
      exact Seg.w (mLw.k (mLw.k (mLw.k (mLw.k (mLw.k (mLw.k (mLw.u (mLw.k (mLw.k (mLw.k mLw.nil)))))))))) (s272_222 s.2 l0 l2 l3 l5)
    · refine Seg.callP (f1 := (92, [.ref l0, .retAddr 0, .int l2, .int l3, .retAddr 0, .int l5, .int s.1, .retAddr 0, .retAddr 0, .retAddr 0], [.int (3 + s.1), .ref l0])) (h1 := s.2) (cv := fun r => some (.int r)) rfl rfl rfl rfl (s206 s.2 l0 (3 + s.1)) (fun r1 => ?_)
      refine Seg.callP (f1 := (102, [.ref l0, .retAddr 0, .int l2, .int l3, .retAddr 0, .int l5, .int s.1, .int r1, .retAddr 0, .retAddr 0], [.int l5, .int s.1, .ref l0])) (h1 := s.2) (cv := fun r => some (.int r)) rfl rfl rfl rfl (s220 s.2 l0 s.1 l5) (fun r2 => ?_)
      refine Seg.blk0 (f' := (if (r2 : Int32) = 0 then 216 else 108, [.ref l0, .retAddr 0, .int l2, .int l3, .retAddr 0, .int l5, .int s.1, .int r1, .retAddr 0, .retAddr 0], [])) (h' := s.2) rfl rfl ?_
      refine Seg.ite (fun _ => ?_) (fun _ => ?_)
      · exact Seg.w (mLw.k (mLw.k (mLw.k (mLw.k (mLw.k (mLw.k (mLw.k (mLw.u (mLw.k (mLw.k mLw.nil)))))))))) (s272_216 s.2 l0 l2 l3 l5 s.1)
      · refine Seg.blk0 (f' := (if (l2 : Int32) < r1 then 216 else 114, [.ref l0, .retAddr 0, .int l2, .int l3, .retAddr 0, .int l5, .int s.1, .int r1, .retAddr 0, .retAddr 0], [])) (h' := s.2) rfl rfl ?_
        refine Seg.ite (fun _ => ?_) (fun _ => ?_)
        · exact Seg.w (mLw.k (mLw.k (mLw.k (mLw.k (mLw.k (mLw.k (mLw.k (mLw.u (mLw.k (mLw.k mLw.nil)))))))))) (s272_216 s.2 l0 l2 l3 l5 s.1)
        · refine Seg.blk (f' := (if (l2 : Int32) < (((mI s.2 ((mR s.2 l0 45).getD 0) (Int32.toNatClampNeg l5)) - (mI s.2 ((mR s.2 l0 45).getD 0) (Int32.toNatClampNeg l5)) / 100 * 100) + r1) then 145 else 131, [.ref l0, .retAddr 0, .int l2, .int l3, .retAddr 0, .int l5, .int s.1, .int r1, .retAddr 0, .retAddr 0], [])) (h' := s.2) rfl rfl ?_
          refine Seg.ite (fun _ => ?_) (fun _ => ?_)
          · exact Seg.w (mLw.k (mLw.k (mLw.k (mLw.k (mLw.k (mLw.k (mLw.k (mLw.k (mLw.k (mLw.k mLw.nil)))))))))) (s272_145 s.2 l0 l2 l3 l5 s.1 r1)
          · refine Seg.blk (f' := (if ((mI s.2 ((mR s.2 l0 45).getD 0) (Int32.toNatClampNeg l5)) : Int32) ≤ 0 then 145 else 141, [.ref l0, .retAddr 0, .int l2, .int l3, .retAddr 0, .int l5, .int s.1, .int r1, .retAddr 0, .retAddr 0], [])) (h' := s.2) rfl rfl ?_
            refine Seg.ite (fun _ => ?_) (fun _ => ?_)
            · exact Seg.w (mLw.k (mLw.k (mLw.k (mLw.k (mLw.k (mLw.k (mLw.k (mLw.k (mLw.k (mLw.k mLw.nil)))))))))) (s272_145 s.2 l0 l2 l3 l5 s.1 r1)
            · refine Seg.blk0 (f' := (146, [.ref l0, .retAddr 0, .int l2, .int l3, .retAddr 0, .int l5, .int s.1, .int r1, .retAddr 0, .retAddr 0], [.int 1])) (h' := s.2) rfl rfl ?_
              exact Seg.w (mLw.k (mLw.k (mLw.k (mLw.k (mLw.k (mLw.k (mLw.k (mLw.k (mLw.k (mLw.k mLw.nil)))))))))) (s272_146 s.2 l0 l2 l3 l5 s.1 r1 1)
theorem s272_56 (l0 : Nat) (l2 : Int32) (l3 : Int32) : ∀ (n : Nat) (s : (Int32 × mH)), Seg 272 (56, [.ref l0, .retAddr 0, .int l2, .int l3, .retAddr 0, .int s.1, .retAddr 0, .retAddr 0, .retAddr 0, .retAddr 0], []) s.2 (mLoop (f272_56 l0 l2 l3) n s) (fun (q : Int32 × mH) (res : Option Value × mH) => res = (some (.int q.1), q.2)) := by
  refine Seg.loop (F := fun s : (Int32 × mH) => (56, [.ref l0, .retAddr 0, .int l2, .int l3, .retAddr 0, .int s.1, .retAddr 0, .retAddr 0, .retAddr 0, .retAddr 0], [])) (H := fun s : (Int32 × mH) => s.2) (fun s => ?_)
  show Seg 272 (56, [.ref l0, .retAddr 0, .int l2, .int l3, .retAddr 0, .int s.1, .retAddr 0, .retAddr 0, .retAddr 0, .retAddr 0], []) s.2 _ (Sum.elim (fun s : (Int32 × mH) => Ev 272 (56, [.ref l0, .retAddr 0, .int l2, .int l3, .retAddr 0, .int s.1, .retAddr 0, .retAddr 0, .retAddr 0, .retAddr 0], []) s.2) (fun (q : Int32 × mH) (res : Option Value × mH) => res = (some (.int q.1), q.2)))
  unfold f272_56
  refine Seg.blk0 (f' := (if (l3 : Int32) < s.1 then 228 else 62, [.ref l0, .retAddr 0, .int l2, .int l3, .retAddr 0, .int s.1, .retAddr 0, .retAddr 0, .retAddr 0, .retAddr 0], [])) (h' := s.2) rfl rfl ?_
  refine Seg.ite (fun _ => ?_) (fun _ => ?_)
  · refine Seg.x ?_
    refine Seg.blk (f' := (if ((mI s.2 ((mR s.2 l0 45).getD 0) (Int32.toNatClampNeg l3)) : Int32) < 1000000 then 246 else 240, [.ref l0, .retAddr 0, .int l2, .int l3, .retAddr 0, .int s.1, .retAddr 0, .retAddr 0, .retAddr 0, .retAddr 0], [])) (h' := s.2) rfl rfl ?_
    refine Seg.ite (fun _ => ?_) (fun _ => ?_)
    · refine Seg.blk (f' := (255, [.ref l0, .retAddr 0, .int l2, .int l3, .retAddr 0, .int s.1, .retAddr 0, .retAddr 0, .retAddr 0, .retAddr 0], [.int ((mI s.2 ((mR s.2 l0 45).getD 0) (Int32.toNatClampNeg l3)) / 100)])) (h' := s.2) rfl rfl ?_
      exact Seg.w (mLw.u (mLw.k (mLw.u (mLw.u (mLw.k (mLw.u (mLw.k (mLw.k (mLw.k (mLw.k mLw.nil)))))))))) (s272_255 s.2 ((mI s.2 ((mR s.2 l0 45).getD 0) (Int32.toNatClampNeg l3)) / 100))
    · refine Seg.blk0 (f' := (255, [.ref l0, .retAddr 0, .int l2, .int l3, .retAddr 0, .int s.1, .retAddr 0, .retAddr 0, .retAddr 0, .retAddr 0], [.int 1000000])) (h' := s.2) rfl rfl ?_
      exact Seg.w (mLw.u (mLw.k (mLw.u (mLw.u (mLw.k (mLw.u (mLw.k (mLw.k (mLw.k (mLw.k mLw.nil)))))))))) (s272_255 s.2 1000000)
  · refine Seg.blk0 (f' := (65, [.ref l0, .retAddr 0, .int l2, .int l3, .retAddr 0, .int s.1, .int 0, .retAddr 0, .retAddr 0, .retAddr 0], [])) (h' := s.2) rfl rfl ?_
    exact Seg.w (mLw.k (mLw.k (mLw.k (mLw.k (mLw.k (mLw.k (mLw.k (mLw.k (mLw.k (mLw.k mLw.nil)))))))))) (s272_65 l0 l2 l3 s.1 mFuel (0, s.2))
theorem s272_19 (l0 : Nat) (l2 : Int32) (l3 : Int32) (l4 : Int32) : ∀ (n : Nat) (s : (Int32 × mH)), Seg 272 (19, [.ref l0, .retAddr 0, .int l2, .int l3, .int l4, .int s.1, .retAddr 0, .retAddr 0, .retAddr 0, .retAddr 0], []) s.2 (mLoop (f272_19 l0 l2 l3 l4) n s) (fun (q : Int32 × mH) (res : Option Value × mH) => res = (some (.int q.1), q.2)) := by
  refine Seg.loop (F := fun s : (Int32 × mH) => (19, [.ref l0, .retAddr 0, .int l2, .int l3, .int l4, .int s.1, .retAddr 0, .retAddr 0, .retAddr 0, .retAddr 0], [])) (H := fun s : (Int32 × mH) => s.2) (fun s => ?_)
  show Seg 272 (19, [.ref l0, .retAddr 0, .int l2, .int l3, .int l4, .int s.1, .retAddr 0, .retAddr 0, .retAddr 0, .retAddr 0], []) s.2 _ (Sum.elim (fun s : (Int32 × mH) => Ev 272 (19, [.ref l0, .retAddr 0, .int l2, .int l3, .int l4, .int s.1, .retAddr 0, .retAddr 0, .retAddr 0, .retAddr 0], []) s.2) (fun (q : Int32 × mH) (res : Option Value × mH) => res = (some (.int q.1), q.2)))
  unfold f272_19
  refine Seg.blk0 (f' := (if (l3 : Int32) < s.1 then 52 else 25, [.ref l0, .retAddr 0, .int l2, .int l3, .int l4, .int s.1, .retAddr 0, .retAddr 0, .retAddr 0, .retAddr 0], [])) (h' := s.2) rfl rfl ?_
  refine Seg.ite (fun _ => ?_) (fun _ => ?_)
  · refine Seg.x ?_
    refine Seg.blk0 (f' := (56, [.ref l0, .retAddr 0, .int l2, .int l3, .int l4, .int l4, .retAddr 0, .retAddr 0, .retAddr 0, .retAddr 0], [])) (h' := s.2) rfl rfl ?_
    exact Seg.w (mLw.k (mLw.k (mLw.k (mLw.k (mLw.u (mLw.k (mLw.k (mLw.k (mLw.k (mLw.k mLw.nil)))))))))) (s272_56 l0 l2 l3 mFuel (l4, s.2))
  · refine Seg.blk (f' := (if (s.1 : Int32) = l4 then 38 else 42, [.ref l0, .retAddr 0, .int l2, .int l3, .int l4, .int s.1, .retAddr 0, .retAddr 0, .retAddr 0, .retAddr 0], [.int s.1, .ref ((mR s.2 l0 45).getD 0)])) (h' := s.2) rfl rfl ?_
    refine Seg.ite (fun _ => ?_) (fun _ => ?_)
    · refine Seg.blk0 (f' := (45, [.ref l0, .retAddr 0, .int l2, .int l3, .int l4, .int s.1, .retAddr 0, .retAddr 0, .retAddr 0, .retAddr 0], [.int 0, .int s.1, .ref ((mR s.2 l0 45).getD 0)])) (h' := s.2) rfl rfl ?_
      refine Seg.blk (f' := (46, [.ref l0, .retAddr 0, .int l2, .int l3, .int l4, .int s.1, .retAddr 0, .retAddr 0, .retAddr 0, .retAddr 0], [])) (h' := (mSI s.2 ((mR s.2 l0 45).getD 0) (Int32.toNatClampNeg s.1) 0)) rfl rfl ?_
      refine Seg.blk0 (f' := (19, [.ref l0, .retAddr 0, .int l2, .int l3, .int l4, .int (s.1 + 1), .retAddr 0, .retAddr 0, .retAddr 0, .retAddr 0], [])) (h' := (mSI s.2 ((mR s.2 l0 45).getD 0) (Int32.toNatClampNeg s.1) 0)) rfl rfl ?_
      exact Seg.cont (fun _ q => Ev.w (mLw.k (mLw.k (mLw.k (mLw.k (mLw.k (mLw.k (mLw.k (mLw.k (mLw.k (mLw.k mLw.nil)))))))))) q)
    · refine Seg.blk0 (f' := (45, [.ref l0, .retAddr 0, .int l2, .int l3, .int l4, .int s.1, .retAddr 0, .retAddr 0, .retAddr 0, .retAddr 0], [.int 1000000, .int s.1, .ref ((mR s.2 l0 45).getD 0)])) (h' := s.2) rfl rfl ?_
      refine Seg.blk (f' := (46, [.ref l0, .retAddr 0, .int l2, .int l3, .int l4, .int s.1, .retAddr 0, .retAddr 0, .retAddr 0, .retAddr 0], [])) (h' := (mSI s.2 ((mR s.2 l0 45).getD 0) (Int32.toNatClampNeg s.1) 1000000)) rfl rfl ?_
      refine Seg.blk0 (f' := (19, [.ref l0, .retAddr 0, .int l2, .int l3, .int l4, .int (s.1 + 1), .retAddr 0, .retAddr 0, .retAddr 0, .retAddr 0], [])) (h' := (mSI s.2 ((mR s.2 l0 45).getD 0) (Int32.toNatClampNeg s.1) 1000000)) rfl rfl ?_
      exact Seg.cont (fun _ q => Ev.w (mLw.k (mLw.k (mLw.k (mLw.k (mLw.k (mLw.k (mLw.k (mLw.k (mLw.k (mLw.k mLw.nil)))))))))) q)
theorem s272 (h : mH) (l0 : Nat) (l1 : Int32) (l2 : Int32) : Seg 272 (0, [.ref l0, .int l1, .int l2, .retAddr 0, .retAddr 0, .retAddr 0, .retAddr 0, .retAddr 0, .retAddr 0, .retAddr 0], []) h (f272 h l0 l1 l2) (fun (q : Int32 × mH) (res : Option Value × mH) => res = (some (.int q.1), q.2)) := by
  unfold f272
  refine Seg.blk (f' := (19, [.ref l0, .int l1, .int l2, .int (((1 : Int32) <<< ((mI h l0 24) &&& (31 : Int32))) - 1), .int ((((1 : Int32) <<< ((mI h l0 24) &&& (31 : Int32))) - 1) &&& (l1 ^^^ (-1))), .int 0, .retAddr 0, .retAddr 0, .retAddr 0, .retAddr 0], [])) (h' := h) rfl rfl ?_
  exact Seg.w (mLw.k (mLw.u (mLw.k (mLw.k (mLw.k (mLw.k (mLw.k (mLw.k (mLw.k (mLw.k mLw.nil)))))))))) (s272_19 l0 l2 (((1 : Int32) <<< ((mI h l0 24) &&& (31 : Int32))) - 1) ((((1 : Int32) <<< ((mI h l0 24) &&& (31 : Int32))) - 1) &&& (l1 ^^^ (-1))) mFuel (0, h))
