/-! The small machine runs the programs; printed by a program of ours. -/
theorem s218 (h : mH) (l0 : Nat) (l1 : Int32) : Seg 218 (0, [.ref l0, .int l1], []) h (f218 h l0 l1) (fun (q : Int32) (res : Option Value × mH) => res = (some (.int q), h)) := by
  unfold f218
  refine Seg.callP (f1 := (8, [.ref l0, .int l1], [.int ((mI h l0 24) - 1), .int 0, .int l1])) (h1 := h) (cv := fun r => some (.int r)) rfl rfl rfl rfl (s179 h l1 0 ((mI h l0 24) - 1)) (fun r1 => ?_)
  exact Seg.ret (f1 := (11, [.ref l0, .int l1], [.int r1])) (h1 := h) rfl rfl rfl rfl (fun _ q => q)
theorem s221_14 (h : mH) (q0 : Int32) : Seg 221 (14, [.retAddr 0, .retAddr 0], [.int q0]) h (f221_14 h q0) (fun (q : Int32) (res : Option Value × mH) => res = (some (.int q), h)) := by
  unfold f221_14
  exact Seg.ret (f1 := (14, [.retAddr 0, .retAddr 0], [.int q0])) (h1 := h) rfl rfl rfl rfl (fun _ q => q)
theorem s221 (h : mH) (l0 : Int32) (l1 : Int32) : Seg 221 (0, [.int l0, .int l1], []) h (f221 h l0 l1) (fun (q : Int32) (res : Option Value × mH) => res = (some (.int q), h)) := by
  unfold f221
  refine Seg.blk0 (f' := (if (((l0 >>> (l1 &&& (31 : Int32))) &&& 1) : Int32) = 1 then 9 else 13, [.int l0, .int l1], [])) (h' := h) rfl rfl ?_
  refine Seg.ite (fun _ => ?_) (fun _ => ?_)
  · refine Seg.blk0 (f' := (14, [.int l0, .int l1], [.int 1])) (h' := h) rfl rfl ?_
    exact Seg.w (mLw.u (mLw.u mLw.nil)) (s221_14 h 1)
  · refine Seg.blk0 (f' := (14, [.int l0, .int l1], [.int 0])) (h' := h) rfl rfl ?_
    exact Seg.w (mLw.u (mLw.u mLw.nil)) (s221_14 h 0)
theorem s220_28 (h : mH) (q0 : Int32) : Seg 220 (28, [.retAddr 0, .retAddr 0, .retAddr 0], [.int q0]) h (f220_28 h q0) (fun (q : Int32) (res : Option Value × mH) => res = (some (.int q), h)) := by
  unfold f220_28
  exact Seg.ret (f1 := (28, [.retAddr 0, .retAddr 0, .retAddr 0], [.int q0])) (h1 := h) rfl rfl rfl rfl (fun _ q => q)
theorem s220_27 (h : mH) : Seg 220 (27, [.retAddr 0, .retAddr 0, .retAddr 0], []) h (f220_27 h) (fun (q : Int32) (res : Option Value × mH) => res = (some (.int q), h)) := by
  unfold f220_27
  refine Seg.blk0 (f' := (28, [.retAddr 0, .retAddr 0, .retAddr 0], [.int 0])) (h' := h) rfl rfl ?_
  exact Seg.w (mLw.k (mLw.k (mLw.k mLw.nil))) (s220_28 h 0)
theorem s220 (h : mH) (l0 : Nat) (l1 : Int32) (l2 : Int32) : Seg 220 (0, [.ref l0, .int l1, .int l2], []) h (f220 h l0 l1 l2) (fun (q : Int32) (res : Option Value × mH) => res = (some (.int q), h)) := by
  unfold f220
  refine Seg.callP (f1 := (2, [.ref l0, .int l1, .int l2], [.int l1, .int l2])) (h1 := h) (cv := fun r => some (.int r)) rfl rfl rfl rfl (s221 h l2 l1) (fun r1 => ?_)
  refine Seg.blk0 (f' := (if (r1 : Int32) = 0 then 8 else 27, [.ref l0, .int l1, .int l2], [])) (h' := h) rfl rfl ?_
  refine Seg.ite (fun _ => ?_) (fun _ => ?_)
  · refine Seg.callP (f1 := (13, [.ref l0, .int l1, .int l2], [.int (19 + l1), .ref l0])) (h1 := h) (cv := fun r => some (.int r)) rfl rfl rfl rfl (s206 h l0 (19 + l1)) (fun r2 => ?_)
    refine Seg.blk0 (f' := (if ((r2 &&& (l2 ^^^ (-1))) : Int32) = 0 then 23 else 27, [.ref l0, .int l1, .int l2], [])) (h' := h) rfl rfl ?_
    refine Seg.ite (fun _ => ?_) (fun _ => ?_)
    · refine Seg.blk0 (f' := (28, [.ref l0, .int l1, .int l2], [.int 1])) (h' := h) rfl rfl ?_
      exact Seg.w (mLw.u (mLw.u (mLw.u mLw.nil))) (s220_28 h 1)
    · exact Seg.w (mLw.u (mLw.u (mLw.u mLw.nil))) (s220_27 h)
  · exact Seg.w (mLw.u (mLw.u (mLw.u mLw.nil))) (s220_27 h)
theorem s219_59 (h : mH) (q0 : Int32) : Seg 219 (59, [.retAddr 0, .retAddr 0], [.int q0]) h (f219_59 h q0) (fun (q : Int32) (res : Option Value × mH) => res = (some (.int q), h)) := by
  unfold f219_59
  exact Seg.ret (f1 := (59, [.retAddr 0, .retAddr 0], [.int q0])) (h1 := h) rfl rfl rfl rfl (fun _ q => q)
theorem s219_58 (h : mH) : Seg 219 (58, [.retAddr 0, .retAddr 0], []) h (f219_58 h) (fun (q : Int32) (res : Option Value × mH) => res = (some (.int q), h)) := by
  unfold f219_58
  refine Seg.blk0 (f' := (59, [.retAddr 0, .retAddr 0], [.int 0])) (h' := h) rfl rfl ?_
  exact Seg.w (mLw.k (mLw.k mLw.nil)) (s219_59 h 0)
theorem s219 (h : mH) (l0 : Nat) (l1 : Int32) : Seg 219 (0, [.ref l0, .int l1], []) h (f219 h l0 l1) (fun (q : Int32) (res : Option Value × mH) => res = (some (.int q), h)) := by
  unfold f219
  refine Seg.callP (f1 := (11, [.ref l0, .int l1], [.int ((mI h l0 26) ||| (mI h l0 27)), .int l1, .ref l0])) (h1 := h) (cv := fun r => some (.int r)) rfl rfl rfl rfl (s220 h l0 l1 ((mI h l0 26) ||| (mI h l0 27))) (fun r1 => ?_)
  refine Seg.blk0 (f' := (if (r1 : Int32) = 0 then 58 else 17, [.ref l0, .int l1], [])) (h' := h) rfl rfl ?_
  refine Seg.ite (fun _ => ?_) (fun _ => ?_)
  · exact Seg.w (mLw.u (mLw.u mLw.nil)) (s219_58 h)
  · refine Seg.callP (f1 := (21, [.ref l0, .int l1], [.int (3 + l1), .ref l0])) (h1 := h) (cv := fun r => some (.int r)) rfl rfl rfl rfl (s206 h l0 (3 + l1)) (fun r2 => ?_)
    refine Seg.blk (f' := (if ((mI h l0 28) : Int32) < r2 then 58 else 31, [.ref l0, .int l1], [])) (h' := h) rfl rfl ?_
    refine Seg.ite (fun _ => ?_) (fun _ => ?_)
    · exact Seg.w (mLw.u (mLw.u mLw.nil)) (s219_58 h)
    · refine Seg.callP (f1 := (40, [.ref l0, .int l1], [.int (11 + l1), .ref l0, .ref ((mR h l0 32).getD 0)])) (h1 := h) (cv := fun r => some (.int r)) rfl rfl rfl rfl (s206 h l0 (11 + l1)) (fun r3 => ?_)
      refine Seg.blk (f' := (if ((mI h ((mR h l0 32).getD 0) (Int32.toNatClampNeg r3)) : Int32) ≤ 0 then 58 else 47, [.ref l0, .int l1], [])) (h' := h) rfl rfl ?_
      refine Seg.ite (fun _ => ?_) (fun _ => ?_)
      · exact Seg.w (mLw.u (mLw.u mLw.nil)) (s219_58 h)
      · refine Seg.blk (f' := (if ((mI h l0 29) : Int32) = 0 then 54 else 58, [.ref l0, .int l1], [])) (h' := h) rfl rfl ?_
        refine Seg.ite (fun _ => ?_) (fun _ => ?_)
        · refine Seg.blk0 (f' := (59, [.ref l0, .int l1], [.int 1])) (h' := h) rfl rfl ?_
          exact Seg.w (mLw.u (mLw.u mLw.nil)) (s219_59 h 1)
        · exact Seg.w (mLw.u (mLw.u mLw.nil)) (s219_58 h)
theorem s222_28 (h : mH) (l0 : Nat) (l1 : Int32) : Seg 222 (28, [.ref l0, .int l1], []) h (f222_28 h l0 l1) (fun (q : Unit × mH) (res : Option Value × mH) => res = (none, q.2)) := by
  unfold f222_28
  refine Seg.callP (f1 := (37, [.ref l0, .int l1], [.int (11 + l1), .ref l0, .ref ((mR h l0 32).getD 0)])) (h1 := h) (cv := fun r => some (.int r)) rfl rfl rfl rfl (s206 h l0 (11 + l1)) (fun r2 => ?_)
  refine Seg.blk (f' := (45, [.ref l0, .int l1], [])) (h' := (mSI h ((mR h l0 32).getD 0) (Int32.toNatClampNeg r2) ((mI h ((mR h l0 32).getD 0) (Int32.toNatClampNeg r2)) - 1))) rfl rfl ?_
  exact Seg.ret (f1 := (45, [.ref l0, .int l1], [])) (h1 := (mSI h ((mR h l0 32).getD 0) (Int32.toNatClampNeg r2) ((mI h ((mR h l0 32).getD 0) (Int32.toNatClampNeg r2)) - 1))) rfl rfl rfl rfl (fun _ q => q)
theorem s222 (h : mH) (l0 : Nat) (l1 : Int32) : Seg 222 (0, [.ref l0, .int l1], []) h (f222 h l0 l1) (fun (q : Unit × mH) (res : Option Value × mH) => res = (none, q.2)) := by
  unfold f222
  refine Seg.blk (f' := (12, [.ref l0, .int l1], [])) (h' := (mSI h l0 26 ((mI h l0 26) ||| ((1 : Int32) <<< (l1 &&& (31 : Int32)))))) rfl rfl ?_
  refine Seg.callP (f1 := (21, [.ref l0, .int l1], [.int (3 + l1), .ref l0, .int (mI (mSI h l0 26 ((mI h l0 26) ||| ((1 : Int32) <<< (l1 &&& (31 : Int32))))) l0 28), .ref l0])) (h1 := (mSI h l0 26 ((mI h l0 26) ||| ((1 : Int32) <<< (l1 &&& (31 : Int32)))))) (cv := fun r => some (.int r)) rfl rfl rfl rfl (s206 (mSI h l0 26 ((mI h l0 26) ||| ((1 : Int32) <<< (l1 &&& (31 : Int32))))) l0 (3 + l1)) (fun r1 => ?_)
  refine Seg.blk (f' := (28, [.ref l0, .int l1], [])) (h' := (mSI (mSI h l0 26 ((mI h l0 26) ||| ((1 : Int32) <<< (l1 &&& (31 : Int32))))) l0 28 ((mI (mSI h l0 26 ((mI h l0 26) ||| ((1 : Int32) <<< (l1 &&& (31 : Int32))))) l0 28) - r1))) rfl rfl ?_
  exact Seg.w (mLw.k (mLw.k mLw.nil)) (s222_28 (mSI (mSI h l0 26 ((mI h l0 26) ||| ((1 : Int32) <<< (l1 &&& (31 : Int32))))) l0 28 ((mI (mSI h l0 26 ((mI h l0 26) ||| ((1 : Int32) <<< (l1 &&& (31 : Int32))))) l0 28) - r1)) l0 l1)
theorem s217_16 (h : mH) : Seg 217 (16, [.retAddr 0, .retAddr 0], []) h (f217_16 h) (fun (q : Int32 × mH) (res : Option Value × mH) => res = (some (.int q.1), q.2)) := by
  unfold f217_16
  exact Seg.ret (f1 := (17, [.retAddr 0, .retAddr 0], [.int 0])) (h1 := h) rfl rfl rfl rfl (fun _ q => q)
theorem s217 (h : mH) (l0 : Nat) (l1 : Int32) : Seg 217 (0, [.ref l0, .int l1], []) h (f217 h l0 l1) (fun (q : Int32 × mH) (res : Option Value × mH) => res = (some (.int q.1), q.2)) := by
  unfold f217
  refine Seg.callP (f1 := (2, [.ref l0, .int l1], [.int l1, .ref l0])) (h1 := h) (cv := fun r => some (.int r)) rfl rfl rfl rfl (s218 h l0 l1) (fun r1 => ?_)
  refine Seg.blk0 (f' := (if (r1 : Int32) = 0 then 16 else 8, [.ref l0, .int l1], [])) (h' := h) rfl rfl ?_
  refine Seg.ite (fun _ => ?_) (fun _ => ?_)
  · exact Seg.w (mLw.u (mLw.u mLw.nil)) (s217_16 h)
  · refine Seg.callP (f1 := (10, [.ref l0, .int l1], [.int l1, .ref l0])) (h1 := h) (cv := fun r => some (.int r)) rfl rfl rfl rfl (s219 h l0 l1) (fun r2 => ?_)
    refine Seg.blk0 (f' := (if (r2 : Int32) = 0 then 16 else 18, [.ref l0, .int l1], [])) (h' := h) rfl rfl ?_
    refine Seg.ite (fun _ => ?_) (fun _ => ?_)
    · exact Seg.w (mLw.u (mLw.u mLw.nil)) (s217_16 h)
    · refine Seg.call (f1 := (20, [.ref l0, .int l1], [.int l1, .ref l0])) (h1 := h) (cv := fun _ => none) rfl rfl rfl rfl (s222 h l0 l1) (fun r3 => ?_)
      exact Seg.ret (f1 := (24, [.ref l0, .int l1], [.int 1])) (h1 := r3.2) rfl rfl rfl rfl (fun _ q => q)
theorem s223_25 (h : mH) : Seg 223 (25, [.retAddr 0, .retAddr 0], []) h (f223_25 h) (fun (q : Int32 × mH) (res : Option Value × mH) => res = (some (.int q.1), q.2)) := by
  unfold f223_25
  exact Seg.ret (f1 := (26, [.retAddr 0, .retAddr 0], [.int 0])) (h1 := h) rfl rfl rfl rfl (fun _ q => q)
theorem s223 (h : mH) (l0 : Nat) (l1 : Int32) : Seg 223 (0, [.ref l0, .int l1], []) h (f223 h l0 l1) (fun (q : Int32 × mH) (res : Option Value × mH) => res = (some (.int q.1), q.2)) := by
  unfold f223
  refine Seg.callP (f1 := (2, [.ref l0, .int l1], [.int l1, .ref l0])) (h1 := h) (cv := fun r => some (.int r)) rfl rfl rfl rfl (s218 h l0 l1) (fun r1 => ?_)
  refine Seg.blk0 (f' := (if (r1 : Int32) = 0 then 25 else 8, [.ref l0, .int l1], [])) (h' := h) rfl rfl ?_
  refine Seg.ite (fun _ => ?_) (fun _ => ?_)
  · exact Seg.w (mLw.u (mLw.u mLw.nil)) (s223_25 h)
  · refine Seg.callP (f1 := (19, [.ref l0, .int l1], [.int ((mI h l0 26) ||| (mI h l0 27)), .int l1, .ref l0])) (h1 := h) (cv := fun r => some (.int r)) rfl rfl rfl rfl (s220 h l0 l1 ((mI h l0 26) ||| (mI h l0 27))) (fun r2 => ?_)
    refine Seg.blk0 (f' := (if (r2 : Int32) = 0 then 25 else 27, [.ref l0, .int l1], [])) (h' := h) rfl rfl ?_
    refine Seg.ite (fun _ => ?_) (fun _ => ?_)
    · exact Seg.w (mLw.u (mLw.u mLw.nil)) (s223_25 h)
    · refine Seg.blk (f' := (39, [.ref l0, .int l1], [])) (h' := (mSI h l0 27 ((mI h l0 27) ||| ((1 : Int32) <<< (l1 &&& (31 : Int32)))))) rfl rfl ?_
      exact Seg.ret (f1 := (40, [.ref l0, .int l1], [.int 1])) (h1 := (mSI h l0 27 ((mI h l0 27) ||| ((1 : Int32) <<< (l1 &&& (31 : Int32)))))) rfl rfl rfl rfl (fun _ q => q)
theorem s224 (h : mH) (l0 : Nat) (l1 : Int32) : Seg 224 (0, [.ref l0, .int l1], []) h (f224 h l0 l1) (fun (q : Unit × mH) (res : Option Value × mH) => res = (none, q.2)) := by
  unfold f224
  refine Seg.callP (f1 := (15, [.ref l0, .int l1], [.int ((mI h ((mR h l0 32).getD 0) (Int32.toNatClampNeg l1)) + 2), .int 9, .int l1, .ref ((mR h l0 32).getD 0)])) (h1 := h) (cv := fun r => some (.int r)) rfl rfl rfl rfl (s195 h 9 ((mI h ((mR h l0 32).getD 0) (Int32.toNatClampNeg l1)) + 2)) (fun r1 => ?_)
  refine Seg.blk (f' := (19, [.ref l0, .int l1], [])) (h' := (mSI h ((mR h l0 32).getD 0) (Int32.toNatClampNeg l1) r1)) rfl rfl ?_
  exact Seg.ret (f1 := (19, [.ref l0, .int l1], [])) (h1 := (mSI h ((mR h l0 32).getD 0) (Int32.toNatClampNeg l1) r1)) rfl rfl rfl rfl (fun _ q => q)
theorem s226 (h : mH) (l0 : Nat) (l1 : Int32) : Seg 226 (0, [.ref l0, .int l1], []) h (f226 h l0 l1) (fun (q : Int32) (res : Option Value × mH) => res = (some (.int q), h)) := by
  unfold f226
  refine Seg.callP (f1 := (8, [.ref l0, .int l1], [.int ((mI h l0 25) - 1), .int 0, .int l1])) (h1 := h) (cv := fun r => some (.int r)) rfl rfl rfl rfl (s179 h l1 0 ((mI h l0 25) - 1)) (fun r1 => ?_)
  exact Seg.ret (f1 := (11, [.ref l0, .int l1], [.int r1])) (h1 := h) rfl rfl rfl rfl (fun _ q => q)
theorem s225_35 (h : mH) : Seg 225 (35, [.retAddr 0, .retAddr 0, .retAddr 0], []) h (f225_35 h) (fun (q : Int32 × mH) (res : Option Value × mH) => res = (some (.int q.1), q.2)) := by
  unfold f225_35
  exact Seg.ret (f1 := (36, [.retAddr 0, .retAddr 0, .retAddr 0], [.int 0])) (h1 := h) rfl rfl rfl rfl (fun _ q => q)
theorem s225 (h : mH) (l0 : Nat) (l1 : Int32) (l2 : Int32) : Seg 225 (0, [.ref l0, .int l1, .int l2], []) h (f225 h l0 l1 l2) (fun (q : Int32 × mH) (res : Option Value × mH) => res = (some (.int q.1), q.2)) := by
  unfold f225
  refine Seg.callP (f1 := (2, [.ref l0, .int l1, .int l2], [.int l1, .ref l0])) (h1 := h) (cv := fun r => some (.int r)) rfl rfl rfl rfl (s218 h l0 l1) (fun r1 => ?_)
  refine Seg.blk0 (f' := (if (r1 : Int32) = 0 then 35 else 8, [.ref l0, .int l1, .int l2], [])) (h' := h) rfl rfl ?_
  refine Seg.ite (fun _ => ?_) (fun _ => ?_)
  · exact Seg.w (mLw.u (mLw.u (mLw.u mLw.nil))) (s225_35 h)
  · refine Seg.callP (f1 := (10, [.ref l0, .int l1, .int l2], [.int l2, .ref l0])) (h1 := h) (cv := fun r => some (.int r)) rfl rfl rfl rfl (s226 h l0 l2) (fun r2 => ?_)
    refine Seg.blk0 (f' := (if (r2 : Int32) = 0 then 35 else 16, [.ref l0, .int l1, .int l2], [])) (h' := h) rfl rfl ?_
    refine Seg.ite (fun _ => ?_) (fun _ => ?_)
    · exact Seg.w (mLw.u (mLw.u (mLw.u mLw.nil))) (s225_35 h)
    · refine Seg.callP (f1 := (21, [.ref l0, .int l1, .int l2], [.int l1, .int (mI h l0 26)])) (h1 := h) (cv := fun r => some (.int r)) rfl rfl rfl rfl (s221 h (mI h l0 26) l1) (fun r3 => ?_)
      refine Seg.blk0 (f' := (if (r3 : Int32) = 0 then 35 else 27, [.ref l0, .int l1, .int l2], [])) (h' := h) rfl rfl ?_
      refine Seg.ite (fun _ => ?_) (fun _ => ?_)
      · exact Seg.w (mLw.u (mLw.u (mLw.u mLw.nil))) (s225_35 h)
      · refine Seg.blk (f' := (if ((mI h l0 29) : Int32) = 1 then 35 else 37, [.ref l0, .int l1, .int l2], [])) (h' := h) rfl rfl ?_
        refine Seg.ite (fun _ => ?_) (fun _ => ?_)
        · exact Seg.w (mLw.u (mLw.u (mLw.u mLw.nil))) (s225_35 h)
        · refine Seg.blk (f' := (49, [.ref l0, .int l1, .int l2], [])) (h' := (mSI h ((mR h l0 33).getD 0) (Int32.toNatClampNeg ((8 * l2) + l1)) 0)) rfl rfl ?_
          exact Seg.ret (f1 := (50, [.ref l0, .int l1, .int l2], [.int 1])) (h1 := (mSI h ((mR h l0 33).getD 0) (Int32.toNatClampNeg ((8 * l2) + l1)) 0)) rfl rfl rfl rfl (fun _ q => q)
theorem s228_130 (h : mH) (l0 : Nat) (l1 : Int32) (l2 : Int32) (l3 : Int32) (l4 : Int32) : Seg 228 (130, [.ref l0, .int l1, .int l2, .int l3, .int l4], []) h (f228_130 h l0 l1 l2 l3 l4) (Sum.elim (fun s : (Int32 × mH) => Ev 228 (82, [.ref l0, .int l1, .int l2, .int l3, .int s.1], []) s.2) (fun (q : Unit × mH) (res : Option Value × mH) => res = (none, q.2))) := by
  unfold f228_130
  refine Seg.blk0 (f' := (82, [.ref l0, .int l1, .int l2, .int l3, .int (l4 + 1)], [])) (h' := h) rfl rfl ?_
  exact Seg.cont (fun _ q => Ev.w (mLw.k (mLw.k (mLw.k (mLw.k (mLw.k mLw.nil))))) q)
theorem s228_82 (l0 : Nat) (l1 : Int32) (l2 : Int32) (l3 : Int32) : ∀ (n : Nat) (s : (Int32 × mH)), Seg 228 (82, [.ref l0, .int l1, .int l2, .int l3, .int s.1], []) s.2 (mLoop (f228_82 l0 l1 l2 l3) n s) (fun (q : Unit × mH) (res : Option Value × mH) => res = (none, q.2)) := by
  refine Seg.loop (F := fun s : (Int32 × mH) => (82, [.ref l0, .int l1, .int l2, .int l3, .int s.1], [])) (H := fun s : (Int32 × mH) => s.2) (fun s => ?_)
  show Seg 228 (82, [.ref l0, .int l1, .int l2, .int l3, .int s.1], []) s.2 _ (Sum.elim (fun s : (Int32 × mH) => Ev 228 (82, [.ref l0, .int l1, .int l2, .int l3, .int s.1], []) s.2) (fun (q : Unit × mH) (res : Option Value × mH) => res = (none, q.2)))
  unfold f228_82
  refine Seg.blk (f' := (if ((mI s.2 l0 25) : Int32) ≤ s.1 then 136 else 91, [.ref l0, .int l1, .int l2, .int l3, .int s.1], [])) (h' := s.2) rfl rfl ?_
  refine Seg.ite (fun _ => ?_) (fun _ => ?_)
  · refine Seg.x ?_
    exact Seg.ret (f1 := (136, [.ref l0, .int l1, .int l2, .int l3, .int s.1], [])) (h1 := s.2) rfl rfl rfl rfl (fun _ q => q)
  · refine Seg.callP (f1 := (96, [.ref l0, .int l1, .int l2, .int l3, .int s.1], [.int (39 + l1), .ref l0])) (h1 := s.2) (cv := fun r => some (.int r)) rfl rfl rfl rfl (s206 s.2 l0 (39 + l1)) (fun r1 => ?_)
    refine Seg.callP (f1 := (101, [.ref l0, .int l1, .int l2, .int l3, .int s.1], [.int s.1, .int r1])) (h1 := s.2) (cv := fun r => some (.int r)) rfl rfl rfl rfl (s221 s.2 r1 s.1) (fun r2 => ?_)
    refine Seg.blk0 (f' := (if (r2 : Int32) = 0 then 130 else 107, [.ref l0, .int l1, .int l2, .int l3, .int s.1], [])) (h' := s.2) rfl rfl ?_
    refine Seg.ite (fun _ => ?_) (fun _ => ?_)
    · exact Seg.w (mLw.k (mLw.k (mLw.k (mLw.k (mLw.k mLw.nil))))) (s228_130 s.2 l0 l1 l2 l3 s.1)
    · refine Seg.blk (f' := (if ((mI s.2 ((mR s.2 l0 34).getD 0) (Int32.toNatClampNeg ((8 * s.1) + l2))) : Int32) = (-1) then 130 else 123, [.ref l0, .int l1, .int l2, .int l3, .int s.1], [])) (h' := s.2) rfl rfl ?_
      refine Seg.ite (fun _ => ?_) (fun _ => ?_)
      · exact Seg.w (mLw.k (mLw.k (mLw.k (mLw.k (mLw.k mLw.nil))))) (s228_130 s.2 l0 l1 l2 l3 s.1)
      · refine Seg.blk (f' := (130, [.ref l0, .int l1, .int l2, .int l3, .int s.1], [])) (h' := (mSI s.2 ((mR s.2 l0 33).getD 0) (Int32.toNatClampNeg l3) 0)) rfl rfl ?_
        exact Seg.w (mLw.k (mLw.k (mLw.k (mLw.k (mLw.k mLw.nil))))) (s228_130 (mSI s.2 ((mR s.2 l0 33).getD 0) (Int32.toNatClampNeg l3) 0) l0 l1 l2 l3 s.1)
theorem s228_78 (h : mH) : Seg 228 (78, [.retAddr 0, .retAddr 0, .retAddr 0, .retAddr 0, .retAddr 0], []) h (f228_78 h) (fun (q : Unit × mH) (res : Option Value × mH) => res = (none, q.2)) := by
  unfold f228_78
  exact Seg.ret (f1 := (78, [.retAddr 0, .retAddr 0, .retAddr 0, .retAddr 0, .retAddr 0], [])) (h1 := h) rfl rfl rfl rfl (fun _ q => q)
theorem s228 (h : mH) (l0 : Nat) (l1 : Int32) (l2 : Int32) : Seg 228 (0, [.ref l0, .int l1, .int l2, .retAddr 0, .retAddr 0], []) h (f228 h l0 l1 l2) (fun (q : Unit × mH) (res : Option Value × mH) => res = (none, q.2)) := by
  unfold f228
  refine Seg.blk (f' := (if ((mI h ((mR h l0 34).getD 0) (Int32.toNatClampNeg ((8 * l1) + l2))) : Int32) = (-1) then 79 else 17, [.ref l0, .int l1, .int l2, .int ((8 * l1) + l2), .retAddr 0], [])) (h' := h) rfl rfl ?_
  refine Seg.ite (fun _ => ?_) (fun _ => ?_)
  · refine Seg.blk0 (f' := (82, [.ref l0, .int l1, .int l2, .int ((8 * l1) + l2), .int 0], [])) (h' := h) rfl rfl ?_
    exact Seg.w (mLw.k (mLw.k (mLw.k (mLw.k (mLw.k mLw.nil))))) (s228_82 l0 l1 l2 ((8 * l1) + l2) mFuel (0, h))
  · refine Seg.callP (f1 := (35, [.ref l0, .int l1, .int l2, .int ((8 * l1) + l2), .retAddr 0], [.int (33 + l1), .ref l0, .int ((mI h ((mR h l0 34).getD 0) (Int32.toNatClampNeg ((8 * l1) + l2))) + 1), .int ((8 * l1) + l2), .ref ((mR h l0 33).getD 0)])) (h1 := h) (cv := fun r => some (.int r)) rfl rfl rfl rfl (s206 h l0 (33 + l1)) (fun r3 => ?_)
    refine Seg.blk0 (f' := (if (((mI h ((mR h l0 34).getD 0) (Int32.toNatClampNeg ((8 * l1) + l2))) + 1) : Int32) = r3 then 41 else 45, [.ref l0, .int l1, .int l2, .int ((8 * l1) + l2), .retAddr 0], [.int ((8 * l1) + l2), .ref ((mR h l0 33).getD 0)])) (h' := h) rfl rfl ?_
    refine Seg.ite (fun _ => ?_) (fun _ => ?_)
    · refine Seg.blk0 (f' := (53, [.ref l0, .int l1, .int l2, .int ((8 * l1) + l2), .retAddr 0], [.int (-1), .int ((8 * l1) + l2), .ref ((mR h l0 33).getD 0)])) (h' := h) rfl rfl ?_
      refine Seg.blk (f' := (54, [.ref l0, .int l1, .int l2, .int ((8 * l1) + l2), .retAddr 0], [])) (h' := (mSI h ((mR h l0 33).getD 0) (Int32.toNatClampNeg ((8 * l1) + l2)) (-1))) rfl rfl ?_
      refine Seg.blk (f' := (if ((mI (mSI h ((mR h l0 33).getD 0) (Int32.toNatClampNeg ((8 * l1) + l2)) (-1)) ((mR h l0 33).getD 0) (Int32.toNatClampNeg ((8 * l1) + l2))) : Int32) = (-1) then 69 else 73, [.ref l0, .int l1, .int l2, .int ((8 * l1) + l2), .retAddr 0], [.int (mI (mSI h ((mR h l0 33).getD 0) (Int32.toNatClampNeg ((8 * l1) + l2)) (-1)) l0 31), .ref l0])) (h' := (mSI h ((mR h l0 33).getD 0) (Int32.toNatClampNeg ((8 * l1) + l2)) (-1))) rfl rfl ?_
      refine Seg.ite (fun _ => ?_) (fun _ => ?_)
      · refine Seg.blk0 (f' := (74, [.ref l0, .int l1, .int l2, .int ((8 * l1) + l2), .retAddr 0], [.int 1, .int (mI (mSI h ((mR h l0 33).getD 0) (Int32.toNatClampNeg ((8 * l1) + l2)) (-1)) l0 31), .ref l0])) (h' := (mSI h ((mR h l0 33).getD 0) (Int32.toNatClampNeg ((8 * l1) + l2)) (-1))) rfl rfl ?_
        refine Seg.blk (f' := (78, [.ref l0, .int l1, .int l2, .int ((8 * l1) + l2), .retAddr 0], [])) (h' := (mSI (mSI h ((mR h l0 33).getD 0) (Int32.toNatClampNeg ((8 * l1) + l2)) (-1)) l0 31 ((mI (mSI h ((mR h l0 33).getD 0) (Int32.toNatClampNeg ((8 * l1) + l2)) (-1)) l0 31) + 1))) rfl rfl ?_
        exact Seg.w (mLw.u (mLw.u (mLw.u (mLw.u (mLw.k mLw.nil))))) (s228_78 (mSI (mSI h ((mR h l0 33).getD 0) (Int32.toNatClampNeg ((8 * l1) + l2)) (-1)) l0 31 ((mI (mSI h ((mR h l0 33).getD 0) (Int32.toNatClampNeg ((8 * l1) + l2)) (-1)) l0 31) + 1)))
      · refine Seg.blk0 (f' := (74, [.ref l0, .int l1, .int l2, .int ((8 * l1) + l2), .retAddr 0], [.int 0, .int (mI (mSI h ((mR h l0 33).getD 0) (Int32.toNatClampNeg ((8 * l1) + l2)) (-1)) l0 31), .ref l0])) (h' := (mSI h ((mR h l0 33).getD 0) (Int32.toNatClampNeg ((8 * l1) + l2)) (-1))) rfl rfl ?_
        refine Seg.blk (f' := (78, [.ref l0, .int l1, .int l2, .int ((8 * l1) + l2), .retAddr 0], [])) (h' := (mSI (mSI h ((mR h l0 33).getD 0) (Int32.toNatClampNeg ((8 * l1) + l2)) (-1)) l0 31 ((mI (mSI h ((mR h l0 33).getD 0) (Int32.toNatClampNeg ((8 * l1) + l2)) (-1)) l0 31) + 0))) rfl rfl ?_
        exact Seg.w (mLw.u (mLw.u (mLw.u (mLw.u (mLw.k mLw.nil))))) (s228_78 (mSI (mSI h ((mR h l0 33).getD 0) (Int32.toNatClampNeg ((8 * l1) + l2)) (-1)) l0 31 ((mI (mSI h ((mR h l0 33).getD 0) (Int32.toNatClampNeg ((8 * l1) + l2)) (-1)) l0 31) + 0)))
    · refine Seg.blk (f' := (53, [.ref l0, .int l1, .int l2, .int ((8 * l1) + l2), .retAddr 0], [.int ((mI h ((mR h l0 34).getD 0) (Int32.toNatClampNeg ((8 * l1) + l2))) + 1), .int ((8 * l1) + l2), .ref ((mR h l0 33).getD 0)])) (h' := h) rfl rfl ?_
      refine Seg.blk (f' := (54, [.ref l0, .int l1, .int l2, .int ((8 * l1) + l2), .retAddr 0], [])) (h' := (mSI h ((mR h l0 33).getD 0) (Int32.toNatClampNeg ((8 * l1) + l2)) ((mI h ((mR h l0 34).getD 0) (Int32.toNatClampNeg ((8 * l1) + l2))) + 1))) rfl rfl ?_
      refine Seg.blk (f' := (if ((mI (mSI h ((mR h l0 33).getD 0) (Int32.toNatClampNeg ((8 * l1) + l2)) ((mI h ((mR h l0 34).getD 0) (Int32.toNatClampNeg ((8 * l1) + l2))) + 1)) ((mR h l0 33).getD 0) (Int32.toNatClampNeg ((8 * l1) + l2))) : Int32) = (-1) then 69 else 73, [.ref l0, .int l1, .int l2, .int ((8 * l1) + l2), .retAddr 0], [.int (mI (mSI h ((mR h l0 33).getD 0) (Int32.toNatClampNeg ((8 * l1) + l2)) ((mI h ((mR h l0 34).getD 0) (Int32.toNatClampNeg ((8 * l1) + l2))) + 1)) l0 31), .ref l0])) (h' := (mSI h ((mR h l0 33).getD 0) (Int32.toNatClampNeg ((8 * l1) + l2)) ((mI h ((mR h l0 34).getD 0) (Int32.toNatClampNeg ((8 * l1) + l2))) + 1))) rfl rfl ?_
      refine Seg.ite (fun _ => ?_) (fun _ => ?_)
      · refine Seg.blk0 (f' := (74, [.ref l0, .int l1, .int l2, .int ((8 * l1) + l2), .retAddr 0], [.int 1, .int (mI (mSI h ((mR h l0 33).getD 0) (Int32.toNatClampNeg ((8 * l1) + l2)) ((mI h ((mR h l0 34).getD 0) (Int32.toNatClampNeg ((8 * l1) + l2))) + 1)) l0 31), .ref l0])) (h' := (mSI h ((mR h l0 33).getD 0) (Int32.toNatClampNeg ((8 * l1) + l2)) ((mI h ((mR h l0 34).getD 0) (Int32.toNatClampNeg ((8 * l1) + l2))) + 1))) rfl rfl ?_
        refine Seg.blk (f' := (78, [.ref l0, .int l1, .int l2, .int ((8 * l1) + l2), .retAddr 0], [])) (h' := (mSI (mSI h ((mR h l0 33).getD 0) (Int32.toNatClampNeg ((8 * l1) + l2)) ((mI h ((mR h l0 34).getD 0) (Int32.toNatClampNeg ((8 * l1) + l2))) + 1)) l0 31 ((mI (mSI h ((mR h l0 33).getD 0) (Int32.toNatClampNeg ((8 * l1) + l2)) ((mI h ((mR h l0 34).getD 0) (Int32.toNatClampNeg ((8 * l1) + l2))) + 1)) l0 31) + 1))) rfl rfl ?_
        exact Seg.w (mLw.u (mLw.u (mLw.u (mLw.u (mLw.k mLw.nil))))) (s228_78 (mSI (mSI h ((mR h l0 33).getD 0) (Int32.toNatClampNeg ((8 * l1) + l2)) ((mI h ((mR h l0 34).getD 0) (Int32.toNatClampNeg ((8 * l1) + l2))) + 1)) l0 31 ((mI (mSI h ((mR h l0 33).getD 0) (Int32.toNatClampNeg ((8 * l1) + l2)) ((mI h ((mR h l0 34).getD 0) (Int32.toNatClampNeg ((8 * l1) + l2))) + 1)) l0 31) + 1)))
      · refine Seg.blk0 (f' := (74, [.ref l0, .int l1, .int l2, .int ((8 * l1) + l2), .retAddr 0], [.int 0, .int (mI (mSI h ((mR h l0 33).getD 0) (Int32.toNatClampNeg ((8 * l1) + l2)) ((mI h ((mR h l0 34).getD 0) (Int32.toNatClampNeg ((8 * l1) + l2))) + 1)) l0 31), .ref l0])) (h' := (mSI h ((mR h l0 33).getD 0) (Int32.toNatClampNeg ((8 * l1) + l2)) ((mI h ((mR h l0 34).getD 0) (Int32.toNatClampNeg ((8 * l1) + l2))) + 1))) rfl rfl ?_
        refine Seg.blk (f' := (78, [.ref l0, .int l1, .int l2, .int ((8 * l1) + l2), .retAddr 0], [])) (h' := (mSI (mSI h ((mR h l0 33).getD 0) (Int32.toNatClampNeg ((8 * l1) + l2)) ((mI h ((mR h l0 34).getD 0) (Int32.toNatClampNeg ((8 * l1) + l2))) + 1)) l0 31 ((mI (mSI h ((mR h l0 33).getD 0) (Int32.toNatClampNeg ((8 * l1) + l2)) ((mI h ((mR h l0 34).getD 0) (Int32.toNatClampNeg ((8 * l1) + l2))) + 1)) l0 31) + 0))) rfl rfl ?_
        exact Seg.w (mLw.u (mLw.u (mLw.u (mLw.u (mLw.k mLw.nil))))) (s228_78 (mSI (mSI h ((mR h l0 33).getD 0) (Int32.toNatClampNeg ((8 * l1) + l2)) ((mI h ((mR h l0 34).getD 0) (Int32.toNatClampNeg ((8 * l1) + l2))) + 1)) l0 31 ((mI (mSI h ((mR h l0 33).getD 0) (Int32.toNatClampNeg ((8 * l1) + l2)) ((mI h ((mR h l0 34).getD 0) (Int32.toNatClampNeg ((8 * l1) + l2))) + 1)) l0 31) + 0)))
theorem s227_38 (l0 : Nat) (l1 : Int32) : ∀ (n : Nat) (s : (Int32 × mH)), Seg 227 (38, [.ref l0, .int l1, .int s.1], []) s.2 (mLoop (f227_38 l0 l1) n s) (Sum.elim (fun s : (Int32 × mH) => Ev 227 (28, [.ref l0, .int s.1, .retAddr 0], []) s.2) (fun (q : Unit × mH) (res : Option Value × mH) => res = (none, q.2))) := by
  refine Seg.loop (F := fun s : (Int32 × mH) => (38, [.ref l0, .int l1, .int s.1], [])) (H := fun s : (Int32 × mH) => s.2) (fun s => ?_)
  show Seg 227 (38, [.ref l0, .int l1, .int s.1], []) s.2 _ (Sum.elim (fun s : (Int32 × mH) => Ev 227 (38, [.ref l0, .int l1, .int s.1], []) s.2) (Sum.elim (fun s : (Int32 × mH) => Ev 227 (28, [.ref l0, .int s.1, .retAddr 0], []) s.2) (fun (q : Unit × mH) (res : Option Value × mH) => res = (none, q.2))))
  unfold f227_38
  refine Seg.blk0 (f' := (if (8 : Int32) ≤ s.1 then 56 else 44, [.ref l0, .int l1, .int s.1], [])) (h' := s.2) rfl rfl ?_
  refine Seg.ite (fun _ => ?_) (fun _ => ?_)
  · refine Seg.x ?_
    refine Seg.blk0 (f' := (28, [.ref l0, .int (l1 + 1), .int s.1], [])) (h' := s.2) rfl rfl ?_
    exact Seg.cont (fun _ q => Ev.w (mLw.k (mLw.k (mLw.u mLw.nil))) q)
  · refine Seg.call (f1 := (47, [.ref l0, .int l1, .int s.1], [.int s.1, .int l1, .ref l0])) (h1 := s.2) (cv := fun _ => none) rfl rfl rfl rfl (s228 s.2 l0 l1 s.1) (fun r2 => ?_)
    refine Seg.blk0 (f' := (38, [.ref l0, .int l1, .int (s.1 + 1)], [])) (h' := r2.2) rfl rfl ?_
    exact Seg.cont (fun _ q => Ev.w (mLw.k (mLw.k (mLw.k mLw.nil))) q)
theorem s227_28 (l0 : Nat) : ∀ (n : Nat) (s : (Int32 × mH)), Seg 227 (28, [.ref l0, .int s.1, .retAddr 0], []) s.2 (mLoop (f227_28 l0) n s) (fun (q : Unit × mH) (res : Option Value × mH) => res = (none, q.2)) := by
  refine Seg.loop (F := fun s : (Int32 × mH) => (28, [.ref l0, .int s.1, .retAddr 0], [])) (H := fun s : (Int32 × mH) => s.2) (fun s => ?_)
  show Seg 227 (28, [.ref l0, .int s.1, .retAddr 0], []) s.2 _ (Sum.elim (fun s : (Int32 × mH) => Ev 227 (28, [.ref l0, .int s.1, .retAddr 0], []) s.2) (fun (q : Unit × mH) (res : Option Value × mH) => res = (none, q.2)))
  unfold f227_28
  refine Seg.blk (f' := (if ((mI s.2 l0 25) : Int32) ≤ s.1 then 62 else 36, [.ref l0, .int s.1, .retAddr 0], [])) (h' := s.2) rfl rfl ?_
  refine Seg.ite (fun _ => ?_) (fun _ => ?_)
  · refine Seg.x ?_
    refine Seg.blk (f' := (67, [.ref l0, .int s.1, .retAddr 0], [])) (h' := (mSI s.2 l0 29 0)) rfl rfl ?_
    refine Seg.callP (f1 := (70, [.ref l0, .int s.1, .retAddr 0], [.int 2, .ref l0, .ref l0])) (h1 := (mSI s.2 l0 29 0)) (cv := fun r => some (.int r)) rfl rfl rfl rfl (s206 (mSI s.2 l0 29 0) l0 2) (fun r1 => ?_)
    refine Seg.blk (f' := (76, [.ref l0, .int s.1, .retAddr 0], [])) (h' := (mSI (mSI s.2 l0 29 0) l0 28 r1)) rfl rfl ?_
    refine Seg.blk (f' := (86, [.ref l0, .int s.1, .retAddr 0], [])) (h' := (mSI (mSI (mSI s.2 l0 29 0) l0 28 r1) l0 30 ((mI (mSI (mSI s.2 l0 29 0) l0 28 r1) l0 30) + 1))) rfl rfl ?_
    exact Seg.ret (f1 := (86, [.ref l0, .int s.1, .retAddr 0], [])) (h1 := (mSI (mSI (mSI s.2 l0 29 0) l0 28 r1) l0 30 ((mI (mSI (mSI s.2 l0 29 0) l0 28 r1) l0 30) + 1))) rfl rfl rfl rfl (fun _ q => q)
  · refine Seg.blk0 (f' := (38, [.ref l0, .int s.1, .int 0], [])) (h' := s.2) rfl rfl ?_
    exact Seg.w (mLw.k (mLw.k (mLw.k mLw.nil))) (s227_38 l0 s.1 mFuel (0, s.2))
theorem s227_2 (l0 : Nat) : ∀ (n : Nat) (s : (Int32 × mH)), Seg 227 (2, [.ref l0, .int s.1, .retAddr 0], []) s.2 (mLoop (f227_2 l0) n s) (fun (q : Unit × mH) (res : Option Value × mH) => res = (none, q.2)) := by
  refine Seg.loop (F := fun s : (Int32 × mH) => (2, [.ref l0, .int s.1, .retAddr 0], [])) (H := fun s : (Int32 × mH) => s.2) (fun s => ?_)
  show Seg 227 (2, [.ref l0, .int s.1, .retAddr 0], []) s.2 _ (Sum.elim (fun s : (Int32 × mH) => Ev 227 (2, [.ref l0, .int s.1, .retAddr 0], []) s.2) (fun (q : Unit × mH) (res : Option Value × mH) => res = (none, q.2)))
  unfold f227_2
  refine Seg.blk0 (f' := (if (48 : Int32) ≤ s.1 then 26 else 8, [.ref l0, .int s.1, .retAddr 0], [])) (h' := s.2) rfl rfl ?_
  refine Seg.ite (fun _ => ?_) (fun _ => ?_)
  · refine Seg.x ?_
    refine Seg.blk0 (f' := (28, [.ref l0, .int 0, .retAddr 0], [])) (h' := s.2) rfl rfl ?_
    exact Seg.w (mLw.k (mLw.k (mLw.k mLw.nil))) (s227_28 l0 mFuel (0, s.2))
  · refine Seg.blk (f' := (20, [.ref l0, .int s.1, .retAddr 0], [])) (h' := (mSI s.2 ((mR s.2 l0 34).getD 0) (Int32.toNatClampNeg s.1) (mI s.2 ((mR s.2 l0 33).getD 0) (Int32.toNatClampNeg s.1)))) rfl rfl ?_
    refine Seg.blk0 (f' := (2, [.ref l0, .int (s.1 + 1), .retAddr 0], [])) (h' := (mSI s.2 ((mR s.2 l0 34).getD 0) (Int32.toNatClampNeg s.1) (mI s.2 ((mR s.2 l0 33).getD 0) (Int32.toNatClampNeg s.1)))) rfl rfl ?_
    exact Seg.cont (fun _ q => Ev.w (mLw.k (mLw.k (mLw.k mLw.nil))) q)
theorem s227 (h : mH) (l0 : Nat) : Seg 227 (0, [.ref l0, .retAddr 0, .retAddr 0], []) h (f227 h l0) (fun (q : Unit × mH) (res : Option Value × mH) => res = (none, q.2)) := by
  unfold f227
  refine Seg.blk0 (f' := (2, [.ref l0, .int 0, .retAddr 0], [])) (h' := h) rfl rfl ?_
  exact Seg.w (mLw.k (mLw.k (mLw.k mLw.nil))) (s227_2 l0 mFuel (0, h))
theorem s216 (h : mH) (l0 : Nat) (l1 : Int32) (l2 : Int32) (l3 : Int32) : Seg 216 (0, [.ref l0, .int l1, .int l2, .int l3], []) h (f216 h l0 l1 l2 l3) (fun (q : Int32 × mH) (res : Option Value × mH) => res = (some (.int q.1), q.2)) := by
  unfold f216
  refine Seg.blk0 (f' := (if (l1 : Int32) = 0 then 36 else if (l1 : Int32) = 1 then 42 else if (l1 : Int32) = 2 then 48 else if (l1 : Int32) = 3 then 55 else if (l1 : Int32) = 4 then 62 else 79, [.ref l0, .int l1, .int l2, .int l3], [])) (h' := h) rfl rfl ?_
  refine Seg.ite (fun _ => ?_) (fun _ => ?_)
  · refine Seg.call (f1 := (38, [.ref l0, .int l1, .int l2, .int l3], [.int l2, .ref l0])) (h1 := h) (cv := fun r => some (.int r)) rfl rfl rfl rfl (s217 h l0 l2) (fun r1 => ?_)
    exact Seg.ret (f1 := (41, [.ref l0, .int l1, .int l2, .int l3], [.int r1.1])) (h1 := r1.2) rfl rfl rfl rfl (fun _ q => q)
  refine Seg.ite (fun _ => ?_) (fun _ => ?_)
  · refine Seg.call (f1 := (44, [.ref l0, .int l1, .int l2, .int l3], [.int l2, .ref l0])) (h1 := h) (cv := fun r => some (.int r)) rfl rfl rfl rfl (s223 h l0 l2) (fun r2 => ?_)
    exact Seg.ret (f1 := (47, [.ref l0, .int l1, .int l2, .int l3], [.int r2.1])) (h1 := r2.2) rfl rfl rfl rfl (fun _ q => q)
  refine Seg.ite (fun _ => ?_) (fun _ => ?_)
  · refine Seg.call (f1 := (50, [.ref l0, .int l1, .int l2, .int l3], [.int l2, .ref l0])) (h1 := h) (cv := fun _ => none) rfl rfl rfl rfl (s224 h l0 l2) (fun r3 => ?_)
    exact Seg.ret (f1 := (54, [.ref l0, .int l1, .int l2, .int l3], [.int 1])) (h1 := r3.2) rfl rfl rfl rfl (fun _ q => q)
  refine Seg.ite (fun _ => ?_) (fun _ => ?_)
  · refine Seg.call (f1 := (58, [.ref l0, .int l1, .int l2, .int l3], [.int l3, .int l2, .ref l0])) (h1 := h) (cv := fun r => some (.int r)) rfl rfl rfl rfl (s225 h l0 l2 l3) (fun r4 => ?_)
    exact Seg.ret (f1 := (61, [.ref l0, .int l1, .int l2, .int l3], [.int r4.1])) (h1 := r4.2) rfl rfl rfl rfl (fun _ q => q)
  refine Seg.ite (fun _ => ?_) (fun _ => ?_)
  · refine Seg.blk (f' := (if ((mI h l0 29) : Int32) = 1 then 70 else 72, [.ref l0, .int l1, .int l2, .int l3], [])) (h' := h) rfl rfl ?_
    refine Seg.ite (fun _ => ?_) (fun _ => ?_)
    · exact Seg.ret (f1 := (71, [.ref l0, .int l1, .int l2, .int l3], [.int 0])) (h1 := h) rfl rfl rfl rfl (fun _ q => q)
    · refine Seg.blk (f' := (77, [.ref l0, .int l1, .int l2, .int l3], [])) (h' := (mSI h l0 29 1)) rfl rfl ?_
      exact Seg.ret (f1 := (78, [.ref l0, .int l1, .int l2, .int l3], [.int 1])) (h1 := (mSI h l0 29 1)) rfl rfl rfl rfl (fun _ q => q)
  · refine Seg.call (f1 := (80, [.ref l0, .int l1, .int l2, .int l3], [.ref l0])) (h1 := h) (cv := fun _ => none) rfl rfl rfl rfl (s227 h l0) (fun r5 => ?_)
    exact Seg.ret (f1 := (84, [.ref l0, .int l1, .int l2, .int l3], [.int 1])) (h1 := r5.2) rfl rfl rfl rfl (fun _ q => q)
theorem s215 (h : mH) (l0 : Nat) (l1 : Int32) : Seg 215 (0, [.ref l0, .int l1], []) h (f215 h l0 l1) (fun (q : Int32 × mH) (res : Option Value × mH) => res = (some (.int q.1), q.2)) := by
  unfold f215
  refine Seg.callP (f1 := (4, [.ref l0, .int l1], [.int 0, .int l1, .ref l0, .ref l0])) (h1 := h) (cv := fun r => some (.int r)) rfl rfl rfl rfl (s211 h l0 l1 0) (fun r1 => ?_)
  refine Seg.callP (f1 := (10, [.ref l0, .int l1], [.int 1, .int l1, .ref l0, .int r1, .ref l0])) (h1 := h) (cv := fun r => some (.int r)) rfl rfl rfl rfl (s211 h l0 l1 1) (fun r2 => ?_)
  refine Seg.callP (f1 := (16, [.ref l0, .int l1], [.int 2, .int l1, .ref l0, .int r2, .int r1, .ref l0])) (h1 := h) (cv := fun r => some (.int r)) rfl rfl rfl rfl (s211 h l0 l1 2) (fun r3 => ?_)
  refine Seg.call (f1 := (19, [.ref l0, .int l1], [.int r3, .int r2, .int r1, .ref l0])) (h1 := h) (cv := fun r => some (.int r)) rfl rfl rfl rfl (s216 h l0 r1 r2 r3) (fun r4 => ?_)
  exact Seg.ret (f1 := (22, [.ref l0, .int l1], [.int r4.1])) (h1 := r4.2) rfl rfl rfl rfl (fun _ q => q)
theorem s214_21 (h : mH) (l2 : Int32) : Seg 214 (21, [.retAddr 0, .retAddr 0, .int l2], []) h (f214_21 h l2) (fun (q : Int32 × mH) (res : Option Value × mH) => res = (some (.int q.1), q.2)) := by
  unfold f214_21
  exact Seg.ret (f1 := (22, [.retAddr 0, .retAddr 0, .int l2], [.int l2])) (h1 := h) rfl rfl rfl rfl (fun _ q => q)
theorem s214_2 (l0 : Nat) (l1 : Int32) : ∀ (n : Nat) (s : (Int32 × mH)), Seg 214 (2, [.ref l0, .int l1, .int s.1], []) s.2 (mLoop (f214_2 l0 l1) n s) (fun (q : Int32 × mH) (res : Option Value × mH) => res = (some (.int q.1), q.2)) := by
  refine Seg.loop (F := fun s : (Int32 × mH) => (2, [.ref l0, .int l1, .int s.1], [])) (H := fun s : (Int32 × mH) => s.2) (fun s => ?_)
  show Seg 214 (2, [.ref l0, .int l1, .int s.1], []) s.2 _ (Sum.elim (fun s : (Int32 × mH) => Ev 214 (2, [.ref l0, .int l1, .int s.1], []) s.2) (fun (q : Int32 × mH) (res : Option Value × mH) => res = (some (.int q.1), q.2)))
  unfold f214_2
  refine Seg.blk0 (f' := (if (l1 : Int32) ≤ s.1 then 21 else 7, [.ref l0, .int l1, .int s.1], [])) (h' := s.2) rfl rfl ?_
  refine Seg.ite (fun _ => ?_) (fun _ => ?_)
  · refine Seg.x ?_
    exact Seg.w (mLw.u (mLw.u (mLw.k mLw.nil))) (s214_21 s.2 s.1)
  · refine Seg.call (f1 := (9, [.ref l0, .int l1, .int s.1], [.int s.1, .ref l0])) (h1 := s.2) (cv := fun r => some (.int r)) rfl rfl rfl rfl (s215 s.2 l0 s.1) (fun r1 => ?_)
    refine Seg.blk0 (f' := (if (r1.1 : Int32) = 0 then 21 else 15, [.ref l0, .int l1, .int s.1], [])) (h' := r1.2) rfl rfl ?_
    refine Seg.ite (fun _ => ?_) (fun _ => ?_)
    · refine Seg.x ?_
      exact Seg.w (mLw.u (mLw.u (mLw.k mLw.nil))) (s214_21 r1.2 s.1)
    · refine Seg.blk0 (f' := (2, [.ref l0, .int l1, .int (s.1 + 1)], [])) (h' := r1.2) rfl rfl ?_
      exact Seg.cont (fun _ q => Ev.w (mLw.k (mLw.k (mLw.k mLw.nil))) q)
theorem s214 (h : mH) (l0 : Nat) (l1 : Int32) : Seg 214 (0, [.ref l0, .int l1, .retAddr 0], []) h (f214 h l0 l1) (fun (q : Int32 × mH) (res : Option Value × mH) => res = (some (.int q.1), q.2)) := by
  unfold f214
  refine Seg.blk0 (f' := (2, [.ref l0, .int l1, .int 0], [])) (h' := h) rfl rfl ?_
  exact Seg.w (mLw.k (mLw.k (mLw.k mLw.nil))) (s214_2 l0 l1 mFuel (0, h))
theorem s212_26 (h : mH) (q0 : Int32) : Seg 212 (26, [.retAddr 0, .retAddr 0, .retAddr 0], [.int q0]) h (f212_26 h q0) (fun (q : Int32 × mH) (res : Option Value × mH) => res = (some (.int q.1), q.2)) := by
  unfold f212_26
  exact Seg.ret (f1 := (26, [.retAddr 0, .retAddr 0, .retAddr 0], [.int q0])) (h1 := h) rfl rfl rfl rfl (fun _ q => q)
theorem s212 (h : mH) (l0 : Nat) (l1 : Int32) (l2 : Int32) : Seg 212 (0, [.ref l0, .int l1, .int l2], []) h (f212 h l0 l1 l2) (fun (q : Int32 × mH) (res : Option Value × mH) => res = (some (.int q.1), q.2)) := by
  unfold f212
  refine Seg.blk (f' := (5, [.ref l0, .int l1, .int l2], [])) (h' := (mSI h l0 0 0)) rfl rfl ?_
  refine Seg.call (f1 := (8, [.ref l0, .int l1, .int l2], [.int l2, .int l1, .ref l0])) (h1 := (mSI h l0 0 0)) (cv := fun r => some (.int r)) rfl rfl rfl rfl (s213 (mSI h l0 0 0) l0 l1 l2) (fun r1 => ?_)
  refine Seg.blk0 (f' := (if (r1.1 : Int32) = 0 then 25 else 14, [.ref l0, .int l1, .int l2], [])) (h' := r1.2) rfl rfl ?_
  refine Seg.ite (fun _ => ?_) (fun _ => ?_)
  · refine Seg.blk0 (f' := (26, [.ref l0, .int l1, .int l2], [.int (-1)])) (h' := r1.2) rfl rfl ?_
    exact Seg.w (mLw.u (mLw.u (mLw.u mLw.nil))) (s212_26 r1.2 (-1))
  · refine Seg.callP (f1 := (16, [.ref l0, .int l1, .int l2], [.ref l0, .ref l0])) (h1 := r1.2) (cv := fun r => some (.int r)) rfl rfl rfl rfl (s210 r1.2 l0) (fun r2 => ?_)
    refine Seg.call (f1 := (19, [.ref l0, .int l1, .int l2], [.int r2, .ref l0])) (h1 := r1.2) (cv := fun r => some (.int r)) rfl rfl rfl rfl (s214 r1.2 l0 r2) (fun r3 => ?_)
    refine Seg.blk0 (f' := (26, [.ref l0, .int l1, .int l2], [.int r3.1])) (h' := r3.2) rfl rfl ?_
    exact Seg.w (mLw.u (mLw.u (mLw.u mLw.nil))) (s212_26 r3.2 r3.1)
theorem s231_33 (h : mH) (l0 : Nat) (l1 : Int32) (l3 : Int32) (q0 : Int32) (q1 : Int32) : Seg 231 (33, [.ref l0, .int l1, .retAddr 0, .int l3], [.int q1, .int q0]) h (f231_33 h l0 l1 l3 q0 q1) (Sum.elim (fun s : (Int32 × Int32) => Ev 231 (4, [.ref l0, .int l1, .int s.1, .int s.2], []) h) (fun (q : Int32) (res : Option Value × mH) => res = (some (.int q), h))) := by
  unfold f231_33
  refine Seg.blk0 (f' := (4, [.ref l0, .int l1, .int (q0 ||| q1), .int (l3 + 1)], [])) (h' := h) rfl rfl ?_
  exact Seg.cont (fun _ q => Ev.w (mLw.k (mLw.k (mLw.k (mLw.k mLw.nil)))) q)
theorem s231_4 (h : mH) (l0 : Nat) (l1 : Int32) : ∀ (n : Nat) (s : (Int32 × Int32)), Seg 231 (4, [.ref l0, .int l1, .int s.1, .int s.2], []) h (mLoop (f231_4 h l0 l1) n s) (fun (q : Int32) (res : Option Value × mH) => res = (some (.int q), h)) := by
  refine Seg.loop (F := fun s : (Int32 × Int32) => (4, [.ref l0, .int l1, .int s.1, .int s.2], [])) (H := fun s : (Int32 × Int32) => h) (fun s => ?_)
  show Seg 231 (4, [.ref l0, .int l1, .int s.1, .int s.2], []) h _ (Sum.elim (fun s : (Int32 × Int32) => Ev 231 (4, [.ref l0, .int l1, .int s.1, .int s.2], []) h) (fun (q : Int32) (res : Option Value × mH) => res = (some (.int q), h)))
  unfold f231_4
  refine Seg.blk0 (f' := (if (8 : Int32) ≤ s.2 then 41 else 10, [.ref l0, .int l1, .int s.1, .int s.2], [])) (h' := h) rfl rfl ?_
  refine Seg.ite (fun _ => ?_) (fun _ => ?_)
  · refine Seg.x ?_
    exact Seg.ret (f1 := (42, [.ref l0, .int l1, .int s.1, .int s.2], [.int s.1])) (h1 := h) rfl rfl rfl rfl (fun _ q => q)
  · refine Seg.blk (f' := (if ((mI h ((mR h l0 33).getD 0) (Int32.toNatClampNeg ((8 * l1) + s.2))) : Int32) = (-1) then 32 else 26, [.ref l0, .int l1, .int s.1, .int s.2], [.int s.1])) (h' := h) rfl rfl ?_
    refine Seg.ite (fun _ => ?_) (fun _ => ?_)
    · refine Seg.blk0 (f' := (33, [.ref l0, .int l1, .int s.1, .int s.2], [.int 0, .int s.1])) (h' := h) rfl rfl ?_
      exact Seg.w (mLw.k (mLw.k (mLw.u (mLw.k mLw.nil)))) (s231_33 h l0 l1 s.2 s.1 0)
    · refine Seg.blk0 (f' := (33, [.ref l0, .int l1, .int s.1, .int s.2], [.int ((1 : Int32) <<< (s.2 &&& (31 : Int32))), .int s.1])) (h' := h) rfl rfl ?_
      exact Seg.w (mLw.k (mLw.k (mLw.u (mLw.k mLw.nil)))) (s231_33 h l0 l1 s.2 s.1 ((1 : Int32) <<< (s.2 &&& (31 : Int32))))
theorem s231 (h : mH) (l0 : Nat) (l1 : Int32) : Seg 231 (0, [.ref l0, .int l1, .retAddr 0, .retAddr 0], []) h (f231 h l0 l1) (fun (q : Int32) (res : Option Value × mH) => res = (some (.int q), h)) := by
  unfold f231
  refine Seg.blk0 (f' := (4, [.ref l0, .int l1, .int 0, .int 0], [])) (h' := h) rfl rfl ?_
  exact Seg.w (mLw.k (mLw.k (mLw.k (mLw.k mLw.nil)))) (s231_4 h l0 l1 mFuel (0, 0))
theorem s232_29 (h : mH) (l0 : Nat) (l1 : Int32) (l3 : Int32) (q0 : Int32) (q1 : Int32) : Seg 232 (29, [.ref l0, .int l1, .retAddr 0, .int l3], [.int q1, .int q0]) h (f232_29 h l0 l1 l3 q0 q1) (Sum.elim (fun s : (Int32 × Int32) => Ev 232 (4, [.ref l0, .int l1, .int s.1, .int s.2], []) h) (fun (q : Int32) (res : Option Value × mH) => res = (some (.int q), h))) := by
  unfold f232_29
  refine Seg.blk0 (f' := (4, [.ref l0, .int l1, .int (q0 ||| q1), .int (l3 + 1)], [])) (h' := h) rfl rfl ?_
  exact Seg.cont (fun _ q => Ev.w (mLw.k (mLw.k (mLw.k (mLw.k mLw.nil)))) q)
theorem s232_4 (h : mH) (l0 : Nat) (l1 : Int32) : ∀ (n : Nat) (s : (Int32 × Int32)), Seg 232 (4, [.ref l0, .int l1, .int s.1, .int s.2], []) h (mLoop (f232_4 h l0 l1) n s) (fun (q : Int32) (res : Option Value × mH) => res = (some (.int q), h)) := by
  refine Seg.loop (F := fun s : (Int32 × Int32) => (4, [.ref l0, .int l1, .int s.1, .int s.2], [])) (H := fun s : (Int32 × Int32) => h) (fun s => ?_)
  show Seg 232 (4, [.ref l0, .int l1, .int s.1, .int s.2], []) h _ (Sum.elim (fun s : (Int32 × Int32) => Ev 232 (4, [.ref l0, .int l1, .int s.1, .int s.2], []) h) (fun (q : Int32) (res : Option Value × mH) => res = (some (.int q), h)))
  unfold f232_4
  refine Seg.blk (f' := (if ((mI h l0 24) : Int32) ≤ s.2 then 37 else 12, [.ref l0, .int l1, .int s.1, .int s.2], [])) (h' := h) rfl rfl ?_
  refine Seg.ite (fun _ => ?_) (fun _ => ?_)
  · refine Seg.x ?_
    exact Seg.ret (f1 := (38, [.ref l0, .int l1, .int s.1, .int s.2], [.int s.1])) (h1 := h) rfl rfl rfl rfl (fun _ q => q)
  · refine Seg.callP (f1 := (16, [.ref l0, .int l1, .int s.1, .int s.2], [.int l1, .int s.2, .ref l0, .int s.1])) (h1 := h) (cv := fun r => some (.int r)) rfl rfl rfl rfl (s220 h l0 s.2 l1) (fun r1 => ?_)
    refine Seg.blk0 (f' := (if (r1 : Int32) = 0 then 28 else 22, [.ref l0, .int l1, .int s.1, .int s.2], [.int s.1])) (h' := h) rfl rfl ?_
    refine Seg.ite (fun _ => ?_) (fun _ => ?_)
    · refine Seg.blk0 (f' := (29, [.ref l0, .int l1, .int s.1, .int s.2], [.int 0, .int s.1])) (h' := h) rfl rfl ?_
      exact Seg.w (mLw.k (mLw.k (mLw.u (mLw.k mLw.nil)))) (s232_29 h l0 l1 s.2 s.1 0)
    · refine Seg.blk0 (f' := (29, [.ref l0, .int l1, .int s.1, .int s.2], [.int ((1 : Int32) <<< (s.2 &&& (31 : Int32))), .int s.1])) (h' := h) rfl rfl ?_
      exact Seg.w (mLw.k (mLw.k (mLw.u (mLw.k mLw.nil)))) (s232_29 h l0 l1 s.2 s.1 ((1 : Int32) <<< (s.2 &&& (31 : Int32))))
theorem s232 (h : mH) (l0 : Nat) (l1 : Int32) : Seg 232 (0, [.ref l0, .int l1, .retAddr 0, .retAddr 0], []) h (f232 h l0 l1) (fun (q : Int32) (res : Option Value × mH) => res = (some (.int q), h)) := by
  unfold f232
  refine Seg.blk0 (f' := (4, [.ref l0, .int l1, .int 0, .int 0], [])) (h' := h) rfl rfl ?_
  exact Seg.w (mLw.k (mLw.k (mLw.k (mLw.k mLw.nil)))) (s232_4 h l0 l1 mFuel (0, 0))
theorem s230_108 (h : mH) (q0 : Int32) : Seg 230 (108, [.retAddr 0, .retAddr 0, .retAddr 0, .retAddr 0], [.int q0]) h (f230_108 h q0) (fun (q : Int32) (res : Option Value × mH) => res = (some (.int q), h)) := by
  unfold f230_108
  exact Seg.ret (f1 := (108, [.retAddr 0, .retAddr 0, .retAddr 0, .retAddr 0], [.int q0])) (h1 := h) rfl rfl rfl rfl (fun _ q => q)
theorem s230_127 (h : mH) (q0 : Int32) : Seg 230 (127, [.retAddr 0, .retAddr 0, .retAddr 0, .retAddr 0], [.int q0]) h (f230_127 h q0) (fun (q : Int32) (res : Option Value × mH) => res = (some (.int q), h)) := by
  unfold f230_127
  exact Seg.ret (f1 := (127, [.retAddr 0, .retAddr 0, .retAddr 0, .retAddr 0], [.int q0])) (h1 := h) rfl rfl rfl rfl (fun _ q => q)
theorem s230_52 (h : mH) (q0 : Int32) : Seg 230 (52, [.retAddr 0, .retAddr 0, .retAddr 0, .retAddr 0], [.int q0]) h (f230_52 h q0) (fun (q : Int32) (res : Option Value × mH) => res = (some (.int q), h)) := by
  unfold f230_52
  exact Seg.ret (f1 := (52, [.retAddr 0, .retAddr 0, .retAddr 0, .retAddr 0], [.int q0])) (h1 := h) rfl rfl rfl rfl (fun _ q => q)
theorem s230_50 (h : mH) : Seg 230 (50, [.retAddr 0, .retAddr 0, .retAddr 0, .retAddr 0], []) h (f230_50 h) (fun (q : Int32) (res : Option Value × mH) => res = (some (.int q), h)) := by
  unfold f230_50
  refine Seg.blk0 (f' := (52, [.retAddr 0, .retAddr 0, .retAddr 0, .retAddr 0], [.int (-2)])) (h' := h) rfl rfl ?_
  exact Seg.w (mLw.k (mLw.k (mLw.k (mLw.k mLw.nil)))) (s230_52 h (-2))
theorem s230 (h : mH) (l0 : Nat) (l1 : Int32) : Seg 230 (0, [.ref l0, .int l1, .retAddr 0, .retAddr 0], []) h (f230 h l0 l1) (fun (q : Int32) (res : Option Value × mH) => res = (some (.int q), h)) := by
  unfold f230
  refine Seg.blk0 (f' := (if (l1 : Int32) < 100 then 53 else 6, [.ref l0, .int l1, .retAddr 0, .retAddr 0], [])) (h' := h) rfl rfl ?_
  refine Seg.ite (fun _ => ?_) (fun _ => ?_)
  · refine Seg.blk (f' := (if ((l1 / 10) : Int32) = 0 then 88 else if ((l1 / 10) : Int32) = 1 then 91 else if ((l1 / 10) : Int32) = 2 then 109 else 128, [.ref l0, .int l1, .int (l1 - l1 / 10 * 10), .retAddr 0], [])) (h' := h) rfl rfl ?_
    refine Seg.ite (fun _ => ?_) (fun _ => ?_)
    · refine Seg.blk0 (f' := (131, [.ref l0, .int l1, .int (l1 - l1 / 10 * 10), .retAddr 0], [])) (h' := h) rfl rfl ?_
      refine Seg.blk0 (f' := (if (l1 : Int32) = 0 then 172 else if (l1 : Int32) = 1 then 177 else if (l1 : Int32) = 2 then 182 else if (l1 : Int32) = 3 then 187 else if (l1 : Int32) = 4 then 192 else if (l1 : Int32) = 5 then 197 else 211, [.ref l0, .int l1, .int (l1 - l1 / 10 * 10), .retAddr 0], [])) (h' := h) rfl rfl ?_
      refine Seg.ite (fun _ => ?_) (fun _ => ?_)
      · exact Seg.ret (f1 := (176, [.ref l0, .int l1, .int (l1 - l1 / 10 * 10), .retAddr 0], [.int (mI h l0 30)])) (h1 := h) rfl rfl rfl rfl (fun _ q => q)
      refine Seg.ite (fun _ => ?_) (fun _ => ?_)
      · exact Seg.ret (f1 := (181, [.ref l0, .int l1, .int (l1 - l1 / 10 * 10), .retAddr 0], [.int (mI h l0 26)])) (h1 := h) rfl rfl rfl rfl (fun _ q => q)
      refine Seg.ite (fun _ => ?_) (fun _ => ?_)
      · exact Seg.ret (f1 := (186, [.ref l0, .int l1, .int (l1 - l1 / 10 * 10), .retAddr 0], [.int (mI h l0 27)])) (h1 := h) rfl rfl rfl rfl (fun _ q => q)
      refine Seg.ite (fun _ => ?_) (fun _ => ?_)
      · exact Seg.ret (f1 := (191, [.ref l0, .int l1, .int (l1 - l1 / 10 * 10), .retAddr 0], [.int (mI h l0 28)])) (h1 := h) rfl rfl rfl rfl (fun _ q => q)
      refine Seg.ite (fun _ => ?_) (fun _ => ?_)
      · exact Seg.ret (f1 := (196, [.ref l0, .int l1, .int (l1 - l1 / 10 * 10), .retAddr 0], [.int (mI h l0 29)])) (h1 := h) rfl rfl rfl rfl (fun _ q => q)
      refine Seg.ite (fun _ => ?_) (fun _ => ?_)
      · refine Seg.callP (f1 := (207, [.ref l0, .int l1, .int (l1 - l1 / 10 * 10), .retAddr 0], [.int ((mI h l0 26) ||| (mI h l0 27)), .ref l0])) (h1 := h) (cv := fun r => some (.int r)) rfl rfl rfl rfl (s232 h l0 ((mI h l0 26) ||| (mI h l0 27))) (fun r1 => ?_)
        exact Seg.ret (f1 := (210, [.ref l0, .int l1, .int (l1 - l1 / 10 * 10), .retAddr 0], [.int r1])) (h1 := h) rfl rfl rfl rfl (fun _ q => q)
      · exact Seg.ret (f1 := (213, [.ref l0, .int l1, .int (l1 - l1 / 10 * 10), .retAddr 0], [.int (-2)])) (h1 := h) rfl rfl rfl rfl (fun _ q => q)
    refine Seg.ite (fun _ => ?_) (fun _ => ?_)
    · refine Seg.blk0 (f' := (if (6 : Int32) ≤ (l1 - l1 / 10 * 10) then 106 else 97, [.ref l0, .int l1, .int (l1 - l1 / 10 * 10), .retAddr 0], [])) (h' := h) rfl rfl ?_
      refine Seg.ite (fun _ => ?_) (fun _ => ?_)
      · refine Seg.blk0 (f' := (108, [.ref l0, .int l1, .int (l1 - l1 / 10 * 10), .retAddr 0], [.int (-2)])) (h' := h) rfl rfl ?_
        exact Seg.w (mLw.u (mLw.u (mLw.u (mLw.k mLw.nil)))) (s230_108 h (-2))
      · refine Seg.blk (f' := (108, [.ref l0, .int l1, .int (l1 - l1 / 10 * 10), .retAddr 0], [.int (mI h ((mR h l0 32).getD 0) (Int32.toNatClampNeg (l1 - l1 / 10 * 10)))])) (h' := h) rfl rfl ?_
        exact Seg.w (mLw.u (mLw.u (mLw.u (mLw.k mLw.nil)))) (s230_108 h (mI h ((mR h l0 32).getD 0) (Int32.toNatClampNeg (l1 - l1 / 10 * 10))))
    refine Seg.ite (fun _ => ?_) (fun _ => ?_)
    · refine Seg.callP (f1 := (111, [.ref l0, .int l1, .int (l1 - l1 / 10 * 10), .retAddr 0], [.int (l1 - l1 / 10 * 10), .ref l0])) (h1 := h) (cv := fun r => some (.int r)) rfl rfl rfl rfl (s226 h l0 (l1 - l1 / 10 * 10)) (fun r2 => ?_)
      refine Seg.blk0 (f' := (if (r2 : Int32) = 0 then 125 else 117, [.ref l0, .int l1, .int (l1 - l1 / 10 * 10), .retAddr 0], [])) (h' := h) rfl rfl ?_
      refine Seg.ite (fun _ => ?_) (fun _ => ?_)
      · refine Seg.blk0 (f' := (127, [.ref l0, .int l1, .int (l1 - l1 / 10 * 10), .retAddr 0], [.int (-2)])) (h' := h) rfl rfl ?_
        exact Seg.w (mLw.u (mLw.u (mLw.u (mLw.k mLw.nil)))) (s230_127 h (-2))
      · refine Seg.callP (f1 := (119, [.ref l0, .int l1, .int (l1 - l1 / 10 * 10), .retAddr 0], [.int (l1 - l1 / 10 * 10), .ref l0])) (h1 := h) (cv := fun r => some (.int r)) rfl rfl rfl rfl (s231 h l0 (l1 - l1 / 10 * 10)) (fun r3 => ?_)
        refine Seg.blk0 (f' := (127, [.ref l0, .int l1, .int (l1 - l1 / 10 * 10), .retAddr 0], [.int r3])) (h' := h) rfl rfl ?_
        exact Seg.w (mLw.u (mLw.u (mLw.u (mLw.k mLw.nil)))) (s230_127 h r3)
    · exact Seg.ret (f1 := (130, [.ref l0, .int l1, .int (l1 - l1 / 10 * 10), .retAddr 0], [.int (-2)])) (h1 := h) rfl rfl rfl rfl (fun _ q => q)
  · refine Seg.callP (f1 := (24, [.ref l0, .int l1, .int ((l1 - 100) / 8), .int ((l1 - 100) - (l1 - 100) / 8 * 8)], [.int ((l1 - 100) / 8), .ref l0])) (h1 := h) (cv := fun r => some (.int r)) rfl rfl rfl rfl (s226 h l0 ((l1 - 100) / 8)) (fun r4 => ?_)
    refine Seg.blk0 (f' := (if (r4 : Int32) = 0 then 50 else 30, [.ref l0, .int l1, .int ((l1 - 100) / 8), .int ((l1 - 100) - (l1 - 100) / 8 * 8)], [])) (h' := h) rfl rfl ?_
    refine Seg.ite (fun _ => ?_) (fun _ => ?_)
    · exact Seg.w (mLw.u (mLw.u (mLw.u (mLw.u mLw.nil)))) (s230_50 h)
    · refine Seg.callP (f1 := (32, [.ref l0, .int l1, .int ((l1 - 100) / 8), .int ((l1 - 100) - (l1 - 100) / 8 * 8)], [.int ((l1 - 100) - (l1 - 100) / 8 * 8), .ref l0])) (h1 := h) (cv := fun r => some (.int r)) rfl rfl rfl rfl (s218 h l0 ((l1 - 100) - (l1 - 100) / 8 * 8)) (fun r5 => ?_)
      refine Seg.blk0 (f' := (if (r5 : Int32) = 0 then 50 else 38, [.ref l0, .int l1, .int ((l1 - 100) / 8), .int ((l1 - 100) - (l1 - 100) / 8 * 8)], [])) (h' := h) rfl rfl ?_
      refine Seg.ite (fun _ => ?_) (fun _ => ?_)
      · exact Seg.w (mLw.u (mLw.u (mLw.u (mLw.u mLw.nil)))) (s230_50 h)
      · refine Seg.blk (f' := (52, [.ref l0, .int l1, .int ((l1 - 100) / 8), .int ((l1 - 100) - (l1 - 100) / 8 * 8)], [.int (mI h ((mR h l0 33).getD 0) (Int32.toNatClampNeg (l1 - 100)))])) (h' := h) rfl rfl ?_
        exact Seg.w (mLw.u (mLw.u (mLw.u (mLw.u mLw.nil)))) (s230_52 h (mI h ((mR h l0 33).getD 0) (Int32.toNatClampNeg (l1 - 100))))
theorem s229_46 (h : mH) (q0 : Int32) : Seg 229 (46, [.retAddr 0, .retAddr 0, .retAddr 0, .retAddr 0, .retAddr 0], [.int q0]) h (f229_46 h q0) (fun (q : Int32 × mH) (res : Option Value × mH) => res = (some (.int q.1), q.2)) := by
  unfold f229_46
  exact Seg.ret (f1 := (46, [.retAddr 0, .retAddr 0, .retAddr 0, .retAddr 0, .retAddr 0], [.int q0])) (h1 := h) rfl rfl rfl rfl (fun _ q => q)
theorem s229_44 (h : mH) : Seg 229 (44, [.retAddr 0, .retAddr 0, .retAddr 0, .retAddr 0, .retAddr 0], []) h (f229_44 h) (fun (q : Int32 × mH) (res : Option Value × mH) => res = (some (.int q.1), q.2)) := by
  unfold f229_44
  refine Seg.blk0 (f' := (46, [.retAddr 0, .retAddr 0, .retAddr 0, .retAddr 0, .retAddr 0], [.int (-2)])) (h' := h) rfl rfl ?_
  exact Seg.w (mLw.k (mLw.k (mLw.k (mLw.k (mLw.k mLw.nil))))) (s229_46 h (-2))
theorem s229 (h : mH) (l0 : Nat) (l1 : Int32) (l2 : Int32) (l3 : Int32) (l4 : Int32) : Seg 229 (0, [.ref l0, .int l1, .int l2, .int l3, .int l4], []) h (f229 h l0 l1 l2 l3 l4) (fun (q : Int32 × mH) (res : Option Value × mH) => res = (some (.int q.1), q.2)) := by
  unfold f229
  refine Seg.blk (f' := (5, [.ref l0, .int l1, .int l2, .int l3, .int l4], [])) (h' := (mSI h l0 0 0)) rfl rfl ?_
  refine Seg.call (f1 := (8, [.ref l0, .int l1, .int l2, .int l3, .int l4], [.int l2, .int l1, .ref l0])) (h1 := (mSI h l0 0 0)) (cv := fun r => some (.int r)) rfl rfl rfl rfl (s213 (mSI h l0 0 0) l0 l1 l2) (fun r1 => ?_)
  refine Seg.blk0 (f' := (if (r1.1 : Int32) = 0 then 44 else 14, [.ref l0, .int l1, .int l2, .int l3, .int l4], [])) (h' := r1.2) rfl rfl ?_
  refine Seg.ite (fun _ => ?_) (fun _ => ?_)
  · exact Seg.w (mLw.u (mLw.u (mLw.u (mLw.u (mLw.u mLw.nil))))) (s229_44 r1.2)
  · refine Seg.callP (f1 := (17, [.ref l0, .int l1, .int l2, .int l3, .int l4], [.ref l0, .int 0, .int l3])) (h1 := r1.2) (cv := fun r => some (.int r)) rfl rfl rfl rfl (s210 r1.2 l0) (fun r2 => ?_)
    refine Seg.callP (f1 := (20, [.ref l0, .int l1, .int l2, .int l3, .int l4], [.int r2, .int 0, .int l3])) (h1 := r1.2) (cv := fun r => some (.int r)) rfl rfl rfl rfl (s179 r1.2 l3 0 r2) (fun r3 => ?_)
    refine Seg.blk0 (f' := (if (r3 : Int32) = 0 then 44 else 26, [.ref l0, .int l1, .int l2, .int l3, .int l4], [])) (h' := r1.2) rfl rfl ?_
    refine Seg.ite (fun _ => ?_) (fun _ => ?_)
    · exact Seg.w (mLw.u (mLw.u (mLw.u (mLw.u (mLw.u mLw.nil))))) (s229_44 r1.2)
    · refine Seg.call (f1 := (28, [.ref l0, .int l1, .int l2, .int l3, .int l4], [.int l3, .ref l0])) (h1 := r1.2) (cv := fun r => some (.int r)) rfl rfl rfl rfl (s214 r1.2 l0 l3) (fun r4 => ?_)
      refine Seg.blk0 (f' := (if (r4.1 : Int32) = l3 then 35 else 44, [.ref l0, .int l1, .int l2, .int l3, .int l4], [])) (h' := r4.2) rfl rfl ?_
      refine Seg.ite (fun _ => ?_) (fun _ => ?_)
      · refine Seg.callP (f1 := (38, [.ref l0, .int l1, .int l2, .int l3, .int l4], [.int l4, .ref l0])) (h1 := r4.2) (cv := fun r => some (.int r)) rfl rfl rfl rfl (s230 r4.2 l0 l4) (fun r5 => ?_)
        refine Seg.blk0 (f' := (46, [.ref l0, .int l1, .int l2, .int l3, .int l4], [.int r5])) (h' := r4.2) rfl rfl ?_
        exact Seg.w (mLw.u (mLw.u (mLw.u (mLw.u (mLw.u mLw.nil))))) (s229_46 r4.2 r5)
      · exact Seg.w (mLw.u (mLw.u (mLw.u (mLw.u (mLw.u mLw.nil))))) (s229_44 r4.2)
theorem s235_88 (h : mH) (l0 : Nat) (l1 : Int32) (l2 : Int32) : Seg 235 (88, [.ref l0, .int l1, .int l2, .retAddr 0], []) h (f235_88 h l0 l1 l2) (Sum.elim (fun s : (Int32 × Int32) => Ev 235 (4, [.ref l0, .int s.1, .int s.2, .retAddr 0], []) h) (fun (q : Int32) (res : Option Value × mH) => res = (some (.int q), h))) := by
  unfold f235_88
  refine Seg.blk0 (f' := (4, [.ref l0, .int l1, .int (l2 + 1), .retAddr 0], [])) (h' := h) rfl rfl ?_
  exact Seg.cont (fun _ q => Ev.w (mLw.k (mLw.k (mLw.k (mLw.k mLw.nil)))) q)
theorem s235_87 (h : mH) (l0 : Nat) (l2 : Int32) (q0 : Int32) : Seg 235 (87, [.ref l0, .retAddr 0, .int l2, .retAddr 0], [.int q0]) h (f235_87 h l0 l2 q0) (Sum.elim (fun s : (Int32 × Int32) => Ev 235 (4, [.ref l0, .int s.1, .int s.2, .retAddr 0], []) h) (fun (q : Int32) (res : Option Value × mH) => res = (some (.int q), h))) := by
  unfold f235_87
  refine Seg.blk0 (f' := (88, [.ref l0, .int q0, .int l2, .retAddr 0], [])) (h' := h) rfl rfl ?_
  exact Seg.w (mLw.k (mLw.k (mLw.k (mLw.k mLw.nil)))) (s235_88 h l0 q0 l2)
theorem s235_82 (h : mH) (l0 : Nat) (l2 : Int32) : Seg 235 (82, [.ref l0, .retAddr 0, .int l2, .retAddr 0], []) h (f235_82 h l0 l2) (Sum.elim (fun s : (Int32 × Int32) => Ev 235 (4, [.ref l0, .int s.1, .int s.2, .retAddr 0], []) h) (fun (q : Int32) (res : Option Value × mH) => res = (some (.int q), h))) := by
  unfold f235_82
  refine Seg.blk0 (f' := (87, [.ref l0, .retAddr 0, .int l2, .retAddr 0], [.int l2])) (h' := h) rfl rfl ?_
  exact Seg.w (mLw.k (mLw.k (mLw.k (mLw.k mLw.nil)))) (s235_87 h l0 l2 l2)
theorem s235_86 (h : mH) (l0 : Nat) (l1 : Int32) (l2 : Int32) : Seg 235 (86, [.ref l0, .int l1, .int l2, .retAddr 0], []) h (f235_86 h l0 l1 l2) (Sum.elim (fun s : (Int32 × Int32) => Ev 235 (4, [.ref l0, .int s.1, .int s.2, .retAddr 0], []) h) (fun (q : Int32) (res : Option Value × mH) => res = (some (.int q), h))) := by
  unfold f235_86
  refine Seg.blk0 (f' := (87, [.ref l0, .int l1, .int l2, .retAddr 0], [.int l1])) (h' := h) rfl rfl ?_
  exact Seg.w (mLw.k (mLw.u (mLw.k (mLw.k mLw.nil)))) (s235_87 h l0 l2 l1)
theorem s235_56 (h : mH) (l0 : Nat) (l1 : Int32) (l2 : Int32) (q0 : Int32) : Seg 235 (56, [.ref l0, .int l1, .int l2, .retAddr 0], [.int q0]) h (f235_56 h l0 l1 l2 q0) (Sum.elim (fun s : (Int32 × Int32) => Ev 235 (4, [.ref l0, .int s.1, .int s.2, .retAddr 0], []) h) (fun (q : Int32) (res : Option Value × mH) => res = (some (.int q), h))) := by
  unfold f235_56
  refine Seg.blk0 (f' := (if (0 : Int32) < q0 then 82 else 61, [.ref l0, .int l1, .int l2, .int q0], [])) (h' := h) rfl rfl ?_
  refine Seg.ite (fun _ => ?_) (fun _ => ?_)
  · exact Seg.w (mLw.k (mLw.u (mLw.k (mLw.u mLw.nil)))) (s235_82 h l0 l2)
  · refine Seg.blk0 (f' := (if (q0 : Int32) = 0 then 65 else 86, [.ref l0, .int l1, .int l2, .int q0], [])) (h' := h) rfl rfl ?_
    refine Seg.ite (fun _ => ?_) (fun _ => ?_)
    · refine Seg.callP (f1 := (69, [.ref l0, .int l1, .int l2, .int q0], [.int (3 + l2), .ref l0])) (h1 := h) (cv := fun r => some (.int r)) rfl rfl rfl rfl (s206 h l0 (3 + l2)) (fun r2 => ?_)
      refine Seg.callP (f1 := (76, [.ref l0, .int l1, .int l2, .int q0], [.int (3 + l1), .ref l0, .int r2])) (h1 := h) (cv := fun r => some (.int r)) rfl rfl rfl rfl (s206 h l0 (3 + l1)) (fun r3 => ?_)
      refine Seg.blk0 (f' := (if (r3 : Int32) ≤ r2 then 86 else 82, [.ref l0, .int l1, .int l2, .int q0], [])) (h' := h) rfl rfl ?_
      refine Seg.ite (fun _ => ?_) (fun _ => ?_)
      · exact Seg.w (mLw.k (mLw.k (mLw.k (mLw.u mLw.nil)))) (s235_86 h l0 l1 l2)
      · exact Seg.w (mLw.k (mLw.u (mLw.k (mLw.u mLw.nil)))) (s235_82 h l0 l2)
    · exact Seg.w (mLw.k (mLw.k (mLw.k (mLw.u mLw.nil)))) (s235_86 h l0 l1 l2)
theorem s235_4 (h : mH) (l0 : Nat) : ∀ (n : Nat) (s : (Int32 × Int32)), Seg 235 (4, [.ref l0, .int s.1, .int s.2, .retAddr 0], []) h (mLoop (f235_4 h l0) n s) (fun (q : Int32) (res : Option Value × mH) => res = (some (.int q), h)) := by
  refine Seg.loop (F := fun s : (Int32 × Int32) => (4, [.ref l0, .int s.1, .int s.2, .retAddr 0], [])) (H := fun s : (Int32 × Int32) => h) (fun s => ?_)
  show Seg 235 (4, [.ref l0, .int s.1, .int s.2, .retAddr 0], []) h _ (Sum.elim (fun s : (Int32 × Int32) => Ev 235 (4, [.ref l0, .int s.1, .int s.2, .retAddr 0], []) h) (fun (q : Int32) (res : Option Value × mH) => res = (some (.int q), h)))
  unfold f235_4
  refine Seg.blk (f' := (if ((mI h l0 24) : Int32) ≤ s.2 then 94 else 12, [.ref l0, .int s.1, .int s.2, .retAddr 0], [])) (h' := h) rfl rfl ?_
  refine Seg.ite (fun _ => ?_) (fun _ => ?_)
  · refine Seg.x ?_
    exact Seg.ret (f1 := (95, [.ref l0, .int s.1, .int s.2, .retAddr 0], [.int s.1])) (h1 := h) rfl rfl rfl rfl (fun _ q => q)
  · refine Seg.callP (f1 := (14, [.ref l0, .int s.1, .int s.2, .retAddr 0], [.int s.2, .ref l0])) (h1 := h) (cv := fun r => some (.int r)) rfl rfl rfl rfl (s219 h l0 s.2) (fun r1 => ?_)
    refine Seg.blk0 (f' := (if (r1 : Int32) = 0 then 88 else 20, [.ref l0, .int s.1, .int s.2, .retAddr 0], [])) (h' := h) rfl rfl ?_
    refine Seg.ite (fun _ => ?_) (fun _ => ?_)
    · exact Seg.w (mLw.k (mLw.k (mLw.k (mLw.k mLw.nil)))) (s235_88 h l0 s.1 s.2)
    · refine Seg.blk0 (f' := (if (s.1 : Int32) = (-1) then 25 else 29, [.ref l0, .int s.1, .int s.2, .retAddr 0], [])) (h' := h) rfl rfl ?_
      refine Seg.ite (fun _ => ?_) (fun _ => ?_)
      · refine Seg.blk0 (f' := (56, [.ref l0, .int s.1, .int s.2, .retAddr 0], [.int 1])) (h' := h) rfl rfl ?_
        exact Seg.w (mLw.k (mLw.k (mLw.k (mLw.k mLw.nil)))) (s235_56 h l0 s.1 s.2 1)
      · refine Seg.callP (f1 := (38, [.ref l0, .int s.1, .int s.2, .retAddr 0], [.int (11 + s.2), .ref l0, .ref ((mR h l0 32).getD 0)])) (h1 := h) (cv := fun r => some (.int r)) rfl rfl rfl rfl (s206 h l0 (11 + s.2)) (fun r4 => ?_)
        refine Seg.callP (f1 := (51, [.ref l0, .int s.1, .int s.2, .retAddr 0], [.int (11 + s.1), .ref l0, .ref ((mR h l0 32).getD 0), .int (mI h ((mR h l0 32).getD 0) (Int32.toNatClampNeg r4))])) (h1 := h) (cv := fun r => some (.int r)) rfl rfl rfl rfl (s206 h l0 (11 + s.1)) (fun r5 => ?_)
        refine Seg.blk (f' := (56, [.ref l0, .int s.1, .int s.2, .retAddr 0], [.int ((mI h ((mR h l0 32).getD 0) (Int32.toNatClampNeg r4)) - (mI h ((mR h l0 32).getD 0) (Int32.toNatClampNeg r5)))])) (h' := h) rfl rfl ?_
        exact Seg.w (mLw.k (mLw.k (mLw.k (mLw.k mLw.nil)))) (s235_56 h l0 s.1 s.2 ((mI h ((mR h l0 32).getD 0) (Int32.toNatClampNeg r4)) - (mI h ((mR h l0 32).getD 0) (Int32.toNatClampNeg r5))))
theorem s235 (h : mH) (l0 : Nat) : Seg 235 (0, [.ref l0, .retAddr 0, .retAddr 0, .retAddr 0], []) h (f235 h l0) (fun (q : Int32) (res : Option Value × mH) => res = (some (.int q), h)) := by
  unfold f235
  refine Seg.blk0 (f' := (4, [.ref l0, .int (-1), .int 0, .retAddr 0], [])) (h' := h) rfl rfl ?_
  exact Seg.w (mLw.k (mLw.k (mLw.k (mLw.k mLw.nil)))) (s235_4 h l0 mFuel ((-1), 0))
theorem s234_56 (h : mH) (l0 : Nat) (l1 : Int32) (l2 : Int32) : Seg 234 (56, [.ref l0, .int l1, .int l2, .retAddr 0], []) h (f234_56 h l0 l1 l2) (Sum.elim (fun s : (Int32 × mH) => Ev 234 (26, [.ref l0, .int l1, .int l2, .int s.1], []) s.2) (Sum.elim (fun s : (Int32 × mH) => Ev 234 (7, [.ref l0, .int l1, .int s.1, .retAddr 0], []) s.2) (fun (q : Unit × mH) (res : Option Value × mH) => res = (none, q.2)))) := by
  unfold f234_56
  refine Seg.callP (f1 := (57, [.ref l0, .int l1, .int l2, .retAddr 0], [.ref l0])) (h1 := h) (cv := fun r => some (.int r)) rfl rfl rfl rfl (s235 h l0) (fun r4 => ?_)
  refine Seg.blk0 (f' := (26, [.ref l0, .int l1, .int l2, .int r4], [])) (h' := h) rfl rfl ?_
  exact Seg.cont (fun _ q => Ev.w (mLw.k (mLw.k (mLw.k (mLw.k mLw.nil)))) q)
theorem s234_26 (l0 : Nat) (l1 : Int32) (l2 : Int32) : ∀ (n : Nat) (s : (Int32 × mH)), Seg 234 (26, [.ref l0, .int l1, .int l2, .int s.1], []) s.2 (mLoop (f234_26 l0 l1 l2) n s) (Sum.elim (fun s : (Int32 × mH) => Ev 234 (7, [.ref l0, .int l1, .int s.1, .retAddr 0], []) s.2) (fun (q : Unit × mH) (res : Option Value × mH) => res = (none, q.2))) := by
  refine Seg.loop (F := fun s : (Int32 × mH) => (26, [.ref l0, .int l1, .int l2, .int s.1], [])) (H := fun s : (Int32 × mH) => s.2) (fun s => ?_)
  show Seg 234 (26, [.ref l0, .int l1, .int l2, .int s.1], []) s.2 _ (Sum.elim (fun s : (Int32 × mH) => Ev 234 (26, [.ref l0, .int l1, .int l2, .int s.1], []) s.2) (Sum.elim (fun s : (Int32 × mH) => Ev 234 (7, [.ref l0, .int l1, .int s.1, .retAddr 0], []) s.2) (fun (q : Unit × mH) (res : Option Value × mH) => res = (none, q.2))))
  unfold f234_26
  refine Seg.blk0 (f' := (if (s.1 : Int32) = (-1) then 64 else 31, [.ref l0, .int l1, .int l2, .int s.1], [])) (h' := s.2) rfl rfl ?_
  refine Seg.ite (fun _ => ?_) (fun _ => ?_)
  · refine Seg.x ?_
    refine Seg.blk0 (f' := (7, [.ref l0, .int l1, .int (l2 + 1), .int s.1], [])) (h' := s.2) rfl rfl ?_
    exact Seg.cont (fun _ q => Ev.w (mLw.k (mLw.k (mLw.k (mLw.u mLw.nil)))) q)
  · refine Seg.call (f1 := (33, [.ref l0, .int l1, .int l2, .int s.1], [.int s.1, .ref l0])) (h1 := s.2) (cv := fun _ => none) rfl rfl rfl rfl (s222 s.2 l0 s.1) (fun r3 => ?_)
    refine Seg.blk (f' := (46, [.ref l0, .int l1, .int l2, .int s.1], [])) (h' := (mSI r3.2 ((mR r3.2 l0 36).getD 0) (Int32.toNatClampNeg (mI r3.2 l0 37)) s.1)) rfl rfl ?_
    refine Seg.blk (f' := (56, [.ref l0, .int l1, .int l2, .int s.1], [])) (h' := (mSI (mSI r3.2 ((mR r3.2 l0 36).getD 0) (Int32.toNatClampNeg (mI r3.2 l0 37)) s.1) l0 37 ((mI (mSI r3.2 ((mR r3.2 l0 36).getD 0) (Int32.toNatClampNeg (mI r3.2 l0 37)) s.1) l0 37) + 1))) rfl rfl ?_
    exact Seg.w (mLw.k (mLw.k (mLw.k (mLw.u mLw.nil)))) (s234_56 (mSI (mSI r3.2 ((mR r3.2 l0 36).getD 0) (Int32.toNatClampNeg (mI r3.2 l0 37)) s.1) l0 37 ((mI (mSI r3.2 ((mR r3.2 l0 36).getD 0) (Int32.toNatClampNeg (mI r3.2 l0 37)) s.1) l0 37) + 1)) l0 l1 l2)
theorem s234_7 (l0 : Nat) (l1 : Int32) : ∀ (n : Nat) (s : (Int32 × mH)), Seg 234 (7, [.ref l0, .int l1, .int s.1, .retAddr 0], []) s.2 (mLoop (f234_7 l0 l1) n s) (fun (q : Unit × mH) (res : Option Value × mH) => res = (none, q.2)) := by
  refine Seg.loop (F := fun s : (Int32 × mH) => (7, [.ref l0, .int l1, .int s.1, .retAddr 0], [])) (H := fun s : (Int32 × mH) => s.2) (fun s => ?_)
  show Seg 234 (7, [.ref l0, .int l1, .int s.1, .retAddr 0], []) s.2 _ (Sum.elim (fun s : (Int32 × mH) => Ev 234 (7, [.ref l0, .int l1, .int s.1, .retAddr 0], []) s.2) (fun (q : Unit × mH) (res : Option Value × mH) => res = (none, q.2)))
  unfold f234_7
  refine Seg.blk0 (f' := (if (l1 : Int32) ≤ s.1 then 70 else 12, [.ref l0, .int l1, .int s.1, .retAddr 0], [])) (h' := s.2) rfl rfl ?_
  refine Seg.ite (fun _ => ?_) (fun _ => ?_)
  · refine Seg.x ?_
    exact Seg.ret (f1 := (70, [.ref l0, .int l1, .int s.1, .retAddr 0], [])) (h1 := s.2) rfl rfl rfl rfl (fun _ q => q)
  · refine Seg.callP (f1 := (15, [.ref l0, .int l1, .int s.1, .retAddr 0], [.int 2, .ref l0, .ref l0])) (h1 := s.2) (cv := fun r => some (.int r)) rfl rfl rfl rfl (s206 s.2 l0 2) (fun r1 => ?_)
    refine Seg.blk (f' := (21, [.ref l0, .int l1, .int s.1, .retAddr 0], [])) (h' := (mSI s.2 l0 28 r1)) rfl rfl ?_
    refine Seg.callP (f1 := (22, [.ref l0, .int l1, .int s.1, .retAddr 0], [.ref l0])) (h1 := (mSI s.2 l0 28 r1)) (cv := fun r => some (.int r)) rfl rfl rfl rfl (s235 (mSI s.2 l0 28 r1) l0) (fun r2 => ?_)
    refine Seg.blk0 (f' := (26, [.ref l0, .int l1, .int s.1, .int r2], [])) (h' := (mSI s.2 l0 28 r1)) rfl rfl ?_
    exact Seg.w (mLw.k (mLw.k (mLw.k (mLw.k mLw.nil)))) (s234_26 l0 l1 s.1 mFuel (r2, (mSI s.2 l0 28 r1)))
theorem s234 (h : mH) (l0 : Nat) (l1 : Int32) : Seg 234 (0, [.ref l0, .int l1, .retAddr 0, .retAddr 0], []) h (f234 h l0 l1) (fun (q : Unit × mH) (res : Option Value × mH) => res = (none, q.2)) := by
  unfold f234
  refine Seg.blk (f' := (5, [.ref l0, .int l1, .retAddr 0, .retAddr 0], [])) (h' := (mSI h l0 37 0)) rfl rfl ?_
  refine Seg.blk0 (f' := (7, [.ref l0, .int l1, .int 0, .retAddr 0], [])) (h' := (mSI h l0 37 0)) rfl rfl ?_
  exact Seg.w (mLw.k (mLw.k (mLw.k (mLw.k mLw.nil)))) (s234_7 l0 l1 mFuel (0, (mSI h l0 37 0)))
theorem s233_23 (h : mH) : Seg 233 (23, [.retAddr 0, .retAddr 0, .retAddr 0, .retAddr 0], []) h (f233_23 h) (fun (q : Int32 × mH) (res : Option Value × mH) => res = (some (.int q.1), q.2)) := by
  unfold f233_23
  exact Seg.ret (f1 := (24, [.retAddr 0, .retAddr 0, .retAddr 0, .retAddr 0], [.int (-1)])) (h1 := h) rfl rfl rfl rfl (fun _ q => q)
theorem s233_66 (h : mH) (q0 : Int32) : Seg 233 (66, [.retAddr 0, .retAddr 0, .retAddr 0, .retAddr 0], [.int q0]) h (f233_66 h q0) (fun (q : Int32 × mH) (res : Option Value × mH) => res = (some (.int q.1), q.2)) := by
  unfold f233_66
  exact Seg.ret (f1 := (66, [.retAddr 0, .retAddr 0, .retAddr 0, .retAddr 0], [.int q0])) (h1 := h) rfl rfl rfl rfl (fun _ q => q)
theorem s233 (h : mH) (l0 : Nat) (l1 : Int32) (l2 : Int32) (l3 : Int32) : Seg 233 (0, [.ref l0, .int l1, .int l2, .int l3], []) h (f233 h l0 l1 l2 l3) (fun (q : Int32 × mH) (res : Option Value × mH) => res = (some (.int q.1), q.2)) := by
  unfold f233
  refine Seg.blk (f' := (5, [.ref l0, .int l1, .int l2, .int l3], [])) (h' := (mSI h l0 0 0)) rfl rfl ?_
  refine Seg.callP (f1 := (9, [.ref l0, .int l1, .int l2, .int l3], [.int 20, .int 0, .int l2])) (h1 := (mSI h l0 0 0)) (cv := fun r => some (.int r)) rfl rfl rfl rfl (s179 (mSI h l0 0 0) l2 0 20) (fun r1 => ?_)
  refine Seg.blk0 (f' := (if (r1 : Int32) = 0 then 23 else 15, [.ref l0, .int l1, .int l2, .int l3], [])) (h' := (mSI h l0 0 0)) rfl rfl ?_
  refine Seg.ite (fun _ => ?_) (fun _ => ?_)
  · exact Seg.w (mLw.u (mLw.u (mLw.u (mLw.u mLw.nil)))) (s233_23 (mSI h l0 0 0))
  · refine Seg.call (f1 := (17, [.ref l0, .int l1, .int l2, .int l3], [.int l1, .ref l0])) (h1 := (mSI h l0 0 0)) (cv := fun r => some (.int r)) rfl rfl rfl rfl (s205 (mSI h l0 0 0) l0 l1) (fun r2 => ?_)
    refine Seg.blk0 (f' := (if (r2.1 : Int32) = 0 then 23 else 25, [.ref l0, .int l1, .int l2, .int l3], [])) (h' := r2.2) rfl rfl ?_
    refine Seg.ite (fun _ => ?_) (fun _ => ?_)
    · exact Seg.w (mLw.u (mLw.u (mLw.u (mLw.u mLw.nil)))) (s233_23 r2.2)
    · refine Seg.call (f1 := (27, [.ref l0, .int l1, .int l2, .int l3], [.int l2, .ref l0])) (h1 := r2.2) (cv := fun _ => none) rfl rfl rfl rfl (s234 r2.2 l0 l2) (fun r3 => ?_)
      refine Seg.blk0 (f' := (if (l3 : Int32) = (-1) then 35 else 42, [.ref l0, .int l1, .int l2, .int l3], [])) (h' := r3.2) rfl rfl ?_
      refine Seg.ite (fun _ => ?_) (fun _ => ?_)
      · refine Seg.blk (f' := (66, [.ref l0, .int l1, .int l2, .int l3], [.int (mI r3.2 l0 37)])) (h' := r3.2) rfl rfl ?_
        exact Seg.w (mLw.u (mLw.u (mLw.u (mLw.u mLw.nil)))) (s233_66 r3.2 (mI r3.2 l0 37))
      · refine Seg.callP (f1 := (50, [.ref l0, .int l1, .int l2, .int l3], [.int ((mI r3.2 l0 37) - 1), .int 0, .int l3])) (h1 := r3.2) (cv := fun r => some (.int r)) rfl rfl rfl rfl (s179 r3.2 l3 0 ((mI r3.2 l0 37) - 1)) (fun r4 => ?_)
        refine Seg.blk0 (f' := (if (r4 : Int32) = 0 then 65 else 56, [.ref l0, .int l1, .int l2, .int l3], [])) (h' := r3.2) rfl rfl ?_
        refine Seg.ite (fun _ => ?_) (fun _ => ?_)
        · refine Seg.blk0 (f' := (66, [.ref l0, .int l1, .int l2, .int l3], [.int (-1)])) (h' := r3.2) rfl rfl ?_
          exact Seg.w (mLw.u (mLw.u (mLw.u (mLw.u mLw.nil)))) (s233_66 r3.2 (-1))
        · refine Seg.blk (f' := (66, [.ref l0, .int l1, .int l2, .int l3], [.int (mI r3.2 ((mR r3.2 l0 36).getD 0) (Int32.toNatClampNeg l3))])) (h' := r3.2) rfl rfl ?_
          exact Seg.w (mLw.u (mLw.u (mLw.u (mLw.u mLw.nil)))) (s233_66 r3.2 (mI r3.2 ((mR r3.2 l0 36).getD 0) (Int32.toNatClampNeg l3)))
