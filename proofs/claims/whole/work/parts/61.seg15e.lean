set_option maxHeartbeats 16000000 in
theorem s302_1068 (h : mH) (l0 : Nat) (l1 : Nat) (l2 : Nat) (l3 : Int32) : Seg 302 (1068, [.ref l0, .ref l1, .ref l2, .int l3], []) h (f302_1068 h l0 l1 l2 l3) (Sum.elim (fun s : (Int32 × mH) => Ev 302 (18, [.ref l0, .ref l1, .ref l2, .int s.1], []) s.2) (fun (q : Int32 × mH) (res : Option Value × mH) => res = (some (.int q.1), q.2))) := by
  unfold f302_1068
  refine Seg.call (f1 := (1084, [.ref l0, .ref l1, .ref l2, .int l3], [.int (mI h 2000000 (Int32.toNatClampNeg (l3 + 3))), .int (mI h 2000000 (Int32.toNatClampNeg (l3 + 2))), .int (mI h 2000000 (Int32.toNatClampNeg (l3 + 1))), .ref l1])) (h1 := h) (cv := fun r => some (.int r)) rfl rfl rfl rfl (s137 h l1 (mI h 2000000 (Int32.toNatClampNeg (l3 + 1))) (mI h 2000000 (Int32.toNatClampNeg (l3 + 2))) (mI h 2000000 (Int32.toNatClampNeg (l3 + 3)))) (fun r55 => ?_)
  refine Seg.call (f1 := (1103, [.ref l0, .ref l1, .ref l2, .int l3], [.int (mI r55.2 2000000 (Int32.toNatClampNeg (l3 + 3))), .int (mI r55.2 2000000 (Int32.toNatClampNeg (l3 + 2))), .int (mI r55.2 2000000 (Int32.toNatClampNeg (l3 + 1))), .ref l2, .int r55.1])) (h1 := r55.2) (cv := fun r => some (.int r)) rfl rfl rfl rfl (s277 r55.2 l2 (mI r55.2 2000000 (Int32.toNatClampNeg (l3 + 1))) (mI r55.2 2000000 (Int32.toNatClampNeg (l3 + 2))) (mI r55.2 2000000 (Int32.toNatClampNeg (l3 + 3)))) (fun r56 => ?_)
  refine Seg.blk0 (f' := (if (r55.1 : Int32) = r56.1 then 1887 else 1109, [.ref l0, .ref l1, .ref l2, .int l3], [])) (h' := r56.2) rfl rfl ?_
  refine Seg.ite (fun _ => ?_) (fun _ => ?_)
  · exact Seg.w (mLw.k (mLw.k (mLw.k (mLw.k mLw.nil)))) (s302_1887 r56.2 l0 l1 l2 l3)
  · refine Seg.x ?_
    exact Seg.ret (f1 := (1110, [.ref l0, .ref l1, .ref l2, .int l3], [.int 0])) (h1 := r56.2) rfl rfl rfl rfl (fun _ q => q)
set_option maxHeartbeats 16000000 in
theorem s302_1111 (h : mH) (l0 : Nat) (l1 : Nat) (l2 : Nat) (l3 : Int32) : Seg 302 (1111, [.ref l0, .ref l1, .ref l2, .int l3], []) h (f302_1111 h l0 l1 l2 l3) (Sum.elim (fun s : (Int32 × mH) => Ev 302 (18, [.ref l0, .ref l1, .ref l2, .int s.1], []) s.2) (fun (q : Int32 × mH) (res : Option Value × mH) => res = (some (.int q.1), q.2))) := by
  unfold f302_1111
  refine Seg.call (f1 := (1132, [.ref l0, .ref l1, .ref l2, .int l3], [.int (mI h 2000000 (Int32.toNatClampNeg (l3 + 4))), .int (mI h 2000000 (Int32.toNatClampNeg (l3 + 3))), .int (mI h 2000000 (Int32.toNatClampNeg (l3 + 2))), .int (mI h 2000000 (Int32.toNatClampNeg (l3 + 1))), .ref l1])) (h1 := h) (cv := fun r => some (.int r)) rfl rfl rfl rfl (s141 h l1 (mI h 2000000 (Int32.toNatClampNeg (l3 + 1))) (mI h 2000000 (Int32.toNatClampNeg (l3 + 2))) (mI h 2000000 (Int32.toNatClampNeg (l3 + 3))) (mI h 2000000 (Int32.toNatClampNeg (l3 + 4)))) (fun r57 => ?_)
  refine Seg.call (f1 := (1156, [.ref l0, .ref l1, .ref l2, .int l3], [.int (mI r57.2 2000000 (Int32.toNatClampNeg (l3 + 4))), .int (mI r57.2 2000000 (Int32.toNatClampNeg (l3 + 3))), .int (mI r57.2 2000000 (Int32.toNatClampNeg (l3 + 2))), .int (mI r57.2 2000000 (Int32.toNatClampNeg (l3 + 1))), .ref l2, .int r57.1])) (h1 := r57.2) (cv := fun r => some (.int r)) rfl rfl rfl rfl (s280 r57.2 l2 (mI r57.2 2000000 (Int32.toNatClampNeg (l3 + 1))) (mI r57.2 2000000 (Int32.toNatClampNeg (l3 + 2))) (mI r57.2 2000000 (Int32.toNatClampNeg (l3 + 3))) (mI r57.2 2000000 (Int32.toNatClampNeg (l3 + 4)))) (fun r58 => ?_)
  refine Seg.blk0 (f' := (if (r57.1 : Int32) = r58.1 then 1887 else 1162, [.ref l0, .ref l1, .ref l2, .int l3], [])) (h' := r58.2) rfl rfl ?_
  refine Seg.ite (fun _ => ?_) (fun _ => ?_)
  · exact Seg.w (mLw.k (mLw.k (mLw.k (mLw.k mLw.nil)))) (s302_1887 r58.2 l0 l1 l2 l3)
  · refine Seg.x ?_
    exact Seg.ret (f1 := (1163, [.ref l0, .ref l1, .ref l2, .int l3], [.int 0])) (h1 := r58.2) rfl rfl rfl rfl (fun _ q => q)
set_option maxHeartbeats 16000000 in
theorem s302_1164 (h : mH) (l0 : Nat) (l1 : Nat) (l2 : Nat) (l3 : Int32) : Seg 302 (1164, [.ref l0, .ref l1, .ref l2, .int l3], []) h (f302_1164 h l0 l1 l2 l3) (Sum.elim (fun s : (Int32 × mH) => Ev 302 (18, [.ref l0, .ref l1, .ref l2, .int s.1], []) s.2) (fun (q : Int32 × mH) (res : Option Value × mH) => res = (some (.int q.1), q.2))) := by
  unfold f302_1164
  refine Seg.call (f1 := (1180, [.ref l0, .ref l1, .ref l2, .int l3], [.int (mI h 2000000 (Int32.toNatClampNeg (l3 + 3))), .int (mI h 2000000 (Int32.toNatClampNeg (l3 + 2))), .int (mI h 2000000 (Int32.toNatClampNeg (l3 + 1))), .ref l1])) (h1 := h) (cv := fun r => some (.int r)) rfl rfl rfl rfl (s143 h l1 (mI h 2000000 (Int32.toNatClampNeg (l3 + 1))) (mI h 2000000 (Int32.toNatClampNeg (l3 + 2))) (mI h 2000000 (Int32.toNatClampNeg (l3 + 3)))) (fun r59 => ?_)
  refine Seg.call (f1 := (1199, [.ref l0, .ref l1, .ref l2, .int l3], [.int (mI r59.2 2000000 (Int32.toNatClampNeg (l3 + 3))), .int (mI r59.2 2000000 (Int32.toNatClampNeg (l3 + 2))), .int (mI r59.2 2000000 (Int32.toNatClampNeg (l3 + 1))), .ref l2, .int r59.1])) (h1 := r59.2) (cv := fun r => some (.int r)) rfl rfl rfl rfl (s281 r59.2 l2 (mI r59.2 2000000 (Int32.toNatClampNeg (l3 + 1))) (mI r59.2 2000000 (Int32.toNatClampNeg (l3 + 2))) (mI r59.2 2000000 (Int32.toNatClampNeg (l3 + 3)))) (fun r60 => ?_)
  refine Seg.blk0 (f' := (if (r59.1 : Int32) = r60.1 then 1887 else 1205, [.ref l0, .ref l1, .ref l2, .int l3], [])) (h' := r60.2) rfl rfl ?_
  refine Seg.ite (fun _ => ?_) (fun _ => ?_)
  · exact Seg.w (mLw.k (mLw.k (mLw.k (mLw.k mLw.nil)))) (s302_1887 r60.2 l0 l1 l2 l3)
  · refine Seg.x ?_
    exact Seg.ret (f1 := (1206, [.ref l0, .ref l1, .ref l2, .int l3], [.int 0])) (h1 := r60.2) rfl rfl rfl rfl (fun _ q => q)
set_option maxHeartbeats 16000000 in
theorem s302_1207 (h : mH) (l0 : Nat) (l1 : Nat) (l2 : Nat) (l3 : Int32) : Seg 302 (1207, [.ref l0, .ref l1, .ref l2, .int l3], []) h (f302_1207 h l0 l1 l2 l3) (Sum.elim (fun s : (Int32 × mH) => Ev 302 (18, [.ref l0, .ref l1, .ref l2, .int s.1], []) s.2) (fun (q : Int32 × mH) (res : Option Value × mH) => res = (some (.int q.1), q.2))) := by
  unfold f302_1207
  refine Seg.call (f1 := (1218, [.ref l0, .ref l1, .ref l2, .int l3], [.int (mI h 2000000 (Int32.toNatClampNeg (l3 + 2))), .int (mI h 2000000 (Int32.toNatClampNeg (l3 + 1))), .ref l1])) (h1 := h) (cv := fun r => some (.int r)) rfl rfl rfl rfl (s145 h l1 (mI h 2000000 (Int32.toNatClampNeg (l3 + 1))) (mI h 2000000 (Int32.toNatClampNeg (l3 + 2)))) (fun r61 => ?_)
  refine Seg.call (f1 := (1232, [.ref l0, .ref l1, .ref l2, .int l3], [.int (mI r61.2 2000000 (Int32.toNatClampNeg (l3 + 2))), .int (mI r61.2 2000000 (Int32.toNatClampNeg (l3 + 1))), .ref l2, .int r61.1])) (h1 := r61.2) (cv := fun r => some (.int r)) rfl rfl rfl rfl (s282 r61.2 l2 (mI r61.2 2000000 (Int32.toNatClampNeg (l3 + 1))) (mI r61.2 2000000 (Int32.toNatClampNeg (l3 + 2)))) (fun r62 => ?_)
  refine Seg.blk0 (f' := (if (r61.1 : Int32) = r62.1 then 1887 else 1238, [.ref l0, .ref l1, .ref l2, .int l3], [])) (h' := r62.2) rfl rfl ?_
  refine Seg.ite (fun _ => ?_) (fun _ => ?_)
  · exact Seg.w (mLw.k (mLw.k (mLw.k (mLw.k mLw.nil)))) (s302_1887 r62.2 l0 l1 l2 l3)
  · refine Seg.x ?_
    exact Seg.ret (f1 := (1239, [.ref l0, .ref l1, .ref l2, .int l3], [.int 0])) (h1 := r62.2) rfl rfl rfl rfl (fun _ q => q)
set_option maxHeartbeats 16000000 in
theorem s302_1240 (h : mH) (l0 : Nat) (l1 : Nat) (l2 : Nat) (l3 : Int32) : Seg 302 (1240, [.ref l0, .ref l1, .ref l2, .int l3], []) h (f302_1240 h l0 l1 l2 l3) (Sum.elim (fun s : (Int32 × mH) => Ev 302 (18, [.ref l0, .ref l1, .ref l2, .int s.1], []) s.2) (fun (q : Int32 × mH) (res : Option Value × mH) => res = (some (.int q.1), q.2))) := by
  unfold f302_1240
  refine Seg.call (f1 := (1251, [.ref l0, .ref l1, .ref l2, .int l3], [.int (mI h 2000000 (Int32.toNatClampNeg (l3 + 2))), .int (mI h 2000000 (Int32.toNatClampNeg (l3 + 1))), .ref l1])) (h1 := h) (cv := fun r => some (.int r)) rfl rfl rfl rfl (s148 h l1 (mI h 2000000 (Int32.toNatClampNeg (l3 + 1))) (mI h 2000000 (Int32.toNatClampNeg (l3 + 2)))) (fun r63 => ?_)
  refine Seg.call (f1 := (1265, [.ref l0, .ref l1, .ref l2, .int l3], [.int (mI r63.2 2000000 (Int32.toNatClampNeg (l3 + 2))), .int (mI r63.2 2000000 (Int32.toNatClampNeg (l3 + 1))), .ref l2, .int r63.1])) (h1 := r63.2) (cv := fun r => some (.int r)) rfl rfl rfl rfl (s283 r63.2 l2 (mI r63.2 2000000 (Int32.toNatClampNeg (l3 + 1))) (mI r63.2 2000000 (Int32.toNatClampNeg (l3 + 2)))) (fun r64 => ?_)
  refine Seg.blk0 (f' := (if (r63.1 : Int32) = r64.1 then 1887 else 1271, [.ref l0, .ref l1, .ref l2, .int l3], [])) (h' := r64.2) rfl rfl ?_
  refine Seg.ite (fun _ => ?_) (fun _ => ?_)
  · exact Seg.w (mLw.k (mLw.k (mLw.k (mLw.k mLw.nil)))) (s302_1887 r64.2 l0 l1 l2 l3)
  · refine Seg.x ?_
    exact Seg.ret (f1 := (1272, [.ref l0, .ref l1, .ref l2, .int l3], [.int 0])) (h1 := r64.2) rfl rfl rfl rfl (fun _ q => q)
