theorem run_app : ∀ (l1 l2 : List mE) {f f1 f2 : mF} {h h1 h2 : mH}, mrun l1 f h = (f1, h1, true) → mrun l2 f1 h1 = (f2, h2, true) → mrun (l1 ++ l2) f h = (f2, h2, true) := by
  intro l1
  induction l1 with
  | nil =>
    intro l2 f f1 f2 h h1 h2 a b
    simp only [mrun] at a
    obtain ⟨rfl, rfl, -⟩ := tri a
    exact b
  | cons e r ih =>
    intro l2 f f1 f2 h h1 h2 a b
    obtain ⟨g, k, a1, a2⟩ := run_cons a
    simp only [List.cons_append, mrun, a1, ih l2 a2 b, Bool.and_self]
theorem run_cut (n : Nat) {l : List mE} {f f1 f2 : mF} {h h1 h2 : mH} (a : mrun (l.take n) f h = (f1, h1, true)) (b : mrun (l.drop n) f1 h1 = (f2, h2, true)) : mrun l f h = (f2, h2, true) := by
  have z := run_app _ _ a b
  rw [List.take_append_drop] at z
  exact z
theorem s293 (h : mH) (l0 : Nat) (l1 : Int32) (l2 : Int32) (l3 : Int32) : Seg 293 (0, [.ref l0, .int l1, .int l2, .int l3, .retAddr 0, .retAddr 0, .retAddr 0, .retAddr 0, .retAddr 0, .retAddr 0, .retAddr 0, .retAddr 0, .retAddr 0], []) h (f293 h l0 l1 l2 l3) (fun (q : Int32 × mH) (res : Option Value × mH) => res = (some (.int q.1), q.2)) := by
  unfold f293
  refine Seg.blk (f' := (5, [.ref l0, .int l1, .int l2, .int l3, .retAddr 0, .retAddr 0, .retAddr 0, .retAddr 0, .retAddr 0, .retAddr 0, .retAddr 0, .retAddr 0, .retAddr 0], [])) (h' := (mSI h l0 0 0)) rfl rfl ?_
  refine Seg.call (f1 := (8, [.ref l0, .int l1, .int l2, .int l3, .retAddr 0, .retAddr 0, .retAddr 0, .retAddr 0, .retAddr 0, .retAddr 0, .retAddr 0, .retAddr 0, .retAddr 0], [.int l2, .int l1, .ref l0])) (h1 := (mSI h l0 0 0)) (cv := fun r => some (.int r)) rfl rfl rfl rfl (s213 (mSI h l0 0 0) l0 l1 l2) (fun r1 => ?_)
  refine Seg.blk0 (f' := (if (r1.1 : Int32) = 0 then 23 else 14, [.ref l0, .int l1, .int l2, .int l3, .retAddr 0, .retAddr 0, .retAddr 0, .retAddr 0, .retAddr 0, .retAddr 0, .retAddr 0, .retAddr 0, .retAddr 0], [])) (h' := r1.2) rfl rfl ?_
  refine Seg.ite (fun _ => ?_) (fun _ => ?_)
  · exact Seg.w (mLw.u (mLw.u (mLw.u (mLw.u (mLw.k (mLw.k (mLw.k (mLw.k (mLw.k (mLw.k (mLw.k (mLw.k (mLw.k mLw.nil))))))))))))) (s293_23 r1.2)
  · refine Seg.callP (f1 := (17, [.ref l0, .int l1, .int l2, .int l3, .retAddr 0, .retAddr 0, .retAddr 0, .retAddr 0, .retAddr 0, .retAddr 0, .retAddr 0, .retAddr 0, .retAddr 0], [.int 4, .int 0, .int l3])) (h1 := r1.2) (cv := fun r => some (.int r)) rfl rfl rfl rfl (s179 r1.2 l3 0 4) (fun r2 => ?_)
    refine Seg.blk0 (f' := (if (r2 : Int32) = 0 then 23 else 26, [.ref l0, .int l1, .int l2, .int l3, .retAddr 0, .retAddr 0, .retAddr 0, .retAddr 0, .retAddr 0, .retAddr 0, .retAddr 0, .retAddr 0, .retAddr 0], [])) (h' := r1.2) rfl rfl ?_
    refine Seg.ite (fun _ => ?_) (fun _ => ?_)
    · exact Seg.w (mLw.u (mLw.u (mLw.u (mLw.u (mLw.k (mLw.k (mLw.k (mLw.k (mLw.k (mLw.k (mLw.k (mLw.k (mLw.k mLw.nil))))))))))))) (s293_23 r1.2)
    · refine Seg.blk0 (f' := (47, [.ref l0, .int l1, .int l2, .int l3, .int 0, .int (-1), .int 0, .int (-1), .int 0, .int 1, .int 0, .retAddr 0, .retAddr 0], [])) (h' := r1.2) rfl (run_cut 4 (f1 := (32, [.ref l0, .int l1, .int l2, .int l3, .int 0, .int (-1), .retAddr 0, .retAddr 0, .retAddr 0, .retAddr 0, .retAddr 0, .retAddr 0, .retAddr 0], [])) (h1 := r1.2) rfl (run_cut 4 (f1 := (38, [.ref l0, .int l1, .int l2, .int l3, .int 0, .int (-1), .int 0, .int (-1), .retAddr 0, .retAddr 0, .retAddr 0, .retAddr 0, .retAddr 0], [])) (h1 := r1.2) rfl (run_cut 4 (f1 := (44, [.ref l0, .int l1, .int l2, .int l3, .int 0, .int (-1), .int 0, .int (-1), .int 0, .int 1, .retAddr 0, .retAddr 0, .retAddr 0], [])) (h1 := r1.2) rfl rfl))) ?_
      exact Seg.w (mLw.k (mLw.u (mLw.u (mLw.k (mLw.k (mLw.k (mLw.k (mLw.k (mLw.k (mLw.k (mLw.k (mLw.k (mLw.k mLw.nil))))))))))))) (s293_47 l0 l3 mFuel (0, (-1), 0, (-1), 0, 1, 0, r1.2))
