/-- fewer locals are known -/
def mLw (a b : List Value) : Prop := a.length = b.length ∧ ∀ i, a.getD i (.retAddr 0) = .retAddr 0 ∨ a.getD i (.retAddr 0) = b.getD i (.retAddr 0)
theorem mLw.nil : mLw [] [] := ⟨rfl, fun _ => Or.inl rfl⟩
theorem mLw.k {a : Value} {as bs : List Value} (h : mLw as bs) : mLw (a :: as) (a :: bs) := by
  refine ⟨by simp [h.1], fun i => ?_⟩
  cases i with
  | zero => exact Or.inr rfl
  | succ i => simpa using h.2 i
theorem mLw.u {b : Value} {as bs : List Value} (h : mLw as bs) : mLw (.retAddr 0 :: as) (b :: bs) := by
  refine ⟨by simp [h.1], fun i => ?_⟩
  cases i with
  | zero => exact Or.inl rfl
  | succ i => simpa using h.2 i
theorem getD_set {ls : List Value} {k i : Nat} {v d : Value} : (ls.set k v).getD i d = if i = k ∧ k < ls.length then v else ls.getD i d := by
  rw [List.getD_eq_getElem?_getD, List.getD_eq_getElem?_getD, List.getElem?_set]
  by_cases h : k = i
  · subst h
    by_cases hl : k < ls.length <;> simp [hl]
  · simp [h, Ne.symm h]
theorem mLw.set {as bs : List Value} (h : mLw as bs) (k : Nat) (v : Value) : mLw (as.set k v) (bs.set k v) := by
  refine ⟨by simp [h.1], fun i => ?_⟩
  rw [getD_set, getD_set, h.1]
  by_cases hc : i = k ∧ k < bs.length
  · rw [if_pos hc, if_pos hc]; exact Or.inr rfl
  · rw [if_neg hc, if_neg hc]; exact h.2 i
theorem mLw.setL {as bs : List Value} (h : mLw as bs) (k : Nat) : mLw (as.set k (.retAddr 0)) bs := by
  refine ⟨by simp [h.1], fun i => ?_⟩
  rw [getD_set]
  by_cases hc : i = k ∧ k < as.length
  · rw [if_pos hc]; exact Or.inl rfl
  · rw [if_neg hc]; exact h.2 i
theorem mLw.setR {as bs : List Value} (h : mLw as bs) {k : Nat} (hk : as.getD k (.retAddr 0) = .retAddr 0) (v : Value) : mLw as (bs.set k v) := by
  refine ⟨by simp [h.1], fun i => ?_⟩
  rw [getD_set]
  by_cases hc : i = k ∧ k < bs.length
  · rw [if_pos hc, hc.1]; exact Or.inl hk
  · rw [if_neg hc]; exact h.2 i
theorem getD_nn {ls : List Value} {k : Nat} : ls.getD k .null = .null ∨ ls.getD k .null = ls.getD k (.retAddr 0) := by
  rw [List.getD_eq_getElem?_getD, List.getD_eq_getElem?_getD]
  cases ls[k]? with
  | none => exact Or.inl rfl
  | some v => exact Or.inr rfl
theorem mLw.clob {as bs : List Value} (h : mLw as bs) (k : Nat) : mLw (mClob as k) (mClob bs k) := by
  unfold mClob
  split
  next x hx =>
    have ha : as.getD (k - 1) (.retAddr 0) = .long x := by
      rcases getD_nn (ls := as) (k := k - 1) with q | q
      · rw [q] at hx; cases hx
      · rw [← q]; exact hx
    split
    next x2 hx2 => exact h.set _ _
    next hx2 => exact h.setL _
  next hx =>
    split
    next x2 hx2 =>
      refine h.setR ?_ _
      rcases h.2 (k - 1) with q | q
      · exact q
      · have hb : bs.getD (k - 1) (.retAddr 0) = .long x2 := by
          rcases getD_nn (ls := bs) (k := k - 1) with z | z
          · rw [z] at hx2; cases hx2
          · rw [← z]; exact hx2
        rw [hb] at q
        exfalso
        rcases getD_nn (ls := as) (k := k - 1) with z | z
        · rw [List.getD_eq_getElem?_getD] at q z
          cases hq : as[k - 1]? with
          | none => rw [hq] at q; cases q
          | some v => rw [hq] at q z; simp only [Option.getD_some] at q z; rw [q] at z; cases z
        · exact hx x2 (by rw [z, q])
    next hx2 => exact h
theorem mLw.st1 {as bs : List Value} (h : mLw as bs) (k : Nat) (v : Value) : mLw (mSt1 as k v) (mSt1 bs k v) := (h.clob k).set k v
theorem mLw.st2 {as bs : List Value} (h : mLw as bs) (k : Nat) (v : Value) : mLw (mSt2 as k v) (mSt2 bs k v) := ((h.clob k).set k v).set (k + 1) (.retAddr 0)
theorem mLw.at {as bs : List Value} (h : mLw as bs) {k : Nat} (hu : as.getD k (.retAddr 0) ≠ .retAddr 0) : bs.getD k (.retAddr 0) = as.getD k (.retAddr 0) := by
  rcases h.2 k with q | q
  · exact absurd q hu
  · exact q.symm
set_option maxHeartbeats 4000000 in
theorem step_w {e : mE} {pc : Nat} {ls ls' st : List Value} {h h' : mH} {f' : mF} (hw : mLw ls ls') (hs : mstep e (pc, ls, st) h = (f', h', true)) : ∃ l2, mstep e (pc, ls', st) h = ((f'.1, l2, f'.2.2), h', true) ∧ mLw f'.2.1 l2 := by
  obtain ⟨i, n, ⟨x1, x2, x3⟩, v⟩ := e
  have ld : ∀ (okf : Value → Bool) (k : Nat), okf (.retAddr 0) = false → mLd okf k (i, n, (x1, x2, x3), v) (pc, ls, st) h = (f', h', true) → ∃ l2, mLd okf k (i, n, (x1, x2, x3), v) (pc, ls', st) h = ((f'.1, l2, f'.2.2), h', true) ∧ mLw f'.2.1 l2 := by
    intro okf k hok hq
    unfold mLd at hq ⊢
    obtain ⟨rfl, rfl, hb⟩ := tri hq
    have hu : ls.getD k (.retAddr 0) ≠ .retAddr 0 := fun z => by rw [show (pc, ls, st).2.1 = ls from rfl, z, hok] at hb; cases hb
    refine ⟨ls', ?_, hw⟩
    simp only at hb ⊢
    rw [hw.at hu, hb]
  have st1 : ∀ (okf : Value → Bool) (k : Nat), mSto okf k (i, n, (x1, x2, x3), v) (pc, ls, st) h = (f', h', true) → ∃ l2, mSto okf k (i, n, (x1, x2, x3), v) (pc, ls', st) h = ((f'.1, l2, f'.2.2), h', true) ∧ mLw f'.2.1 l2 := by
    intro okf k hq
    unfold mSto at hq ⊢
    cases st with
    | nil => exact absurd (tri hq).2.2 (by decide)
    | cons w st =>
      obtain ⟨rfl, rfl, hb⟩ := tri hq
      refine ⟨mSt1 ls' k w, ?_, hw.st1 k w⟩
      simp only at hb ⊢
      rw [← hw.1, hb]
  cases i <;> (try (exact absurd (tri hs).2.2 (by decide)))
  case iload k => exact ld mIsI k rfl hs
  case iload_n k => exact ld mIsI k rfl hs
  case lload k => exact ld mIsL k rfl hs
  case lload_n k => exact ld mIsL k rfl hs
  case aload k => exact ld mIsR k rfl hs
  case aload_n k => exact ld mIsR k rfl hs
  case istore k => exact st1 mIsI k hs
  case istore_n k => exact st1 mIsI k hs
  case astore k => exact st1 mIsR k hs
  case astore_n k => exact st1 mIsR k hs
  case lstore k =>
    simp only [mstep, mSto2] at hs ⊢
    split at hs
    next _ w st =>
      obtain ⟨rfl, rfl, hb⟩ := tri hs
      refine ⟨mSt2 ls' k (.long w), ?_, hw.st2 k _⟩
      simp only
      rw [← hw.1, hb]
    next => exact absurd (tri hs).2.2 (by decide)
  case lstore_n k =>
    simp only [mstep, mSto2] at hs ⊢
    split at hs
    next _ w st =>
      obtain ⟨rfl, rfl, hb⟩ := tri hs
      refine ⟨mSt2 ls' k (.long w), ?_, hw.st2 k _⟩
      simp only
      rw [← hw.1, hb]
    next => exact absurd (tri hs).2.2 (by decide)
  case iinc k c =>
    simp only [mstep] at hs ⊢
    split at hs
    next _ _ x0 c1 hx0 =>
      obtain ⟨rfl, rfl, hb⟩ := tri hs
      have hu : ls.getD k (.retAddr 0) ≠ .retAddr 0 := fun z => by rw [z] at hx0; cases hx0
      refine ⟨mSt1 ls' k (.int (x0 + c1)), ?_, hw.st1 k _⟩
      rw [hw.at hu, hx0]
      simp only
      rw [← hw.1, hb]
    next => exact absurd (tri hs).2.2 (by decide)
  all_goals (try (obtain ⟨rfl, rfl, hb⟩ := tri hs; exact ⟨ls', rfl, hw⟩))
  all_goals (simp only [mstep, mB2, mB2L, mIf, mIc, mGet, mPut, mAl, mAs, mPr, mBad] at hs ⊢)
  all_goals (repeat' split at hs)
  all_goals clear ld st1
  all_goals (try (exact absurd (tri hs).2.2 (by decide)))
  all_goals (obtain ⟨rfl, rfl, hb⟩ := tri hs)
  all_goals (refine ⟨ls', ?_, hw⟩)
  all_goals first | rfl | (simp only [hb]; done) | (simp [*]; done)
theorem run_w : ∀ (l : List mE) {pc : Nat} {ls ls' st : List Value} {h h' : mH} {f' : mF}, mLw ls ls' → mrun l (pc, ls, st) h = (f', h', true) → ∃ l2, mrun l (pc, ls', st) h = ((f'.1, l2, f'.2.2), h', true) ∧ mLw f'.2.1 l2 := by
  intro l
  induction l with
  | nil =>
    intro pc ls ls' st h h' f' hw hs
    simp only [mrun] at hs
    obtain ⟨rfl, rfl, -⟩ := tri hs
    exact ⟨ls', rfl, hw⟩
  | cons e r ih =>
    intro pc ls ls' st h h' f' hw hs
    obtain ⟨f1, h1, hs1, hs2⟩ := run_cons hs
    obtain ⟨l2, hs3, hw2⟩ := step_w hw hs1
    obtain ⟨p1, l1, st1⟩ := f1
    obtain ⟨l3, hs4, hw3⟩ := ih hw2 hs2
    refine ⟨l3, ?_, hw3⟩
    simp only [mrun, hs3, hs4, Bool.and_self]
theorem exec_w : ∀ (n y pc : Nat) (ls ls' st : List Value) (h : mH) (res : Option Value × mH), mLw ls ls' → mexec n y (pc, ls, st) h = some res → mexec n y (pc, ls', st) h = some res := by
  intro n
  induction n with
  | zero => intro y pc ls ls' st h res _ hx; cases hx
  | succ n ih =>
    intro y pc ls ls' st h res hw hx
    simp only [mexec] at hx ⊢
    generalize (bk y).find? (fun b => Nat.beq b.1 pc) = ob at hx ⊢
    cases ob with
    | none => cases hx
    | some b =>
      simp only at hx ⊢
      generalize hrun : mrun b.2.1 (pc, ls, st) h = q at hx
      obtain ⟨f1, h1, ok⟩ := q
      simp only at hx
      cases ok with
      | false => simp at hx
      | true =>
        rw [if_pos rfl] at hx
        obtain ⟨l2, hr2, hw2⟩ := run_w _ hw hrun
        rw [hr2]
        simp only
        rw [if_pos trivial]
        obtain ⟨p1, l1, st1⟩ := f1
        generalize b.2.2 = tm at hx ⊢
        cases tm with
        | none => exact ih _ _ _ _ _ _ _ hw2 hx
        | some en =>
          simp only at hx ⊢
          by_cases hir : mIsRet en.1 = true
          · rw [if_pos hir] at hx ⊢
            exact hx
          · rw [if_neg hir] at hx ⊢
            have hcc : mCall y en (p1, l2, st1) h1 = mCall y en (p1, l1, st1) h1 := by simp only [mCall]
            rw [hcc]
            generalize mCall y en (p1, l1, st1) h1 = q at hx ⊢
            obtain ⟨y', as, rest, ok2⟩ := q
            simp only at hx ⊢
            cases ok2 with
            | false => simp at hx
            | true =>
              rw [if_pos rfl] at hx ⊢
              generalize mexec n y' (0, mEnt (yML y') as, []) h1 = oc at hx ⊢
              cases oc with
              | none => cases hx
              | some rr =>
                simp only [Option.bind_some] at hx ⊢
                exact ih _ _ _ _ _ _ _ hw2 hx
theorem Ev.w {y pc : Nat} {ls ls' st : List Value} {h : mH} {res : Option Value × mH} (hw : mLw ls ls') (k : Ev y (pc, ls, st) h res) : Ev y (pc, ls', st) h res := by
  obtain ⟨n, hn⟩ := k
  exact ⟨n, exec_w _ _ _ _ _ _ _ _ hw hn⟩
theorem Seg.w {τ : Type} {y pc : Nat} {ls ls' st : List Value} {h : mH} {m : Option τ} {E : τ → Option Value × mH → Prop} (hw : mLw ls ls') (k : Seg y (pc, ls, st) h m E) : Seg y (pc, ls', st) h m E := fun t ht res hE => Ev.w hw (k t ht res hE)
