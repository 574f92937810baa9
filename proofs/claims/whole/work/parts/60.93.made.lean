/-! the makers run: on a heap with a script as on one without -/
def oV (T : Nat → Nat → Int32) (h : mH) : mH := (h.1, fun a j => if 1000000 ≤ a then T a j else h.2.1 a j, h.2.2)
section OV
variable {T : Nat → Nat → Int32} {h : mH} {a j : Nat}
theorem oV_K : mK (oV T h) a = mK h a := rfl
theorem oV_R : mR (oV T h) a j = mR h a j := rfl
theorem oV_L : mL (oV T h) a j = mL h a j := rfl
theorem oV_I (ha : a < 1000000) : mI (oV T h) a j = mI h a j := if_neg (by omega)
theorem oV_SR {v : Option Nat} : mSR (oV T h) a j v = oV T (mSR h a j v) := rfl
theorem oV_SL {v : Int64} : mSL (oV T h) a j v = oV T (mSL h a j v) := rfl
theorem oV_SI {v : Int32} (ha : a < 1000000) : mSI (oV T h) a j v = oV T (mSI h a j v) := by
  unfold mSI oV mU
  refine congrArg (fun x => (h.1, x, h.2.2)) ?_
  funext b k
  show (if b = a ∧ k = j then v else if 1000000 ≤ b then T b k else h.2.1 b k) = (if 1000000 ≤ b then T b k else if b = a ∧ k = j then v else h.2.1 b k)
  by_cases e : b = a ∧ k = j
  · rw [if_pos e, if_neg (by omega), if_pos e]
  · rw [if_neg e, if_neg e]
theorem oV_Nw {k n : Nat} (hl : h.1.length < 1000000) : mNw (oV T h) k n = oV T (mNw h k n) := by
  unfold mNw oV
  refine congrArg (fun x => (h.1 ++ [(k, n)], x, (fun a j => if a = h.1.length then none else h.2.2.1 a j), (fun a j => if a = h.1.length then 0 else h.2.2.2 a j))) ?_
  funext b i
  show (if b = h.1.length then 0 else if 1000000 ≤ b then T b i else h.2.1 b i) = (if 1000000 ≤ b then T b i else if b = h.1.length then 0 else h.2.1 b i)
  by_cases e : b = h.1.length
  · rw [if_pos e, if_neg (by omega), if_pos e]
  · rw [if_neg e, if_neg e]
theorem ka {ci : Nat} (hk : Nat.beq (mK h a).1 ci = true) (hc : ci < 900) (hl : h.1.length ≤ 1000000) : a < 1000000 := by
  by_cases e : a < 1000000
  · exact e
  · have z : mK h a = (999, 0) := by
      unfold mK
      rw [List.getD_eq_getElem?_getD, List.getElem?_eq_none (by omega)]; rfl
    rw [z] at hk
    have := Nat.eq_of_beq_eq_true hk
    omega
end OV
/-- an instruction of a maker -/
def okI (e : mE) : Bool := match e.1 with
  | .aload_n _ => true
  | .iload_n _ => true
  | .istore_n _ => true
  | .iconst _ => true
  | .bipush _ => true
  | .sipush _ => true
  | .dup => true
  | .if_icmp _ _ => true
  | .iinc _ _ => true
  | .goto _ => true
  | .invokespecial _ => Nat.beq e.2.2.1.1 1
  | .new _ => true
  | .newarray _ => true
  | .anewarray _ => true
  | .putfield _ => Nat.blt e.2.2.1.1 900
  | .getfield _ => Nat.blt e.2.2.1.1 900
  | .aastore => true
  | .iastore => Nat.blt e.2.2.1.1 900
  | .arraylength => !(Nat.beq e.2.2.1.1 7)
  | _ => false
theorem bl9 {x : Nat} (h : Nat.blt x 900 = true) : x < 900 := Nat.le_of_ble_eq_true h
theorem nw_len {h : mH} {k n : Nat} (hl : Nat.blt h.1.length 1000000 = true) : (mNw h k n).1.length ≤ 1000000 := by
  have := Nat.le_of_ble_eq_true hl
  show (h.1 ++ [(k, n)]).length ≤ 1000000
  rw [List.length_append, List.length_singleton]; exact this
theorem step_o {T : Nat → Nat → Int32} {e : mE} {pc : Nat} {ls st : List Value} {h h' : mH} {f' : mF} (ho : okI e = true) (hl : h.1.length ≤ 1000000) (hs : mstep e (pc, ls, st) h = (f', h', true)) : mstep e (pc, ls, st) (oV T h) = (f', oV T h', true) ∧ h'.1.length ≤ 1000000 := by
  obtain ⟨i, n, ⟨x1, x2, x3⟩, v⟩ := e
  cases i <;> (try (exact Bool.noConfusion (show false = true from ho)))
  case new k =>
    obtain ⟨rfl, rfl, hb⟩ := tri hs
    refine ⟨?_, nw_len hb⟩
    show (_, mNw (oV T h) x1 x2, Nat.blt h.1.length 1000000) = _
    rw [oV_Nw (Nat.le_of_ble_eq_true hb), hb]; rfl
  case newarray k =>
    simp only [mstep, mBad] at hs ⊢
    split at hs
    · obtain ⟨rfl, rfl, hb⟩ := tri hs
      have hb1 := (w_and (w_and hb).1).1
      refine ⟨?_, nw_len hb1⟩
      rw [oV_Nw (Nat.le_of_ble_eq_true hb1)]
      exact congrArg (fun x => (_, _, x)) hb
    · exact absurd (tri hs).2.2 (by decide)
  case anewarray k =>
    simp only [mstep, mBad] at hs ⊢
    split at hs
    · obtain ⟨rfl, rfl, hb⟩ := tri hs
      have hb1 := (w_and (w_and hb).1).1
      refine ⟨?_, nw_len hb1⟩
      rw [oV_Nw (Nat.le_of_ble_eq_true hb1)]
      exact congrArg (fun x => (_, _, x)) hb
    · exact absurd (tri hs).2.2 (by decide)
  case invokespecial k =>
    have e1 : x1 = 1 := Nat.eq_of_beq_eq_true ho
    subst e1
    cases st with
    | nil => exact Bool.noConfusion (show false = true from (tri hs).2.2)
    | cons v0 r =>
      cases v0 with
      | ref q =>
        obtain ⟨rfl, rfl, hb⟩ := tri hs
        exact ⟨congrArg (fun x => (_, _, x)) hb, hl⟩
      | _ => exact Bool.noConfusion (show false = true from (tri hs).2.2)
  case putfield k =>
    simp only [mstep, mPut, mBad] at hs ⊢
    repeat' split at hs
    all_goals (try (exact absurd (tri hs).2.2 (by decide)))
    all_goals (rename_i hq)
    all_goals (cases hq)
    all_goals (obtain ⟨rfl, rfl, hb⟩ := tri hs)
    · refine ⟨?_, hl⟩
      rw [oV_SI (ka hb (bl9 ho) hl)]
      exact congrArg (fun x => (_, _, x)) hb
    · refine ⟨?_, hl⟩
      rw [oV_SI (ka (w_and hb).1 (bl9 ho) hl)]
      exact congrArg (fun x => (_, _, x)) hb
    · exact ⟨congrArg (fun x => (_, _, x)) hb, hl⟩
    · exact ⟨congrArg (fun x => (_, _, x)) hb, hl⟩
  case getfield k =>
    simp only [mstep, mGet, mBad] at hs ⊢
    repeat' split at hs
    all_goals (try (exact absurd (tri hs).2.2 (by decide)))
    all_goals (rename_i hq)
    all_goals (cases hq)
    all_goals (obtain ⟨rfl, rfl, hb⟩ := tri hs)
    · refine ⟨?_, hl⟩
      rw [oV_I (ka hb (bl9 ho) hl)]
      exact congrArg (fun x => (_, _, x)) hb
    · refine ⟨?_, hl⟩
      rw [oV_I (ka hb (bl9 ho) hl)]
      exact congrArg (fun x => (_, _, x)) hb
    · exact ⟨congrArg (fun x => (_, _, x)) hb, hl⟩
    · exact ⟨congrArg (fun x => (_, _, x)) hb, hl⟩
  case iastore =>
    simp only [mstep, mAs, mBad] at hs ⊢
    split at hs
    · obtain ⟨rfl, rfl, hb⟩ := tri hs
      refine ⟨?_, hl⟩
      rw [oV_SI (ka (w_and hb).1 (bl9 ho) hl)]
      exact congrArg (fun x => (_, _, x)) hb
    · exact absurd (tri hs).2.2 (by decide)
  case arraylength =>
    simp only [mstep, mBad] at hs ⊢
    repeat' split at hs
    all_goals (try (exact absurd (tri hs).2.2 (by decide)))
    all_goals (try (exact Bool.noConfusion (show false = true from ho)))
    all_goals (obtain ⟨rfl, rfl, hb⟩ := tri hs)
    all_goals (refine ⟨?_, hl⟩)
    all_goals (exact congrArg (fun x => (_, _, x)) hb)
  case iinc k c =>
    simp only [mstep, mBad] at hs ⊢
    split at hs
    · obtain ⟨rfl, rfl, hb⟩ := tri hs
      refine ⟨?_, hl⟩
      exact congrArg (fun x => (_, _, x)) hb
    · exact absurd (tri hs).2.2 (by decide)
  all_goals (simp only [mstep, mLd, mSto, mIc, mBad] at hs ⊢)
  all_goals (repeat' split at hs)
  all_goals (try (exact absurd (tri hs).2.2 (by decide)))
  all_goals (obtain ⟨rfl, rfl, hb⟩ := tri hs)
  all_goals (refine ⟨?_, hl⟩)
  all_goals first | rfl | (rw [hb]; done) | (rename_i hq; rw [if_pos hq]; done) | (rename_i hq; rw [if_neg hq]; done) | (exact congrArg (fun x => (_, _, x)) hb)
theorem run_o {T : Nat → Nat → Int32} : ∀ (l : List mE) {f : mF} {h h' : mH} {f' : mF}, l.all okI = true → h.1.length ≤ 1000000 → mrun l f h = (f', h', true) → mrun l f (oV T h) = (f', oV T h', true) ∧ h'.1.length ≤ 1000000 := by
  intro l
  induction l with
  | nil =>
    intro f h h' f' _ hl hs
    simp only [mrun] at hs ⊢
    obtain ⟨rfl, rfl, -⟩ := tri hs
    exact ⟨rfl, hl⟩
  | cons e r ih =>
    intro f h h' f' ho hl hs
    rw [List.all_cons] at ho
    obtain ⟨ho1, ho2⟩ := w_and ho
    obtain ⟨f1, h1, hs1, hs2⟩ := run_cons hs
    obtain ⟨p, ls, st⟩ := f
    obtain ⟨z1, z2⟩ := step_o (T := T) ho1 hl hs1
    obtain ⟨z3, z4⟩ := ih ho2 z2 hs2
    refine ⟨?_, z4⟩
    simp only [mrun, z1, z3, Bool.and_self]
def okG (y : Nat) : Bool := Nat.ble y 13 || Nat.beq y 175
def okBk (b : Nat × List mE × Option mE) : Bool := b.2.1.all okI && (match b.2.2 with
  | none => true
  | some e => mIsRet e.1 || okG e.2.2.1.1)
theorem okY1 : ∀ y, y < 14 → (bk y).all okBk = true := by decide +kernel
theorem okY2 : (bk 175).all okBk = true := by decide +kernel
theorem okY {y : Nat} (h : okG y = true) : (bk y).all okBk = true := by
  unfold okG at h
  rw [Bool.or_eq_true] at h
  rcases h with h | h
  · have := Nat.le_of_ble_eq_true h
    exact okY1 y (by omega)
  · have := Nat.eq_of_beq_eq_true h
    rw [this]; exact okY2
theorem exec_o {T : Nat → Nat → Int32} : ∀ (n y : Nat) (f : mF) (h : mH) (res : Option Value × mH), okG y = true → h.1.length ≤ 1000000 → mexec n y f h = some res → mexec n y f (oV T h) = some (res.1, oV T res.2) ∧ res.2.1.length ≤ 1000000 := by
  intro n
  induction n with
  | zero => intro y f h res _ _ hx; cases hx
  | succ n ih =>
    intro y f h res hy hl hx
    simp only [mexec] at hx ⊢
    generalize hob : (bk y).find? (fun b => Nat.beq b.1 f.1) = ob at hx ⊢
    cases ob with
    | none => cases hx
    | some b =>
      have hB := List.all_eq_true.1 (okY hy) b (List.mem_of_find?_eq_some hob)
      obtain ⟨hB1, hB2⟩ := w_and hB
      simp only at hx ⊢
      generalize hrun : mrun b.2.1 f h = q at hx
      obtain ⟨f1, h1, ok⟩ := q
      simp only at hx
      cases ok with
      | false => simp at hx
      | true =>
        rw [if_pos rfl] at hx
        obtain ⟨hr2, hl2⟩ := run_o (T := T) _ hB1 hl hrun
        rw [hr2]
        simp only
        rw [if_pos trivial]
        generalize htm : b.2.2 = tm at hx hB2 ⊢
        cases tm with
        | none => exact ih _ _ _ _ hy hl2 hx
        | some en =>
          simp only at hx hB2 ⊢
          by_cases hir : mIsRet en.1 = true
          · rw [if_pos hir] at hx ⊢
            generalize mRet y en f1.2.2 = q at hx ⊢
            obtain ⟨r, ok2⟩ := q
            simp only at hx ⊢
            cases ok2 with
            | false => simp at hx
            | true =>
              rw [if_pos rfl] at hx ⊢
              have hx := Option.some.inj hx
              subst hx
              exact ⟨rfl, hl2⟩
          · rw [if_neg hir] at hx ⊢
            have hg : okG en.2.2.1.1 = true := by
              rw [Bool.or_eq_true] at hB2
              rcases hB2 with z | z
              · exact absurd z hir
              · exact z
            have hcc : mCall y en f1 (oV T h1) = mCall y en f1 h1 := rfl
            have hc1 : (mCall y en f1 h1).1 = en.2.2.1.1 := by
              unfold mCall
              split <;> rfl
            rw [hcc]
            generalize mCall y en f1 h1 = q at hx hc1 ⊢
            obtain ⟨y', as, rest, ok2⟩ := q
            simp only at hx ⊢
            cases ok2 with
            | false => simp at hx
            | true =>
              rw [if_pos rfl] at hx ⊢
              generalize hcal : mexec n y' (0, mEnt (yML y') as, []) h1 = oc at hx
              cases oc with
              | none => cases hx
              | some rr =>
                obtain ⟨z1, z2⟩ := ih _ _ _ _ ((congrArg okG (show y' = en.2.2.1.1 from hc1)).trans hg) hl2 hcal
                rw [z1]
                simp only [Option.bind_some] at hx ⊢
                exact ih _ _ _ _ hy z2 hx
