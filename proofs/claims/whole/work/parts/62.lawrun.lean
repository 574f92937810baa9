/-! the law's run -/
/-- a maker, as the machine runs it -/
def fMk (y : Nat) (h : mH) (a : Nat) : Option (Unit × mH) := (mexec 400 y (0, mEnt (yML y) [.ref a], []) h).bind (fun r => match r.1 with
  | none => some ((), r.2)
  | some _ => none)
theorem fMk_e {y : Nat} {h g : mH} {a : Nat} (e : mexec 400 y (0, mEnt (yML y) [.ref a], []) h = some (none, g)) : fMk y h a = some ((), g) := by
  unfold fMk
  rw [e]; rfl
theorem sMk (y : Nat) (h : mH) (a : Nat) : Seg y (0, mEnt (yML y) [.ref a], []) h (fMk y h a) (fun q res => res = (none, q.2)) := by
  intro t ht res hE
  unfold fMk at ht
  generalize hx : mexec 400 y (0, mEnt (yML y) [.ref a], []) h = r at ht
  cases r with
  | none => cases ht
  | some r =>
    obtain ⟨o, g⟩ := r
    cases o with
    | some v => cases ht
    | none =>
      have e : t = ((), g) := (Option.some.inj ht).symm
      rw [hE, e]
      exact ⟨400, hx⟩
theorem s302 (h : mH) (N : Nat) : Seg 302 (0, [.ref 2000000, .retAddr 0, .retAddr 0, .retAddr 0], []) h (mGd ((Nat.blt h.1.length 1000000 && true) && true) ((fMk 0 (mNw h 0 9) h.1.length).bind (fun q1 => mGd ((Nat.blt q1.2.1.length 1000000 && true) && true) ((fMk 175 (mNw q1.2 12 51) q1.2.1.length).bind (fun q2 => mLoop (f302_18 2000000 h.1.length q1.2.1.length) N (0, q2.2)))))) (fun (q : Int32 × mH) (res : Option Value × mH) => res = (some (.int q.1), q.2)) := by
  refine Seg.call (f1 := (4, [.ref 2000000, .retAddr 0, .retAddr 0, .retAddr 0], [.ref h.1.length, .ref h.1.length])) (h1 := mNw h 0 9) (cv := fun _ => none) rfl rfl rfl rfl (sMk 0 (mNw h 0 9) h.1.length) (fun q1 => ?_)
  refine Seg.call (f1 := (12, [.ref 2000000, .ref h.1.length, .retAddr 0, .retAddr 0], [.ref q1.2.1.length, .ref q1.2.1.length])) (h1 := mNw q1.2 12 51) (cv := fun _ => none) rfl rfl rfl rfl (sMk 175 (mNw q1.2 12 51) q1.2.1.length) (fun q2 => ?_)
  refine Seg.blk0 (f' := (18, [.ref 2000000, .ref h.1.length, .ref q1.2.1.length, .int 0], [])) (h' := q2.2) rfl rfl ?_
  exact s302_18 2000000 h.1.length q1.2.1.length N (0, q2.2)
theorem law_ev {T : Nat → Nat → Int32} {S : Nat → Int32} {n : Nat} (hn : n < 2147483648) (h1 : ∀ j, T 2000000 j = S j) (h2 : T 2000001 0 = iN n) : ∃ h', Ev 302 (0, mEnt 4 [.ref 2000000], []) (oV T hC) (some (.int 1), h') ∧ Rel h' := by
  obtain ⟨gA, gB, a1, a2, b1, R, X⟩ := made_run h1 h2
  obtain ⟨h', l1, l2, l3⟩ := lw_loop hn (n / 6) 0 gB (by omega) (by omega) R X
  refine ⟨h', ?_, l2⟩
  have e1 : fMk 0 (mNw (oV T hC) 0 9) 0 = some ((), gA) := fMk_e a1
  have e2 : fMk 175 (mNw gA 12 51) 193 = some ((), gB) := fMk_e b1
  refine s302 (oV T hC) (n / 6 + 1) (iN 1, h') ?_ _ rfl
  show mGd ((Nat.blt 0 1000000 && true) && true) ((fMk 0 (mNw (oV T hC) 0 9) 0).bind (fun q1 => mGd ((Nat.blt q1.2.1.length 1000000 && true) && true) ((fMk 175 (mNw q1.2 12 51) q1.2.1.length).bind (fun q2 => mLoop (f302_18 2000000 0 q1.2.1.length) (n / 6 + 1) (iN 0, q2.2))))) = some (iN 1, h')
  rw [e1, show ((Nat.blt 0 1000000 && true) && true) = true from rfl, mGd_t, Option.bind_some]
  show mGd ((Nat.blt gA.1.length 1000000 && true) && true) ((fMk 175 (mNw gA 12 51) gA.1.length).bind (fun q2 => mLoop (f302_18 2000000 0 gA.1.length) (n / 6 + 1) (iN 0, q2.2))) = some (iN 1, h')
  rw [a2, e2, show ((Nat.blt 193 1000000 && true) && true) = true from rfl, mGd_t, Option.bind_some]
  exact l1
