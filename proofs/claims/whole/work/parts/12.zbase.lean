/-! three rows that later parts take -/
theorem tri {α β γ : Type} {a a' : α} {b b' : β} {c c' : γ} (h : (a, b, c) = (a', b', c')) : a = a' ∧ b = b' ∧ c = c' := by
  injection h with h1 h2
  injection h2 with h2 h3
  exact ⟨h1, h2, h3⟩
theorem w_and {a b : Bool} (h : (a && b) = true) : a = true ∧ b = true := by simpa using h
theorem run_cons {f f' : mF} {h h' : mH} {e0 : mE} {r : List mE} (hs : mrun (e0 :: r) f h = (f', h', true)) : ∃ f1 h1, mstep e0 f h = (f1, h1, true) ∧ mrun r f1 h1 = (f', h', true) := by
  simp only [mrun] at hs
  generalize hq : mstep e0 f h = q at hs
  obtain ⟨f1, h1, o1⟩ := q
  simp only at hs
  generalize hq2 : mrun r f1 h1 = q2 at hs
  obtain ⟨f2, h2, o2⟩ := q2
  simp only at hs
  obtain ⟨rfl, rfl, ho⟩ := tri hs
  obtain ⟨ho1, ho2⟩ := w_and ho
  subst ho1 ho2
  exact ⟨f1, h1, rfl, hq2⟩
