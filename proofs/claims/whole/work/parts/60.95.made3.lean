/-! what the makers leave -/
def fzL : List (Nat × Nat × Int32) := [(1, 5, iN 0), (195, 0, iN 0), (1, 6, iN 0), (196, 0, iN 0), (1, 7, jN), (197, 0, jN), (3, 0, iN 0), (3, 1, iN 0), (3, 2, iN 0), (198, 0, iN 0), (198, 1, iN 0), (198, 2, iN 0), (36, 0, iN 0), (36, 1, iN 0), (36, 2, iN 0), (217, 0, iN 0), (217, 1, iN 0), (217, 2, iN 0)]
def chR (r : Option (Option Value × mH)) : Bool := match r with
  | some (none, h) => R0.all (fun q => decide (mR h q.1 q.2.1 = some q.2.2)) && fzL.all (fun q => decide (mI h q.1 q.2.1 = q.2.2))
  | _ => false
theorem mkB_o2 : chR mkB = true := by decide +kernel
theorem chR_s {r : Option (Option Value × mH)} (h : chR r = true) : (∀ q ∈ R0, mR (pick r) q.1 q.2.1 = some q.2.2) ∧ ∀ q ∈ fzL, mI (pick r) q.1 q.2.1 = q.2.2 := by
  cases r with
  | none => cases h
  | some q =>
    obtain ⟨o, g⟩ := q
    cases o with
    | some v => cases h
    | none =>
      obtain ⟨h1, h2⟩ := w_and h
      exact ⟨fun q hq => of_decide_eq_true (List.all_eq_true.1 h1 q hq), fun q hq => of_decide_eq_true (List.all_eq_true.1 h2 q hq)⟩
/-- the two makers' heaps, by what is known of them -/
theorem made : ∃ gA gB : mH, mexec 400 0 (0, mEnt (yML 0) [.ref 0], []) (mNw hC 0 9) = some (none, gA) ∧ gA.1.length = 193 ∧ mexec 400 175 (0, mEnt (yML 175) [.ref 193], []) (mNw gA 12 51) = some (none, gB) ∧ gB.1 = H0 ∧ (∀ q ∈ R0, mR gB q.1 q.2.1 = some q.2.2) ∧ ∀ q ∈ fzL, mI gB q.1 q.2.1 = q.2.2 := by
  obtain ⟨a1, a2⟩ := chA_s mkA_ok
  obtain ⟨b1, b2⟩ := chB1_s mkB_o1
  obtain ⟨c1, c2⟩ := chR_s mkB_o2
  exact ⟨pick mkA, pick mkB, a1, a2, b1, b2, c1, c2⟩
theorem made_rel {T : Nat → Nat → Int32} {g : mH} (k : g.1 = H0) (r : ∀ q ∈ R0, mR g q.1 q.2.1 = some q.2.2) (z : ∀ q ∈ fzL, mI g q.1 q.2.1 = q.2.2) : Rel (oV T g) := by
  have i : ∀ a j v, (a, j, v) ∈ fzL → a < 1000000 → mI (oV T g) a j = v := fun a j v h1 h2 => (oV_I h2).trans (z (a, j, v) h1)
  refine ⟨⟨k, r⟩, ⟨⟨0, by omega, i 1 5 (iN 0) (List.mem_of_getElem? (i := 0) rfl) (by decide), i 195 0 (iN 0) (List.mem_of_getElem? (i := 1) rfl) (by decide), fun i hi => by omega⟩, ⟨⟨0, by omega, i 1 6 (iN 0) (List.mem_of_getElem? (i := 2) rfl) (by decide), i 196 0 (iN 0) (List.mem_of_getElem? (i := 3) rfl) (by decide)⟩, none, fun p e => (by cases e), i 1 7 (jN) (List.mem_of_getElem? (i := 4) rfl) (by decide), i 197 0 (jN) (List.mem_of_getElem? (i := 5) rfl) (by decide)⟩, ⟨0, by omega, i 3 0 (iN 0) (List.mem_of_getElem? (i := 6) rfl) (by decide), i 198 0 (iN 0) (List.mem_of_getElem? (i := 9) rfl) (by decide), fun i hi => by omega⟩, ⟨0, by omega, i 3 1 (iN 0) (List.mem_of_getElem? (i := 7) rfl) (by decide), i 198 1 (iN 0) (List.mem_of_getElem? (i := 10) rfl) (by decide), fun i hi => by omega⟩, ⟨0, by omega, i 3 2 (iN 0) (List.mem_of_getElem? (i := 8) rfl) (by decide), i 198 2 (iN 0) (List.mem_of_getElem? (i := 11) rfl) (by decide), fun i hi => by omega⟩⟩, fun k hk => ⟨false, ?_, ?_, fun e => by cases e⟩⟩
  · have : k = 0 ∨ k = 1 ∨ k = 2 := by omega
    rcases this with rfl | rfl | rfl
    · exact i 36 0 (iN 0) (List.mem_of_getElem? (i := 12) rfl) (by decide)
    · exact i 36 1 (iN 0) (List.mem_of_getElem? (i := 13) rfl) (by decide)
    · exact i 36 2 (iN 0) (List.mem_of_getElem? (i := 14) rfl) (by decide)
  · have : k = 0 ∨ k = 1 ∨ k = 2 := by omega
    rcases this with rfl | rfl | rfl
    · exact i 217 0 (iN 0) (List.mem_of_getElem? (i := 15) rfl) (by decide)
    · exact i 217 1 (iN 0) (List.mem_of_getElem? (i := 16) rfl) (by decide)
    · exact i 217 2 (iN 0) (List.mem_of_getElem? (i := 17) rfl) (by decide)
theorem oV_hi {T : Nat → Nat → Int32} {h : mH} {a j : Nat} (ha : 1000000 ≤ a) : mI (oV T h) a j = T a j := if_pos ha
/-- both makers, one behind the other, on a heap with a script -/
theorem made_run {T : Nat → Nat → Int32} {S : Nat → Int32} {n : Nat} (h1 : ∀ j, T 2000000 j = S j) (h2 : T 2000001 0 = iN n) : ∃ gA gB : mH, mexec 400 0 (0, mEnt (yML 0) [.ref 0], []) (mNw (oV T hC) 0 9) = some (none, gA) ∧ gA.1.length = 193 ∧ mexec 400 175 (0, mEnt (yML 175) [.ref 193], []) (mNw gA 12 51) = some (none, gB) ∧ Rel gB ∧ Sc S n gB := by
  obtain ⟨gA, gB, a1, a2, b1, b2, b3, b4⟩ := made
  refine ⟨oV T gA, oV T gB, ?_, a2, ?_, made_rel b2 b3 b4, fun j => (oV_hi (by decide)).trans (h1 j), (oV_hi (by decide)).trans h2⟩
  · rw [oV_Nw (show hC.1.length < 1000000 by decide)]
    exact (exec_o 400 0 _ _ (none, gA) (by decide) (by decide) a1).1
  · rw [oV_Nw (by rw [a2]; decide)]
    exact (exec_o 400 175 _ _ (none, gB) (by decide) (by
      show (gA.1 ++ [(12, 51)]).length ≤ 1000000
      rw [List.length_append, a2]; decide) b1).1
