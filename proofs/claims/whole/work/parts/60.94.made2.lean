/-! the makers, run by the kernel -/
def hC : mH := ([], fun _ _ => 0, fun _ _ => none, fun _ _ => 0)
def pick (r : Option (Option Value × mH)) : mH := match r with
  | some q => q.2
  | none => hC
def mkA : Option (Option Value × mH) := mexec 400 0 (0, mEnt (yML 0) [.ref 0], []) (mNw hC 0 9)
def mkB : Option (Option Value × mH) := mexec 400 175 (0, mEnt (yML 175) [.ref 193], []) (mNw (pick mkA) 12 51)
def chA (r : Option (Option Value × mH)) : Bool := match r with
  | some (none, h) => decide (h.1.length = 193)
  | _ => false
def chB1 (r : Option (Option Value × mH)) : Bool := match r with
  | some (none, h) => decide (h.1 = H0)
  | _ => false
theorem chA_s {r : Option (Option Value × mH)} (h : chA r = true) : r = some (none, pick r) ∧ (pick r).1.length = 193 := by
  cases r with
  | none => cases h
  | some q =>
    obtain ⟨o, g⟩ := q
    cases o with
    | none => exact ⟨rfl, of_decide_eq_true h⟩
    | some v => cases h
theorem chB1_s {r : Option (Option Value × mH)} (h : chB1 r = true) : r = some (none, pick r) ∧ (pick r).1 = H0 := by
  cases r with
  | none => cases h
  | some q =>
    obtain ⟨o, g⟩ := q
    cases o with
    | none => exact ⟨rfl, of_decide_eq_true h⟩
    | some v => cases h
theorem mkA_ok : chA mkA = true := by decide +kernel
theorem mkB_o1 : chB1 mkB = true := by decide +kernel
