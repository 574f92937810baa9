/-! under and standing on -/
section UN
variable {q : LQ}
theorem und_iff (W : QW q) {d c : Nat} (hd : d < 8) : (und q d).testBit c = true ↔ ∃ k, (q 3 d).testBit k = true ∧ (k = c ∨ (und q k).testBit c = true) := by
  obtain ⟨u1, u2, u3, u4⟩ := und_ok W hd
  have hl := W.2.2.2.2.1 d hd
  constructor
  · intro h
    have tb : ∀ j, (ups (fun j => (q 3 d).testBit j || (List.range 8).any (fun k => (q 3 d).testBit k && (und q k).testBit j)) 8).testBit j = (decide (j < 8) && ((q 3 d).testBit j || (List.range 8).any (fun k => (q 3 d).testBit k && (und q k).testBit j))) := fun j => ups_tb _ _ _
    generalize ups (fun j => (q 3 d).testBit j || (List.range 8).any (fun k => (q 3 d).testBit k && (und q k).testBit j)) 8 = t at tb
    have ht : ∀ j, t.testBit j = true ↔ j < 8 ∧ ((q 3 d).testBit j = true ∨ ∃ k, k < 8 ∧ (q 3 d).testBit k = true ∧ (und q k).testBit j = true) := fun j => by
      rw [tb j]
      simp only [Bool.and_eq_true, decide_eq_true_eq, Bool.or_eq_true, List.any_eq_true, List.mem_range]
    have := u3 t (fun j hj => (ht j).2 ⟨by have := tbj_lt hl hj; omega, Or.inl hj⟩) (fun j hj i hi => by
      obtain ⟨h8, hj⟩ := (ht j).1 hj
      have hlj := W.2.2.2.2.1 j h8
      have hij := tbj_lt hlj hi
      refine (ht i).2 ⟨by omega, Or.inr ?_⟩
      rcases hj with hj | ⟨k, k1, k2, k3⟩
      · exact ⟨j, h8, hj, (und_ok W h8).1 i hi⟩
      · exact ⟨k, k1, k2, (und_ok W k1).2.1 j k3 i hi⟩) c h
    obtain ⟨_, h5 | ⟨k, _, k2, k3⟩⟩ := (ht c).1 this
    · exact ⟨c, h5, Or.inl rfl⟩
    · exact ⟨k, k2, Or.inr k3⟩
  · rintro ⟨k, k1, rfl | k2⟩
    · exact u1 k k1
    · have hk := tbj_lt hl k1
      exact (und_ok W (show k < 8 by omega)).2.2.1 (und q d) (u2 k (u1 k k1)) u2 c k2
theorem and_zz {a b : Nat} : a &&& b = 0 ↔ ∀ j, a.testBit j = true → b.testBit j = false := by
  constructor
  · intro h j hj
    have : (a &&& b).testBit j = false := by rw [h]; exact Nat.zero_testBit j
    rw [Nat.testBit_and, hj, Bool.true_and] at this
    exact this
  · intro h
    refine Nat.eq_of_testBit_eq (fun j => ?_)
    rw [Nat.testBit_and, Nat.zero_testBit]
    cases e : a.testBit j with
    | false => rfl
    | true => rw [h j e]; rfl
theorem sto_go (W : QW q) {c : Nat} (hc : c < q 0 0) : ∀ k, k ≤ q 0 0 - (c + 1) → ∀ j, (up (stf q c) k (1 <<< c)).testBit j = true ↔ j = c ∨ (c < j ∧ j < c + 1 + k ∧ (und q j).testBit c = true) := by
  have hn := W.1.1
  refine up_inv (f := stf q c) (I := fun k s => ∀ j, s.testBit j = true ↔ j = c ∨ (c < j ∧ j < c + 1 + k ∧ (und q j).testBit c = true)) (n := q 0 0 - (c + 1)) (fun k s hk hs j => ?_) (fun j => ?_)
  · have hd : c + 1 + k < 8 := by omega
    have hl := W.2.2.2.2.1 (c + 1 + k) hd
    have hiff : ¬ (q 3 (c + 1 + k) &&& s = 0) ↔ (und q (c + 1 + k)).testBit c = true := by
      rw [und_iff W hd, and_zz]
      constructor
      · intro hne
        refine Classical.byContradiction (fun hno => hne (fun i hi => ?_))
        cases e : s.testBit i with
        | false => rfl
        | true =>
          refine absurd ⟨i, hi, ?_⟩ hno
          rcases (hs i).1 e with h1 | ⟨_, _, h3⟩
          · exact Or.inl h1
          · exact Or.inr h3
      · rintro ⟨i, hi, h2⟩ hall
        have hil := tbj_lt hl hi
        have h3 := hall i hi
        have h4 : s.testBit i = true := by
          rcases h2 with h2 | h2
          · exact (hs i).2 (Or.inl h2)
          · have hci := (und_ok W (show i < 8 by omega)).2.2.2 c h2
            exact (hs i).2 (Or.inr ⟨hci, hil, h2⟩)
        rw [h4] at h3
        cases h3
    unfold stf
    by_cases e : q 3 (c + 1 + k) &&& s = 0
    · rw [if_pos e, hs j]
      have hu : ¬ (und q (c + 1 + k)).testBit c = true := fun h => hiff.2 h e
      constructor
      · rintro (h1 | ⟨h1, h2, h3⟩)
        · exact Or.inl h1
        · exact Or.inr ⟨h1, by omega, h3⟩
      · rintro (h1 | ⟨h1, h2, h3⟩)
        · exact Or.inl h1
        · by_cases ej : j = c + 1 + k
          · rw [ej] at h3; exact absurd h3 hu
          · exact Or.inr ⟨h1, by omega, h3⟩
    · rw [if_neg e, Nat.testBit_or, Bool.or_eq_true, hs j, Nat.one_shiftLeft, Nat.testBit_two_pow, decide_eq_true_eq]
      have hu := hiff.1 e
      constructor
      · rintro ((h1 | ⟨h1, h2, h3⟩) | h1)
        · exact Or.inl h1
        · exact Or.inr ⟨h1, by omega, h3⟩
        · rw [← h1]; exact Or.inr ⟨by omega, by omega, hu⟩
      · rintro (h1 | ⟨h1, h2, h3⟩)
        · exact Or.inl (Or.inl h1)
        · by_cases ej : j = c + 1 + k
          · exact Or.inr ej.symm
          · exact Or.inl (Or.inr ⟨h1, by omega, h3⟩)
  · rw [Nat.one_shiftLeft, Nat.testBit_two_pow, decide_eq_true_eq]
    constructor
    · intro h; exact Or.inl h.symm
    · rintro (h | ⟨h1, h2, _⟩)
      · exact h.symm
      · omega
/-- what stands on c: c, and all that c is under -/
theorem sto_iff (W : QW q) {c j : Nat} (hc : c < q 0 0) (hj : j < q 0 0) : (sto q c).testBit j = true ↔ j = c ∨ (und q j).testBit c = true := by
  have hn := W.1.1
  unfold sto
  rw [sto_go W hc _ (Nat.le_refl _) j]
  constructor
  · rintro (h | ⟨_, _, h⟩)
    · exact Or.inl h
    · exact Or.inr h
  · rintro (h | h)
    · exact Or.inl h
    · have := (und_ok W (show j < 8 by omega)).2.2.2 c h
      exact Or.inr ⟨this, by omega, h⟩
end UN
