/-! what is under a CHAPTER: the least closed set -/
def sub (s t : Nat) : Prop := ∀ j, s.testBit j = true → t.testBit j = true
/-- a set that holds what its own lean on -/
def clo (q : LQ) (t : Nat) : Prop := ∀ j, t.testBit j = true → sub (q 3 j) t
theorem tbj_lt {x n j : Nat} (h : x < 2 ^ n) (hj : x.testBit j = true) : j < n := by
  refine Decidable.byContradiction (fun hn => ?_)
  have : x.testBit j = false := Nat.testBit_lt_two_pow (Nat.lt_of_lt_of_le h (Nat.pow_le_pow_right (by omega) (by omega)))
  rw [this] at hj
  cases hj
theorem und_go {q : LQ} (W : QW q) {d : Nat} (hd : d < 8) : ∀ k, k ≤ d → ∀ s, (∀ j, s.testBit j = true → j < d) → sub (q 3 d) s → (∀ j, k ≤ j → s.testBit j = true → sub (q 3 j) s) → (∀ t, sub (q 3 d) t → clo q t → sub s t) → sub (q 3 d) (dn (unf q) k s) ∧ clo q (dn (unf q) k s) ∧ (∀ t, sub (q 3 d) t → clo q t → sub (dn (unf q) k s) t) ∧ ∀ j, (dn (unf q) k s).testBit j = true → j < d := by
  intro k
  induction k with
  | zero =>
    intro _ s h1 h2 h3 h4
    exact ⟨h2, fun j hj => h3 j (Nat.zero_le _) hj, h4, h1⟩
  | succ k ih =>
    intro hk s h1 h2 h3 h4
    show _ ∧ _ ∧ _ ∧ _
    have hl := W.2.2.2.2.1 k (by omega)
    have e : dn (unf q) (k + 1) s = dn (unf q) k (unf q k s) := rfl
    rw [e]
    by_cases hb : s.testBit k = true
    · have eu : unf q k s = s ||| q 3 k := by unfold unf; rw [if_pos hb]
      rw [eu]
      refine ih (by omega) _ (fun j hj => ?_) (fun j hj => ?_) (fun j hj hb2 i hi => ?_) (fun t ht hc j hj => ?_)
      · rw [Nat.testBit_or, Bool.or_eq_true] at hj
        rcases hj with hj | hj
        · exact h1 j hj
        · have := tbj_lt hl hj; omega
      · rw [Nat.testBit_or, h2 j hj, Bool.true_or]
      · rw [Nat.testBit_or, Bool.or_eq_true] at hb2
        rw [Nat.testBit_or, Bool.or_eq_true]
        rcases hb2 with hb2 | hb2
        · by_cases ejk : j = k
          · rw [ejk] at hi; exact Or.inr hi
          · exact Or.inl (h3 j (by omega) hb2 i hi)
        · have := tbj_lt hl hb2; omega
      · rw [Nat.testBit_or, Bool.or_eq_true] at hj
        rcases hj with hj | hj
        · exact h4 t ht hc j hj
        · exact hc k (h4 t ht hc k hb) j hj
    · have eu : unf q k s = s := by unfold unf; rw [if_neg hb]
      rw [eu]
      refine ih (by omega) s h1 h2 (fun j hj hb2 => ?_) h4
      by_cases ejk : j = k
      · rw [ejk] at hb2; exact absurd hb2 hb
      · exact h3 j (by omega) hb2
theorem und_ok {q : LQ} (W : QW q) {d : Nat} (hd : d < 8) : sub (q 3 d) (und q d) ∧ clo q (und q d) ∧ (∀ t, sub (q 3 d) t → clo q t → sub (und q d) t) ∧ ∀ j, (und q d).testBit j = true → j < d := by
  have hl := W.2.2.2.2.1 d hd
  exact und_go W hd d (Nat.le_refl _) (q 3 d) (fun j hj => tbj_lt hl hj) (fun j hj => hj) (fun j hj hb => by have := tbj_lt hl hb; omega) (fun t ht _ => ht)
