/-! the law's loop, run -/
theorem l6_s : ∀ n, n < 6 → ∀ i, i < 6 → iN n - iN 6 < iN i := by decide
theorem l6_p {n i : Nat} (hn : n < 2147483648) (hi : i ≤ n) (h : n < i + 6) : iN n - iN 6 < iN i := by
  by_cases e : n < 6
  · exact l6_s n e i (by omega)
  · rw [iN_sub (by omega), iN_lt (by omega) (by omega)]; omega
theorem l6_n {n i : Nat} (hn : n < 2147483648) (h : i + 6 ≤ n) : ¬ iN n - iN 6 < iN i := by
  rw [iN_sub (by omega), iN_lt (by omega) (by omega)]; omega
theorem lw_body {h : mH} {S : Nat → Int32} {n i : Nat} (hn : n < 2147483648) (hi : i + 6 ≤ n) (R : Rel h) (X : Sc S n h) : ∃ h', f302_18 2000000 0 193 (iN i, h) = some (.inl (iN (i + 6), h')) ∧ Rel h' ∧ Sc S n h' := by
  have c0 : ¬ (mI ((iN i, h) : Int32 × mH).2 2000001 0 - 6 : Int32) < ((iN i, h) : Int32 × mH).1 := by
    show ¬ mI h 2000001 0 - iN 6 < iN i
    rw [X.2]; exact l6_n hn hi
  have c1 : ((Nat.beq 2000000 2000000 && mIn ((iN i, h) : Int32 × mH).1 (Int32.toNatClampNeg (mI ((iN i, h) : Int32 × mH).2 2000001 0))) && true) = true := by
    show ((Nat.beq 2000000 2000000 && mIn (iN i) (Int32.toNatClampNeg (mI h 2000001 0))) && true) = true
    rw [X.2, iN_cl hn, iN_in (by omega) (by omega), nbeq]; rfl
  unfold f302_18
  rw [show (Nat.beq 2000000 2000000 && true) = true from rfl, gT, if_neg c0, c1, gT]
  generalize (mI ((iN i, h) : Int32 × mH).2 2000000 (Int32.toNatClampNeg ((iN i, h) : Int32 × mH).1) &&& 63 : Int32) = c
  by_cases e0 : c = (0 : Int32)
  · rw [if_pos e0]; exact lw_0 hn hi R X
  rw [if_neg e0]
  by_cases e1 : c = (1 : Int32)
  · rw [if_pos e1]; exact lw_1 hn hi R X
  rw [if_neg e1]
  by_cases e2 : c = (2 : Int32)
  · rw [if_pos e2]; exact lw_2 hn hi R X
  rw [if_neg e2]
  by_cases e3 : c = (3 : Int32)
  · rw [if_pos e3]; exact lw_3 hn hi R X
  rw [if_neg e3]
  by_cases e4 : c = (4 : Int32)
  · rw [if_pos e4]; exact lw_4 hn hi R X
  rw [if_neg e4]
  by_cases e5 : c = (5 : Int32)
  · rw [if_pos e5]; exact lw_5 hn hi R X
  rw [if_neg e5]
  by_cases e6 : c = (6 : Int32)
  · rw [if_pos e6]; exact lw_6 hn hi R X
  rw [if_neg e6]
  by_cases e7 : c = (7 : Int32)
  · rw [if_pos e7]; exact lw_7 hn hi R X
  rw [if_neg e7]
  by_cases e8 : c = (8 : Int32)
  · rw [if_pos e8]; exact lw_8 hn hi R X
  rw [if_neg e8]
  by_cases e9 : c = (9 : Int32)
  · rw [if_pos e9]; exact lw_9 hn hi R X
  rw [if_neg e9]
  by_cases e10 : c = (10 : Int32)
  · rw [if_pos e10]; exact lw_10 hn hi R X
  rw [if_neg e10]
  by_cases e11 : c = (11 : Int32)
  · rw [if_pos e11]; exact lw_11 hn hi R X
  rw [if_neg e11]
  by_cases e12 : c = (12 : Int32)
  · rw [if_pos e12]; exact lw_12 hn hi R X
  rw [if_neg e12]
  by_cases e13 : c = (13 : Int32)
  · rw [if_pos e13]; exact lw_13 hn hi R X
  rw [if_neg e13]
  by_cases e14 : c = (14 : Int32)
  · rw [if_pos e14]; exact lw_14 hn hi R X
  rw [if_neg e14]
  by_cases e15 : c = (15 : Int32)
  · rw [if_pos e15]; exact lw_15 hn hi R X
  rw [if_neg e15]
  by_cases e16 : c = (16 : Int32)
  · rw [if_pos e16]; exact lw_16 hn hi R X
  rw [if_neg e16]
  by_cases e17 : c = (17 : Int32)
  · rw [if_pos e17]; exact lw_17 hn hi R X
  rw [if_neg e17]
  by_cases e18 : c = (18 : Int32)
  · rw [if_pos e18]; exact lw_18 hn hi R X
  rw [if_neg e18]
  by_cases e19 : c = (19 : Int32)
  · rw [if_pos e19]; exact lw_19 hn hi R X
  rw [if_neg e19]
  by_cases e20 : c = (20 : Int32)
  · rw [if_pos e20]; exact lw_20 hn hi R X
  rw [if_neg e20]
  by_cases e21 : c = (21 : Int32)
  · rw [if_pos e21]; exact lw_21 hn hi R X
  rw [if_neg e21]
  by_cases e22 : c = (22 : Int32)
  · rw [if_pos e22]; exact lw_22 hn hi R X
  rw [if_neg e22]
  by_cases e23 : c = (23 : Int32)
  · rw [if_pos e23]; exact lw_23 hn hi R X
  rw [if_neg e23]
  by_cases e24 : c = (24 : Int32)
  · rw [if_pos e24]; exact lw_24 hn hi R X
  rw [if_neg e24]
  by_cases e25 : c = (25 : Int32)
  · rw [if_pos e25]; exact lw_25 hn hi R X
  rw [if_neg e25]
  by_cases e26 : c = (26 : Int32)
  · rw [if_pos e26]; exact lw_26 hn hi R X
  rw [if_neg e26]
  by_cases e27 : c = (27 : Int32)
  · rw [if_pos e27]; exact lw_27 hn hi R X
  rw [if_neg e27]
  by_cases e28 : c = (28 : Int32)
  · rw [if_pos e28]; exact lw_28 hn hi R X
  rw [if_neg e28]
  by_cases e29 : c = (29 : Int32)
  · rw [if_pos e29]; exact lw_29 hn hi R X
  rw [if_neg e29]
  by_cases e30 : c = (30 : Int32)
  · rw [if_pos e30]; exact lw_30 hn hi R X
  rw [if_neg e30]
  by_cases e31 : c = (31 : Int32)
  · rw [if_pos e31]; exact lw_31 hn hi R X
  rw [if_neg e31]
  by_cases e32 : c = (32 : Int32)
  · rw [if_pos e32]; exact lw_32 hn hi R X
  rw [if_neg e32]
  by_cases e33 : c = (33 : Int32)
  · rw [if_pos e33]; exact lw_33 hn hi R X
  rw [if_neg e33]
  by_cases e34 : c = (34 : Int32)
  · rw [if_pos e34]; exact lw_34 hn hi R X
  rw [if_neg e34]
  by_cases e35 : c = (35 : Int32)
  · rw [if_pos e35]; exact lw_35 hn hi R X
  rw [if_neg e35]
  by_cases e36 : c = (36 : Int32)
  · rw [if_pos e36]; exact lw_36 hn hi R X
  rw [if_neg e36]
  refine ⟨h, ?_, R, X⟩
  show some (Sum.inl (iN i + iN 6, h)) = some (Sum.inl (iN (i + 6), h))
  rw [iN_add]
theorem lw_loop {S : Nat → Int32} {n : Nat} (hn : n < 2147483648) : ∀ (k i : Nat) (h : mH), i ≤ n → n < i + 6 * k + 6 → Rel h → Sc S n h → ∃ h', mLoop (f302_18 2000000 0 193) (k + 1) (iN i, h) = some (iN 1, h') ∧ Rel h' ∧ Sc S n h' := by
  have fin : ∀ (i : Nat) (h : mH), i ≤ n → n < i + 6 → Sc S n h → f302_18 2000000 0 193 (iN i, h) = some (.inr (iN 1, h)) := fun i h h1 h2 X => by
    have c0 : (mI ((iN i, h) : Int32 × mH).2 2000001 0 - 6 : Int32) < ((iN i, h) : Int32 × mH).1 := by
      show mI h 2000001 0 - iN 6 < iN i
      rw [X.2]; exact l6_p hn h1 h2
    unfold f302_18
    rw [show (Nat.beq 2000000 2000000 && true) = true from rfl, gT, if_pos c0]
    rfl
  intro k
  induction k with
  | zero =>
    intro i h h1 h2 R X
    refine ⟨h, ?_, R, X⟩
    simp only [mLoop, fin i h h1 (by omega) X]
  | succ k ih =>
    intro i h h1 h2 R X
    by_cases e : n < i + 6
    · refine ⟨h, ?_, R, X⟩
      simp only [mLoop, fin i h h1 e X]
    · obtain ⟨h', a1, a2, a3⟩ := lw_body hn (show i + 6 ≤ n by omega) R X
      obtain ⟨h2', b1, b2, b3⟩ := ih (i + 6) h' (by omega) (by omega) a2 a3
      refine ⟨h2', ?_, b2, b3⟩
      rw [mLoop, a1]
      exact b1
