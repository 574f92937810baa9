/-! finish: the day, by both -/
theorem pc_full : ∀ n, n < 9 → pc (2 ^ n - 1) = n ∧ ∀ s, s < 2 ^ n → pc s ≤ n ∧ (pc s = n → s = 2 ^ n - 1) := by decide +kernel
section FI
variable {q : LQ} {P : Nat → Nat} {m T : Nat} {D : Nat → AZ}
def fAll (q : LQ) (D : Nat → AZ) (i : Nat) : Bool := decide (sRd (D i).1 = 2 ^ q 0 0 - 1)
theorem D_mono (A : aD q P m D) : ∀ j i, (D i).2.1 ≤ (D (i + j)).2.1 := by
  intro j
  induction j with
  | zero => intro i; exact Nat.le_refl _
  | succ j ih =>
    intro i
    refine Nat.le_trans (ih i) ?_
    show _ ≤ (D (i + j + 1)).2.1
    rw [A.2]
    exact dgo_m (q := q) 8 (amor q (D (i + j)))
theorem fAll_m (W : QW q) (A : aD q P m D) (i : Nat) : (D i).2.1 ≤ q 0 0 ∧ (fAll q D i = true ↔ (D i).2.1 = q 0 0) := by
  obtain ⟨S, e⟩ := D_pc W A i
  have hn := W.1.1
  obtain ⟨f1, f2⟩ := pc_full (q 0 0) (by omega)
  obtain ⟨g1, g2⟩ := f2 _ S.2.2.1
  refine ⟨by omega, ?_⟩
  unfold fAll
  rw [decide_eq_true_eq]
  constructor
  · intro h; rw [e, h]; exact f1
  · intro h; exact g2 (by omega)
theorem fz_none {Z : Nat → Bool} : ∀ n k, (∀ j, k ≤ j → j < k + n → Z j = false) → fz Z n k = none := by
  intro n
  induction n with
  | zero => intro k _; rfl
  | succ n ih =>
    intro k h
    show (if Z k = true then some k else fz Z n (k + 1)) = none
    rw [h k (by omega) (by omega)]
    exact ih (k + 1) (fun j h1 h2 => h j (by omega) (by omega))
theorem fin_eq (W : QW q) (A : aD q P m D) (L : lastD D 99 T) : (if (D 99).2.1 = q 0 0 then iN T else jN) = zN (fz (fAll q D) 100 0) := by
  obtain ⟨t1, t2, t3⟩ := L
  by_cases e : (D 99).2.1 = q 0 0
  · rw [if_pos e]
    have e2 : (D T).2.1 = q 0 0 := by rw [← t3 99 t1 (Nat.le_refl _)]; exact e
    have h1 := (fAll_m W A T).2.2 e2
    rw [fz_first h1 100 0 (Nat.zero_le _) (by omega) (fun j _ hj => by
      have g1 := t2 j hj
      obtain ⟨g2, _⟩ := fAll_m W A (j + 1)
      obtain ⟨_, g3⟩ := fAll_m W A j
      cases ej : fAll q D j with
      | false => rfl
      | true => have := g3.1 ej; omega)]
    rfl
  · rw [if_neg e]
    rw [fz_none 100 0 (fun j _ hj => by
      obtain ⟨_, g3⟩ := fAll_m W A j
      obtain ⟨g4, _⟩ := fAll_m W A 99
      cases ej : fAll q D j with
      | false => rfl
      | true =>
        have g5 := g3.1 ej
        have g6 := D_mono A (99 - j) j
        rw [show j + (99 - j) = 99 by omega] at g6
        omega)]
    rfl
end FI
section FC
variable {h : mH} {la : Nat} {q : LQ} {D : Nat → AZ}
theorem t126 (w : Wd h) (H : LibS h la q) (W : QW q) (p : la + 7 ≤ 66) (A : aD q (fun _ => 0) 0 D) : ∃ h', f126 h 66 la = some (zN (fz (fAll q D) 100 0), h') ∧ FQ h h' := by
  have hn := W.1.1
  obtain ⟨h1, a1, a2, a3, T, a4, a5⟩ := t84 (n := 99) (m := 0) w H W p (by omega) (fun i hi => by omega) A (by omega)
  have w1 := a3.1
  have H1 := a3.2.2.1
  have b1 : mI h1 66 3 = iN (D 99).2.1 := a3.2.2.2.2.1
  have b2 := (fAll_m W A 99).1
  refine ⟨h1, ?_, a2.q⟩
  rw [← fin_eq W A a5]
  unfold f126 f126_27
  simp (disch := omega) only [gT, nbeq, Option.isSome_some, Option.getD_some, Bool.and_true, Bool.true_and, Bool.and_self, mX_some, bS, bN_if, bN_01, i1_01, i0_01, if_true, if_false, Bool.false_eq_true, false_and, and_false, and_true, true_and, and_self, Bool.or_false, Bool.false_or, Bool.or_true, Bool.true_or, Bool.false_and, Bool.and_false, decide_true, decide_false, L0, L1, L2, L3, L4, L5, L6, L7, L8, L9, L10, L11, L12, L13, L14, L15, L16, L17, L18, L19, L20, L21, L22, L23, L24, L25, L27, L33, L39, L40, L45, L48, L57, L60, L72, L90, L97, L98, L99, L100, L121, L122, L242, L255, L256, L580, L600, L1000, L1584, L1000000, Ln1, iN_add, iN_and, iN_or, iN_nd, iN_shl, iN_shr, iN_cl, iN_in, iN_mul, k66 w, r66_0 w, r66_1 w, r66_2 w, r66_4 w, k66 w1, r66_0 w1, r66_1 w1, r66_2 w1, r66_4 w1, a1, b1, H1.k, H1.n, a4]
  by_cases e : (D 99).2.1 = q 0 0
  · rw [ieq_p e, if_pos e]
  · rw [ieq_n (by omega) (by omega) e, if_neg e]
theorem t127 (w : Wd h) (H : LibS h la q) (W : QW q) (p : la + 7 ≤ 66) (A : aD q (fun _ => 0) 0 D) : ∃ h', f127 h 66 la = some (iN (nd (2 ^ q 0 0 - 1) (sRd (D 99).1)), h') ∧ FQ h h' := by
  have hn := W.1.1
  obtain ⟨h1, a1, a2, a3, _⟩ := t84 (n := 99) (m := 0) w H W p (by omega) (fun i hi => by omega) A (by omega)
  have w1 := a3.1
  have H1 := a3.2.2.1
  obtain ⟨b1, b2⟩ := a3.r1 W
  have b3 : sRd (amor q (D 99)).1 = sRd (D 99).1 := rfl
  rw [b3] at b1
  refine ⟨h1, ?_, a2.q⟩
  unfold f127
  simp (disch := omega) only [gT, nbeq, Option.isSome_some, Option.getD_some, Bool.and_true, Bool.true_and, Bool.and_self, mX_some, bS, bN_if, bN_01, i1_01, i0_01, if_true, if_false, Bool.false_eq_true, false_and, and_false, and_true, true_and, and_self, Bool.or_false, Bool.false_or, Bool.or_true, Bool.true_or, Bool.false_and, Bool.and_false, decide_true, decide_false, L0, L1, L2, L3, L4, L5, L6, L7, L8, L9, L10, L11, L12, L13, L14, L15, L16, L17, L18, L19, L20, L21, L22, L23, L24, L25, L27, L33, L39, L40, L45, L48, L57, L60, L72, L90, L97, L98, L99, L100, L121, L122, L242, L255, L256, L580, L600, L1000, L1584, L1000000, Ln1, iN_add, iN_and, iN_or, iN_nd, iN_shl, iN_shr, iN_cl, iN_in, iN_mul, k66 w, r66_0 w, r66_1 w, r66_2 w, r66_4 w, k66 w1, r66_0 w1, r66_1 w1, r66_2 w1, r66_4 w1, k70 w1, r70_0 w1, r70_2 w1, a1, b1, H1.k, t94 H1 W]
end FC
