/-! text: the call; its three sorts are printed by a program of ours (gen_text.py) -/
section KP
variable {h : mH}
theorem t47_0 {pl m : Nat} (w : Wd h) (hp : pl < 2) (hm : m ≤ 2) (e3 : mI h 3 0 = iN m) : ∃ h', f47 h 1 (iN 0) (iN pl) 37 = some ((), mSI h' 3 0 (iN (max m (pl + 1)))) ∧ Fr (pRg (7 + 14 * pl) 7) h h' ∧ LibE h h' 38 (7 + 14 * pl) := by
  obtain ⟨q1, q2, q3, q4, q5, q6⟩ := (tk1 w).2.2.2 pl hp
  have A : LibK h (7 + 14 * pl) := q4
  obtain ⟨h', a1, a2, a3⟩ := t48 A (lk38 w) (by omega)
  have w1 := w.fr a2
  refine ⟨h', ?_, a2, a3⟩
  have r : mR h 4 pl = some (7 + 14 * pl) := q1
  have e3' : mI h' 3 0 = iN m := (a2.i (pRg_f (by omega)) 0).trans e3
  have er : rg (iN pl) (1 + 1) = true := by rw [rg_iN (by omega), decide_eq_true (by omega)]
  have er2 : rg (iN 0) (2 + 1) = true := by rw [rg_iN (by omega), decide_eq_true (by omega)]
  unfold f47 f47_73 f47_91
  simp (disch := omega) only [gT, nbeq, Option.isSome_some, Option.getD_some, Bool.and_true, Bool.true_and, Bool.and_self, mX_some, bS, bN_if, bN_01, i1_01, i0_01, if_true, if_false, Bool.false_eq_true, false_and, and_false, and_true, true_and, and_self, Bool.or_false, Bool.false_or, Bool.or_true, Bool.true_or, Bool.false_and, Bool.and_false, decide_true, decide_false, L0, L1, L2, L3, L4, L5, L6, L7, L8, L9, L10, L11, L12, L13, L14, L15, L16, L17, L18, L19, L20, L21, L22, L23, L24, L25, L27, L33, L39, L40, L45, L48, L57, L60, L72, L90, L97, L98, L99, L100, L121, L122, L242, L255, L256, L580, L600, L1000, L1584, L1000000, Ln1, iN_add, iN_and, iN_or, iN_nd, iN_shl, iN_shr, iN_cl, iN_in, iN_mul, t17r, er, er2, ineF, eq_self, if_true, if_false, k1 w, r1_0 w, r1_1 w, r1_2 w, r1_3 w, r1_4 w, k4 w, r4_0 w, r4_1 w, k37 w, r37_0 w, r37_1 w, r37_2 w, r37_5 w, r37_6 w, r37_7 w, iN_in, iN_cl, r, A.1, a1, k1 w1, r1_0 w1, r1_1 w1, r1_2 w1, r1_3 w1, r1_4 w1, k3 w1, e3', ilt_d]
  by_cases e : m < pl + 1
  · rw [if_pos e, Nat.max_eq_right (by omega)]
  · rw [if_neg e, Nat.max_eq_left (by omega)]
theorem t47_1 {pl m : Nat} (w : Wd h) (hp : pl < 2) (hm : m ≤ 2) (e3 : mI h 3 1 = iN m) : ∃ h', f47 h 1 (iN 1) (iN pl) 37 = some ((), mSI h' 3 1 (iN (max m (pl + 1)))) ∧ Fr (pRg (14 + 14 * pl) 4) h h' ∧ YrE h h' 45 (14 + 14 * pl) := by
  obtain ⟨q1, q2, q3, q4, q5, q6⟩ := (tk1 w).2.2.2 pl hp
  have A : YrK h (14 + 14 * pl) := q5
  obtain ⟨h', a1, a2, a3⟩ := t49 A (lk45 w) (by omega)
  have w1 := w.fr a2
  refine ⟨h', ?_, a2, a3⟩
  have r : mR h 5 pl = some (14 + 14 * pl) := q2
  have e3' : mI h' 3 1 = iN m := (a2.i (pRg_f (by omega)) 1).trans e3
  have er : rg (iN pl) (1 + 1) = true := by rw [rg_iN (by omega), decide_eq_true (by omega)]
  have er2 : rg (iN 1) (2 + 1) = true := by rw [rg_iN (by omega), decide_eq_true (by omega)]
  unfold f47 f47_73 f47_91
  simp (disch := omega) only [gT, nbeq, Option.isSome_some, Option.getD_some, Bool.and_true, Bool.true_and, Bool.and_self, mX_some, bS, bN_if, bN_01, i1_01, i0_01, if_true, if_false, Bool.false_eq_true, false_and, and_false, and_true, true_and, and_self, Bool.or_false, Bool.false_or, Bool.or_true, Bool.true_or, Bool.false_and, Bool.and_false, decide_true, decide_false, L0, L1, L2, L3, L4, L5, L6, L7, L8, L9, L10, L11, L12, L13, L14, L15, L16, L17, L18, L19, L20, L21, L22, L23, L24, L25, L27, L33, L39, L40, L45, L48, L57, L60, L72, L90, L97, L98, L99, L100, L121, L122, L242, L255, L256, L580, L600, L1000, L1584, L1000000, Ln1, iN_add, iN_and, iN_or, iN_nd, iN_shl, iN_shr, iN_cl, iN_in, iN_mul, t17r, er, er2, ineF, eq_self, if_true, if_false, k1 w, r1_0 w, r1_1 w, r1_2 w, r1_3 w, r1_4 w, k5 w, r5_0 w, r5_1 w, k37 w, r37_0 w, r37_1 w, r37_2 w, r37_5 w, r37_6 w, r37_7 w, iN_in, iN_cl, r, A.1, a1, k1 w1, r1_0 w1, r1_1 w1, r1_2 w1, r1_3 w1, r1_4 w1, k3 w1, e3', ilt_d]
  by_cases e : m < pl + 1
  · rw [if_pos e, Nat.max_eq_right (by omega)]
  · rw [if_neg e, Nat.max_eq_left (by omega)]
theorem t47_2 {pl m : Nat} (w : Wd h) (hp : pl < 2) (hm : m ≤ 2) (e3 : mI h 3 2 = iN m) : ∃ h', f47 h 1 (iN 2) (iN pl) 37 = some ((), mSI h' 3 2 (iN (max m (pl + 1)))) ∧ Fr (pRg (18 + 14 * pl) 3) h h' ∧ LgE h h' 49 (18 + 14 * pl) := by
  obtain ⟨q1, q2, q3, q4, q5, q6⟩ := (tk1 w).2.2.2 pl hp
  have A : LgK h (18 + 14 * pl) := q6
  obtain ⟨h', a1, a2, a3⟩ := t50 A (lk49 w) (by omega)
  have w1 := w.fr a2
  refine ⟨h', ?_, a2, a3⟩
  have r : mR h 6 pl = some (18 + 14 * pl) := q3
  have e3' : mI h' 3 2 = iN m := (a2.i (pRg_f (by omega)) 2).trans e3
  have er : rg (iN pl) (1 + 1) = true := by rw [rg_iN (by omega), decide_eq_true (by omega)]
  have er2 : rg (iN 2) (2 + 1) = true := by rw [rg_iN (by omega), decide_eq_true (by omega)]
  unfold f47 f47_73 f47_91
  simp (disch := omega) only [gT, nbeq, Option.isSome_some, Option.getD_some, Bool.and_true, Bool.true_and, Bool.and_self, mX_some, bS, bN_if, bN_01, i1_01, i0_01, if_true, if_false, Bool.false_eq_true, false_and, and_false, and_true, true_and, and_self, Bool.or_false, Bool.false_or, Bool.or_true, Bool.true_or, Bool.false_and, Bool.and_false, decide_true, decide_false, L0, L1, L2, L3, L4, L5, L6, L7, L8, L9, L10, L11, L12, L13, L14, L15, L16, L17, L18, L19, L20, L21, L22, L23, L24, L25, L27, L33, L39, L40, L45, L48, L57, L60, L72, L90, L97, L98, L99, L100, L121, L122, L242, L255, L256, L580, L600, L1000, L1584, L1000000, Ln1, iN_add, iN_and, iN_or, iN_nd, iN_shl, iN_shr, iN_cl, iN_in, iN_mul, t17r, er, er2, ineF, eq_self, if_true, if_false, k1 w, r1_0 w, r1_1 w, r1_2 w, r1_3 w, r1_4 w, k6 w, r6_0 w, r6_1 w, k37 w, r37_0 w, r37_1 w, r37_2 w, r37_5 w, r37_6 w, r37_7 w, iN_in, iN_cl, r, A.1, a1, k1 w1, r1_0 w1, r1_1 w1, r1_2 w1, r1_3 w1, r1_4 w1, k3 w1, e3', ilt_d]
  by_cases e : m < pl + 1
  · rw [if_pos e, Nat.max_eq_right (by omega)]
  · rw [if_neg e, Nat.max_eq_left (by omega)]
end KP
section TC
variable {h : mH}
theorem f180s {g : mH} {s pl m : Nat} {x2 : Int32} (hs : s < 3) (hm : m ≤ 2) (e8 : mI g 198 s = iN m) (hx : x2 = jN ∧ pl = m ∨ x2 = iN pl ∧ pl < m) (hpl : pl < 2) (w : Wd g) : (if x2 = jN then mGd ((Nat.beq (mK g 193).1 12 && (mR g 193 5).isSome) && ((Nat.beq (mK g ((mR g 193 5).getD 0)).1 100 && mIn (iN s) (mK g ((mR g 193 5).getD 0)).2) && true)) (f180_100 g 193 (iN s) x2 (mI g ((mR g 193 5).getD 0) (Int32.toNatClampNeg (iN s)))) else f180_100 g 193 (iN s) x2 x2) = f180_100 g 193 (iN s) x2 (iN pl) := by
  rcases hx with ⟨rfl, rfl⟩ | ⟨rfl, hx⟩
  · simp (disch := omega) only [gT, nbeq, Option.isSome_some, Option.getD_some, Bool.and_true, Bool.true_and, Bool.and_self, mX_some, bS, bN_if, bN_01, i1_01, i0_01, if_true, if_false, Bool.false_eq_true, false_and, and_false, and_true, true_and, and_self, Bool.or_false, Bool.false_or, Bool.or_true, Bool.true_or, Bool.false_and, Bool.and_false, decide_true, decide_false, jj_p, k193 w, r193_1 w, r193_2 w, r193_3 w, r193_4 w, r193_5 w, r193_6 w, r193_7 w, r193_8 w, r193_18 w, r193_19 w, r193_32 w, r193_33 w, r193_34 w, r193_36 w, r193_38 w, r193_39 w, r193_40 w, r193_42 w, r193_45 w, r193_46 w, r193_47 w, r193_48 w, r193_49 w, r193_50 w, k198 w, iN_in, iN_cl, e8]
  · simp (disch := omega) only [ij_n]
theorem x100_0 {g : mH} {pl m : Nat} {x2 : Int32} (hm : m ≤ 2) (e8 : mI g 198 0 = iN m) (hx : x2 = jN ∧ pl = m ∨ x2 = iN pl ∧ pl < m) (hpl : pl < 2) (w : Wd g) : ∃ g', f180_100 g 193 (iN 0) x2 (iN pl) = some (iN pl, g') ∧ Fr (fun x => Nat.beq x 198 || Nat.beq x 199) g g' ∧ mI g' 198 0 = iN (max m (pl + 1)) ∧ (∀ j, j ≠ 0 → mI g' 198 j = mI g 198 j) ∧ (∀ i, i < 45 → mI g' 199 (45 * pl + i) = mI g 202 i) ∧ ∀ j, (j < 45 * pl ∨ 45 * pl + 45 ≤ j) → mI g' 199 j = mI g 199 j := by
  have F1 : ∀ v, Fr (fun x => Nat.beq x 198 || Nat.beq x 199) g (mSI g 198 0 v) := fun v => Fr.rfl.si (by decide)
  have w1 := w.fr (F1 (iN (max m (pl + 1))))
  obtain ⟨g', a1, a2, a3, a4⟩ := t202 (wide := 45) (k := pl) w1 (k199 w1) (by decide) (by decide) (by omega) (by decide)
  refine ⟨g', ?_, (F1 _).tr (a2.mono (fun x hx => by
    have : x = 199 := Nat.eq_of_beq_eq_true hx
    rw [this]; decide)), (a2.i rfl 0).trans (by simp only [si_ne, si_nk, si_eq]), fun j hj => (a2.i rfl j).trans (by simp (disch := omega) only [si_ne, si_nk, si_eq]), fun i hi => (a3 i hi).trans (by simp (disch := omega) only [si_ne, si_nk, si_eq]), fun j hj => (a4 j hj).trans (by simp (disch := omega) only [si_ne, si_nk, si_eq])⟩
  unfold f180_100 f180_168
  rcases hx with ⟨rfl, rfl⟩ | ⟨rfl, hx⟩
  · rw [Nat.max_eq_right (by omega)] at a1 w1
    simp (disch := omega) only [gT, nbeq, Option.isSome_some, Option.getD_some, Bool.and_true, Bool.true_and, Bool.and_self, mX_some, bS, bN_if, bN_01, i1_01, i0_01, if_true, if_false, Bool.false_eq_true, false_and, and_false, and_true, true_and, and_self, Bool.or_false, Bool.false_or, Bool.or_true, Bool.true_or, Bool.false_and, Bool.and_false, decide_true, decide_false, L0, L1, L2, L3, L4, L5, L6, L7, L8, L9, L10, L11, L12, L13, L14, L15, L16, L17, L18, L19, L20, L21, L22, L23, L24, L25, L27, L33, L39, L40, L45, L48, L57, L60, L72, L90, L97, L98, L99, L100, L121, L122, L242, L255, L256, L580, L600, L1000, L1584, L1000000, Ln1, iN_add, iN_and, iN_or, iN_nd, iN_shl, iN_shr, iN_cl, iN_in, iN_mul, L17, jj_p, k193 w, r193_1 w, r193_2 w, r193_3 w, r193_4 w, r193_5 w, r193_6 w, r193_7 w, r193_8 w, r193_18 w, r193_19 w, r193_32 w, r193_33 w, r193_34 w, r193_36 w, r193_38 w, r193_39 w, r193_40 w, r193_42 w, r193_45 w, r193_46 w, r193_47 w, r193_48 w, r193_49 w, r193_50 w, k198 w, iN_in, iN_cl, e8, iN_add, ineF, eq_self, if_true, if_false, a1]
  · rw [Nat.max_eq_left (by omega)] at a1 w1
    simp (disch := omega) only [gT, nbeq, Option.isSome_some, Option.getD_some, Bool.and_true, Bool.true_and, Bool.and_self, mX_some, bS, bN_if, bN_01, i1_01, i0_01, if_true, if_false, Bool.false_eq_true, false_and, and_false, and_true, true_and, and_self, Bool.or_false, Bool.false_or, Bool.or_true, Bool.true_or, Bool.false_and, Bool.and_false, decide_true, decide_false, L0, L1, L2, L3, L4, L5, L6, L7, L8, L9, L10, L11, L12, L13, L14, L15, L16, L17, L18, L19, L20, L21, L22, L23, L24, L25, L27, L33, L39, L40, L45, L48, L57, L60, L72, L90, L97, L98, L99, L100, L121, L122, L242, L255, L256, L580, L600, L1000, L1584, L1000000, Ln1, iN_add, iN_and, iN_or, iN_nd, iN_shl, iN_shr, iN_cl, iN_in, iN_mul, L17, ij_n, k193 w, r193_1 w, r193_2 w, r193_3 w, r193_4 w, r193_5 w, r193_6 w, r193_7 w, r193_8 w, r193_18 w, r193_19 w, r193_32 w, r193_33 w, r193_34 w, r193_36 w, r193_38 w, r193_39 w, r193_40 w, r193_42 w, r193_45 w, r193_46 w, r193_47 w, r193_48 w, r193_49 w, r193_50 w, k198 w, iN_in, iN_cl, e8, iN_add, Nat.add_zero, ineF, eq_self, if_true, if_false, a1]
theorem x100_1 {g : mH} {pl m : Nat} {x2 : Int32} (hm : m ≤ 2) (e8 : mI g 198 1 = iN m) (hx : x2 = jN ∧ pl = m ∨ x2 = iN pl ∧ pl < m) (hpl : pl < 2) (w : Wd g) : ∃ g', f180_100 g 193 (iN 1) x2 (iN pl) = some (iN pl, g') ∧ Fr (fun x => Nat.beq x 198 || Nat.beq x 200) g g' ∧ mI g' 198 1 = iN (max m (pl + 1)) ∧ (∀ j, j ≠ 1 → mI g' 198 j = mI g 198 j) ∧ (∀ i, i < 121 → mI g' 200 (121 * pl + i) = mI g 202 i) ∧ ∀ j, (j < 121 * pl ∨ 121 * pl + 121 ≤ j) → mI g' 200 j = mI g 200 j := by
  have F1 : ∀ v, Fr (fun x => Nat.beq x 198 || Nat.beq x 200) g (mSI g 198 1 v) := fun v => Fr.rfl.si (by decide)
  have w1 := w.fr (F1 (iN (max m (pl + 1))))
  obtain ⟨g', a1, a2, a3, a4⟩ := t202 (wide := 121) (k := pl) w1 (k200 w1) (by decide) (by decide) (by omega) (by decide)
  refine ⟨g', ?_, (F1 _).tr (a2.mono (fun x hx => by
    have : x = 200 := Nat.eq_of_beq_eq_true hx
    rw [this]; decide)), (a2.i rfl 1).trans (by simp only [si_ne, si_nk, si_eq]), fun j hj => (a2.i rfl j).trans (by simp (disch := omega) only [si_ne, si_nk, si_eq]), fun i hi => (a3 i hi).trans (by simp (disch := omega) only [si_ne, si_nk, si_eq]), fun j hj => (a4 j hj).trans (by simp (disch := omega) only [si_ne, si_nk, si_eq])⟩
  unfold f180_100 f180_168
  rcases hx with ⟨rfl, rfl⟩ | ⟨rfl, hx⟩
  · rw [Nat.max_eq_right (by omega)] at a1 w1
    simp (disch := omega) only [gT, nbeq, Option.isSome_some, Option.getD_some, Bool.and_true, Bool.true_and, Bool.and_self, mX_some, bS, bN_if, bN_01, i1_01, i0_01, if_true, if_false, Bool.false_eq_true, false_and, and_false, and_true, true_and, and_self, Bool.or_false, Bool.false_or, Bool.or_true, Bool.true_or, Bool.false_and, Bool.and_false, decide_true, decide_false, L0, L1, L2, L3, L4, L5, L6, L7, L8, L9, L10, L11, L12, L13, L14, L15, L16, L17, L18, L19, L20, L21, L22, L23, L24, L25, L27, L33, L39, L40, L45, L48, L57, L60, L72, L90, L97, L98, L99, L100, L121, L122, L242, L255, L256, L580, L600, L1000, L1584, L1000000, Ln1, iN_add, iN_and, iN_or, iN_nd, iN_shl, iN_shr, iN_cl, iN_in, iN_mul, L17, jj_p, k193 w, r193_1 w, r193_2 w, r193_3 w, r193_4 w, r193_5 w, r193_6 w, r193_7 w, r193_8 w, r193_18 w, r193_19 w, r193_32 w, r193_33 w, r193_34 w, r193_36 w, r193_38 w, r193_39 w, r193_40 w, r193_42 w, r193_45 w, r193_46 w, r193_47 w, r193_48 w, r193_49 w, r193_50 w, k198 w, iN_in, iN_cl, e8, iN_add, ineF, eq_self, if_true, if_false, a1]
  · rw [Nat.max_eq_left (by omega)] at a1 w1
    simp (disch := omega) only [gT, nbeq, Option.isSome_some, Option.getD_some, Bool.and_true, Bool.true_and, Bool.and_self, mX_some, bS, bN_if, bN_01, i1_01, i0_01, if_true, if_false, Bool.false_eq_true, false_and, and_false, and_true, true_and, and_self, Bool.or_false, Bool.false_or, Bool.or_true, Bool.true_or, Bool.false_and, Bool.and_false, decide_true, decide_false, L0, L1, L2, L3, L4, L5, L6, L7, L8, L9, L10, L11, L12, L13, L14, L15, L16, L17, L18, L19, L20, L21, L22, L23, L24, L25, L27, L33, L39, L40, L45, L48, L57, L60, L72, L90, L97, L98, L99, L100, L121, L122, L242, L255, L256, L580, L600, L1000, L1584, L1000000, Ln1, iN_add, iN_and, iN_or, iN_nd, iN_shl, iN_shr, iN_cl, iN_in, iN_mul, L17, ij_n, k193 w, r193_1 w, r193_2 w, r193_3 w, r193_4 w, r193_5 w, r193_6 w, r193_7 w, r193_8 w, r193_18 w, r193_19 w, r193_32 w, r193_33 w, r193_34 w, r193_36 w, r193_38 w, r193_39 w, r193_40 w, r193_42 w, r193_45 w, r193_46 w, r193_47 w, r193_48 w, r193_49 w, r193_50 w, k198 w, iN_in, iN_cl, e8, iN_add, Nat.add_zero, ineF, eq_self, if_true, if_false, a1]
theorem x100_2 {g : mH} {pl m : Nat} {x2 : Int32} (hm : m ≤ 2) (e8 : mI g 198 2 = iN m) (hx : x2 = jN ∧ pl = m ∨ x2 = iN pl ∧ pl < m) (hpl : pl < 2) (w : Wd g) : ∃ g', f180_100 g 193 (iN 2) x2 (iN pl) = some (iN pl, g') ∧ Fr (fun x => Nat.beq x 198 || Nat.beq x 201) g g' ∧ mI g' 198 2 = iN (max m (pl + 1)) ∧ (∀ j, j ≠ 2 → mI g' 198 j = mI g 198 j) ∧ (∀ i, i < 17 → mI g' 201 (17 * pl + i) = mI g 202 i) ∧ ∀ j, (j < 17 * pl ∨ 17 * pl + 17 ≤ j) → mI g' 201 j = mI g 201 j := by
  have F1 : ∀ v, Fr (fun x => Nat.beq x 198 || Nat.beq x 201) g (mSI g 198 2 v) := fun v => Fr.rfl.si (by decide)
  have w1 := w.fr (F1 (iN (max m (pl + 1))))
  obtain ⟨g', a1, a2, a3, a4⟩ := t202 (wide := 17) (k := pl) w1 (k201 w1) (by decide) (by decide) (by omega) (by decide)
  refine ⟨g', ?_, (F1 _).tr (a2.mono (fun x hx => by
    have : x = 201 := Nat.eq_of_beq_eq_true hx
    rw [this]; decide)), (a2.i rfl 2).trans (by simp only [si_ne, si_nk, si_eq]), fun j hj => (a2.i rfl j).trans (by simp (disch := omega) only [si_ne, si_nk, si_eq]), fun i hi => (a3 i hi).trans (by simp (disch := omega) only [si_ne, si_nk, si_eq]), fun j hj => (a4 j hj).trans (by simp (disch := omega) only [si_ne, si_nk, si_eq])⟩
  unfold f180_100 f180_168
  rcases hx with ⟨rfl, rfl⟩ | ⟨rfl, hx⟩
  · rw [Nat.max_eq_right (by omega)] at a1 w1
    simp (disch := omega) only [gT, nbeq, Option.isSome_some, Option.getD_some, Bool.and_true, Bool.true_and, Bool.and_self, mX_some, bS, bN_if, bN_01, i1_01, i0_01, if_true, if_false, Bool.false_eq_true, false_and, and_false, and_true, true_and, and_self, Bool.or_false, Bool.false_or, Bool.or_true, Bool.true_or, Bool.false_and, Bool.and_false, decide_true, decide_false, L0, L1, L2, L3, L4, L5, L6, L7, L8, L9, L10, L11, L12, L13, L14, L15, L16, L17, L18, L19, L20, L21, L22, L23, L24, L25, L27, L33, L39, L40, L45, L48, L57, L60, L72, L90, L97, L98, L99, L100, L121, L122, L242, L255, L256, L580, L600, L1000, L1584, L1000000, Ln1, iN_add, iN_and, iN_or, iN_nd, iN_shl, iN_shr, iN_cl, iN_in, iN_mul, L17, jj_p, k193 w, r193_1 w, r193_2 w, r193_3 w, r193_4 w, r193_5 w, r193_6 w, r193_7 w, r193_8 w, r193_18 w, r193_19 w, r193_32 w, r193_33 w, r193_34 w, r193_36 w, r193_38 w, r193_39 w, r193_40 w, r193_42 w, r193_45 w, r193_46 w, r193_47 w, r193_48 w, r193_49 w, r193_50 w, k198 w, iN_in, iN_cl, e8, iN_add, ineF, eq_self, if_true, if_false, a1]
  · rw [Nat.max_eq_left (by omega)] at a1 w1
    simp (disch := omega) only [gT, nbeq, Option.isSome_some, Option.getD_some, Bool.and_true, Bool.true_and, Bool.and_self, mX_some, bS, bN_if, bN_01, i1_01, i0_01, if_true, if_false, Bool.false_eq_true, false_and, and_false, and_true, true_and, and_self, Bool.or_false, Bool.false_or, Bool.or_true, Bool.true_or, Bool.false_and, Bool.and_false, decide_true, decide_false, L0, L1, L2, L3, L4, L5, L6, L7, L8, L9, L10, L11, L12, L13, L14, L15, L16, L17, L18, L19, L20, L21, L22, L23, L24, L25, L27, L33, L39, L40, L45, L48, L57, L60, L72, L90, L97, L98, L99, L100, L121, L122, L242, L255, L256, L580, L600, L1000, L1584, L1000000, Ln1, iN_add, iN_and, iN_or, iN_nd, iN_shl, iN_shr, iN_cl, iN_in, iN_mul, L17, ij_n, k193 w, r193_1 w, r193_2 w, r193_3 w, r193_4 w, r193_5 w, r193_6 w, r193_7 w, r193_8 w, r193_18 w, r193_19 w, r193_32 w, r193_33 w, r193_34 w, r193_36 w, r193_38 w, r193_39 w, r193_40 w, r193_42 w, r193_45 w, r193_46 w, r193_47 w, r193_48 w, r193_49 w, r193_50 w, k198 w, iN_in, iN_cl, e8, iN_add, Nat.add_zero, ineF, eq_self, if_true, if_false, a1]
end TC
