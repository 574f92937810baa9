/-! the law's loop -/
def Sc (S : Nat → Int32) (n : Nat) (h : mH) : Prop := (∀ j, mI h 2000000 j = S j) ∧ mI h 2000001 0 = iN n
theorem Sc.hi {S : Nat → Int32} {n : Nat} {h h' : mH} (x : Sc S n h) (y : Hi h h') : Sc S n h' := ⟨fun j => (y.2 2000000 (by decide) j).trans (x.1 j), (y.2 2000001 (by decide) 0).trans x.2⟩
theorem FQ.hi {h h' : mH} (x : FQ h h') : Hi h h' := ⟨x.1, fun a ha j => x.i (ps_hi ha) j⟩
theorem lgc (v : Int64) : lg_cmp v v = iN 0 := (lg_cmp_eq _ _).2 rfl
section LWS
variable {h : mH} {S : Nat → Int32} {n i : Nat}
theorem lw_0 (hn : n < 2147483648) (hi : i + 6 ≤ n) (R : Rel h) (X : Sc S n h) : ∃ h', f302_196 h 2000000 0 193 (iN i) = some (.inl (iN (i + 6), h')) ∧ Rel h' ∧ Sc S n h' := by
  have w := R.1
  obtain ⟨v, h1, h2, a1, b1, r2, z1, z2⟩ := c_feed R (S (i + 1)) (S (i + 2)) (S (i + 3)) (S (i + 4)) (S (i + 5))
  have kk := (z1.k 193).trans (k193 w)
  have X1 := X.hi z1
  refine ⟨h2, ?_, r2, X1.hi z2⟩
  unfold f302_196 f302_1887
  simp (disch := omega) only [gT, nbeq, Option.isSome_some, Option.getD_some, Bool.and_true, Bool.true_and, Bool.and_self, mX_some, bS, bN_if, bN_01, i1_01, i0_01, if_true, if_false, Bool.false_eq_true, false_and, and_false, and_true, true_and, and_self, Bool.or_false, Bool.false_or, Bool.or_true, Bool.true_or, Bool.false_and, Bool.and_false, decide_true, decide_false, L0, L1, L2, L3, L4, L5, L6, L7, L8, L9, L10, L11, L12, L13, L14, L15, L16, L17, L18, L19, L20, L21, L22, L23, L24, L25, L27, L33, L39, L40, L45, L48, L57, L60, L72, L90, L97, L98, L99, L100, L121, L122, L242, L255, L256, L580, L600, L1000, L1584, L1000000, Ln1, iN_add, iN_and, iN_or, iN_nd, iN_shl, iN_shr, iN_cl, iN_in, iN_mul, nbeq, iN_add, iN_in, iN_cl, X.1, X.2, X1.1, X1.2, k0 w, kk, a1, b1, lgc, eq_self, if_true, if_false]
theorem lw_1 (hn : n < 2147483648) (hi : i + 6 ≤ n) (R : Rel h) (X : Sc S n h) : ∃ h', f302_259 h 2000000 0 193 (iN i) = some (.inl (iN (i + 6), h')) ∧ Rel h' ∧ Sc S n h' := by
  have w := R.1
  obtain ⟨v, h1, h2, a1, b1, r2, z1, z2⟩ := c_end R (S (i + 1))
  have kk := (z1.k 193).trans (k193 w)
  have X1 := X.hi z1
  refine ⟨h2, ?_, r2, X1.hi z2⟩
  unfold f302_259 f302_1887
  simp (disch := omega) only [gT, nbeq, Option.isSome_some, Option.getD_some, Bool.and_true, Bool.true_and, Bool.and_self, mX_some, bS, bN_if, bN_01, i1_01, i0_01, if_true, if_false, Bool.false_eq_true, false_and, and_false, and_true, true_and, and_self, Bool.or_false, Bool.false_or, Bool.or_true, Bool.true_or, Bool.false_and, Bool.and_false, decide_true, decide_false, L0, L1, L2, L3, L4, L5, L6, L7, L8, L9, L10, L11, L12, L13, L14, L15, L16, L17, L18, L19, L20, L21, L22, L23, L24, L25, L27, L33, L39, L40, L45, L48, L57, L60, L72, L90, L97, L98, L99, L100, L121, L122, L242, L255, L256, L580, L600, L1000, L1584, L1000000, Ln1, iN_add, iN_and, iN_or, iN_nd, iN_shl, iN_shr, iN_cl, iN_in, iN_mul, nbeq, iN_add, iN_in, iN_cl, X.1, X.2, X1.1, X1.2, k0 w, kk, a1, b1, lgc, eq_self, if_true, if_false]
theorem lw_2 (hn : n < 2147483648) (hi : i + 6 ≤ n) (R : Rel h) (X : Sc S n h) : ∃ h', f302_282 h 2000000 0 193 (iN i) = some (.inl (iN (i + 6), h')) ∧ Rel h' ∧ Sc S n h' := by
  have w := R.1
  obtain ⟨v, h1, h2, a1, b1, r2, z1, z2⟩ := c_text R (S (i + 1)) (S (i + 2))
  have kk := (z1.k 193).trans (k193 w)
  have X1 := X.hi z1
  refine ⟨h2, ?_, r2, X1.hi z2⟩
  unfold f302_282 f302_1887
  simp (disch := omega) only [gT, nbeq, Option.isSome_some, Option.getD_some, Bool.and_true, Bool.true_and, Bool.and_self, mX_some, bS, bN_if, bN_01, i1_01, i0_01, if_true, if_false, Bool.false_eq_true, false_and, and_false, and_true, true_and, and_self, Bool.or_false, Bool.false_or, Bool.or_true, Bool.true_or, Bool.false_and, Bool.and_false, decide_true, decide_false, L0, L1, L2, L3, L4, L5, L6, L7, L8, L9, L10, L11, L12, L13, L14, L15, L16, L17, L18, L19, L20, L21, L22, L23, L24, L25, L27, L33, L39, L40, L45, L48, L57, L60, L72, L90, L97, L98, L99, L100, L121, L122, L242, L255, L256, L580, L600, L1000, L1584, L1000000, Ln1, iN_add, iN_and, iN_or, iN_nd, iN_shl, iN_shr, iN_cl, iN_in, iN_mul, nbeq, iN_add, iN_in, iN_cl, X.1, X.2, X1.1, X1.2, k0 w, kk, a1, b1, lgc, eq_self, if_true, if_false]
theorem lw_3 (hn : n < 2147483648) (hi : i + 6 ≤ n) (R : Rel h) (X : Sc S n h) : ∃ h', f302_315 h 2000000 0 193 (iN i) = some (.inl (iN (i + 6), h')) ∧ Rel h' ∧ Sc S n h' := by
  have w := R.1
  obtain ⟨v, a1, a3⟩ := c_fault R (S (i + 1))
  obtain ⟨h2, b1, b2⟩ := a3 h FQ.rfl
  refine ⟨h2, ?_, R.q b2, X.hi b2.hi⟩
  unfold f302_315 f302_1887
  simp (disch := omega) only [gT, nbeq, Option.isSome_some, Option.getD_some, Bool.and_true, Bool.true_and, Bool.and_self, mX_some, bS, bN_if, bN_01, i1_01, i0_01, if_true, if_false, Bool.false_eq_true, false_and, and_false, and_true, true_and, and_self, Bool.or_false, Bool.false_or, Bool.or_true, Bool.true_or, Bool.false_and, Bool.and_false, decide_true, decide_false, L0, L1, L2, L3, L4, L5, L6, L7, L8, L9, L10, L11, L12, L13, L14, L15, L16, L17, L18, L19, L20, L21, L22, L23, L24, L25, L27, L33, L39, L40, L45, L48, L57, L60, L72, L90, L97, L98, L99, L100, L121, L122, L242, L255, L256, L580, L600, L1000, L1584, L1000000, Ln1, iN_add, iN_and, iN_or, iN_nd, iN_shl, iN_shr, iN_cl, iN_in, iN_mul, nbeq, iN_add, iN_in, iN_cl, X.1, X.2, k0 w, k193 w, a1, b1, lgc, eq_self, if_true, if_false]
theorem lw_4 (hn : n < 2147483648) (hi : i + 6 ≤ n) (R : Rel h) (X : Sc S n h) : ∃ h', f302_338 h 2000000 0 193 (iN i) = some (.inl (iN (i + 6), h')) ∧ Rel h' ∧ Sc S n h' := by
  have w := R.1
  obtain ⟨v, a1, a3⟩ := c_library R (S (i + 1)) (S (i + 2))
  obtain ⟨h2, b1, b2⟩ := a3 h FQ.rfl
  refine ⟨h2, ?_, R.q b2, X.hi b2.hi⟩
  unfold f302_338 f302_1887
  simp (disch := omega) only [gT, nbeq, Option.isSome_some, Option.getD_some, Bool.and_true, Bool.true_and, Bool.and_self, mX_some, bS, bN_if, bN_01, i1_01, i0_01, if_true, if_false, Bool.false_eq_true, false_and, and_false, and_true, true_and, and_self, Bool.or_false, Bool.false_or, Bool.or_true, Bool.true_or, Bool.false_and, Bool.and_false, decide_true, decide_false, L0, L1, L2, L3, L4, L5, L6, L7, L8, L9, L10, L11, L12, L13, L14, L15, L16, L17, L18, L19, L20, L21, L22, L23, L24, L25, L27, L33, L39, L40, L45, L48, L57, L60, L72, L90, L97, L98, L99, L100, L121, L122, L242, L255, L256, L580, L600, L1000, L1584, L1000000, Ln1, iN_add, iN_and, iN_or, iN_nd, iN_shl, iN_shr, iN_cl, iN_in, iN_mul, nbeq, iN_add, iN_in, iN_cl, X.1, X.2, k0 w, k193 w, a1, b1, lgc, eq_self, if_true, if_false]
theorem lw_5 (hn : n < 2147483648) (hi : i + 6 ≤ n) (R : Rel h) (X : Sc S n h) : ∃ h', f302_371 h 2000000 0 193 (iN i) = some (.inl (iN (i + 6), h')) ∧ Rel h' ∧ Sc S n h' := by
  have w := R.1
  obtain ⟨v, a1, a3⟩ := c_deed R (S (i + 1)) (S (i + 2)) (S (i + 3))
  obtain ⟨h2, b1, b2⟩ := a3 h FQ.rfl
  refine ⟨h2, ?_, R.q b2, X.hi b2.hi⟩
  unfold f302_371 f302_1887
  simp (disch := omega) only [gT, nbeq, Option.isSome_some, Option.getD_some, Bool.and_true, Bool.true_and, Bool.and_self, mX_some, bS, bN_if, bN_01, i1_01, i0_01, if_true, if_false, Bool.false_eq_true, false_and, and_false, and_true, true_and, and_self, Bool.or_false, Bool.false_or, Bool.or_true, Bool.true_or, Bool.false_and, Bool.and_false, decide_true, decide_false, L0, L1, L2, L3, L4, L5, L6, L7, L8, L9, L10, L11, L12, L13, L14, L15, L16, L17, L18, L19, L20, L21, L22, L23, L24, L25, L27, L33, L39, L40, L45, L48, L57, L60, L72, L90, L97, L98, L99, L100, L121, L122, L242, L255, L256, L580, L600, L1000, L1584, L1000000, Ln1, iN_add, iN_and, iN_or, iN_nd, iN_shl, iN_shr, iN_cl, iN_in, iN_mul, nbeq, iN_add, iN_in, iN_cl, X.1, X.2, k0 w, k193 w, a1, b1, lgc, eq_self, if_true, if_false]
theorem lw_6 (hn : n < 2147483648) (hi : i + 6 ≤ n) (R : Rel h) (X : Sc S n h) : ∃ h', f302_414 h 2000000 0 193 (iN i) = some (.inl (iN (i + 6), h')) ∧ Rel h' ∧ Sc S n h' := by
  have w := R.1
  obtain ⟨v, h1, a1, a2, a3⟩ := c_till R (S (i + 1)) (S (i + 2))
  obtain ⟨h2, b1, b2⟩ := a3 h1 a2
  have w1 := w.q a2
  have X1 := X.hi a2.hi
  refine ⟨h2, ?_, (R.q a2).q b2, X1.hi b2.hi⟩
  unfold f302_414 f302_1887
  simp (disch := omega) only [gT, nbeq, Option.isSome_some, Option.getD_some, Bool.and_true, Bool.true_and, Bool.and_self, mX_some, bS, bN_if, bN_01, i1_01, i0_01, if_true, if_false, Bool.false_eq_true, false_and, and_false, and_true, true_and, and_self, Bool.or_false, Bool.false_or, Bool.or_true, Bool.true_or, Bool.false_and, Bool.and_false, decide_true, decide_false, L0, L1, L2, L3, L4, L5, L6, L7, L8, L9, L10, L11, L12, L13, L14, L15, L16, L17, L18, L19, L20, L21, L22, L23, L24, L25, L27, L33, L39, L40, L45, L48, L57, L60, L72, L90, L97, L98, L99, L100, L121, L122, L242, L255, L256, L580, L600, L1000, L1584, L1000000, Ln1, iN_add, iN_and, iN_or, iN_nd, iN_shl, iN_shr, iN_cl, iN_in, iN_mul, nbeq, iN_add, iN_in, iN_cl, X.1, X.2, X1.1, X1.2, k0 w, k193 w1, a1, b1, lgc, eq_self, if_true, if_false]
theorem lw_7 (hn : n < 2147483648) (hi : i + 6 ≤ n) (R : Rel h) (X : Sc S n h) : ∃ h', f302_447 h 2000000 0 193 (iN i) = some (.inl (iN (i + 6), h')) ∧ Rel h' ∧ Sc S n h' := by
  have w := R.1
  obtain ⟨v, h1, a1, a2, a3⟩ := c_state R (S (i + 1)) (S (i + 2)) (S (i + 3)) (S (i + 4))
  obtain ⟨h2, b1, b2⟩ := a3 h1 a2
  have w1 := w.q a2
  have X1 := X.hi a2.hi
  refine ⟨h2, ?_, (R.q a2).q b2, X1.hi b2.hi⟩
  unfold f302_447 f302_1887
  simp (disch := omega) only [gT, nbeq, Option.isSome_some, Option.getD_some, Bool.and_true, Bool.true_and, Bool.and_self, mX_some, bS, bN_if, bN_01, i1_01, i0_01, if_true, if_false, Bool.false_eq_true, false_and, and_false, and_true, true_and, and_self, Bool.or_false, Bool.false_or, Bool.or_true, Bool.true_or, Bool.false_and, Bool.and_false, decide_true, decide_false, L0, L1, L2, L3, L4, L5, L6, L7, L8, L9, L10, L11, L12, L13, L14, L15, L16, L17, L18, L19, L20, L21, L22, L23, L24, L25, L27, L33, L39, L40, L45, L48, L57, L60, L72, L90, L97, L98, L99, L100, L121, L122, L242, L255, L256, L580, L600, L1000, L1584, L1000000, Ln1, iN_add, iN_and, iN_or, iN_nd, iN_shl, iN_shr, iN_cl, iN_in, iN_mul, nbeq, iN_add, iN_in, iN_cl, X.1, X.2, X1.1, X1.2, k0 w, k193 w1, a1, b1, lgc, eq_self, if_true, if_false]
theorem lw_8 (hn : n < 2147483648) (hi : i + 6 ≤ n) (R : Rel h) (X : Sc S n h) : ∃ h', f302_500 h 2000000 0 193 (iN i) = some (.inl (iN (i + 6), h')) ∧ Rel h' ∧ Sc S n h' := by
  have w := R.1
  obtain ⟨v, h1, a1, a2, a3⟩ := c_himself R (S (i + 1)) (S (i + 2)) (S (i + 3))
  obtain ⟨h2, b1, b2⟩ := a3 h1 a2
  have w1 := w.q a2
  have X1 := X.hi a2.hi
  refine ⟨h2, ?_, (R.q a2).q b2, X1.hi b2.hi⟩
  unfold f302_500 f302_1887
  simp (disch := omega) only [gT, nbeq, Option.isSome_some, Option.getD_some, Bool.and_true, Bool.true_and, Bool.and_self, mX_some, bS, bN_if, bN_01, i1_01, i0_01, if_true, if_false, Bool.false_eq_true, false_and, and_false, and_true, true_and, and_self, Bool.or_false, Bool.false_or, Bool.or_true, Bool.true_or, Bool.false_and, Bool.and_false, decide_true, decide_false, L0, L1, L2, L3, L4, L5, L6, L7, L8, L9, L10, L11, L12, L13, L14, L15, L16, L17, L18, L19, L20, L21, L22, L23, L24, L25, L27, L33, L39, L40, L45, L48, L57, L60, L72, L90, L97, L98, L99, L100, L121, L122, L242, L255, L256, L580, L600, L1000, L1584, L1000000, Ln1, iN_add, iN_and, iN_or, iN_nd, iN_shl, iN_shr, iN_cl, iN_in, iN_mul, nbeq, iN_add, iN_in, iN_cl, X.1, X.2, X1.1, X1.2, k0 w, k193 w1, a1, b1, lgc, eq_self, if_true, if_false]
theorem lw_9 (hn : n < 2147483648) (hi : i + 6 ≤ n) (R : Rel h) (X : Sc S n h) : ∃ h', f302_543 h 2000000 0 193 (iN i) = some (.inl (iN (i + 6), h')) ∧ Rel h' ∧ Sc S n h' := by
  have w := R.1
  obtain ⟨v, h1, a1, a2, a3⟩ := c_bait R (S (i + 1)) (S (i + 2)) (S (i + 3)) (S (i + 4))
  obtain ⟨h2, b1, b2⟩ := a3 h1 a2
  have w1 := w.q a2
  have X1 := X.hi a2.hi
  refine ⟨h2, ?_, (R.q a2).q b2, X1.hi b2.hi⟩
  unfold f302_543 f302_1887
  simp (disch := omega) only [gT, nbeq, Option.isSome_some, Option.getD_some, Bool.and_true, Bool.true_and, Bool.and_self, mX_some, bS, bN_if, bN_01, i1_01, i0_01, if_true, if_false, Bool.false_eq_true, false_and, and_false, and_true, true_and, and_self, Bool.or_false, Bool.false_or, Bool.or_true, Bool.true_or, Bool.false_and, Bool.and_false, decide_true, decide_false, L0, L1, L2, L3, L4, L5, L6, L7, L8, L9, L10, L11, L12, L13, L14, L15, L16, L17, L18, L19, L20, L21, L22, L23, L24, L25, L27, L33, L39, L40, L45, L48, L57, L60, L72, L90, L97, L98, L99, L100, L121, L122, L242, L255, L256, L580, L600, L1000, L1584, L1000000, Ln1, iN_add, iN_and, iN_or, iN_nd, iN_shl, iN_shr, iN_cl, iN_in, iN_mul, nbeq, iN_add, iN_in, iN_cl, X.1, X.2, X1.1, X1.2, k0 w, k193 w1, a1, b1, lgc, eq_self, if_true, if_false]
theorem lw_10 (hn : n < 2147483648) (hi : i + 6 ≤ n) (R : Rel h) (X : Sc S n h) : ∃ h', f302_596 h 2000000 0 193 (iN i) = some (.inl (iN (i + 6), h')) ∧ Rel h' ∧ Sc S n h' := by
  have w := R.1
  by_cases e : S (i + 3) = iN 0
  · obtain ⟨v, a1, a3⟩ := c_order R (S (i + 1)) (S (i + 2)) (iN 0)
    obtain ⟨h2, b1, b2⟩ := a3 h FQ.rfl
    refine ⟨h2, ?_, R.q b2, X.hi b2.hi⟩
    unfold f302_596 f302_1887
    simp (disch := omega) only [gT, nbeq, Option.isSome_some, Option.getD_some, Bool.and_true, Bool.true_and, Bool.and_self, mX_some, bS, bN_if, bN_01, i1_01, i0_01, if_true, if_false, Bool.false_eq_true, false_and, and_false, and_true, true_and, and_self, Bool.or_false, Bool.false_or, Bool.or_true, Bool.true_or, Bool.false_and, Bool.and_false, decide_true, decide_false, L0, L1, L2, L3, L4, L5, L6, L7, L8, L9, L10, L11, L12, L13, L14, L15, L16, L17, L18, L19, L20, L21, L22, L23, L24, L25, L27, L33, L39, L40, L45, L48, L57, L60, L72, L90, L97, L98, L99, L100, L121, L122, L242, L255, L256, L580, L600, L1000, L1584, L1000000, Ln1, iN_add, iN_and, iN_or, iN_nd, iN_shl, iN_shr, iN_cl, iN_in, iN_mul, nbeq, iN_add, iN_in, iN_cl, X.1, X.2, k0 w, k193 w, a1, b1, lgc, e, eq_self, if_true, if_false]
  · obtain ⟨v, a1, a3⟩ := c_order R (S (i + 1)) (S (i + 2)) (iN 1)
    obtain ⟨h2, b1, b2⟩ := a3 h FQ.rfl
    refine ⟨h2, ?_, R.q b2, X.hi b2.hi⟩
    unfold f302_596 f302_1887
    simp (disch := omega) only [gT, nbeq, Option.isSome_some, Option.getD_some, Bool.and_true, Bool.true_and, Bool.and_self, mX_some, bS, bN_if, bN_01, i1_01, i0_01, if_true, if_false, Bool.false_eq_true, false_and, and_false, and_true, true_and, and_self, Bool.or_false, Bool.false_or, Bool.or_true, Bool.true_or, Bool.false_and, Bool.and_false, decide_true, decide_false, L0, L1, L2, L3, L4, L5, L6, L7, L8, L9, L10, L11, L12, L13, L14, L15, L16, L17, L18, L19, L20, L21, L22, L23, L24, L25, L27, L33, L39, L40, L45, L48, L57, L60, L72, L90, L97, L98, L99, L100, L121, L122, L242, L255, L256, L580, L600, L1000, L1584, L1000000, Ln1, iN_add, iN_and, iN_or, iN_nd, iN_shl, iN_shr, iN_cl, iN_in, iN_mul, nbeq, iN_add, iN_in, iN_cl, X.1, X.2, k0 w, k193 w, a1, b1, lgc, e, eq_self, if_true, if_false]
theorem lw_11 (hn : n < 2147483648) (hi : i + 6 ≤ n) (R : Rel h) (X : Sc S n h) : ∃ h', f302_655 h 2000000 0 193 (iN i) = some (.inl (iN (i + 6), h')) ∧ Rel h' ∧ Sc S n h' := by
  have w := R.1
  obtain ⟨v, a1, a3⟩ := c_news R (S (i + 1)) (S (i + 2)) (S (i + 3))
  obtain ⟨h2, b1, b2⟩ := a3 h FQ.rfl
  refine ⟨h2, ?_, R.q b2, X.hi b2.hi⟩
  unfold f302_655 f302_1887
  simp (disch := omega) only [gT, nbeq, Option.isSome_some, Option.getD_some, Bool.and_true, Bool.true_and, Bool.and_self, mX_some, bS, bN_if, bN_01, i1_01, i0_01, if_true, if_false, Bool.false_eq_true, false_and, and_false, and_true, true_and, and_self, Bool.or_false, Bool.false_or, Bool.or_true, Bool.true_or, Bool.false_and, Bool.and_false, decide_true, decide_false, L0, L1, L2, L3, L4, L5, L6, L7, L8, L9, L10, L11, L12, L13, L14, L15, L16, L17, L18, L19, L20, L21, L22, L23, L24, L25, L27, L33, L39, L40, L45, L48, L57, L60, L72, L90, L97, L98, L99, L100, L121, L122, L242, L255, L256, L580, L600, L1000, L1584, L1000000, Ln1, iN_add, iN_and, iN_or, iN_nd, iN_shl, iN_shr, iN_cl, iN_in, iN_mul, nbeq, iN_add, iN_in, iN_cl, X.1, X.2, k0 w, k193 w, a1, b1, lgc, eq_self, if_true, if_false]
theorem lw_12 (hn : n < 2147483648) (hi : i + 6 ≤ n) (R : Rel h) (X : Sc S n h) : ∃ h', f302_698 h 2000000 0 193 (iN i) = some (.inl (iN (i + 6), h')) ∧ Rel h' ∧ Sc S n h' := by
  have w := R.1
  by_cases e : S (i + 3) = iN 0
  · obtain ⟨v, a1, a3⟩ := c_tellers R (S (i + 1)) (S (i + 2)) (iN 0)
    obtain ⟨h2, b1, b2⟩ := a3 h FQ.rfl
    refine ⟨h2, ?_, R.q b2, X.hi b2.hi⟩
    unfold f302_698 f302_1887
    simp (disch := omega) only [gT, nbeq, Option.isSome_some, Option.getD_some, Bool.and_true, Bool.true_and, Bool.and_self, mX_some, bS, bN_if, bN_01, i1_01, i0_01, if_true, if_false, Bool.false_eq_true, false_and, and_false, and_true, true_and, and_self, Bool.or_false, Bool.false_or, Bool.or_true, Bool.true_or, Bool.false_and, Bool.and_false, decide_true, decide_false, L0, L1, L2, L3, L4, L5, L6, L7, L8, L9, L10, L11, L12, L13, L14, L15, L16, L17, L18, L19, L20, L21, L22, L23, L24, L25, L27, L33, L39, L40, L45, L48, L57, L60, L72, L90, L97, L98, L99, L100, L121, L122, L242, L255, L256, L580, L600, L1000, L1584, L1000000, Ln1, iN_add, iN_and, iN_or, iN_nd, iN_shl, iN_shr, iN_cl, iN_in, iN_mul, nbeq, iN_add, iN_in, iN_cl, X.1, X.2, k0 w, k193 w, a1, b1, lgc, e, eq_self, if_true, if_false]
  · obtain ⟨v, a1, a3⟩ := c_tellers R (S (i + 1)) (S (i + 2)) (iN 1)
    obtain ⟨h2, b1, b2⟩ := a3 h FQ.rfl
    refine ⟨h2, ?_, R.q b2, X.hi b2.hi⟩
    unfold f302_698 f302_1887
    simp (disch := omega) only [gT, nbeq, Option.isSome_some, Option.getD_some, Bool.and_true, Bool.true_and, Bool.and_self, mX_some, bS, bN_if, bN_01, i1_01, i0_01, if_true, if_false, Bool.false_eq_true, false_and, and_false, and_true, true_and, and_self, Bool.or_false, Bool.false_or, Bool.or_true, Bool.true_or, Bool.false_and, Bool.and_false, decide_true, decide_false, L0, L1, L2, L3, L4, L5, L6, L7, L8, L9, L10, L11, L12, L13, L14, L15, L16, L17, L18, L19, L20, L21, L22, L23, L24, L25, L27, L33, L39, L40, L45, L48, L57, L60, L72, L90, L97, L98, L99, L100, L121, L122, L242, L255, L256, L580, L600, L1000, L1584, L1000000, Ln1, iN_add, iN_and, iN_or, iN_nd, iN_shl, iN_shr, iN_cl, iN_in, iN_mul, nbeq, iN_add, iN_in, iN_cl, X.1, X.2, k0 w, k193 w, a1, b1, lgc, e, eq_self, if_true, if_false]
theorem lw_13 (hn : n < 2147483648) (hi : i + 6 ≤ n) (R : Rel h) (X : Sc S n h) : ∃ h', f302_757 h 2000000 0 193 (iN i) = some (.inl (iN (i + 6), h')) ∧ Rel h' ∧ Sc S n h' := by
  have w := R.1
  by_cases e : S (i + 3) = iN 0
  · obtain ⟨v, h1, a1, a2, a3⟩ := c_game R (S (i + 1)) (S (i + 2)) (iN 0)
    obtain ⟨h2, b1, b2⟩ := a3 h1 a2
    have w1 := w.q a2
    have X1 := X.hi a2.hi
    refine ⟨h2, ?_, (R.q a2).q b2, X1.hi b2.hi⟩
    unfold f302_757 f302_1887
    simp (disch := omega) only [gT, nbeq, Option.isSome_some, Option.getD_some, Bool.and_true, Bool.true_and, Bool.and_self, mX_some, bS, bN_if, bN_01, i1_01, i0_01, if_true, if_false, Bool.false_eq_true, false_and, and_false, and_true, true_and, and_self, Bool.or_false, Bool.false_or, Bool.or_true, Bool.true_or, Bool.false_and, Bool.and_false, decide_true, decide_false, L0, L1, L2, L3, L4, L5, L6, L7, L8, L9, L10, L11, L12, L13, L14, L15, L16, L17, L18, L19, L20, L21, L22, L23, L24, L25, L27, L33, L39, L40, L45, L48, L57, L60, L72, L90, L97, L98, L99, L100, L121, L122, L242, L255, L256, L580, L600, L1000, L1584, L1000000, Ln1, iN_add, iN_and, iN_or, iN_nd, iN_shl, iN_shr, iN_cl, iN_in, iN_mul, nbeq, iN_add, iN_in, iN_cl, X.1, X.2, X1.1, X1.2, k0 w, k193 w1, a1, b1, lgc, e, eq_self, if_true, if_false]
  · obtain ⟨v, h1, a1, a2, a3⟩ := c_game R (S (i + 1)) (S (i + 2)) (iN 1)
    obtain ⟨h2, b1, b2⟩ := a3 h1 a2
    have w1 := w.q a2
    have X1 := X.hi a2.hi
    refine ⟨h2, ?_, (R.q a2).q b2, X1.hi b2.hi⟩
    unfold f302_757 f302_1887
    simp (disch := omega) only [gT, nbeq, Option.isSome_some, Option.getD_some, Bool.and_true, Bool.true_and, Bool.and_self, mX_some, bS, bN_if, bN_01, i1_01, i0_01, if_true, if_false, Bool.false_eq_true, false_and, and_false, and_true, true_and, and_self, Bool.or_false, Bool.false_or, Bool.or_true, Bool.true_or, Bool.false_and, Bool.and_false, decide_true, decide_false, L0, L1, L2, L3, L4, L5, L6, L7, L8, L9, L10, L11, L12, L13, L14, L15, L16, L17, L18, L19, L20, L21, L22, L23, L24, L25, L27, L33, L39, L40, L45, L48, L57, L60, L72, L90, L97, L98, L99, L100, L121, L122, L242, L255, L256, L580, L600, L1000, L1584, L1000000, Ln1, iN_add, iN_and, iN_or, iN_nd, iN_shl, iN_shr, iN_cl, iN_in, iN_mul, nbeq, iN_add, iN_in, iN_cl, X.1, X.2, X1.1, X1.2, k0 w, k193 w1, a1, b1, lgc, e, eq_self, if_true, if_false]
theorem lw_14 (hn : n < 2147483648) (hi : i + 6 ≤ n) (R : Rel h) (X : Sc S n h) : ∃ h', f302_816 h 2000000 0 193 (iN i) = some (.inl (iN (i + 6), h')) ∧ Rel h' ∧ Sc S n h' := by
  have w := R.1
  by_cases e : S (i + 5) = iN 0
  · obtain ⟨v, a1, a3⟩ := c_colds R (S (i + 1)) (S (i + 2)) (S (i + 3)) (S (i + 4)) (iN 0)
    obtain ⟨h2, b1, b2⟩ := a3 h FQ.rfl
    refine ⟨h2, ?_, R.q b2, X.hi b2.hi⟩
    unfold f302_816 f302_1887
    simp (disch := omega) only [gT, nbeq, Option.isSome_some, Option.getD_some, Bool.and_true, Bool.true_and, Bool.and_self, mX_some, bS, bN_if, bN_01, i1_01, i0_01, if_true, if_false, Bool.false_eq_true, false_and, and_false, and_true, true_and, and_self, Bool.or_false, Bool.false_or, Bool.or_true, Bool.true_or, Bool.false_and, Bool.and_false, decide_true, decide_false, L0, L1, L2, L3, L4, L5, L6, L7, L8, L9, L10, L11, L12, L13, L14, L15, L16, L17, L18, L19, L20, L21, L22, L23, L24, L25, L27, L33, L39, L40, L45, L48, L57, L60, L72, L90, L97, L98, L99, L100, L121, L122, L242, L255, L256, L580, L600, L1000, L1584, L1000000, Ln1, iN_add, iN_and, iN_or, iN_nd, iN_shl, iN_shr, iN_cl, iN_in, iN_mul, nbeq, iN_add, iN_in, iN_cl, X.1, X.2, k0 w, k193 w, a1, b1, lgc, e, eq_self, if_true, if_false]
  · obtain ⟨v, a1, a3⟩ := c_colds R (S (i + 1)) (S (i + 2)) (S (i + 3)) (S (i + 4)) (iN 1)
    obtain ⟨h2, b1, b2⟩ := a3 h FQ.rfl
    refine ⟨h2, ?_, R.q b2, X.hi b2.hi⟩
    unfold f302_816 f302_1887
    simp (disch := omega) only [gT, nbeq, Option.isSome_some, Option.getD_some, Bool.and_true, Bool.true_and, Bool.and_self, mX_some, bS, bN_if, bN_01, i1_01, i0_01, if_true, if_false, Bool.false_eq_true, false_and, and_false, and_true, true_and, and_self, Bool.or_false, Bool.false_or, Bool.or_true, Bool.true_or, Bool.false_and, Bool.and_false, decide_true, decide_false, L0, L1, L2, L3, L4, L5, L6, L7, L8, L9, L10, L11, L12, L13, L14, L15, L16, L17, L18, L19, L20, L21, L22, L23, L24, L25, L27, L33, L39, L40, L45, L48, L57, L60, L72, L90, L97, L98, L99, L100, L121, L122, L242, L255, L256, L580, L600, L1000, L1584, L1000000, Ln1, iN_add, iN_and, iN_or, iN_nd, iN_shl, iN_shr, iN_cl, iN_in, iN_mul, nbeq, iN_add, iN_in, iN_cl, X.1, X.2, k0 w, k193 w, a1, b1, lgc, e, eq_self, if_true, if_false]
theorem lw_15 (hn : n < 2147483648) (hi : i + 6 ≤ n) (R : Rel h) (X : Sc S n h) : ∃ h', f302_896 h 2000000 0 193 (iN i) = some (.inl (iN (i + 6), h')) ∧ Rel h' ∧ Sc S n h' := by
  have w := R.1
  obtain ⟨v, a1, a3⟩ := c_fact R (S (i + 1)) (S (i + 2)) (S (i + 3))
  obtain ⟨h2, b1, b2⟩ := a3 h FQ.rfl
  refine ⟨h2, ?_, R.q b2, X.hi b2.hi⟩
  unfold f302_896 f302_1887
  simp (disch := omega) only [gT, nbeq, Option.isSome_some, Option.getD_some, Bool.and_true, Bool.true_and, Bool.and_self, mX_some, bS, bN_if, bN_01, i1_01, i0_01, if_true, if_false, Bool.false_eq_true, false_and, and_false, and_true, true_and, and_self, Bool.or_false, Bool.false_or, Bool.or_true, Bool.true_or, Bool.false_and, Bool.and_false, decide_true, decide_false, L0, L1, L2, L3, L4, L5, L6, L7, L8, L9, L10, L11, L12, L13, L14, L15, L16, L17, L18, L19, L20, L21, L22, L23, L24, L25, L27, L33, L39, L40, L45, L48, L57, L60, L72, L90, L97, L98, L99, L100, L121, L122, L242, L255, L256, L580, L600, L1000, L1584, L1000000, Ln1, iN_add, iN_and, iN_or, iN_nd, iN_shl, iN_shr, iN_cl, iN_in, iN_mul, nbeq, iN_add, iN_in, iN_cl, X.1, X.2, k0 w, k193 w, a1, b1, lgc, eq_self, if_true, if_false]
theorem lw_16 (hn : n < 2147483648) (hi : i + 6 ≤ n) (R : Rel h) (X : Sc S n h) : ∃ h', f302_939 h 2000000 0 193 (iN i) = some (.inl (iN (i + 6), h')) ∧ Rel h' ∧ Sc S n h' := by
  have w := R.1
  obtain ⟨v, h1, a1, a2, a3⟩ := c_fits R (S (i + 1)) (S (i + 2)) (S (i + 3))
  obtain ⟨h2, b1, b2⟩ := a3 h1 a2
  have w1 := w.q a2
  have X1 := X.hi a2.hi
  refine ⟨h2, ?_, (R.q a2).q b2, X1.hi b2.hi⟩
  unfold f302_939 f302_1887
  simp (disch := omega) only [gT, nbeq, Option.isSome_some, Option.getD_some, Bool.and_true, Bool.true_and, Bool.and_self, mX_some, bS, bN_if, bN_01, i1_01, i0_01, if_true, if_false, Bool.false_eq_true, false_and, and_false, and_true, true_and, and_self, Bool.or_false, Bool.false_or, Bool.or_true, Bool.true_or, Bool.false_and, Bool.and_false, decide_true, decide_false, L0, L1, L2, L3, L4, L5, L6, L7, L8, L9, L10, L11, L12, L13, L14, L15, L16, L17, L18, L19, L20, L21, L22, L23, L24, L25, L27, L33, L39, L40, L45, L48, L57, L60, L72, L90, L97, L98, L99, L100, L121, L122, L242, L255, L256, L580, L600, L1000, L1584, L1000000, Ln1, iN_add, iN_and, iN_or, iN_nd, iN_shl, iN_shr, iN_cl, iN_in, iN_mul, nbeq, iN_add, iN_in, iN_cl, X.1, X.2, X1.1, X1.2, k0 w, k193 w1, a1, b1, lgc, eq_self, if_true, if_false]
theorem lw_17 (hn : n < 2147483648) (hi : i + 6 ≤ n) (R : Rel h) (X : Sc S n h) : ∃ h', f302_982 h 2000000 0 193 (iN i) = some (.inl (iN (i + 6), h')) ∧ Rel h' ∧ Sc S n h' := by
  have w := R.1
  obtain ⟨v, h1, a1, a2, a3⟩ := c_drawn R (S (i + 1)) (S (i + 2)) (S (i + 3)) (S (i + 4))
  obtain ⟨h2, b1, b2⟩ := a3 h1 a2
  have w1 := w.q a2
  have X1 := X.hi a2.hi
  refine ⟨h2, ?_, (R.q a2).q b2, X1.hi b2.hi⟩
  unfold f302_982 f302_1887
  simp (disch := omega) only [gT, nbeq, Option.isSome_some, Option.getD_some, Bool.and_true, Bool.true_and, Bool.and_self, mX_some, bS, bN_if, bN_01, i1_01, i0_01, if_true, if_false, Bool.false_eq_true, false_and, and_false, and_true, true_and, and_self, Bool.or_false, Bool.false_or, Bool.or_true, Bool.true_or, Bool.false_and, Bool.and_false, decide_true, decide_false, L0, L1, L2, L3, L4, L5, L6, L7, L8, L9, L10, L11, L12, L13, L14, L15, L16, L17, L18, L19, L20, L21, L22, L23, L24, L25, L27, L33, L39, L40, L45, L48, L57, L60, L72, L90, L97, L98, L99, L100, L121, L122, L242, L255, L256, L580, L600, L1000, L1584, L1000000, Ln1, iN_add, iN_and, iN_or, iN_nd, iN_shl, iN_shr, iN_cl, iN_in, iN_mul, nbeq, iN_add, iN_in, iN_cl, X.1, X.2, X1.1, X1.2, k0 w, k193 w1, a1, b1, lgc, eq_self, if_true, if_false]
theorem lw_18 (hn : n < 2147483648) (hi : i + 6 ≤ n) (R : Rel h) (X : Sc S n h) : ∃ h', f302_1035 h 2000000 0 193 (iN i) = some (.inl (iN (i + 6), h')) ∧ Rel h' ∧ Sc S n h' := by
  have w := R.1
  obtain ⟨v, h1, a1, a2, a3⟩ := c_shelf R (S (i + 1)) (S (i + 2))
  obtain ⟨h2, b1, b2⟩ := a3 h1 a2
  have w1 := w.q a2
  have X1 := X.hi a2.hi
  refine ⟨h2, ?_, (R.q a2).q b2, X1.hi b2.hi⟩
  unfold f302_1035 f302_1887
  simp (disch := omega) only [gT, nbeq, Option.isSome_some, Option.getD_some, Bool.and_true, Bool.true_and, Bool.and_self, mX_some, bS, bN_if, bN_01, i1_01, i0_01, if_true, if_false, Bool.false_eq_true, false_and, and_false, and_true, true_and, and_self, Bool.or_false, Bool.false_or, Bool.or_true, Bool.true_or, Bool.false_and, Bool.and_false, decide_true, decide_false, L0, L1, L2, L3, L4, L5, L6, L7, L8, L9, L10, L11, L12, L13, L14, L15, L16, L17, L18, L19, L20, L21, L22, L23, L24, L25, L27, L33, L39, L40, L45, L48, L57, L60, L72, L90, L97, L98, L99, L100, L121, L122, L242, L255, L256, L580, L600, L1000, L1584, L1000000, Ln1, iN_add, iN_and, iN_or, iN_nd, iN_shl, iN_shr, iN_cl, iN_in, iN_mul, nbeq, iN_add, iN_in, iN_cl, X.1, X.2, X1.1, X1.2, k0 w, k193 w1, a1, b1, lgc, eq_self, if_true, if_false]
theorem lw_19 (hn : n < 2147483648) (hi : i + 6 ≤ n) (R : Rel h) (X : Sc S n h) : ∃ h', f302_1068 h 2000000 0 193 (iN i) = some (.inl (iN (i + 6), h')) ∧ Rel h' ∧ Sc S n h' := by
  have w := R.1
  obtain ⟨v, h1, a1, a2, a3⟩ := c_lessons R (S (i + 1)) (S (i + 2)) (S (i + 3))
  obtain ⟨h2, b1, b2⟩ := a3 h1 a2
  have w1 := w.q a2
  have X1 := X.hi a2.hi
  refine ⟨h2, ?_, (R.q a2).q b2, X1.hi b2.hi⟩
  unfold f302_1068 f302_1887
  simp (disch := omega) only [gT, nbeq, Option.isSome_some, Option.getD_some, Bool.and_true, Bool.true_and, Bool.and_self, mX_some, bS, bN_if, bN_01, i1_01, i0_01, if_true, if_false, Bool.false_eq_true, false_and, and_false, and_true, true_and, and_self, Bool.or_false, Bool.false_or, Bool.or_true, Bool.true_or, Bool.false_and, Bool.and_false, decide_true, decide_false, L0, L1, L2, L3, L4, L5, L6, L7, L8, L9, L10, L11, L12, L13, L14, L15, L16, L17, L18, L19, L20, L21, L22, L23, L24, L25, L27, L33, L39, L40, L45, L48, L57, L60, L72, L90, L97, L98, L99, L100, L121, L122, L242, L255, L256, L580, L600, L1000, L1584, L1000000, Ln1, iN_add, iN_and, iN_or, iN_nd, iN_shl, iN_shr, iN_cl, iN_in, iN_mul, nbeq, iN_add, iN_in, iN_cl, X.1, X.2, X1.1, X1.2, k0 w, k193 w1, a1, b1, lgc, eq_self, if_true, if_false]
theorem lw_20 (hn : n < 2147483648) (hi : i + 6 ≤ n) (R : Rel h) (X : Sc S n h) : ∃ h', f302_1111 h 2000000 0 193 (iN i) = some (.inl (iN (i + 6), h')) ∧ Rel h' ∧ Sc S n h' := by
  have w := R.1
  obtain ⟨v, h1, a1, a2, a3⟩ := c_feast R (S (i + 1)) (S (i + 2)) (S (i + 3)) (S (i + 4))
  obtain ⟨h2, b1, b2⟩ := a3 h1 a2
  have w1 := w.q a2
  have X1 := X.hi a2.hi
  refine ⟨h2, ?_, (R.q a2).q b2, X1.hi b2.hi⟩
  unfold f302_1111 f302_1887
  simp (disch := omega) only [gT, nbeq, Option.isSome_some, Option.getD_some, Bool.and_true, Bool.true_and, Bool.and_self, mX_some, bS, bN_if, bN_01, i1_01, i0_01, if_true, if_false, Bool.false_eq_true, false_and, and_false, and_true, true_and, and_self, Bool.or_false, Bool.false_or, Bool.or_true, Bool.true_or, Bool.false_and, Bool.and_false, decide_true, decide_false, L0, L1, L2, L3, L4, L5, L6, L7, L8, L9, L10, L11, L12, L13, L14, L15, L16, L17, L18, L19, L20, L21, L22, L23, L24, L25, L27, L33, L39, L40, L45, L48, L57, L60, L72, L90, L97, L98, L99, L100, L121, L122, L242, L255, L256, L580, L600, L1000, L1584, L1000000, Ln1, iN_add, iN_and, iN_or, iN_nd, iN_shl, iN_shr, iN_cl, iN_in, iN_mul, nbeq, iN_add, iN_in, iN_cl, X.1, X.2, X1.1, X1.2, k0 w, k193 w1, a1, b1, lgc, eq_self, if_true, if_false]
theorem lw_21 (hn : n < 2147483648) (hi : i + 6 ≤ n) (R : Rel h) (X : Sc S n h) : ∃ h', f302_1164 h 2000000 0 193 (iN i) = some (.inl (iN (i + 6), h')) ∧ Rel h' ∧ Sc S n h' := by
  have w := R.1
  obtain ⟨v, h1, a1, a2, a3⟩ := c_sweet R (S (i + 1)) (S (i + 2)) (S (i + 3))
  obtain ⟨h2, b1, b2⟩ := a3 h1 a2
  have w1 := w.q a2
  have X1 := X.hi a2.hi
  refine ⟨h2, ?_, (R.q a2).q b2, X1.hi b2.hi⟩
  unfold f302_1164 f302_1887
  simp (disch := omega) only [gT, nbeq, Option.isSome_some, Option.getD_some, Bool.and_true, Bool.true_and, Bool.and_self, mX_some, bS, bN_if, bN_01, i1_01, i0_01, if_true, if_false, Bool.false_eq_true, false_and, and_false, and_true, true_and, and_self, Bool.or_false, Bool.false_or, Bool.or_true, Bool.true_or, Bool.false_and, Bool.and_false, decide_true, decide_false, L0, L1, L2, L3, L4, L5, L6, L7, L8, L9, L10, L11, L12, L13, L14, L15, L16, L17, L18, L19, L20, L21, L22, L23, L24, L25, L27, L33, L39, L40, L45, L48, L57, L60, L72, L90, L97, L98, L99, L100, L121, L122, L242, L255, L256, L580, L600, L1000, L1584, L1000000, Ln1, iN_add, iN_and, iN_or, iN_nd, iN_shl, iN_shr, iN_cl, iN_in, iN_mul, nbeq, iN_add, iN_in, iN_cl, X.1, X.2, X1.1, X1.2, k0 w, k193 w1, a1, b1, lgc, eq_self, if_true, if_false]
theorem lw_22 (hn : n < 2147483648) (hi : i + 6 ≤ n) (R : Rel h) (X : Sc S n h) : ∃ h', f302_1207 h 2000000 0 193 (iN i) = some (.inl (iN (i + 6), h')) ∧ Rel h' ∧ Sc S n h' := by
  have w := R.1
  obtain ⟨v, h1, a1, a2, a3⟩ := c_ladder R (S (i + 1)) (S (i + 2))
  obtain ⟨h2, b1, b2⟩ := a3 h1 a2
  have w1 := w.q a2
  have X1 := X.hi a2.hi
  refine ⟨h2, ?_, (R.q a2).q b2, X1.hi b2.hi⟩
  unfold f302_1207 f302_1887
  simp (disch := omega) only [gT, nbeq, Option.isSome_some, Option.getD_some, Bool.and_true, Bool.true_and, Bool.and_self, mX_some, bS, bN_if, bN_01, i1_01, i0_01, if_true, if_false, Bool.false_eq_true, false_and, and_false, and_true, true_and, and_self, Bool.or_false, Bool.false_or, Bool.or_true, Bool.true_or, Bool.false_and, Bool.and_false, decide_true, decide_false, L0, L1, L2, L3, L4, L5, L6, L7, L8, L9, L10, L11, L12, L13, L14, L15, L16, L17, L18, L19, L20, L21, L22, L23, L24, L25, L27, L33, L39, L40, L45, L48, L57, L60, L72, L90, L97, L98, L99, L100, L121, L122, L242, L255, L256, L580, L600, L1000, L1584, L1000000, Ln1, iN_add, iN_and, iN_or, iN_nd, iN_shl, iN_shr, iN_cl, iN_in, iN_mul, nbeq, iN_add, iN_in, iN_cl, X.1, X.2, X1.1, X1.2, k0 w, k193 w1, a1, b1, lgc, eq_self, if_true, if_false]
theorem lw_23 (hn : n < 2147483648) (hi : i + 6 ≤ n) (R : Rel h) (X : Sc S n h) : ∃ h', f302_1240 h 2000000 0 193 (iN i) = some (.inl (iN (i + 6), h')) ∧ Rel h' ∧ Sc S n h' := by
  have w := R.1
  obtain ⟨v, h1, a1, a2, a3⟩ := c_dim R (S (i + 1)) (S (i + 2))
  obtain ⟨h2, b1, b2⟩ := a3 h1 a2
  have w1 := w.q a2
  have X1 := X.hi a2.hi
  refine ⟨h2, ?_, (R.q a2).q b2, X1.hi b2.hi⟩
  unfold f302_1240 f302_1887
  simp (disch := omega) only [gT, nbeq, Option.isSome_some, Option.getD_some, Bool.and_true, Bool.true_and, Bool.and_self, mX_some, bS, bN_if, bN_01, i1_01, i0_01, if_true, if_false, Bool.false_eq_true, false_and, and_false, and_true, true_and, and_self, Bool.or_false, Bool.false_or, Bool.or_true, Bool.true_or, Bool.false_and, Bool.and_false, decide_true, decide_false, L0, L1, L2, L3, L4, L5, L6, L7, L8, L9, L10, L11, L12, L13, L14, L15, L16, L17, L18, L19, L20, L21, L22, L23, L24, L25, L27, L33, L39, L40, L45, L48, L57, L60, L72, L90, L97, L98, L99, L100, L121, L122, L242, L255, L256, L580, L600, L1000, L1584, L1000000, Ln1, iN_add, iN_and, iN_or, iN_nd, iN_shl, iN_shr, iN_cl, iN_in, iN_mul, nbeq, iN_add, iN_in, iN_cl, X.1, X.2, X1.1, X1.2, k0 w, k193 w1, a1, b1, lgc, eq_self, if_true, if_false]
theorem lw_24 (hn : n < 2147483648) (hi : i + 6 ≤ n) (R : Rel h) (X : Sc S n h) : ∃ h', f302_1273 h 2000000 0 193 (iN i) = some (.inl (iN (i + 6), h')) ∧ Rel h' ∧ Sc S n h' := by
  have w := R.1
  by_cases e : S (i + 2) = iN 0
  · obtain ⟨v, h1, a1, a2, a3⟩ := c_ban R (S (i + 1)) (iN 0)
    obtain ⟨h2, b1, b2⟩ := a3 h1 a2
    have w1 := w.q a2
    have X1 := X.hi a2.hi
    refine ⟨h2, ?_, (R.q a2).q b2, X1.hi b2.hi⟩
    unfold f302_1273 f302_1887
    simp (disch := omega) only [gT, nbeq, Option.isSome_some, Option.getD_some, Bool.and_true, Bool.true_and, Bool.and_self, mX_some, bS, bN_if, bN_01, i1_01, i0_01, if_true, if_false, Bool.false_eq_true, false_and, and_false, and_true, true_and, and_self, Bool.or_false, Bool.false_or, Bool.or_true, Bool.true_or, Bool.false_and, Bool.and_false, decide_true, decide_false, L0, L1, L2, L3, L4, L5, L6, L7, L8, L9, L10, L11, L12, L13, L14, L15, L16, L17, L18, L19, L20, L21, L22, L23, L24, L25, L27, L33, L39, L40, L45, L48, L57, L60, L72, L90, L97, L98, L99, L100, L121, L122, L242, L255, L256, L580, L600, L1000, L1584, L1000000, Ln1, iN_add, iN_and, iN_or, iN_nd, iN_shl, iN_shr, iN_cl, iN_in, iN_mul, nbeq, iN_add, iN_in, iN_cl, X.1, X.2, X1.1, X1.2, k0 w, k193 w1, a1, b1, lgc, e, eq_self, if_true, if_false]
  · obtain ⟨v, h1, a1, a2, a3⟩ := c_ban R (S (i + 1)) (iN 1)
    obtain ⟨h2, b1, b2⟩ := a3 h1 a2
    have w1 := w.q a2
    have X1 := X.hi a2.hi
    refine ⟨h2, ?_, (R.q a2).q b2, X1.hi b2.hi⟩
    unfold f302_1273 f302_1887
    simp (disch := omega) only [gT, nbeq, Option.isSome_some, Option.getD_some, Bool.and_true, Bool.true_and, Bool.and_self, mX_some, bS, bN_if, bN_01, i1_01, i0_01, if_true, if_false, Bool.false_eq_true, false_and, and_false, and_true, true_and, and_self, Bool.or_false, Bool.false_or, Bool.or_true, Bool.true_or, Bool.false_and, Bool.and_false, decide_true, decide_false, L0, L1, L2, L3, L4, L5, L6, L7, L8, L9, L10, L11, L12, L13, L14, L15, L16, L17, L18, L19, L20, L21, L22, L23, L24, L25, L27, L33, L39, L40, L45, L48, L57, L60, L72, L90, L97, L98, L99, L100, L121, L122, L242, L255, L256, L580, L600, L1000, L1584, L1000000, Ln1, iN_add, iN_and, iN_or, iN_nd, iN_shl, iN_shr, iN_cl, iN_in, iN_mul, nbeq, iN_add, iN_in, iN_cl, X.1, X.2, X1.1, X1.2, k0 w, k193 w1, a1, b1, lgc, e, eq_self, if_true, if_false]
theorem lw_25 (hn : n < 2147483648) (hi : i + 6 ≤ n) (R : Rel h) (X : Sc S n h) : ∃ h', f302_1322 h 2000000 0 193 (iN i) = some (.inl (iN (i + 6), h')) ∧ Rel h' ∧ Sc S n h' := by
  have w := R.1
  by_cases e : S (i + 3) = iN 0
  · obtain ⟨v, a1, a3⟩ := c_share R (S (i + 1)) (S (i + 2)) (iN 0)
    obtain ⟨h2, b1, b2⟩ := a3 h FQ.rfl
    refine ⟨h2, ?_, R.q b2, X.hi b2.hi⟩
    unfold f302_1322 f302_1887
    simp (disch := omega) only [gT, nbeq, Option.isSome_some, Option.getD_some, Bool.and_true, Bool.true_and, Bool.and_self, mX_some, bS, bN_if, bN_01, i1_01, i0_01, if_true, if_false, Bool.false_eq_true, false_and, and_false, and_true, true_and, and_self, Bool.or_false, Bool.false_or, Bool.or_true, Bool.true_or, Bool.false_and, Bool.and_false, decide_true, decide_false, L0, L1, L2, L3, L4, L5, L6, L7, L8, L9, L10, L11, L12, L13, L14, L15, L16, L17, L18, L19, L20, L21, L22, L23, L24, L25, L27, L33, L39, L40, L45, L48, L57, L60, L72, L90, L97, L98, L99, L100, L121, L122, L242, L255, L256, L580, L600, L1000, L1584, L1000000, Ln1, iN_add, iN_and, iN_or, iN_nd, iN_shl, iN_shr, iN_cl, iN_in, iN_mul, nbeq, iN_add, iN_in, iN_cl, X.1, X.2, k0 w, k193 w, a1, b1, lgc, e, eq_self, if_true, if_false]
  · obtain ⟨v, a1, a3⟩ := c_share R (S (i + 1)) (S (i + 2)) (iN 1)
    obtain ⟨h2, b1, b2⟩ := a3 h FQ.rfl
    refine ⟨h2, ?_, R.q b2, X.hi b2.hi⟩
    unfold f302_1322 f302_1887
    simp (disch := omega) only [gT, nbeq, Option.isSome_some, Option.getD_some, Bool.and_true, Bool.true_and, Bool.and_self, mX_some, bS, bN_if, bN_01, i1_01, i0_01, if_true, if_false, Bool.false_eq_true, false_and, and_false, and_true, true_and, and_self, Bool.or_false, Bool.false_or, Bool.or_true, Bool.true_or, Bool.false_and, Bool.and_false, decide_true, decide_false, L0, L1, L2, L3, L4, L5, L6, L7, L8, L9, L10, L11, L12, L13, L14, L15, L16, L17, L18, L19, L20, L21, L22, L23, L24, L25, L27, L33, L39, L40, L45, L48, L57, L60, L72, L90, L97, L98, L99, L100, L121, L122, L242, L255, L256, L580, L600, L1000, L1584, L1000000, Ln1, iN_add, iN_and, iN_or, iN_nd, iN_shl, iN_shr, iN_cl, iN_in, iN_mul, nbeq, iN_add, iN_in, iN_cl, X.1, X.2, k0 w, k193 w, a1, b1, lgc, e, eq_self, if_true, if_false]
theorem lw_26 (hn : n < 2147483648) (hi : i + 6 ≤ n) (R : Rel h) (X : Sc S n h) : ∃ h', f302_1382 h 2000000 0 193 (iN i) = some (.inl (iN (i + 6), h')) ∧ Rel h' ∧ Sc S n h' := by
  have w := R.1
  obtain ⟨v, h1, a1, a2, a3⟩ := c_rumour R (S (i + 1)) (S (i + 2)) (S (i + 3))
  obtain ⟨h2, b1, b2⟩ := a3 h1 a2
  have w1 := w.q a2
  have X1 := X.hi a2.hi
  refine ⟨h2, ?_, (R.q a2).q b2, X1.hi b2.hi⟩
  unfold f302_1382 f302_1887
  simp (disch := omega) only [gT, nbeq, Option.isSome_some, Option.getD_some, Bool.and_true, Bool.true_and, Bool.and_self, mX_some, bS, bN_if, bN_01, i1_01, i0_01, if_true, if_false, Bool.false_eq_true, false_and, and_false, and_true, true_and, and_self, Bool.or_false, Bool.false_or, Bool.or_true, Bool.true_or, Bool.false_and, Bool.and_false, decide_true, decide_false, L0, L1, L2, L3, L4, L5, L6, L7, L8, L9, L10, L11, L12, L13, L14, L15, L16, L17, L18, L19, L20, L21, L22, L23, L24, L25, L27, L33, L39, L40, L45, L48, L57, L60, L72, L90, L97, L98, L99, L100, L121, L122, L242, L255, L256, L580, L600, L1000, L1584, L1000000, Ln1, iN_add, iN_and, iN_or, iN_nd, iN_shl, iN_shr, iN_cl, iN_in, iN_mul, nbeq, iN_add, iN_in, iN_cl, X.1, X.2, X1.1, X1.2, k0 w, k193 w1, a1, b1, lgc, eq_self, if_true, if_false]
theorem lw_27 (hn : n < 2147483648) (hi : i + 6 ≤ n) (R : Rel h) (X : Sc S n h) : ∃ h', f302_1425 h 2000000 0 193 (iN i) = some (.inl (iN (i + 6), h')) ∧ Rel h' ∧ Sc S n h' := by
  have w := R.1
  obtain ⟨v, a1, a3⟩ := c_between R (S (i + 1)) (S (i + 2)) (S (i + 3))
  obtain ⟨h2, b1, b2⟩ := a3 h FQ.rfl
  refine ⟨h2, ?_, R.q b2, X.hi b2.hi⟩
  unfold f302_1425 f302_1887
  simp (disch := omega) only [gT, nbeq, Option.isSome_some, Option.getD_some, Bool.and_true, Bool.true_and, Bool.and_self, mX_some, bS, bN_if, bN_01, i1_01, i0_01, if_true, if_false, Bool.false_eq_true, false_and, and_false, and_true, true_and, and_self, Bool.or_false, Bool.false_or, Bool.or_true, Bool.true_or, Bool.false_and, Bool.and_false, decide_true, decide_false, L0, L1, L2, L3, L4, L5, L6, L7, L8, L9, L10, L11, L12, L13, L14, L15, L16, L17, L18, L19, L20, L21, L22, L23, L24, L25, L27, L33, L39, L40, L45, L48, L57, L60, L72, L90, L97, L98, L99, L100, L121, L122, L242, L255, L256, L580, L600, L1000, L1584, L1000000, Ln1, iN_add, iN_and, iN_or, iN_nd, iN_shl, iN_shr, iN_cl, iN_in, iN_mul, nbeq, iN_add, iN_in, iN_cl, X.1, X.2, k0 w, k193 w, a1, b1, lgc, eq_self, if_true, if_false]
theorem lw_28 (hn : n < 2147483648) (hi : i + 6 ≤ n) (R : Rel h) (X : Sc S n h) : ∃ h', f302_1468 h 2000000 0 193 (iN i) = some (.inl (iN (i + 6), h')) ∧ Rel h' ∧ Sc S n h' := by
  have w := R.1
  by_cases e : S (i + 2) = iN 0
  · obtain ⟨v, a1, a3⟩ := c_centre R (S (i + 1)) (iN 0)
    obtain ⟨h2, b1, b2⟩ := a3 h FQ.rfl
    refine ⟨h2, ?_, R.q b2, X.hi b2.hi⟩
    unfold f302_1468 f302_1887
    simp (disch := omega) only [gT, nbeq, Option.isSome_some, Option.getD_some, Bool.and_true, Bool.true_and, Bool.and_self, mX_some, bS, bN_if, bN_01, i1_01, i0_01, if_true, if_false, Bool.false_eq_true, false_and, and_false, and_true, true_and, and_self, Bool.or_false, Bool.false_or, Bool.or_true, Bool.true_or, Bool.false_and, Bool.and_false, decide_true, decide_false, L0, L1, L2, L3, L4, L5, L6, L7, L8, L9, L10, L11, L12, L13, L14, L15, L16, L17, L18, L19, L20, L21, L22, L23, L24, L25, L27, L33, L39, L40, L45, L48, L57, L60, L72, L90, L97, L98, L99, L100, L121, L122, L242, L255, L256, L580, L600, L1000, L1584, L1000000, Ln1, iN_add, iN_and, iN_or, iN_nd, iN_shl, iN_shr, iN_cl, iN_in, iN_mul, nbeq, iN_add, iN_in, iN_cl, X.1, X.2, k0 w, k193 w, a1, b1, lgc, e, eq_self, if_true, if_false]
  · obtain ⟨v, a1, a3⟩ := c_centre R (S (i + 1)) (iN 1)
    obtain ⟨h2, b1, b2⟩ := a3 h FQ.rfl
    refine ⟨h2, ?_, R.q b2, X.hi b2.hi⟩
    unfold f302_1468 f302_1887
    simp (disch := omega) only [gT, nbeq, Option.isSome_some, Option.getD_some, Bool.and_true, Bool.true_and, Bool.and_self, mX_some, bS, bN_if, bN_01, i1_01, i0_01, if_true, if_false, Bool.false_eq_true, false_and, and_false, and_true, true_and, and_self, Bool.or_false, Bool.false_or, Bool.or_true, Bool.true_or, Bool.false_and, Bool.and_false, decide_true, decide_false, L0, L1, L2, L3, L4, L5, L6, L7, L8, L9, L10, L11, L12, L13, L14, L15, L16, L17, L18, L19, L20, L21, L22, L23, L24, L25, L27, L33, L39, L40, L45, L48, L57, L60, L72, L90, L97, L98, L99, L100, L121, L122, L242, L255, L256, L580, L600, L1000, L1584, L1000000, Ln1, iN_add, iN_and, iN_or, iN_nd, iN_shl, iN_shr, iN_cl, iN_in, iN_mul, nbeq, iN_add, iN_in, iN_cl, X.1, X.2, k0 w, k193 w, a1, b1, lgc, e, eq_self, if_true, if_false]
theorem lw_29 (hn : n < 2147483648) (hi : i + 6 ≤ n) (R : Rel h) (X : Sc S n h) : ∃ h', f302_1517 h 2000000 0 193 (iN i) = some (.inl (iN (i + 6), h')) ∧ Rel h' ∧ Sc S n h' := by
  have w := R.1
  by_cases e : S (i + 3) = iN 0
  · obtain ⟨v, a1, a3⟩ := c_loss R (S (i + 1)) (S (i + 2)) (iN 0)
    obtain ⟨h2, b1, b2⟩ := a3 h FQ.rfl
    refine ⟨h2, ?_, R.q b2, X.hi b2.hi⟩
    unfold f302_1517 f302_1887
    simp (disch := omega) only [gT, nbeq, Option.isSome_some, Option.getD_some, Bool.and_true, Bool.true_and, Bool.and_self, mX_some, bS, bN_if, bN_01, i1_01, i0_01, if_true, if_false, Bool.false_eq_true, false_and, and_false, and_true, true_and, and_self, Bool.or_false, Bool.false_or, Bool.or_true, Bool.true_or, Bool.false_and, Bool.and_false, decide_true, decide_false, L0, L1, L2, L3, L4, L5, L6, L7, L8, L9, L10, L11, L12, L13, L14, L15, L16, L17, L18, L19, L20, L21, L22, L23, L24, L25, L27, L33, L39, L40, L45, L48, L57, L60, L72, L90, L97, L98, L99, L100, L121, L122, L242, L255, L256, L580, L600, L1000, L1584, L1000000, Ln1, iN_add, iN_and, iN_or, iN_nd, iN_shl, iN_shr, iN_cl, iN_in, iN_mul, nbeq, iN_add, iN_in, iN_cl, X.1, X.2, k0 w, k193 w, a1, b1, lgc, e, eq_self, if_true, if_false]
  · obtain ⟨v, a1, a3⟩ := c_loss R (S (i + 1)) (S (i + 2)) (iN 1)
    obtain ⟨h2, b1, b2⟩ := a3 h FQ.rfl
    refine ⟨h2, ?_, R.q b2, X.hi b2.hi⟩
    unfold f302_1517 f302_1887
    simp (disch := omega) only [gT, nbeq, Option.isSome_some, Option.getD_some, Bool.and_true, Bool.true_and, Bool.and_self, mX_some, bS, bN_if, bN_01, i1_01, i0_01, if_true, if_false, Bool.false_eq_true, false_and, and_false, and_true, true_and, and_self, Bool.or_false, Bool.false_or, Bool.or_true, Bool.true_or, Bool.false_and, Bool.and_false, decide_true, decide_false, L0, L1, L2, L3, L4, L5, L6, L7, L8, L9, L10, L11, L12, L13, L14, L15, L16, L17, L18, L19, L20, L21, L22, L23, L24, L25, L27, L33, L39, L40, L45, L48, L57, L60, L72, L90, L97, L98, L99, L100, L121, L122, L242, L255, L256, L580, L600, L1000, L1584, L1000000, Ln1, iN_add, iN_and, iN_or, iN_nd, iN_shl, iN_shr, iN_cl, iN_in, iN_mul, nbeq, iN_add, iN_in, iN_cl, X.1, X.2, k0 w, k193 w, a1, b1, lgc, e, eq_self, if_true, if_false]
theorem lw_30 (hn : n < 2147483648) (hi : i + 6 ≤ n) (R : Rel h) (X : Sc S n h) : ∃ h', f302_1576 h 2000000 0 193 (iN i) = some (.inl (iN (i + 6), h')) ∧ Rel h' ∧ Sc S n h' := by
  have w := R.1
  by_cases e : S (i + 4) = iN 0
  · obtain ⟨v, a1, a3⟩ := c_waits R (S (i + 1)) (S (i + 2)) (S (i + 3)) (iN 0)
    obtain ⟨h2, b1, b2⟩ := a3 h FQ.rfl
    refine ⟨h2, ?_, R.q b2, X.hi b2.hi⟩
    unfold f302_1576 f302_1887
    simp (disch := omega) only [gT, nbeq, Option.isSome_some, Option.getD_some, Bool.and_true, Bool.true_and, Bool.and_self, mX_some, bS, bN_if, bN_01, i1_01, i0_01, if_true, if_false, Bool.false_eq_true, false_and, and_false, and_true, true_and, and_self, Bool.or_false, Bool.false_or, Bool.or_true, Bool.true_or, Bool.false_and, Bool.and_false, decide_true, decide_false, L0, L1, L2, L3, L4, L5, L6, L7, L8, L9, L10, L11, L12, L13, L14, L15, L16, L17, L18, L19, L20, L21, L22, L23, L24, L25, L27, L33, L39, L40, L45, L48, L57, L60, L72, L90, L97, L98, L99, L100, L121, L122, L242, L255, L256, L580, L600, L1000, L1584, L1000000, Ln1, iN_add, iN_and, iN_or, iN_nd, iN_shl, iN_shr, iN_cl, iN_in, iN_mul, nbeq, iN_add, iN_in, iN_cl, X.1, X.2, k0 w, k193 w, a1, b1, lgc, e, eq_self, if_true, if_false]
  · obtain ⟨v, a1, a3⟩ := c_waits R (S (i + 1)) (S (i + 2)) (S (i + 3)) (iN 1)
    obtain ⟨h2, b1, b2⟩ := a3 h FQ.rfl
    refine ⟨h2, ?_, R.q b2, X.hi b2.hi⟩
    unfold f302_1576 f302_1887
    simp (disch := omega) only [gT, nbeq, Option.isSome_some, Option.getD_some, Bool.and_true, Bool.true_and, Bool.and_self, mX_some, bS, bN_if, bN_01, i1_01, i0_01, if_true, if_false, Bool.false_eq_true, false_and, and_false, and_true, true_and, and_self, Bool.or_false, Bool.false_or, Bool.or_true, Bool.true_or, Bool.false_and, Bool.and_false, decide_true, decide_false, L0, L1, L2, L3, L4, L5, L6, L7, L8, L9, L10, L11, L12, L13, L14, L15, L16, L17, L18, L19, L20, L21, L22, L23, L24, L25, L27, L33, L39, L40, L45, L48, L57, L60, L72, L90, L97, L98, L99, L100, L121, L122, L242, L255, L256, L580, L600, L1000, L1584, L1000000, Ln1, iN_add, iN_and, iN_or, iN_nd, iN_shl, iN_shr, iN_cl, iN_in, iN_mul, nbeq, iN_add, iN_in, iN_cl, X.1, X.2, k0 w, k193 w, a1, b1, lgc, e, eq_self, if_true, if_false]
theorem lw_31 (hn : n < 2147483648) (hi : i + 6 ≤ n) (R : Rel h) (X : Sc S n h) : ∃ h', f302_1646 h 2000000 0 193 (iN i) = some (.inl (iN (i + 6), h')) ∧ Rel h' ∧ Sc S n h' := by
  have w := R.1
  obtain ⟨v, h1, a1, a2, a3⟩ := c_after R (S (i + 1)) (S (i + 2)) (S (i + 3))
  obtain ⟨h2, b1, b2⟩ := a3 h1 a2
  have w1 := w.q a2
  have X1 := X.hi a2.hi
  refine ⟨h2, ?_, (R.q a2).q b2, X1.hi b2.hi⟩
  unfold f302_1646 f302_1887
  simp (disch := omega) only [gT, nbeq, Option.isSome_some, Option.getD_some, Bool.and_true, Bool.true_and, Bool.and_self, mX_some, bS, bN_if, bN_01, i1_01, i0_01, if_true, if_false, Bool.false_eq_true, false_and, and_false, and_true, true_and, and_self, Bool.or_false, Bool.false_or, Bool.or_true, Bool.true_or, Bool.false_and, Bool.and_false, decide_true, decide_false, L0, L1, L2, L3, L4, L5, L6, L7, L8, L9, L10, L11, L12, L13, L14, L15, L16, L17, L18, L19, L20, L21, L22, L23, L24, L25, L27, L33, L39, L40, L45, L48, L57, L60, L72, L90, L97, L98, L99, L100, L121, L122, L242, L255, L256, L580, L600, L1000, L1584, L1000000, Ln1, iN_add, iN_and, iN_or, iN_nd, iN_shl, iN_shr, iN_cl, iN_in, iN_mul, nbeq, iN_add, iN_in, iN_cl, X.1, X.2, X1.1, X1.2, k0 w, k193 w1, a1, b1, lgc, eq_self, if_true, if_false]
theorem lw_32 (hn : n < 2147483648) (hi : i + 6 ≤ n) (R : Rel h) (X : Sc S n h) : ∃ h', f302_1689 h 2000000 0 193 (iN i) = some (.inl (iN (i + 6), h')) ∧ Rel h' ∧ Sc S n h' := by
  have w := R.1
  by_cases e : S (i + 4) = iN 0
  · obtain ⟨v, h1, a1, a2, a3⟩ := c_odds R (S (i + 1)) (S (i + 2)) (S (i + 3)) (iN 0)
    obtain ⟨h2, b1, b2⟩ := a3 h1 a2
    have w1 := w.q a2
    have X1 := X.hi a2.hi
    refine ⟨h2, ?_, (R.q a2).q b2, X1.hi b2.hi⟩
    unfold f302_1689 f302_1887
    simp (disch := omega) only [gT, nbeq, Option.isSome_some, Option.getD_some, Bool.and_true, Bool.true_and, Bool.and_self, mX_some, bS, bN_if, bN_01, i1_01, i0_01, if_true, if_false, Bool.false_eq_true, false_and, and_false, and_true, true_and, and_self, Bool.or_false, Bool.false_or, Bool.or_true, Bool.true_or, Bool.false_and, Bool.and_false, decide_true, decide_false, L0, L1, L2, L3, L4, L5, L6, L7, L8, L9, L10, L11, L12, L13, L14, L15, L16, L17, L18, L19, L20, L21, L22, L23, L24, L25, L27, L33, L39, L40, L45, L48, L57, L60, L72, L90, L97, L98, L99, L100, L121, L122, L242, L255, L256, L580, L600, L1000, L1584, L1000000, Ln1, iN_add, iN_and, iN_or, iN_nd, iN_shl, iN_shr, iN_cl, iN_in, iN_mul, nbeq, iN_add, iN_in, iN_cl, X.1, X.2, X1.1, X1.2, k0 w, k193 w1, a1, b1, lgc, e, eq_self, if_true, if_false]
  · obtain ⟨v, h1, a1, a2, a3⟩ := c_odds R (S (i + 1)) (S (i + 2)) (S (i + 3)) (iN 1)
    obtain ⟨h2, b1, b2⟩ := a3 h1 a2
    have w1 := w.q a2
    have X1 := X.hi a2.hi
    refine ⟨h2, ?_, (R.q a2).q b2, X1.hi b2.hi⟩
    unfold f302_1689 f302_1887
    simp (disch := omega) only [gT, nbeq, Option.isSome_some, Option.getD_some, Bool.and_true, Bool.true_and, Bool.and_self, mX_some, bS, bN_if, bN_01, i1_01, i0_01, if_true, if_false, Bool.false_eq_true, false_and, and_false, and_true, true_and, and_self, Bool.or_false, Bool.false_or, Bool.or_true, Bool.true_or, Bool.false_and, Bool.and_false, decide_true, decide_false, L0, L1, L2, L3, L4, L5, L6, L7, L8, L9, L10, L11, L12, L13, L14, L15, L16, L17, L18, L19, L20, L21, L22, L23, L24, L25, L27, L33, L39, L40, L45, L48, L57, L60, L72, L90, L97, L98, L99, L100, L121, L122, L242, L255, L256, L580, L600, L1000, L1584, L1000000, Ln1, iN_add, iN_and, iN_or, iN_nd, iN_shl, iN_shr, iN_cl, iN_in, iN_mul, nbeq, iN_add, iN_in, iN_cl, X.1, X.2, X1.1, X1.2, k0 w, k193 w1, a1, b1, lgc, e, eq_self, if_true, if_false]
theorem lw_33 (hn : n < 2147483648) (hi : i + 6 ≤ n) (R : Rel h) (X : Sc S n h) : ∃ h', f302_1759 h 2000000 0 193 (iN i) = some (.inl (iN (i + 6), h')) ∧ Rel h' ∧ Sc S n h' := by
  have w := R.1
  by_cases e : S (i + 3) = iN 0
  · obtain ⟨v, h1, a1, a2, a3⟩ := c_ago R (S (i + 1)) (S (i + 2)) (iN 0)
    obtain ⟨h2, b1, b2⟩ := a3 h1 a2
    have w1 := w.q a2
    have X1 := X.hi a2.hi
    refine ⟨h2, ?_, (R.q a2).q b2, X1.hi b2.hi⟩
    unfold f302_1759 f302_1887
    simp (disch := omega) only [gT, nbeq, Option.isSome_some, Option.getD_some, Bool.and_true, Bool.true_and, Bool.and_self, mX_some, bS, bN_if, bN_01, i1_01, i0_01, if_true, if_false, Bool.false_eq_true, false_and, and_false, and_true, true_and, and_self, Bool.or_false, Bool.false_or, Bool.or_true, Bool.true_or, Bool.false_and, Bool.and_false, decide_true, decide_false, L0, L1, L2, L3, L4, L5, L6, L7, L8, L9, L10, L11, L12, L13, L14, L15, L16, L17, L18, L19, L20, L21, L22, L23, L24, L25, L27, L33, L39, L40, L45, L48, L57, L60, L72, L90, L97, L98, L99, L100, L121, L122, L242, L255, L256, L580, L600, L1000, L1584, L1000000, Ln1, iN_add, iN_and, iN_or, iN_nd, iN_shl, iN_shr, iN_cl, iN_in, iN_mul, nbeq, iN_add, iN_in, iN_cl, X.1, X.2, X1.1, X1.2, k0 w, k193 w1, a1, b1, lgc, e, eq_self, if_true, if_false]
  · obtain ⟨v, h1, a1, a2, a3⟩ := c_ago R (S (i + 1)) (S (i + 2)) (iN 1)
    obtain ⟨h2, b1, b2⟩ := a3 h1 a2
    have w1 := w.q a2
    have X1 := X.hi a2.hi
    refine ⟨h2, ?_, (R.q a2).q b2, X1.hi b2.hi⟩
    unfold f302_1759 f302_1887
    simp (disch := omega) only [gT, nbeq, Option.isSome_some, Option.getD_some, Bool.and_true, Bool.true_and, Bool.and_self, mX_some, bS, bN_if, bN_01, i1_01, i0_01, if_true, if_false, Bool.false_eq_true, false_and, and_false, and_true, true_and, and_self, Bool.or_false, Bool.false_or, Bool.or_true, Bool.true_or, Bool.false_and, Bool.and_false, decide_true, decide_false, L0, L1, L2, L3, L4, L5, L6, L7, L8, L9, L10, L11, L12, L13, L14, L15, L16, L17, L18, L19, L20, L21, L22, L23, L24, L25, L27, L33, L39, L40, L45, L48, L57, L60, L72, L90, L97, L98, L99, L100, L121, L122, L242, L255, L256, L580, L600, L1000, L1584, L1000000, Ln1, iN_add, iN_and, iN_or, iN_nd, iN_shl, iN_shr, iN_cl, iN_in, iN_mul, nbeq, iN_add, iN_in, iN_cl, X.1, X.2, X1.1, X1.2, k0 w, k193 w1, a1, b1, lgc, e, eq_self, if_true, if_false]
theorem lw_34 (hn : n < 2147483648) (hi : i + 6 ≤ n) (R : Rel h) (X : Sc S n h) : ∃ h', f302_1818 h 2000000 0 193 (iN i) = some (.inl (iN (i + 6), h')) ∧ Rel h' ∧ Sc S n h' := by
  have w := R.1
  obtain ⟨v, a1, a3⟩ := c_count R (S (i + 1))
  obtain ⟨h2, b1, b2⟩ := a3 h FQ.rfl
  refine ⟨h2, ?_, R.q b2, X.hi b2.hi⟩
  unfold f302_1818 f302_1887
  simp (disch := omega) only [gT, nbeq, Option.isSome_some, Option.getD_some, Bool.and_true, Bool.true_and, Bool.and_self, mX_some, bS, bN_if, bN_01, i1_01, i0_01, if_true, if_false, Bool.false_eq_true, false_and, and_false, and_true, true_and, and_self, Bool.or_false, Bool.false_or, Bool.or_true, Bool.true_or, Bool.false_and, Bool.and_false, decide_true, decide_false, L0, L1, L2, L3, L4, L5, L6, L7, L8, L9, L10, L11, L12, L13, L14, L15, L16, L17, L18, L19, L20, L21, L22, L23, L24, L25, L27, L33, L39, L40, L45, L48, L57, L60, L72, L90, L97, L98, L99, L100, L121, L122, L242, L255, L256, L580, L600, L1000, L1584, L1000000, Ln1, iN_add, iN_and, iN_or, iN_nd, iN_shl, iN_shr, iN_cl, iN_in, iN_mul, nbeq, iN_add, iN_in, iN_cl, X.1, X.2, k0 w, k193 w, a1, b1, lgc, eq_self, if_true, if_false]
theorem lw_35 (hn : n < 2147483648) (hi : i + 6 ≤ n) (R : Rel h) (X : Sc S n h) : ∃ h', f302_1841 h 2000000 0 193 (iN i) = some (.inl (iN (i + 6), h')) ∧ Rel h' ∧ Sc S n h' := by
  have w := R.1
  obtain ⟨v, h1, h2, a1, b1, r2, z1, z2⟩ := c_image R (S (i + 1))
  have kk := (z1.k 193).trans (k193 w)
  have X1 := X.hi z1
  refine ⟨h2, ?_, r2, X1.hi z2⟩
  unfold f302_1841 f302_1887
  simp (disch := omega) only [gT, nbeq, Option.isSome_some, Option.getD_some, Bool.and_true, Bool.true_and, Bool.and_self, mX_some, bS, bN_if, bN_01, i1_01, i0_01, if_true, if_false, Bool.false_eq_true, false_and, and_false, and_true, true_and, and_self, Bool.or_false, Bool.false_or, Bool.or_true, Bool.true_or, Bool.false_and, Bool.and_false, decide_true, decide_false, L0, L1, L2, L3, L4, L5, L6, L7, L8, L9, L10, L11, L12, L13, L14, L15, L16, L17, L18, L19, L20, L21, L22, L23, L24, L25, L27, L33, L39, L40, L45, L48, L57, L60, L72, L90, L97, L98, L99, L100, L121, L122, L242, L255, L256, L580, L600, L1000, L1584, L1000000, Ln1, iN_add, iN_and, iN_or, iN_nd, iN_shl, iN_shr, iN_cl, iN_in, iN_mul, nbeq, iN_add, iN_in, iN_cl, X.1, X.2, X1.1, X1.2, k0 w, kk, a1, b1, lgc, eq_self, if_true, if_false]
theorem lw_36 (hn : n < 2147483648) (hi : i + 6 ≤ n) (R : Rel h) (X : Sc S n h) : ∃ h', f302_1864 h 2000000 0 193 (iN i) = some (.inl (iN (i + 6), h')) ∧ Rel h' ∧ Sc S n h' := by
  have w := R.1
  obtain ⟨v, h1, h2, a1, b1, r2, z1, z2⟩ := c_again R (S (i + 1))
  have kk := (z1.k 193).trans (k193 w)
  have X1 := X.hi z1
  refine ⟨h2, ?_, r2, X1.hi z2⟩
  unfold f302_1864 f302_1887
  simp (disch := omega) only [gT, nbeq, Option.isSome_some, Option.getD_some, Bool.and_true, Bool.true_and, Bool.and_self, mX_some, bS, bN_if, bN_01, i1_01, i0_01, if_true, if_false, Bool.false_eq_true, false_and, and_false, and_true, true_and, and_self, Bool.or_false, Bool.false_or, Bool.or_true, Bool.true_or, Bool.false_and, Bool.and_false, decide_true, decide_false, L0, L1, L2, L3, L4, L5, L6, L7, L8, L9, L10, L11, L12, L13, L14, L15, L16, L17, L18, L19, L20, L21, L22, L23, L24, L25, L27, L33, L39, L40, L45, L48, L57, L60, L72, L90, L97, L98, L99, L100, L121, L122, L242, L255, L256, L580, L600, L1000, L1584, L1000000, Ln1, iN_add, iN_and, iN_or, iN_nd, iN_shl, iN_shr, iN_cl, iN_in, iN_mul, nbeq, iN_add, iN_in, iN_cl, X.1, X.2, X1.1, X1.2, k0 w, kk, a1, b1, lgc, eq_self, if_true, if_false]
end LWS
