/-! the class's lines, taken: the others -/
theorem nt_and {a b : Bool} {k p : Nat} {f : FT} : nt a k p (nt b k p f) = nt (b && a) k p f := by
  cases a <;> cases b <;> cases f <;> rfl
section CT3
variable {h : mH} {c : CQ} {f : FT} {s0 s1 s2 v1 v2 : Nat}
theorem CC.A {a : Nat} (C : CC h c none) : CC (mSI h 37 9 (iN a)) (c.1, (a, c.2.1.2), c.2.2) none := by
  have x : Fr p37 h (mSI h 37 9 (iN a)) := Fr.rfl.si rfl
  obtain ⟨w, cL, cY, cG, cA, cB, cF⟩ := C
  exact ⟨w.fr x, cL.fr x (fun i hi => nbq (by omega)), cY.fr x (fun i hi => nbq (by omega)), cG.fr x (fun i hi => nbq (by omega)), by simp only [si_ne, si_nk, si_eq], by simp (disch := omega) only [si_ne, si_nk, si_eq]; exact cB, by simp (disch := omega) only [si_ne, si_nk, si_eq]; exact cF.1, by simp (disch := omega) only [si_ne, si_nk, si_eq]; exact cF.2⟩
theorem CC.B {a : Nat} (C : CC h c none) : CC (mSI h 37 10 (iN a)) (c.1, (c.2.1.1, a), c.2.2) none := by
  have x : Fr p37 h (mSI h 37 10 (iN a)) := Fr.rfl.si rfl
  obtain ⟨w, cL, cY, cG, cA, cB, cF⟩ := C
  exact ⟨w.fr x, cL.fr x (fun i hi => nbq (by omega)), cY.fr x (fun i hi => nbq (by omega)), cG.fr x (fun i hi => nbq (by omega)), by simp (disch := omega) only [si_ne, si_nk, si_eq]; exact cA, by simp only [si_ne, si_nk, si_eq], by simp (disch := omega) only [si_ne, si_nk, si_eq]; exact cF.1, by simp (disch := omega) only [si_ne, si_nk, si_eq]; exact cF.2⟩
theorem t38 (C : CC h c f) (W : FTW f) (V : CWF c) (L : LC h s0 (some v1) (some v2) s1 s2) (hs : s0 ≤ 600 ∧ s1 ≤ 600 ∧ s2 ≤ 600) (hv1 : v1 ≤ 99) (hv2 : v2 ≤ 99) : ∃ h', f38 h 37 = some ((), h') ∧ Fr pPr h h' ∧ CC h' (upf 1 c v1 v2 (chk 1 c s0 s1 s2 v1 v2 f)) (chk 1 c s0 s1 s2 v1 v2 f) ∧ FTW (chk 1 c s0 s1 s2 v1 v2 f) := by
  have w := C.1
  have hA := V.2.1
  obtain ⟨g2, a2, b2, C2, W2, M2⟩ := t37 (i := 0) (lo := iN 0) (X := iN 7) (v := v1) (pl := s1) (by omega) C W L L.2.1 (L.2.2.2.1 (by simp)) (fun g => t17k (h := g) (by omega) (by omega) (by omega)) hs.2.1
  obtain ⟨g3, a3, b3, C3, W3, M3⟩ := t37 (i := 1) (lo := iN 0) (X := pN v1) (v := v2) (pl := s2) (by omega) C2 W2 M2 M2.2.2.1 (M2.2.2.2.2 (by simp)) (fun g => t17p (h := g) (by omega)) hs.2.2
  have ec : nt (rg (iN v2) v1) 2 s2 (nt (decide (0 ≤ v1 ∧ v1 ≤ 7)) 2 s1 f) = chk 1 c s0 s1 s2 v1 v2 f := by
    have : decide (0 ≤ v1 ∧ v1 ≤ 7) = decide (v1 ≤ 7) := by rw [decide_eq_decide]; omega
    rw [this, rg_iN (by omega)]; rfl
  rw [ec] at C3 W3
  have w2 := C2.1
  have w3 := C3.1
  have F3 := (b2.tr b3).mono p37_Pr
  have l0 : mI g2 54 0 = iN v1 := M2.2.1
  have fz : ∀ x y : Option (Unit × mH), (if mI g3 37 3 = iN 0 then x else y) = if (chk 1 c s0 s1 s2 v1 v2 f).isSome = true then y else x := fun x y => C3.2.2.2.2.2.2.z W3
  unfold f38
  simp (disch := omega) only [gT, nbeq, Option.isSome_some, Option.getD_some, Bool.and_true, Bool.true_and, Bool.and_self, mX_some, bS, bN_if, bN_01, i1_01, i0_01, if_true, if_false, Bool.false_eq_true, false_and, and_false, and_true, true_and, and_self, Bool.or_false, Bool.false_or, Bool.or_true, Bool.true_or, Bool.false_and, Bool.and_false, decide_true, decide_false, L0, L1, L2, L3, L4, L5, L6, L7, L8, L9, L10, L11, L12, L13, L14, L15, L16, L17, L18, L19, L20, L21, L22, L23, L24, L25, L27, L33, L39, L40, L45, L48, L57, L60, L72, L90, L97, L98, L99, L100, L121, L122, L242, L255, L256, L580, L600, L1000, L1584, L1000000, Ln1, iN_add, iN_and, iN_or, iN_nd, iN_shl, iN_shr, iN_cl, iN_in, iN_mul, k37 w, r37_0 w, r37_1 w, r37_2 w, r37_5 w, r37_6 w, r37_7 w, a2, k37 w2, r37_0 w2, r37_1 w2, r37_2 w2, r37_5 w2, r37_6 w2, r37_7 w2, k54 w2, iN_in, iN_cl, l0, iN_p, a3, k37 w3, r37_0 w3, r37_1 w3, r37_2 w3, r37_5 w3, r37_6 w3, r37_7 w3, fz]
  cases hf : chk 1 c s0 s1 s2 v1 v2 f with
  | some x =>
    rw [hf] at C3 W3
    unfold f38_73
    simp only [gT, nbeq, Option.isSome_some, Option.getD_some, Bool.and_true, Bool.true_and, Bool.and_self, mX_some, bS, bN_if, bN_01, i1_01, i0_01, if_true, if_false, Bool.false_eq_true, false_and, and_false, and_true, true_and, and_self, Bool.or_false, Bool.false_or, Bool.or_true, Bool.true_or, Bool.false_and, Bool.and_false, decide_true, decide_false]
    exact ⟨g3, rfl, F3, C3, W3⟩
  | none =>
    obtain ⟨⟨q1, q2⟩, _⟩ := chk_1 hf
    rw [hf] at C3 W3
    have H3 := C3.2.1
    have h3 := H3.ln (j := v1) (by omega)
    have U1 := H3.u (i := 2) (j := v1) (v := c.1 3 v1 ||| 1 <<< v2) (by omega)
    have G1 : Fr (pRg 38 7) g3 (mSI g3 41 v1 (iN (c.1 3 v1 ||| 1 <<< v2))) := Fr.rfl.si (by decide)
    have C4 := C3.lib G1 U1
    have w4 := C4.1
    have C5 := C4.A (a := max c.2.1.1 (v1 + 1))
    have G2 : Fr p37 (mSI g3 41 v1 (iN (c.1 3 v1 ||| 1 <<< v2))) (mSI (mSI g3 41 v1 (iN (c.1 3 v1 ||| 1 <<< v2))) 37 9 (iN (max c.2.1.1 (v1 + 1)))) := Fr.rfl.si rfl
    have l1 : mI g3 54 0 = iN v1 := M3.2.1
    have l2 : mI g3 54 1 = iN v2 := M3.2.2.1
    have e9 : mI g3 37 9 = iN c.2.1.1 := C3.2.2.2.2.1
    refine ⟨mSI (mSI g3 41 v1 (iN (c.1 3 v1 ||| 1 <<< v2))) 37 9 (iN (max c.2.1.1 (v1 + 1))), ?_, (F3.tr (G1.mono pRL_Pr)).tr (G2.mono p37_Pr), C5, W3⟩
    unfold f38_54 f38_73
    simp (disch := omega) only [gT, nbeq, Option.isSome_some, Option.getD_some, Bool.and_true, Bool.true_and, Bool.and_self, mX_some, bS, bN_if, bN_01, i1_01, i0_01, if_true, if_false, Bool.false_eq_true, false_and, and_false, and_true, true_and, and_self, Bool.or_false, Bool.false_or, Bool.or_true, Bool.true_or, Bool.false_and, Bool.and_false, decide_true, decide_false, L0, L1, L2, L3, L4, L5, L6, L7, L8, L9, L10, L11, L12, L13, L14, L15, L16, L17, L18, L19, L20, L21, L22, L23, L24, L25, L27, L33, L39, L40, L45, L48, L57, L60, L72, L90, L97, L98, L99, L100, L121, L122, L242, L255, L256, L580, L600, L1000, L1584, L1000000, Ln1, iN_add, iN_and, iN_or, iN_nd, iN_shl, iN_shr, iN_cl, iN_in, iN_mul, Option.isSome_none, k37 w3, r37_0 w3, r37_1 w3, r37_2 w3, r37_5 w3, r37_6 w3, r37_7 w3, k38 w3, r38_0 w3, r38_1 w3, r38_2 w3, r38_3 w3, r38_4 w3, r38_5 w3, k41 w3, k54 w3, l1, l2, iN_in, iN_cl, h3, iN_shl, iN_or, k37 w4, r37_0 w4, r37_1 w4, r37_2 w4, r37_5 w4, r37_6 w4, r37_7 w4, k54 w4, si_ne, si_nk, si_eq, e9, iN_add, ilt_d]
    by_cases e : c.2.1.1 < v1 + 1
    · rw [if_pos e, Nat.max_eq_right (by omega)]
    · rw [if_neg e, Nat.max_eq_left (by omega)]
theorem t39 (C : CC h c f) (W : FTW f) (L : LC h s0 (some v1) (some v2) s1 s2) (hs : s0 ≤ 600 ∧ s1 ≤ 600 ∧ s2 ≤ 600) (hv1 : v1 ≤ 99) (hv2 : v2 ≤ 99) : ∃ h', f39 h 37 = some ((), h') ∧ Fr pPr h h' ∧ CC h' (upf 2 c v1 v2 (chk 2 c s0 s1 s2 v1 v2 f)) (chk 2 c s0 s1 s2 v1 v2 f) ∧ FTW (chk 2 c s0 s1 s2 v1 v2 f) := by
  have w := C.1
  obtain ⟨g2, a2, b2, C2, W2, M2⟩ := t37 (i := 0) (lo := iN 0) (X := iN 5) (v := v1) (pl := s1) (by omega) C W L L.2.1 (L.2.2.2.1 (by simp)) (fun g => t17k (h := g) (by omega) (by omega) (by omega)) hs.2.1
  obtain ⟨g3, a3, b3, C3, W3, M3⟩ := t37 (i := 1) (lo := iN 0) (X := iN 9) (v := v2) (pl := s2) (by omega) C2 W2 M2 M2.2.2.1 (M2.2.2.2.2 (by simp)) (fun g => t17k (h := g) (by omega) (by omega) (by omega)) hs.2.2
  have ec : nt (decide (0 ≤ v2 ∧ v2 ≤ 9)) 2 s2 (nt (decide (0 ≤ v1 ∧ v1 ≤ 5)) 2 s1 f) = chk 2 c s0 s1 s2 v1 v2 f := by
    have e1 : decide (0 ≤ v1 ∧ v1 ≤ 5) = decide (v1 ≤ 5) := by rw [decide_eq_decide]; omega
    have e2 : decide (0 ≤ v2 ∧ v2 ≤ 9) = decide (v2 ≤ 9) := by rw [decide_eq_decide]; omega
    rw [e1, e2]; rfl
  rw [ec] at C3 W3
  have w2 := C2.1
  have w3 := C3.1
  have F3 := (b2.tr b3).mono p37_Pr
  have fz : ∀ x y : Option (Unit × mH), (if mI g3 37 3 = iN 0 then x else y) = if (chk 2 c s0 s1 s2 v1 v2 f).isSome = true then y else x := fun x y => C3.2.2.2.2.2.2.z W3
  unfold f39 f39_42
  simp (disch := omega) only [gT, nbeq, Option.isSome_some, Option.getD_some, Bool.and_true, Bool.true_and, Bool.and_self, mX_some, bS, bN_if, bN_01, i1_01, i0_01, if_true, if_false, Bool.false_eq_true, false_and, and_false, and_true, true_and, and_self, Bool.or_false, Bool.false_or, Bool.or_true, Bool.true_or, Bool.false_and, Bool.and_false, decide_true, decide_false, L0, L1, L2, L3, L4, L5, L6, L7, L8, L9, L10, L11, L12, L13, L14, L15, L16, L17, L18, L19, L20, L21, L22, L23, L24, L25, L27, L33, L39, L40, L45, L48, L57, L60, L72, L90, L97, L98, L99, L100, L121, L122, L242, L255, L256, L580, L600, L1000, L1584, L1000000, Ln1, iN_add, iN_and, iN_or, iN_nd, iN_shl, iN_shr, iN_cl, iN_in, iN_mul, k37 w, r37_0 w, r37_1 w, r37_2 w, r37_5 w, r37_6 w, r37_7 w, a2, k37 w2, r37_0 w2, r37_1 w2, r37_2 w2, r37_5 w2, r37_6 w2, r37_7 w2, a3, k37 w3, r37_0 w3, r37_1 w3, r37_2 w3, r37_5 w3, r37_6 w3, r37_7 w3, fz]
  cases hf : chk 2 c s0 s1 s2 v1 v2 f with
  | some x =>
    rw [hf] at C3 W3
    simp only [gT, nbeq, Option.isSome_some, Option.getD_some, Bool.and_true, Bool.true_and, Bool.and_self, mX_some, bS, bN_if, bN_01, i1_01, i0_01, if_true, if_false, Bool.false_eq_true, false_and, and_false, and_true, true_and, and_self, Bool.or_false, Bool.false_or, Bool.or_true, Bool.true_or, Bool.false_and, Bool.and_false, decide_true, decide_false]
    exact ⟨g3, rfl, F3, C3, W3⟩
  | none =>
    obtain ⟨⟨q1, q2⟩, _⟩ := chk_2 hf
    rw [hf] at C3 W3
    have H3 := C3.2.1
    have U1 := H3.u (i := 3) (j := v1) (v := v2) (by omega)
    have G1 : Fr (pRg 38 7) g3 (mSI g3 42 v1 (iN v2)) := Fr.rfl.si (by decide)
    have l1 : mI g3 54 0 = iN v1 := M3.2.1
    have l2 : mI g3 54 1 = iN v2 := M3.2.2.1
    refine ⟨mSI g3 42 v1 (iN v2), ?_, F3.tr (G1.mono pRL_Pr), C3.lib G1 U1, W3⟩
    simp (disch := omega) only [gT, nbeq, Option.isSome_some, Option.getD_some, Bool.and_true, Bool.true_and, Bool.and_self, mX_some, bS, bN_if, bN_01, i1_01, i0_01, if_true, if_false, Bool.false_eq_true, false_and, and_false, and_true, true_and, and_self, Bool.or_false, Bool.false_or, Bool.or_true, Bool.true_or, Bool.false_and, Bool.and_false, decide_true, decide_false, L0, L1, L2, L3, L4, L5, L6, L7, L8, L9, L10, L11, L12, L13, L14, L15, L16, L17, L18, L19, L20, L21, L22, L23, L24, L25, L27, L33, L39, L40, L45, L48, L57, L60, L72, L90, L97, L98, L99, L100, L121, L122, L242, L255, L256, L580, L600, L1000, L1584, L1000000, Ln1, iN_add, iN_and, iN_or, iN_nd, iN_shl, iN_shr, iN_cl, iN_in, iN_mul, Option.isSome_none, k37 w3, r37_0 w3, r37_1 w3, r37_2 w3, r37_5 w3, r37_6 w3, r37_7 w3, k38 w3, r38_0 w3, r38_1 w3, r38_2 w3, r38_3 w3, r38_4 w3, r38_5 w3, k42 w3, k54 w3, l1, l2, iN_in, iN_cl]
theorem t40 {n2 : Option Nat} (C : CC h c f) (W : FTW f) (L : LC h s0 (some v1) n2 s1 s2) (hs : s0 ≤ 600 ∧ s1 ≤ 600 ∧ s2 ≤ 600) (hv1 : v1 ≤ 99) : ∃ h', f40 h 37 = some ((), h') ∧ Fr pPr h h' ∧ CC h' (upf 3 c v1 v2 (chk 3 c s0 s1 s2 v1 v2 f)) (chk 3 c s0 s1 s2 v1 v2 f) ∧ FTW (chk 3 c s0 s1 s2 v1 v2 f) := by
  have w := C.1
  obtain ⟨g3, a3, b3, C3, W3, M3⟩ := t37 (i := 0) (lo := iN 1) (X := iN 12) (v := v1) (pl := s1) (by omega) C W L L.2.1 (L.2.2.2.1 (by simp)) (fun g => t17k (h := g) (by omega) (by omega) (by omega)) hs.2.1
  have ec : nt (decide (1 ≤ v1 ∧ v1 ≤ 12)) 2 s1 f = chk 3 c s0 s1 s2 v1 v2 f := rfl
  rw [ec] at C3 W3
  have w3 := C3.1
  have F3 := b3.mono p37_Pr
  have fz : ∀ x y : Option (Unit × mH), (if mI g3 37 3 = iN 0 then x else y) = if (chk 3 c s0 s1 s2 v1 v2 f).isSome = true then y else x := fun x y => C3.2.2.2.2.2.2.z W3
  unfold f40 f40_28
  simp (disch := omega) only [gT, nbeq, Option.isSome_some, Option.getD_some, Bool.and_true, Bool.true_and, Bool.and_self, mX_some, bS, bN_if, bN_01, i1_01, i0_01, if_true, if_false, Bool.false_eq_true, false_and, and_false, and_true, true_and, and_self, Bool.or_false, Bool.false_or, Bool.or_true, Bool.true_or, Bool.false_and, Bool.and_false, decide_true, decide_false, L0, L1, L2, L3, L4, L5, L6, L7, L8, L9, L10, L11, L12, L13, L14, L15, L16, L17, L18, L19, L20, L21, L22, L23, L24, L25, L27, L33, L39, L40, L45, L48, L57, L60, L72, L90, L97, L98, L99, L100, L121, L122, L242, L255, L256, L580, L600, L1000, L1584, L1000000, Ln1, iN_add, iN_and, iN_or, iN_nd, iN_shl, iN_shr, iN_cl, iN_in, iN_mul, k37 w, r37_0 w, r37_1 w, r37_2 w, r37_5 w, r37_6 w, r37_7 w, a3, k37 w3, r37_0 w3, r37_1 w3, r37_2 w3, r37_5 w3, r37_6 w3, r37_7 w3, fz]
  cases hf : chk 3 c s0 s1 s2 v1 v2 f with
  | some x =>
    rw [hf] at C3 W3
    simp only [gT, nbeq, Option.isSome_some, Option.getD_some, Bool.and_true, Bool.true_and, Bool.and_self, mX_some, bS, bN_if, bN_01, i1_01, i0_01, if_true, if_false, Bool.false_eq_true, false_and, and_false, and_true, true_and, and_self, Bool.or_false, Bool.false_or, Bool.or_true, Bool.true_or, Bool.false_and, Bool.and_false, decide_true, decide_false]
    exact ⟨g3, rfl, F3, C3, W3⟩
  | none =>
    obtain ⟨⟨q1, q2⟩, _⟩ := chk_3 hf
    rw [hf] at C3 W3
    have H3 := C3.2.1
    have U1 := H3.u0 (k := 2) (v := v1) (by omega)
    have G1 : Fr (pRg 38 7) g3 (mSI g3 38 8 (iN v1)) := Fr.rfl.si (by decide)
    have l1 : mI g3 54 0 = iN v1 := M3.2.1
    refine ⟨mSI g3 38 8 (iN v1), ?_, F3.tr (G1.mono pRL_Pr), C3.lib G1 U1, W3⟩
    simp (disch := omega) only [gT, nbeq, Option.isSome_some, Option.getD_some, Bool.and_true, Bool.true_and, Bool.and_self, mX_some, bS, bN_if, bN_01, i1_01, i0_01, if_true, if_false, Bool.false_eq_true, false_and, and_false, and_true, true_and, and_self, Bool.or_false, Bool.false_or, Bool.or_true, Bool.true_or, Bool.false_and, Bool.and_false, decide_true, decide_false, L0, L1, L2, L3, L4, L5, L6, L7, L8, L9, L10, L11, L12, L13, L14, L15, L16, L17, L18, L19, L20, L21, L22, L23, L24, L25, L27, L33, L39, L40, L45, L48, L57, L60, L72, L90, L97, L98, L99, L100, L121, L122, L242, L255, L256, L580, L600, L1000, L1584, L1000000, Ln1, iN_add, iN_and, iN_or, iN_nd, iN_shl, iN_shr, iN_cl, iN_in, iN_mul, Option.isSome_none, k37 w3, r37_0 w3, r37_1 w3, r37_2 w3, r37_5 w3, r37_6 w3, r37_7 w3, k38 w3, r38_0 w3, r38_1 w3, r38_2 w3, r38_3 w3, r38_4 w3, r38_5 w3, k54 w3, l1, iN_in, iN_cl]
theorem t41 {n2 : Option Nat} (C : CC h c f) (W : FTW f) (V : CWF c) (L : LC h s0 (some v1) n2 s1 s2) (hs : s0 ≤ 600 ∧ s1 ≤ 600 ∧ s2 ≤ 600) (hv1 : v1 ≤ 99) : ∃ h', f41 h 37 = some ((), h') ∧ Fr pPr h h' ∧ CC h' (upf 4 c v1 v2 (chk 4 c s0 s1 s2 v1 v2 f)) (chk 4 c s0 s1 s2 v1 v2 f) ∧ FTW (chk 4 c s0 s1 s2 v1 v2 f) := by
  have w := C.1
  have H := C.2.1
  have hn := V.1.1.2.1
  obtain ⟨g1, a1, b1, C1, W1, M1⟩ := t35 (m := c.1 0 1) (M := 6) (by omega) (by omega) C W L hs.1
  obtain ⟨g3, a3, b3, C3, W3, M3⟩ := t37 (i := 0) (lo := iN 1) (X := iN 9) (v := v1) (pl := s1) (by omega) C1 W1 M1 M1.2.1 (M1.2.2.2.1 (by simp)) (fun g => t17k (h := g) (by omega) (by omega) (by omega)) hs.2.1
  have ec : nt (decide (1 ≤ v1 ∧ v1 ≤ 9)) 2 s1 (nt (decide (c.1 0 1 < 6)) 3 s0 f) = chk 4 c s0 s1 s2 v1 v2 f := rfl
  rw [ec] at C3 W3
  have w1 := C1.1
  have w3 := C3.1
  have F3 := (b1.tr b3).mono p37_Pr
  have fz : ∀ x y : Option (Unit × mH), (if mI g3 37 3 = iN 0 then x else y) = if (chk 4 c s0 s1 s2 v1 v2 f).isSome = true then y else x := fun x y => C3.2.2.2.2.2.2.z W3
  unfold f41
  simp (disch := omega) only [gT, nbeq, Option.isSome_some, Option.getD_some, Bool.and_true, Bool.true_and, Bool.and_self, mX_some, bS, bN_if, bN_01, i1_01, i0_01, if_true, if_false, Bool.false_eq_true, false_and, and_false, and_true, true_and, and_self, Bool.or_false, Bool.false_or, Bool.or_true, Bool.true_or, Bool.false_and, Bool.and_false, decide_true, decide_false, L0, L1, L2, L3, L4, L5, L6, L7, L8, L9, L10, L11, L12, L13, L14, L15, L16, L17, L18, L19, L20, L21, L22, L23, L24, L25, L27, L33, L39, L40, L45, L48, L57, L60, L72, L90, L97, L98, L99, L100, L121, L122, L242, L255, L256, L580, L600, L1000, L1584, L1000000, Ln1, iN_add, iN_and, iN_or, iN_nd, iN_shl, iN_shr, iN_cl, iN_in, iN_mul, k37 w, r37_0 w, r37_1 w, r37_2 w, r37_5 w, r37_6 w, r37_7 w, k38 w, H.m, a1, k37 w1, r37_0 w1, r37_1 w1, r37_2 w1, r37_5 w1, r37_6 w1, r37_7 w1, a3, k37 w3, r37_0 w3, r37_1 w3, r37_2 w3, r37_5 w3, r37_6 w3, r37_7 w3, fz]
  cases hf : chk 4 c s0 s1 s2 v1 v2 f with
  | some x =>
    rw [hf] at C3 W3
    unfold f41_62
    simp only [gT, nbeq, Option.isSome_some, Option.getD_some, Bool.and_true, Bool.true_and, Bool.and_self, mX_some, bS, bN_if, bN_01, i1_01, i0_01, if_true, if_false, Bool.false_eq_true, false_and, and_false, and_true, true_and, and_self, Bool.or_false, Bool.false_or, Bool.or_true, Bool.true_or, Bool.false_and, Bool.and_false, decide_true, decide_false]
    exact ⟨g3, rfl, F3, C3, W3⟩
  | none =>
    obtain ⟨⟨q1, q2, q3⟩, _⟩ := chk_4 hf
    rw [hf] at C3 W3
    have H3 := C3.2.1
    have U1 := H3.u (i := 4) (j := c.1 0 1) (v := v1) (by omega)
    have U2 := U1.u0 (k := 1) (v := c.1 0 1 + 1) (by omega)
    have G1 : Fr (pRg 38 7) g3 (mSI g3 43 (c.1 0 1) (iN v1)) := Fr.rfl.si (by decide)
    have G3 : Fr (pRg 38 7) g3 (mSI (mSI g3 43 (c.1 0 1) (iN v1)) 38 7 (iN (c.1 0 1 + 1))) := G1.si (by decide)
    have w4 := w3.fr G1
    have l0 : mI g3 54 0 = iN v1 := M3.2.1
    refine ⟨mSI (mSI g3 43 (c.1 0 1) (iN v1)) 38 7 (iN (c.1 0 1 + 1)), ?_, F3.tr (G3.mono pRL_Pr), C3.lib G3 U2, W3⟩
    unfold f41_49 f41_62
    simp (disch := omega) only [gT, nbeq, Option.isSome_some, Option.getD_some, Bool.and_true, Bool.true_and, Bool.and_self, mX_some, bS, bN_if, bN_01, i1_01, i0_01, if_true, if_false, Bool.false_eq_true, false_and, and_false, and_true, true_and, and_self, Bool.or_false, Bool.false_or, Bool.or_true, Bool.true_or, Bool.false_and, Bool.and_false, decide_true, decide_false, L0, L1, L2, L3, L4, L5, L6, L7, L8, L9, L10, L11, L12, L13, L14, L15, L16, L17, L18, L19, L20, L21, L22, L23, L24, L25, L27, L33, L39, L40, L45, L48, L57, L60, L72, L90, L97, L98, L99, L100, L121, L122, L242, L255, L256, L580, L600, L1000, L1584, L1000000, Ln1, iN_add, iN_and, iN_or, iN_nd, iN_shl, iN_shr, iN_cl, iN_in, iN_mul, Option.isSome_none, k37 w3, r37_0 w3, r37_1 w3, r37_2 w3, r37_5 w3, r37_6 w3, r37_7 w3, k38 w3, r38_0 w3, r38_1 w3, r38_2 w3, r38_3 w3, r38_4 w3, r38_5 w3, k43 w3, k54 w3, H3.m, l0, iN_in, iN_cl, k37 w4, r37_0 w4, r37_1 w4, r37_2 w4, r37_5 w4, r37_6 w4, r37_7 w4, k38 w4, r38_0 w4, r38_1 w4, r38_2 w4, r38_3 w4, r38_4 w4, r38_5 w4, si_ne, si_nk, si_eq, iN_add]
theorem t42 (C : CC h c f) (W : FTW f) (V : CWF c) (L : LC h s0 (some v1) (some v2) s1 s2) (hs : s0 ≤ 600 ∧ s1 ≤ 600 ∧ s2 ≤ 600) (hv1 : v1 ≤ 99) (hv2 : v2 ≤ 99) : ∃ h', f42 h 37 = some ((), h') ∧ Fr pPr h h' ∧ CC h' (upf 5 c v1 v2 (chk 5 c s0 s1 s2 v1 v2 f)) (chk 5 c s0 s1 s2 v1 v2 f) ∧ FTW (chk 5 c s0 s1 s2 v1 v2 f) := by
  have w := C.1
  have hB := V.2.2.1
  obtain ⟨g1, a1, b1, C1, W1, M1⟩ := t37 (i := 0) (lo := iN 0) (X := iN 5) (v := v1) (pl := s1) (by omega) C W L L.2.1 (L.2.2.2.1 (by simp)) (fun g => t17k (h := g) (by omega) (by omega) (by omega)) hs.2.1
  obtain ⟨g2, a2, b2, C2, W2, M2⟩ := t37 (i := 1) (lo := iN 0) (X := iN 5) (v := v2) (pl := s2) (by omega) C1 W1 M1 M1.2.2.1 (M1.2.2.2.2 (by simp)) (fun g => t17k (h := g) (by omega) (by omega) (by omega)) hs.2.2
  have w1 := C1.1
  have w2 := C2.1
  have l0 : mI g2 54 0 = iN v1 := M2.2.1
  have l1 : mI g2 54 1 = iN v2 := M2.2.2.1
  have l5 : mI g2 55 1 = iN s2 := M2.2.2.2.2 (by simp)
  obtain ⟨g3, a3, b3, C3, W3, M3⟩ : ∃ g3, (if iN v1 = iN v2 then (f36 g2 37 (iN 2) (iN s2)).bind (fun r3 => f42_40 r3.2 37) else f42_40 g2 37) = f42_40 g3 37 ∧ Fr p37 g2 g3 ∧ CC g3 c (chk 5 c s0 s1 s2 v1 v2 f) ∧ FTW (chk 5 c s0 s1 s2 v1 v2 f) ∧ LC g3 s0 (some v1) (some v2) s1 s2 := by
    have ec : nt (decide (v1 ≠ v2)) 2 s2 (nt (decide (0 ≤ v2 ∧ v2 ≤ 5)) 2 s2 (nt (decide (0 ≤ v1 ∧ v1 ≤ 5)) 2 s1 f)) = chk 5 c s0 s1 s2 v1 v2 f := by
      have e1 : decide (0 ≤ v1 ∧ v1 ≤ 5) = decide (v1 ≤ 5) := by rw [decide_eq_decide]; omega
      have e2 : (decide (0 ≤ v2 ∧ v2 ≤ 5) && decide (v1 ≠ v2)) = decide (v2 ≤ 5 ∧ v2 ≠ v1) := by rw [← Bool.decide_and, decide_eq_decide]; omega
      rw [e1, nt_and, e2]; rfl
    rw [← ec]
    by_cases e : v1 = v2
    · rw [decide_eq_false (fun hne => hne e)]
      obtain ⟨g3, d1, d2, d3, d4⟩ := t36 (k := 2) (pl := s2) C2 W2
      refine ⟨g3, ?_, d2, d3, W2.nt ⟨by omega, by omega, hs.2.2⟩, M2.fr d2 rfl rfl (d4 8 (by decide) (by decide))⟩
      rw [if_pos (by rw [e]), d1]; rfl
    · rw [decide_eq_true e]
      refine ⟨g2, ?_, Fr.rfl, C2, W2, M2⟩
      rw [if_neg (fun h => e ((iN_eq (by omega) (by omega)).1 h))]
  have w3 := C3.1
  have F3 := ((b1.tr b2).tr b3).mono p37_Pr
  have fz : ∀ x y : Option (Unit × mH), (if mI g3 37 3 = iN 0 then x else y) = if (chk 5 c s0 s1 s2 v1 v2 f).isSome = true then y else x := fun x y => C3.2.2.2.2.2.2.z W3
  unfold f42
  simp (disch := omega) only [gT, nbeq, Option.isSome_some, Option.getD_some, Bool.and_true, Bool.true_and, Bool.and_self, mX_some, bS, bN_if, bN_01, i1_01, i0_01, if_true, if_false, Bool.false_eq_true, false_and, and_false, and_true, true_and, and_self, Bool.or_false, Bool.false_or, Bool.or_true, Bool.true_or, Bool.false_and, Bool.and_false, decide_true, decide_false, L0, L1, L2, L3, L4, L5, L6, L7, L8, L9, L10, L11, L12, L13, L14, L15, L16, L17, L18, L19, L20, L21, L22, L23, L24, L25, L27, L33, L39, L40, L45, L48, L57, L60, L72, L90, L97, L98, L99, L100, L121, L122, L242, L255, L256, L580, L600, L1000, L1584, L1000000, Ln1, iN_add, iN_and, iN_or, iN_nd, iN_shl, iN_shr, iN_cl, iN_in, iN_mul, k37 w, r37_0 w, r37_1 w, r37_2 w, r37_5 w, r37_6 w, r37_7 w, a1, k37 w1, r37_0 w1, r37_1 w1, r37_2 w1, r37_5 w1, r37_6 w1, r37_7 w1, a2, k37 w2, r37_0 w2, r37_1 w2, r37_2 w2, r37_5 w2, r37_6 w2, r37_7 w2, k54 w2, k55 w2, l0, l1, l5, iN_in, iN_cl, a3]
  unfold f42_40
  simp (disch := omega) only [gT, nbeq, Option.isSome_some, Option.getD_some, Bool.and_true, Bool.true_and, Bool.and_self, mX_some, bS, bN_if, bN_01, i1_01, i0_01, if_true, if_false, Bool.false_eq_true, false_and, and_false, and_true, true_and, and_self, Bool.or_false, Bool.false_or, Bool.or_true, Bool.true_or, Bool.false_and, Bool.and_false, decide_true, decide_false, L0, L1, L2, L3, L4, L5, L6, L7, L8, L9, L10, L11, L12, L13, L14, L15, L16, L17, L18, L19, L20, L21, L22, L23, L24, L25, L27, L33, L39, L40, L45, L48, L57, L60, L72, L90, L97, L98, L99, L100, L121, L122, L242, L255, L256, L580, L600, L1000, L1584, L1000000, Ln1, iN_add, iN_and, iN_or, iN_nd, iN_shl, iN_shr, iN_cl, iN_in, iN_mul, k37 w3, r37_0 w3, r37_1 w3, r37_2 w3, r37_5 w3, r37_6 w3, r37_7 w3, fz]
  cases hf : chk 5 c s0 s1 s2 v1 v2 f with
  | some x =>
    rw [hf] at C3 W3
    unfold f42_100
    simp only [gT, nbeq, Option.isSome_some, Option.getD_some, Bool.and_true, Bool.true_and, Bool.and_self, mX_some, bS, bN_if, bN_01, i1_01, i0_01, if_true, if_false, Bool.false_eq_true, false_and, and_false, and_true, true_and, and_self, Bool.or_false, Bool.false_or, Bool.or_true, Bool.true_or, Bool.false_and, Bool.and_false, decide_true, decide_false]
    exact ⟨g3, rfl, F3, C3, W3⟩
  | none =>
    obtain ⟨⟨q1, q2, q3⟩, _⟩ := chk_5 hf
    rw [hf] at C3 W3
    have H3 := C3.2.1
    have h3 := H3.he (j := v1) (by omega)
    have U1 := H3.u (i := 5) (j := v1) (v := c.1 6 v1 ||| 1 <<< v2) (by omega)
    have G1 : Fr (pRg 38 7) g3 (mSI g3 44 v1 (iN (c.1 6 v1 ||| 1 <<< v2))) := Fr.rfl.si (by decide)
    have C4 := C3.lib G1 U1
    have w4 := C4.1
    have C5 := C4.B (a := max c.2.1.2 (max v1 v2 + 1))
    have G2 : Fr p37 (mSI g3 44 v1 (iN (c.1 6 v1 ||| 1 <<< v2))) (mSI (mSI g3 44 v1 (iN (c.1 6 v1 ||| 1 <<< v2))) 37 10 (iN (max c.2.1.2 (max v1 v2 + 1)))) := Fr.rfl.si rfl
    have m0 : mI g3 54 0 = iN v1 := M3.2.1
    have m1 : mI g3 54 1 = iN v2 := M3.2.2.1
    have e9 : mI g3 37 10 = iN c.2.1.2 := C3.2.2.2.2.2.1
    refine ⟨mSI (mSI g3 44 v1 (iN (c.1 6 v1 ||| 1 <<< v2))) 37 10 (iN (max c.2.1.2 (max v1 v2 + 1))), ?_, (F3.tr (G1.mono pRL_Pr)).tr (G2.mono p37_Pr), C5, W3⟩
    have emx : (if iN v1 < iN v2 then iN v2 else iN v1) = iN (max v1 v2) := by
      by_cases e : v1 < v2
      · rw [ilt_p (by omega) (by omega) e, Nat.max_eq_right (by omega)]
      · rw [ilt_n (by omega) (by omega) (by omega), Nat.max_eq_left (by omega)]
    unfold f42_72 f42_100
    simp (disch := omega) only [gT, nbeq, Option.isSome_some, Option.getD_some, Bool.and_true, Bool.true_and, Bool.and_self, mX_some, bS, bN_if, bN_01, i1_01, i0_01, if_true, if_false, Bool.false_eq_true, false_and, and_false, and_true, true_and, and_self, Bool.or_false, Bool.false_or, Bool.or_true, Bool.true_or, Bool.false_and, Bool.and_false, decide_true, decide_false, L0, L1, L2, L3, L4, L5, L6, L7, L8, L9, L10, L11, L12, L13, L14, L15, L16, L17, L18, L19, L20, L21, L22, L23, L24, L25, L27, L33, L39, L40, L45, L48, L57, L60, L72, L90, L97, L98, L99, L100, L121, L122, L242, L255, L256, L580, L600, L1000, L1584, L1000000, Ln1, iN_add, iN_and, iN_or, iN_nd, iN_shl, iN_shr, iN_cl, iN_in, iN_mul, Option.isSome_none, k37 w3, r37_0 w3, r37_1 w3, r37_2 w3, r37_5 w3, r37_6 w3, r37_7 w3, k38 w3, r38_0 w3, r38_1 w3, r38_2 w3, r38_3 w3, r38_4 w3, r38_5 w3, k44 w3, k54 w3, m0, m1, iN_in, iN_cl, h3, iN_shl, iN_or, k37 w4, r37_0 w4, r37_1 w4, r37_2 w4, r37_5 w4, r37_6 w4, r37_7 w4, k54 w4, si_ne, si_nk, si_eq, e9, emx, iN_add, ilt_d]
    generalize max v1 v2 = m
    by_cases e : c.2.1.2 < m + 1
    · rw [if_pos e, Nat.max_eq_right (by omega)]
    · rw [if_neg e, Nat.max_eq_left (by omega)]
end CT3
