/-! the class's deeds and facts; takeLine -/
section CT4
variable {h : mH} {c : CQ} {f : FT} {s0 s1 s2 v1 v2 : Nat}
theorem t44 {a : Nat} {g : GQ} (H : LgS h a g) (hg : g.1 < 8) {k v : Nat} : f44 h a (iN (12 + k)) (iN v) = some ((), mSI (mSI (mSI h (a + 1) g.1 (iN (12 + k))) (a + 2) g.1 (iN v)) a 2 (iN (g.1 + 1))) := by
  have e1 : mK h a = (4, 3) := H.1.1
  have r0 : mR h a 0 = some (a + 1) := (H.1.2 0 (by decide)).1
  have r1 : mR h a 1 = some (a + 2) := (H.1.2 1 (by decide)).1
  have q1 : mK h (a + 1) = (100, 8) := (H.1.2 0 (by decide)).2
  have q2 : mK h (a + 2) = (100, 8) := (H.1.2 1 (by decide)).2
  have e2 : mI h a 2 = iN g.1 := H.2.1
  have e3 : ∀ g : mH, ∀ b j v, mK (mSI g b j v) a = mK g a := fun _ _ _ _ => rfl
  unfold f44 f44_30
  simp (disch := omega) only [gT, nbeq, Option.isSome_some, Option.getD_some, Bool.and_true, Bool.true_and, Bool.and_self, mX_some, bS, bN_if, bN_01, i1_01, i0_01, if_true, if_false, Bool.false_eq_true, false_and, and_false, and_true, true_and, and_self, Bool.or_false, Bool.false_or, Bool.or_true, Bool.true_or, Bool.false_and, Bool.and_false, decide_true, decide_false, L0, L1, L2, L3, L4, L5, L6, L7, L8, L9, L10, L11, L12, L13, L14, L15, L16, L17, L18, L19, L20, L21, L22, L23, L24, L25, L27, L33, L39, L40, L45, L48, L57, L60, L72, L90, L97, L98, L99, L100, L121, L122, L242, L255, L256, L580, L600, L1000, L1584, L1000000, Ln1, iN_add, iN_and, iN_or, iN_nd, iN_shl, iN_shr, iN_cl, iN_in, iN_mul, e1, r0, r1, q1, q2, e2, ilt_p, iN_in, iN_cl, si_ne, si_nk, si_eq, e3, iN_add]
theorem t43 {k : Nat} {n2 : Option Nat} (hk : k ≤ 1) (C : CC h c f) (W : FTW f) (V : CWF c) (L : LC h s0 (some v1) n2 s1 s2) (hs : s0 ≤ 600 ∧ s1 ≤ 600 ∧ s2 ≤ 600) (hv1 : v1 ≤ 99) : ∃ h', f43 h 37 (iN (12 + k)) = some ((), h') ∧ Fr pPr h h' ∧ CC h' (upf (12 + k) c v1 v2 (chk (12 + k) c s0 s1 s2 v1 v2 f)) (chk (12 + k) c s0 s1 s2 v1 v2 f) ∧ FTW (chk (12 + k) c s0 s1 s2 v1 v2 f) := by
  have w := C.1
  have H := C.2.2.2.1
  have hn := V.2.2.2.2.1
  have e2 : mI h 49 2 = iN c.2.2.2.1 := H.2.1
  obtain ⟨g1, a1, b1, C1, W1, M1⟩ := t35 (m := c.2.2.2.1) (M := 8) (by omega) (by omega) C W L hs.1
  obtain ⟨g3, a3, b3, C3, W3, M3⟩ := t37 (i := 0) (lo := iN 0) (X := iN 5) (v := v1) (pl := s1) (by omega) C1 W1 M1 M1.2.1 (M1.2.2.2.1 (by simp)) (fun g => t17k (h := g) (by omega) (by omega) (by omega)) hs.2.1
  have ec : nt (decide (0 ≤ v1 ∧ v1 ≤ 5)) 2 s1 (nt (decide (c.2.2.2.1 < 8)) 3 s0 f) = chk (12 + k) c s0 s1 s2 v1 v2 f := by
    have e1 : decide (0 ≤ v1 ∧ v1 ≤ 5) = decide (v1 ≤ 5) := by rw [decide_eq_decide]; omega
    rw [e1]
    unfold chk
    rw [if_neg (by omega), if_neg (by omega), if_neg (by omega), if_neg (by omega), if_neg (by omega), if_neg (by omega), if_neg (by omega), if_neg (by omega), if_neg (by omega), if_neg (by omega)]
  rw [ec] at C3 W3
  have w1 := C1.1
  have w3 := C3.1
  have F3 := (b1.tr b3).mono p37_Pr
  have fz : ∀ x y : Option (Unit × mH), (if mI g3 37 3 = iN 0 then x else y) = if (chk (12 + k) c s0 s1 s2 v1 v2 f).isSome = true then y else x := fun x y => C3.2.2.2.2.2.2.z W3
  unfold f43 f43_41
  simp (disch := omega) only [gT, nbeq, Option.isSome_some, Option.getD_some, Bool.and_true, Bool.true_and, Bool.and_self, mX_some, bS, bN_if, bN_01, i1_01, i0_01, if_true, if_false, Bool.false_eq_true, false_and, and_false, and_true, true_and, and_self, Bool.or_false, Bool.false_or, Bool.or_true, Bool.true_or, Bool.false_and, Bool.and_false, decide_true, decide_false, L0, L1, L2, L3, L4, L5, L6, L7, L8, L9, L10, L11, L12, L13, L14, L15, L16, L17, L18, L19, L20, L21, L22, L23, L24, L25, L27, L33, L39, L40, L45, L48, L57, L60, L72, L90, L97, L98, L99, L100, L121, L122, L242, L255, L256, L580, L600, L1000, L1584, L1000000, Ln1, iN_add, iN_and, iN_or, iN_nd, iN_shl, iN_shr, iN_cl, iN_in, iN_mul, k37 w, r37_0 w, r37_1 w, r37_2 w, r37_5 w, r37_6 w, r37_7 w, k49 w, e2, a1, k37 w1, r37_0 w1, r37_1 w1, r37_2 w1, r37_5 w1, r37_6 w1, r37_7 w1, a3, k37 w3, r37_0 w3, r37_1 w3, r37_2 w3, r37_5 w3, r37_6 w3, r37_7 w3, fz]
  cases hf : chk (12 + k) c s0 s1 s2 v1 v2 f with
  | some x =>
    rw [hf] at C3 W3
    simp only [gT, nbeq, Option.isSome_some, Option.getD_some, Bool.and_true, Bool.true_and, Bool.and_self, mX_some, bS, bN_if, bN_01, i1_01, i0_01, if_true, if_false, Bool.false_eq_true, false_and, and_false, and_true, true_and, and_self, Bool.or_false, Bool.false_or, Bool.or_true, Bool.true_or, Bool.false_and, Bool.and_false, decide_true, decide_false]
    exact ⟨g3, rfl, F3, C3, W3⟩
  | none =>
    obtain ⟨⟨q1, q2⟩, _⟩ := chk_g (by omega) hf
    rw [hf] at C3 W3
    obtain ⟨_, cL, cY, cG, cA, cB, cF⟩ := C3
    have U := cG.ad (k := k) (v := v1)
    have G3 : Fr (pRg 49 3) g3 (mSI (mSI (mSI g3 50 c.2.2.2.1 (iN (12 + k))) 51 c.2.2.2.1 (iN v1)) 49 2 (iN (c.2.2.2.1 + 1))) := ((Fr.rfl.si (by decide)).si (by decide)).si (by decide)
    have l0 : mI g3 54 0 = iN v1 := M3.2.1
    have e7 := G3.i (pRg_f (show 37 < 49 ∨ 49 + 3 ≤ 37 by omega))
    refine ⟨mSI (mSI (mSI g3 50 c.2.2.2.1 (iN (12 + k))) 51 c.2.2.2.1 (iN v1)) 49 2 (iN (c.2.2.2.1 + 1)), ?_, F3.tr (G3.mono pRG_Pr), ?_, W3⟩
    · simp (disch := omega) only [gT, nbeq, Option.isSome_some, Option.getD_some, Bool.and_true, Bool.true_and, Bool.and_self, mX_some, bS, bN_if, bN_01, i1_01, i0_01, if_true, if_false, Bool.false_eq_true, false_and, and_false, and_true, true_and, and_self, Bool.or_false, Bool.false_or, Bool.or_true, Bool.true_or, Bool.false_and, Bool.and_false, decide_true, decide_false, L0, L1, L2, L3, L4, L5, L6, L7, L8, L9, L10, L11, L12, L13, L14, L15, L16, L17, L18, L19, L20, L21, L22, L23, L24, L25, L27, L33, L39, L40, L45, L48, L57, L60, L72, L90, L97, L98, L99, L100, L121, L122, L242, L255, L256, L580, L600, L1000, L1584, L1000000, Ln1, iN_add, iN_and, iN_or, iN_nd, iN_shl, iN_shr, iN_cl, iN_in, iN_mul, Option.isSome_none, k37 w3, r37_0 w3, r37_1 w3, r37_2 w3, r37_5 w3, r37_6 w3, r37_7 w3, k49 w3, r49_0 w3, r49_1 w3, k54 w3, l0, iN_in, iN_cl, t44 cG q1]
    · show CC _ (upc (12 + k) c v1 v2) none
      rw [upc_g (by omega), show 12 + k - 12 = k by omega]
      exact ⟨w3.fr G3, cL.fr G3 (fun i hi => pRg_f (by omega)), cY.fr G3 (fun i hi => pRg_f (by omega)), U, (e7 9).trans cA, (e7 10).trans cB, (e7 3).trans cF.1, (e7 4).trans cF.2⟩
theorem t46 {a : Nat} {y : YQ} (H : YrS h a y) (hy : y.1 < 40) {k : Nat} {o1 o2 : Option Nat} : f46 h a (iN k) (zN o1) (zN o2) = some ((), mSI (mSI (mSI (mSI h (a + 1) y.1 (iN k)) (a + 2) y.1 (zN o1)) (a + 3) y.1 (zN o2)) a 3 (iN (y.1 + 1))) := by
  have e1 : mK h a = (3, 4) := H.1.1
  have r0 : mR h a 0 = some (a + 1) := (H.1.2 0 (by decide)).1
  have r1 : mR h a 1 = some (a + 2) := (H.1.2 1 (by decide)).1
  have r2 : mR h a 2 = some (a + 3) := (H.1.2 2 (by decide)).1
  have q1 : mK h (a + 1) = (100, 40) := (H.1.2 0 (by decide)).2
  have q2 : mK h (a + 2) = (100, 40) := (H.1.2 1 (by decide)).2
  have q3 : mK h (a + 3) = (100, 40) := (H.1.2 2 (by decide)).2
  have e2 : mI h a 3 = iN y.1 := H.2.1
  have e3 : ∀ g : mH, ∀ b j v x, mK (mSI g b j v) x = mK g x := fun _ _ _ _ _ => rfl
  have e4 : ∀ g : mH, ∀ b j v x i, mR (mSI g b j v) x i = mR g x i := fun _ _ _ _ _ _ => rfl
  unfold f46 f46_30 f46_50
  simp (disch := omega) only [gT, nbeq, Option.isSome_some, Option.getD_some, Bool.and_true, Bool.true_and, Bool.and_self, mX_some, bS, bN_if, bN_01, i1_01, i0_01, if_true, if_false, Bool.false_eq_true, false_and, and_false, and_true, true_and, and_self, Bool.or_false, Bool.false_or, Bool.or_true, Bool.true_or, Bool.false_and, Bool.and_false, decide_true, decide_false, L0, L1, L2, L3, L4, L5, L6, L7, L8, L9, L10, L11, L12, L13, L14, L15, L16, L17, L18, L19, L20, L21, L22, L23, L24, L25, L27, L33, L39, L40, L45, L48, L57, L60, L72, L90, L97, L98, L99, L100, L121, L122, L242, L255, L256, L580, L600, L1000, L1584, L1000000, Ln1, iN_add, iN_and, iN_or, iN_nd, iN_shl, iN_shr, iN_cl, iN_in, iN_mul, e1, r0, r1, r2, q1, q2, q3, e2, ilt_p, iN_in, iN_cl, si_ne, si_nk, si_eq, e3, e4, iN_add]
/-- the end of takeDeed -/
theorem t45e {k : Nat} {n1 n2 : Option Nat} (h6 : 6 ≤ k) (h12 : k < 12) (e1 : n1 = if k ≤ 9 then some v1 else none) (e2 : n2 = if k = 9 then some v2 else none) (C : CC h c (chk k c s0 s1 s2 v1 v2 f)) (W : FTW (chk k c s0 s1 s2 v1 v2 f)) (L : LC h s0 n1 n2 s1 s2) : ∃ h', f45_62 h 37 (iN (k - 6)) = some ((), h') ∧ Fr pPr h h' ∧ CC h' (upf k c v1 v2 (chk k c s0 s1 s2 v1 v2 f)) (chk k c s0 s1 s2 v1 v2 f) := by
  have w3 := C.1
  have fz : ∀ x y : Option (Unit × mH), (if mI h 37 3 = iN 0 then x else y) = if (chk k c s0 s1 s2 v1 v2 f).isSome = true then y else x := fun x y => C.2.2.2.2.2.2.z W
  unfold f45_62 f45_89
  simp (disch := omega) only [gT, nbeq, Option.isSome_some, Option.getD_some, Bool.and_true, Bool.true_and, Bool.and_self, mX_some, bS, bN_if, bN_01, i1_01, i0_01, if_true, if_false, Bool.false_eq_true, false_and, and_false, and_true, true_and, and_self, Bool.or_false, Bool.false_or, Bool.or_true, Bool.true_or, Bool.false_and, Bool.and_false, decide_true, decide_false, L0, L1, L2, L3, L4, L5, L6, L7, L8, L9, L10, L11, L12, L13, L14, L15, L16, L17, L18, L19, L20, L21, L22, L23, L24, L25, L27, L33, L39, L40, L45, L48, L57, L60, L72, L90, L97, L98, L99, L100, L121, L122, L242, L255, L256, L580, L600, L1000, L1584, L1000000, Ln1, iN_add, iN_and, iN_or, iN_nd, iN_shl, iN_shr, iN_cl, iN_in, iN_mul, k37 w3, r37_0 w3, r37_1 w3, r37_2 w3, r37_5 w3, r37_6 w3, r37_7 w3, fz]
  cases hf : chk k c s0 s1 s2 v1 v2 f with
  | some x =>
    rw [hf] at C W
    simp only [gT, nbeq, Option.isSome_some, Option.getD_some, Bool.and_true, Bool.true_and, Bool.and_self, mX_some, bS, bN_if, bN_01, i1_01, i0_01, if_true, if_false, Bool.false_eq_true, false_and, and_false, and_true, true_and, and_self, Bool.or_false, Bool.false_or, Bool.or_true, Bool.true_or, Bool.false_and, Bool.and_false, decide_true, decide_false]
    exact ⟨h, rfl, Fr.rfl, C⟩
  | none =>
    obtain ⟨⟨q1, q2⟩, _⟩ := chk_y h6 h12 hf
    rw [hf] at C W
    obtain ⟨_, cL, cY, cG, cA, cB, cF⟩ := C
    have U := cY.ad (k := k - 6) (o1 := n1) (o2 := n2)
    have G3 : Fr (pRg 45 4) h (mSI (mSI (mSI (mSI h 46 c.2.2.1.1 (iN (k - 6))) 47 c.2.2.1.1 (zN n1)) 48 c.2.2.1.1 (zN n2)) 45 3 (iN (c.2.2.1.1 + 1))) := (((Fr.rfl.si (by decide)).si (by decide)).si (by decide)).si (by decide)
    have l0 : mI h 54 0 = zN n1 := L.2.1
    have l1 : mI h 54 1 = zN n2 := L.2.2.1
    have e7 := G3.i (pRg_f (show 37 < 45 ∨ 45 + 4 ≤ 37 by omega))
    refine ⟨mSI (mSI (mSI (mSI h 46 c.2.2.1.1 (iN (k - 6))) 47 c.2.2.1.1 (zN n1)) 48 c.2.2.1.1 (zN n2)) 45 3 (iN (c.2.2.1.1 + 1)), ?_, G3.mono pRY_Pr, ?_⟩
    · simp (disch := omega) only [gT, nbeq, Option.isSome_some, Option.getD_some, Bool.and_true, Bool.true_and, Bool.and_self, mX_some, bS, bN_if, bN_01, i1_01, i0_01, if_true, if_false, Bool.false_eq_true, false_and, and_false, and_true, true_and, and_self, Bool.or_false, Bool.false_or, Bool.or_true, Bool.true_or, Bool.false_and, Bool.and_false, decide_true, decide_false, L0, L1, L2, L3, L4, L5, L6, L7, L8, L9, L10, L11, L12, L13, L14, L15, L16, L17, L18, L19, L20, L21, L22, L23, L24, L25, L27, L33, L39, L40, L45, L48, L57, L60, L72, L90, L97, L98, L99, L100, L121, L122, L242, L255, L256, L580, L600, L1000, L1584, L1000000, Ln1, iN_add, iN_and, iN_or, iN_nd, iN_shl, iN_shr, iN_cl, iN_in, iN_mul, Option.isSome_none, k37 w3, r37_0 w3, r37_1 w3, r37_2 w3, r37_5 w3, r37_6 w3, r37_7 w3, k45 w3, r45_0 w3, r45_1 w3, r45_2 w3, k54 w3, l0, l1, iN_in, iN_cl, t46 cY q1]
    · show CC _ (upc k c v1 v2) none
      rw [upc_y h6 h12, ← e1, ← e2]
      exact ⟨w3.fr G3, cL.fr G3 (fun i hi => pRg_f (by omega)), U, cG.fr G3 (fun i hi => pRg_f (by omega)), (e7 9).trans cA, (e7 10).trans cB, (e7 3).trans cF.1, (e7 4).trans cF.2⟩
theorem t45 {k : Nat} {n1 n2 : Option Nat} (h6 : 6 ≤ k) (h12 : k < 12) (e1 : n1 = if k ≤ 9 then some v1 else none) (e2 : n2 = if k = 9 then some v2 else none) (C : CC h c f) (W : FTW f) (V : CWF c) (L : LC h s0 n1 n2 s1 s2) (hs : s0 ≤ 600 ∧ s1 ≤ 600 ∧ s2 ≤ 600) (hv1 : v1 ≤ 99) (hv2 : v2 ≤ 99) : ∃ h', f45 h 37 (iN (k - 6)) = some ((), h') ∧ Fr pPr h h' ∧ CC h' (upf k c v1 v2 (chk k c s0 s1 s2 v1 v2 f)) (chk k c s0 s1 s2 v1 v2 f) ∧ FTW (chk k c s0 s1 s2 v1 v2 f) := by
  have w := C.1
  have H := C.2.2.1
  have hn := V.2.2.2.1.1
  have eH : mI h 45 3 = iN c.2.2.1.1 := H.2.1
  obtain ⟨g1, a1, b1, C1, W1, M1⟩ := t35 (m := c.2.2.1.1) (M := 40) (by omega) (by omega) C W L hs.1
  have w1 := C1.1
  have n7 : decide (0 ≤ v1 ∧ v1 ≤ 7) = decide (v1 ≤ 7) := by rw [decide_eq_decide]; omega
  have n5 : decide (0 ≤ v1 ∧ v1 ≤ 5) = decide (v1 ≤ 5) := by rw [decide_eq_decide]; omega
  have n9 : decide (0 ≤ v2 ∧ v2 ≤ 5) = decide (v2 ≤ 5) := by rw [decide_eq_decide]; omega
  have fin : ∀ g, Fr p37 h g → CC g c (chk k c s0 s1 s2 v1 v2 f) → FTW (chk k c s0 s1 s2 v1 v2 f) → LC g s0 n1 n2 s1 s2 → f45 h 37 (iN (k - 6)) = f45_62 g 37 (iN (k - 6)) → ∃ h', f45 h 37 (iN (k - 6)) = some ((), h') ∧ Fr pPr h h' ∧ CC h' (upf k c v1 v2 (chk k c s0 s1 s2 v1 v2 f)) (chk k c s0 s1 s2 v1 v2 f) ∧ FTW (chk k c s0 s1 s2 v1 v2 f) := fun g x1 x2 x3 x4 x5 => by
    obtain ⟨h', y1, y2, y3⟩ := t45e h6 h12 e1 e2 x2 x3 x4
    exact ⟨h', x5.trans y1, (x1.mono p37_Pr).tr y2, y3, x3⟩
  have : k = 6 ∨ k = 7 ∨ k = 8 ∨ k = 9 ∨ k = 10 ∨ k = 11 := by omega
  rcases this with rfl | rfl | rfl | rfl | rfl | rfl
  · have e1 : n1 = some v1 := e1
    subst e1
    obtain ⟨g2, a2, b2, C2, W2, M2⟩ := t37 (i := 0) (lo := iN 0) (X := iN 7) (v := v1) (pl := s1) (by omega) C1 W1 M1 M1.2.1 (M1.2.2.2.1 (by simp)) (fun g => t17k (h := g) (by omega) (by omega) (by omega)) hs.2.1
    rw [n7] at C2 W2
    refine fin g2 (b1.tr b2) C2 W2 M2 ?_
    unfold f45 f45_42 f45_50
    simp (disch := omega) only [gT, nbeq, Option.isSome_some, Option.getD_some, Bool.and_true, Bool.true_and, Bool.and_self, mX_some, bS, bN_if, bN_01, i1_01, i0_01, if_true, if_false, Bool.false_eq_true, false_and, and_false, and_true, true_and, and_self, Bool.or_false, Bool.false_or, Bool.or_true, Bool.true_or, Bool.false_and, Bool.and_false, decide_true, decide_false, L0, L1, L2, L3, L4, L5, L6, L7, L8, L9, L10, L11, L12, L13, L14, L15, L16, L17, L18, L19, L20, L21, L22, L23, L24, L25, L27, L33, L39, L40, L45, L48, L57, L60, L72, L90, L97, L98, L99, L100, L121, L122, L242, L255, L256, L580, L600, L1000, L1584, L1000000, Ln1, iN_add, iN_and, iN_or, iN_nd, iN_shl, iN_shr, iN_cl, iN_in, iN_mul, Nat.reduceSub, k37 w, r37_0 w, r37_1 w, r37_2 w, r37_5 w, r37_6 w, r37_7 w, k45 w, eH, a1, eq_self, ineF, k37 w1, r37_0 w1, r37_1 w1, r37_2 w1, r37_5 w1, r37_6 w1, r37_7 w1, a2]
  · have e1 : n1 = some v1 := e1
    subst e1
    obtain ⟨g2, a2, b2, C2, W2, M2⟩ := t37 (i := 0) (lo := iN 0) (X := iN 7) (v := v1) (pl := s1) (by omega) C1 W1 M1 M1.2.1 (M1.2.2.2.1 (by simp)) (fun g => t17k (h := g) (by omega) (by omega) (by omega)) hs.2.1
    rw [n7] at C2 W2
    refine fin g2 (b1.tr b2) C2 W2 M2 ?_
    unfold f45 f45_42 f45_50
    simp (disch := omega) only [gT, nbeq, Option.isSome_some, Option.getD_some, Bool.and_true, Bool.true_and, Bool.and_self, mX_some, bS, bN_if, bN_01, i1_01, i0_01, if_true, if_false, Bool.false_eq_true, false_and, and_false, and_true, true_and, and_self, Bool.or_false, Bool.false_or, Bool.or_true, Bool.true_or, Bool.false_and, Bool.and_false, decide_true, decide_false, L0, L1, L2, L3, L4, L5, L6, L7, L8, L9, L10, L11, L12, L13, L14, L15, L16, L17, L18, L19, L20, L21, L22, L23, L24, L25, L27, L33, L39, L40, L45, L48, L57, L60, L72, L90, L97, L98, L99, L100, L121, L122, L242, L255, L256, L580, L600, L1000, L1584, L1000000, Ln1, iN_add, iN_and, iN_or, iN_nd, iN_shl, iN_shr, iN_cl, iN_in, iN_mul, Nat.reduceSub, k37 w, r37_0 w, r37_1 w, r37_2 w, r37_5 w, r37_6 w, r37_7 w, k45 w, eH, a1, eq_self, ineF, k37 w1, r37_0 w1, r37_1 w1, r37_2 w1, r37_5 w1, r37_6 w1, r37_7 w1, a2]
  · have e1 : n1 = some v1 := e1
    subst e1
    obtain ⟨g2, a2, b2, C2, W2, M2⟩ := t37 (i := 0) (lo := iN 0) (X := iN 5) (v := v1) (pl := s1) (by omega) C1 W1 M1 M1.2.1 (M1.2.2.2.1 (by simp)) (fun g => t17k (h := g) (by omega) (by omega) (by omega)) hs.2.1
    rw [n5] at C2 W2
    refine fin g2 (b1.tr b2) C2 W2 M2 ?_
    unfold f45 f45_50
    simp (disch := omega) only [gT, nbeq, Option.isSome_some, Option.getD_some, Bool.and_true, Bool.true_and, Bool.and_self, mX_some, bS, bN_if, bN_01, i1_01, i0_01, if_true, if_false, Bool.false_eq_true, false_and, and_false, and_true, true_and, and_self, Bool.or_false, Bool.false_or, Bool.or_true, Bool.true_or, Bool.false_and, Bool.and_false, decide_true, decide_false, L0, L1, L2, L3, L4, L5, L6, L7, L8, L9, L10, L11, L12, L13, L14, L15, L16, L17, L18, L19, L20, L21, L22, L23, L24, L25, L27, L33, L39, L40, L45, L48, L57, L60, L72, L90, L97, L98, L99, L100, L121, L122, L242, L255, L256, L580, L600, L1000, L1584, L1000000, Ln1, iN_add, iN_and, iN_or, iN_nd, iN_shl, iN_shr, iN_cl, iN_in, iN_mul, Nat.reduceSub, k37 w, r37_0 w, r37_1 w, r37_2 w, r37_5 w, r37_6 w, r37_7 w, k45 w, eH, a1, eq_self, ineF, k37 w1, r37_0 w1, r37_1 w1, r37_2 w1, r37_5 w1, r37_6 w1, r37_7 w1, a2]
  · have e1 : n1 = some v1 := e1
    subst e1
    have e2 : n2 = some v2 := e2
    subst e2
    obtain ⟨g2, a2, b2, C2, W2, M2⟩ := t37 (i := 0) (lo := iN 0) (X := iN 7) (v := v1) (pl := s1) (by omega) C1 W1 M1 M1.2.1 (M1.2.2.2.1 (by simp)) (fun g => t17k (h := g) (by omega) (by omega) (by omega)) hs.2.1
    rw [n7] at C2 W2
    have w2 := C2.1
    obtain ⟨g3, a3, b3, C3, W3, M3⟩ := t37 (i := 1) (lo := iN 0) (X := iN 5) (v := v2) (pl := s2) (by omega) C2 W2 M2 M2.2.2.1 (M2.2.2.2.2 (by simp)) (fun g => t17k (h := g) (by omega) (by omega) (by omega)) hs.2.2
    rw [n9] at C3 W3
    refine fin g3 ((b1.tr b2).tr b3) C3 W3 M3 ?_
    unfold f45 f45_42 f45_50
    simp (disch := omega) only [gT, nbeq, Option.isSome_some, Option.getD_some, Bool.and_true, Bool.true_and, Bool.and_self, mX_some, bS, bN_if, bN_01, i1_01, i0_01, if_true, if_false, Bool.false_eq_true, false_and, and_false, and_true, true_and, and_self, Bool.or_false, Bool.false_or, Bool.or_true, Bool.true_or, Bool.false_and, Bool.and_false, decide_true, decide_false, L0, L1, L2, L3, L4, L5, L6, L7, L8, L9, L10, L11, L12, L13, L14, L15, L16, L17, L18, L19, L20, L21, L22, L23, L24, L25, L27, L33, L39, L40, L45, L48, L57, L60, L72, L90, L97, L98, L99, L100, L121, L122, L242, L255, L256, L580, L600, L1000, L1584, L1000000, Ln1, iN_add, iN_and, iN_or, iN_nd, iN_shl, iN_shr, iN_cl, iN_in, iN_mul, Nat.reduceSub, k37 w, r37_0 w, r37_1 w, r37_2 w, r37_5 w, r37_6 w, r37_7 w, k45 w, eH, a1, eq_self, ineF, k37 w1, r37_0 w1, r37_1 w1, r37_2 w1, r37_5 w1, r37_6 w1, r37_7 w1, a2, k37 w2, r37_0 w2, r37_1 w2, r37_2 w2, r37_5 w2, r37_6 w2, r37_7 w2, a3]
  · refine fin g1 b1 C1 W1 M1 ?_
    unfold f45 f45_50
    simp (disch := omega) only [gT, nbeq, Option.isSome_some, Option.getD_some, Bool.and_true, Bool.true_and, Bool.and_self, mX_some, bS, bN_if, bN_01, i1_01, i0_01, if_true, if_false, Bool.false_eq_true, false_and, and_false, and_true, true_and, and_self, Bool.or_false, Bool.false_or, Bool.or_true, Bool.true_or, Bool.false_and, Bool.and_false, decide_true, decide_false, L0, L1, L2, L3, L4, L5, L6, L7, L8, L9, L10, L11, L12, L13, L14, L15, L16, L17, L18, L19, L20, L21, L22, L23, L24, L25, L27, L33, L39, L40, L45, L48, L57, L60, L72, L90, L97, L98, L99, L100, L121, L122, L242, L255, L256, L580, L600, L1000, L1584, L1000000, Ln1, iN_add, iN_and, iN_or, iN_nd, iN_shl, iN_shr, iN_cl, iN_in, iN_mul, Nat.reduceSub, k37 w, r37_0 w, r37_1 w, r37_2 w, r37_5 w, r37_6 w, r37_7 w, k45 w, eH, a1, eq_self, ineF]
  · refine fin g1 b1 C1 W1 M1 ?_
    unfold f45 f45_50
    simp (disch := omega) only [gT, nbeq, Option.isSome_some, Option.getD_some, Bool.and_true, Bool.true_and, Bool.and_self, mX_some, bS, bN_if, bN_01, i1_01, i0_01, if_true, if_false, Bool.false_eq_true, false_and, and_false, and_true, true_and, and_self, Bool.or_false, Bool.false_or, Bool.or_true, Bool.true_or, Bool.false_and, Bool.and_false, decide_true, decide_false, L0, L1, L2, L3, L4, L5, L6, L7, L8, L9, L10, L11, L12, L13, L14, L15, L16, L17, L18, L19, L20, L21, L22, L23, L24, L25, L27, L33, L39, L40, L45, L48, L57, L60, L72, L90, L97, L98, L99, L100, L121, L122, L242, L255, L256, L580, L600, L1000, L1584, L1000000, Ln1, iN_add, iN_and, iN_or, iN_nd, iN_shl, iN_shr, iN_cl, iN_in, iN_mul, Nat.reduceSub, k37 w, r37_0 w, r37_1 w, r37_2 w, r37_5 w, r37_6 w, r37_7 w, k45 w, eH, a1, eq_self, ineF]
/-- the numbers of a line, as the class has them -/
def nm1 (k v1 : Nat) : Option Nat := if nbk k = 0 then none else some v1
def nm2 (k v2 : Nat) : Option Nat := if nbk k = 2 then some v2 else none
theorem t33 {k : Nat} (hk : k < 14) (C : CC h c f) (W : FTW f) (V : CWF c) (L : LC h s0 (nm1 k v1) (nm2 k v2) s1 s2) (hs : s0 ≤ 600 ∧ s1 ≤ 600 ∧ s2 ≤ 600) (hv1 : v1 ≤ 99) (hv2 : v2 ≤ 99) : ∃ h', f33 h 37 (iN (wcd k)) = some ((), h') ∧ Fr pPr h h' ∧ CC h' (upf k c v1 v2 (chk k c s0 s1 s2 v1 v2 f)) (chk k c s0 s1 s2 v1 v2 f) ∧ FTW (chk k c s0 s1 s2 v1 v2 f) := by
  have w := C.1
  by_cases h6 : 6 ≤ k
  · by_cases h12 : k < 12
    · have e1 : nm1 k v1 = if k ≤ 9 then some v1 else none := by
        have : k = 6 ∨ k = 7 ∨ k = 8 ∨ k = 9 ∨ k = 10 ∨ k = 11 := by omega
        rcases this with rfl | rfl | rfl | rfl | rfl | rfl <;> rfl
      have e2 : nm2 k v2 = if k = 9 then some v2 else none := by
        have : k = 6 ∨ k = 7 ∨ k = 8 ∨ k = 9 ∨ k = 10 ∨ k = 11 := by omega
        rcases this with rfl | rfl | rfl | rfl | rfl | rfl <;> rfl
      obtain ⟨h', a1, a2⟩ := t45 (v1 := v1) (v2 := v2) h6 h12 e1 e2 C W V L hs hv1 hv2
      refine ⟨h', ?_, a2⟩
      have e3 : wcd k = k - 6 := by unfold wcd; rw [if_neg (by omega), if_pos h12]
      rw [e3]
      unfold f33 f33_103
      simp (disch := omega) only [gT, nbeq, Option.isSome_some, Option.getD_some, Bool.and_true, Bool.true_and, Bool.and_self, mX_some, bS, bN_if, bN_01, i1_01, i0_01, if_true, if_false, Bool.false_eq_true, false_and, and_false, and_true, true_and, and_self, Bool.or_false, Bool.false_or, Bool.or_true, Bool.true_or, Bool.false_and, Bool.and_false, decide_true, decide_false, L0, L1, L2, L3, L4, L5, L6, L7, L8, L9, L10, L11, L12, L13, L14, L15, L16, L17, L18, L19, L20, L21, L22, L23, L24, L25, L27, L33, L39, L40, L45, L48, L57, L60, L72, L90, L97, L98, L99, L100, L121, L122, L242, L255, L256, L580, L600, L1000, L1584, L1000000, Ln1, iN_add, iN_and, iN_or, iN_nd, iN_shl, iN_shr, iN_cl, iN_in, iN_mul, ineF, k37 w, r37_0 w, r37_1 w, r37_2 w, r37_5 w, r37_6 w, r37_7 w, a1]
    · obtain ⟨j, rfl⟩ : ∃ j, k = 12 + j := ⟨k - 12, by omega⟩
      have e1 : nm1 (12 + j) v1 = some v1 := by
        have : j = 0 ∨ j = 1 := by omega
        rcases this with rfl | rfl <;> rfl
      rw [e1] at L
      obtain ⟨h', a1, a2⟩ := t43 (v1 := v1) (v2 := v2) (show j ≤ 1 by omega) C W V L hs hv1
      refine ⟨h', ?_, a2⟩
      have e3 : wcd (12 + j) = 12 + j := by unfold wcd; rw [if_neg (by omega), if_neg (by omega)]
      rw [e3]
      unfold f33 f33_103 f33_90
      have : j = 0 ∨ j = 1 := by omega
      rcases this with rfl | rfl
      · simp (disch := omega) only [gT, nbeq, Option.isSome_some, Option.getD_some, Bool.and_true, Bool.true_and, Bool.and_self, mX_some, bS, bN_if, bN_01, i1_01, i0_01, if_true, if_false, Bool.false_eq_true, false_and, and_false, and_true, true_and, and_self, Bool.or_false, Bool.false_or, Bool.or_true, Bool.true_or, Bool.false_and, Bool.and_false, decide_true, decide_false, L0, L1, L2, L3, L4, L5, L6, L7, L8, L9, L10, L11, L12, L13, L14, L15, L16, L17, L18, L19, L20, L21, L22, L23, L24, L25, L27, L33, L39, L40, L45, L48, L57, L60, L72, L90, L97, L98, L99, L100, L121, L122, L242, L255, L256, L580, L600, L1000, L1584, L1000000, Ln1, iN_add, iN_and, iN_or, iN_nd, iN_shl, iN_shr, iN_cl, iN_in, iN_mul, Nat.add_zero, ineF, eq_self, k37 w, r37_0 w, r37_1 w, r37_2 w, r37_5 w, r37_6 w, r37_7 w] at a1 ⊢
        rw [a1]; rfl
      · simp (disch := omega) only [gT, nbeq, Option.isSome_some, Option.getD_some, Bool.and_true, Bool.true_and, Bool.and_self, mX_some, bS, bN_if, bN_01, i1_01, i0_01, if_true, if_false, Bool.false_eq_true, false_and, and_false, and_true, true_and, and_self, Bool.or_false, Bool.false_or, Bool.or_true, Bool.true_or, Bool.false_and, Bool.and_false, decide_true, decide_false, L0, L1, L2, L3, L4, L5, L6, L7, L8, L9, L10, L11, L12, L13, L14, L15, L16, L17, L18, L19, L20, L21, L22, L23, L24, L25, L27, L33, L39, L40, L45, L48, L57, L60, L72, L90, L97, L98, L99, L100, L121, L122, L242, L255, L256, L580, L600, L1000, L1584, L1000000, Ln1, iN_add, iN_and, iN_or, iN_nd, iN_shl, iN_shr, iN_cl, iN_in, iN_mul, Nat.reduceAdd, ineF, eq_self, k37 w, r37_0 w, r37_1 w, r37_2 w, r37_5 w, r37_6 w, r37_7 w] at a1 ⊢
        rw [a1]; rfl
  · have : k = 0 ∨ k = 1 ∨ k = 2 ∨ k = 3 ∨ k = 4 ∨ k = 5 := by omega
    rcases this with rfl | rfl | rfl | rfl | rfl | rfl
    · obtain ⟨h', a1, a2⟩ := t34 C W V L hs hv1 hv2
      refine ⟨h', ?_, a2⟩
      show f33 h 37 (iN 6) = _
      unfold f33 f33_103
      simp (disch := omega) only [gT, nbeq, Option.isSome_some, Option.getD_some, Bool.and_true, Bool.true_and, Bool.and_self, mX_some, bS, bN_if, bN_01, i1_01, i0_01, if_true, if_false, Bool.false_eq_true, false_and, and_false, and_true, true_and, and_self, Bool.or_false, Bool.false_or, Bool.or_true, Bool.true_or, Bool.false_and, Bool.and_false, decide_true, decide_false, L0, L1, L2, L3, L4, L5, L6, L7, L8, L9, L10, L11, L12, L13, L14, L15, L16, L17, L18, L19, L20, L21, L22, L23, L24, L25, L27, L33, L39, L40, L45, L48, L57, L60, L72, L90, L97, L98, L99, L100, L121, L122, L242, L255, L256, L580, L600, L1000, L1584, L1000000, Ln1, iN_add, iN_and, iN_or, iN_nd, iN_shl, iN_shr, iN_cl, iN_in, iN_mul, ineF, eq_self, k37 w, r37_0 w, r37_1 w, r37_2 w, r37_5 w, r37_6 w, r37_7 w, a1]
    · obtain ⟨h', a1, a2⟩ := t38 C W V L hs hv1 hv2
      refine ⟨h', ?_, a2⟩
      show f33 h 37 (iN 7) = _
      unfold f33 f33_103
      simp (disch := omega) only [gT, nbeq, Option.isSome_some, Option.getD_some, Bool.and_true, Bool.true_and, Bool.and_self, mX_some, bS, bN_if, bN_01, i1_01, i0_01, if_true, if_false, Bool.false_eq_true, false_and, and_false, and_true, true_and, and_self, Bool.or_false, Bool.false_or, Bool.or_true, Bool.true_or, Bool.false_and, Bool.and_false, decide_true, decide_false, L0, L1, L2, L3, L4, L5, L6, L7, L8, L9, L10, L11, L12, L13, L14, L15, L16, L17, L18, L19, L20, L21, L22, L23, L24, L25, L27, L33, L39, L40, L45, L48, L57, L60, L72, L90, L97, L98, L99, L100, L121, L122, L242, L255, L256, L580, L600, L1000, L1584, L1000000, Ln1, iN_add, iN_and, iN_or, iN_nd, iN_shl, iN_shr, iN_cl, iN_in, iN_mul, ineF, eq_self, k37 w, r37_0 w, r37_1 w, r37_2 w, r37_5 w, r37_6 w, r37_7 w, a1]
    · obtain ⟨h', a1, a2⟩ := t39 C W L hs hv1 hv2
      refine ⟨h', ?_, a2⟩
      show f33 h 37 (iN 8) = _
      unfold f33 f33_103
      simp (disch := omega) only [gT, nbeq, Option.isSome_some, Option.getD_some, Bool.and_true, Bool.true_and, Bool.and_self, mX_some, bS, bN_if, bN_01, i1_01, i0_01, if_true, if_false, Bool.false_eq_true, false_and, and_false, and_true, true_and, and_self, Bool.or_false, Bool.false_or, Bool.or_true, Bool.true_or, Bool.false_and, Bool.and_false, decide_true, decide_false, L0, L1, L2, L3, L4, L5, L6, L7, L8, L9, L10, L11, L12, L13, L14, L15, L16, L17, L18, L19, L20, L21, L22, L23, L24, L25, L27, L33, L39, L40, L45, L48, L57, L60, L72, L90, L97, L98, L99, L100, L121, L122, L242, L255, L256, L580, L600, L1000, L1584, L1000000, Ln1, iN_add, iN_and, iN_or, iN_nd, iN_shl, iN_shr, iN_cl, iN_in, iN_mul, ineF, eq_self, k37 w, r37_0 w, r37_1 w, r37_2 w, r37_5 w, r37_6 w, r37_7 w, a1]
    · obtain ⟨h', a1, a2⟩ := t40 (v2 := v2) C W L hs hv1
      refine ⟨h', ?_, a2⟩
      show f33 h 37 (iN 9) = _
      unfold f33 f33_103
      simp (disch := omega) only [gT, nbeq, Option.isSome_some, Option.getD_some, Bool.and_true, Bool.true_and, Bool.and_self, mX_some, bS, bN_if, bN_01, i1_01, i0_01, if_true, if_false, Bool.false_eq_true, false_and, and_false, and_true, true_and, and_self, Bool.or_false, Bool.false_or, Bool.or_true, Bool.true_or, Bool.false_and, Bool.and_false, decide_true, decide_false, L0, L1, L2, L3, L4, L5, L6, L7, L8, L9, L10, L11, L12, L13, L14, L15, L16, L17, L18, L19, L20, L21, L22, L23, L24, L25, L27, L33, L39, L40, L45, L48, L57, L60, L72, L90, L97, L98, L99, L100, L121, L122, L242, L255, L256, L580, L600, L1000, L1584, L1000000, Ln1, iN_add, iN_and, iN_or, iN_nd, iN_shl, iN_shr, iN_cl, iN_in, iN_mul, ineF, eq_self, k37 w, r37_0 w, r37_1 w, r37_2 w, r37_5 w, r37_6 w, r37_7 w, a1]
    · obtain ⟨h', a1, a2⟩ := t41 (v2 := v2) C W V L hs hv1
      refine ⟨h', ?_, a2⟩
      show f33 h 37 (iN 10) = _
      unfold f33 f33_103
      simp (disch := omega) only [gT, nbeq, Option.isSome_some, Option.getD_some, Bool.and_true, Bool.true_and, Bool.and_self, mX_some, bS, bN_if, bN_01, i1_01, i0_01, if_true, if_false, Bool.false_eq_true, false_and, and_false, and_true, true_and, and_self, Bool.or_false, Bool.false_or, Bool.or_true, Bool.true_or, Bool.false_and, Bool.and_false, decide_true, decide_false, L0, L1, L2, L3, L4, L5, L6, L7, L8, L9, L10, L11, L12, L13, L14, L15, L16, L17, L18, L19, L20, L21, L22, L23, L24, L25, L27, L33, L39, L40, L45, L48, L57, L60, L72, L90, L97, L98, L99, L100, L121, L122, L242, L255, L256, L580, L600, L1000, L1584, L1000000, Ln1, iN_add, iN_and, iN_or, iN_nd, iN_shl, iN_shr, iN_cl, iN_in, iN_mul, ineF, eq_self, k37 w, r37_0 w, r37_1 w, r37_2 w, r37_5 w, r37_6 w, r37_7 w, a1]
    · obtain ⟨h', a1, a2⟩ := t42 C W V L hs hv1 hv2
      refine ⟨h', ?_, a2⟩
      show f33 h 37 (iN 11) = _
      unfold f33 f33_103
      simp (disch := omega) only [gT, nbeq, Option.isSome_some, Option.getD_some, Bool.and_true, Bool.true_and, Bool.and_self, mX_some, bS, bN_if, bN_01, i1_01, i0_01, if_true, if_false, Bool.false_eq_true, false_and, and_false, and_true, true_and, and_self, Bool.or_false, Bool.false_or, Bool.or_true, Bool.true_or, Bool.false_and, Bool.and_false, decide_true, decide_false, L0, L1, L2, L3, L4, L5, L6, L7, L8, L9, L10, L11, L12, L13, L14, L15, L16, L17, L18, L19, L20, L21, L22, L23, L24, L25, L27, L33, L39, L40, L45, L48, L57, L60, L72, L90, L97, L98, L99, L100, L121, L122, L242, L255, L256, L580, L600, L1000, L1584, L1000000, Ln1, iN_add, iN_and, iN_or, iN_nd, iN_shl, iN_shr, iN_cl, iN_in, iN_mul, ineF, eq_self, k37 w, r37_0 w, r37_1 w, r37_2 w, r37_5 w, r37_6 w, r37_7 w, a1]
end CT4
