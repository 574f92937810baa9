/-! the reference's lines of a library: the others -/
theorem inP {v m : Nat} (hv : v < 2147483648) (hm : m < 2147483648) : (decide (iN 0 ≤ iN v) && decide (iN v ≤ pN m)) = decide (v < m) := by
  have h := (t17 (h := ([], fun _ _ => 0, fun _ _ => none, fun _ _ => 0)) (x := iN v) (a := iN 0) (b := pN m)).symm.trans (t17p hm)
  rw [rg_iN hv] at h
  exact bN_inj (Option.some.inj h)
section ML1
variable {g0 g : mH} {b : Nat → Nat} {len e : Nat} {c : CQ} {f : FT}
/-- leans -/
theorem t194 {p : Nat} (hp : p ≤ len) (e0 : e = tkE b len p) (S : MS g0 g b len e f true) (W : FTW f) (P : PLW f (tkS b len e)) (V : CWF c) (R0 : RC0 g0 c f) : ∃ ok g', f194 g 193 = some (ok, g') ∧ LNr RC0 g0 b len g' ok (lnN b len 1 p e c f) := by
  have he : e ≤ len := by rw [e0]; exact (tkE_ok (b := b) hp).2.1
  have w := S.2.1.1
  have hA := V.2.1
  unfold lnN
  rw [if_neg (show ¬ nbk 1 = 0 by decide)]
  obtain ⟨y1, y2⟩ := t190 (i := 0) (lo := iN 0) (hi := iN 7) (ok := decide (0 ≤ tkV b len e ∧ tkV b len e ≤ 7)) (by omega) S W P he (fun hk => inK (by omega) (by omega) (by have := tkV_le he hk; omega))
  by_cases k1 : tkK b len e = 2
  · rw [if_pos k1, if_neg (show ¬ nbk 1 = 1 by decide)]
    obtain ⟨g1, a1, a2, a3, a4, a5⟩ := y1 k1
    have w1 := a2.2.1.1
    have he1 := (tkE_ok (b := b) he).2.1
    have lt1 := tS_lt (b := b) he (by omega)
    have hv1 := tkV_le he k1
    have P1 : PLW (nt (decide (0 ≤ tkV b len e ∧ tkV b len e ≤ 7)) 2 (tkS b len e) f) (tkS b len (tkE b len e)) := (P.mono (by omega)).nt lt1
    obtain ⟨z1, z2⟩ := t190 (i := 1) (lo := iN 0) (hi := pN (min 8 (tkV b len e))) (ok := decide (tkV b len (tkE b len e) < min 8 (tkV b len e))) (by omega) a2 a3 P1 he1 (fun hk => inP (by have := tkV_le he1 hk; omega) (by omega))
    have q5 : f195 g1 (iN 8) (iN (tkV b len e)) = some (iN (min 8 (tkV b len e))) := t195 (by omega) (by omega)
    by_cases k2 : tkK b len (tkE b len e) = 2
    · rw [if_pos k2]
      obtain ⟨g2, c1, c2, c3, c4, c5⟩ := z1 k2
      have w2 := c2.2.1.1
      have hv2 := tkV_le he1 k2
      have r0 : mI g2 203 0 = iN (tkV b len e) := (c5 0 (by decide)).trans a4
      generalize tkV b len e = v1 at hv1 r0 a2 a3 a4 c1 c2 c3 q5
      generalize tkV b len (tkE b len e) = v2 at hv2 c4 c2 c3
      rw [Bool.true_and] at c2
      have ec : nt (decide (v2 < min 8 v1)) 2 (tkS b len (tkE b len e)) (nt (decide (0 ≤ v1 ∧ v1 ≤ 7)) 2 (tkS b len e) f) = chk 1 c (tkS b len p) (tkS b len e) (tkS b len (tkE b len e)) v1 v2 f := by
        have e1 : decide (0 ≤ v1 ∧ v1 ≤ 7) = decide (v1 ≤ 7) := by rw [decide_eq_decide]; omega
        rw [e1]
        show _ = nt (decide (v2 < v1)) 2 (tkS b len (tkE b len e)) (nt (decide (v1 ≤ 7)) 2 (tkS b len e) f)
        by_cases c7 : v1 ≤ 7
        · rw [show min 8 v1 = v1 by omega]
        · rw [decide_eq_false c7]
          cases f with
          | none => rw [nt_fn, nt_s, nt_s]
          | some x => rw [nt_s, nt_s, nt_s]
      rw [ec] at c2 c3
      have gdv : (decide (0 ≤ v1 ∧ v1 ≤ 7) && decide (v2 < min 8 v1)) = true → v1 ≤ 7 ∧ v2 < v1 := fun h => by
        rw [Bool.and_eq_true, decide_eq_true_eq, decide_eq_true_eq] at h; omega
      obtain ⟨n0, n1, b0, b1, b2, b3, b4⟩ := R0.bd V
      have d0 : mI g2 202 0 = iN n0 := (c2.told 0).trans b2
      have d1 : mI g2 202 1 = iN n1 := (c2.told 1).trans b3
      have q6 : f196 g2 (iN v1) (iN v2) = some (iN (max v1 v2)) := t196 (by omega) (by omega)
      have q7 : ∀ x, f196 g2 x (iN (max v1 v2)) = some (if x ≤ iN (max v1 v2) then iN (max v1 v2) else x) := fun x => t196g
      have F0 : Fr pTl g2 (mSI g2 193 20 (if mI g2 193 20 ≤ iN (max v1 v2) then iN (max v1 v2) else mI g2 193 20)) := Fr.rfl.si (by decide)
      have g22 := c2.2.2.2.2.1
      cases hf : chk 1 c (tkS b len p) (tkS b len e) (tkS b len (tkE b len e)) v1 v2 f with
      | some x =>
        rw [hf] at c2 c3
        cases hg : (decide (0 ≤ v1 ∧ v1 ≤ 7) && decide (v2 < min 8 v1)) with
        | false =>
          rw [hg] at g22
          obtain ⟨m1, m2, m3, m4⟩ := c2.st F0 (fun j h1 _ => by simp (disch := omega) only [si_ne, si_nk, si_eq]) rfl
          refine ⟨iN 1, mSI g2 193 20 (if mI g2 193 20 ≤ iN (max v1 v2) then iN (max v1 v2) else mI g2 193 20), ?_, rfl, m1, m2, m3, m4, c3, n0, n1, b0, b1, by simp (disch := omega) only [si_ne, si_nk, si_eq]; exact d0, by simp (disch := omega) only [si_ne, si_nk, si_eq]; exact d1⟩
          unfold f194 f194_93
          simp (disch := omega) only [gT, nbeq, Option.isSome_some, Option.getD_some, Bool.and_true, Bool.true_and, Bool.and_self, mX_some, bS, bN_if, bN_01, i1_01, i0_01, if_true, if_false, Bool.false_eq_true, false_and, and_false, and_true, true_and, and_self, Bool.or_false, Bool.false_or, Bool.or_true, Bool.true_or, Bool.false_and, Bool.and_false, decide_true, decide_false, L0, L1, L2, L3, L4, L5, L6, L7, L8, L9, L10, L11, L12, L13, L14, L15, L16, L17, L18, L19, L20, L21, L22, L23, L24, L25, L27, L33, L39, L40, L45, L48, L57, L60, L72, L90, L97, L98, L99, L100, L121, L122, L242, L255, L256, L580, L600, L1000, L1584, L1000000, Ln1, iN_add, iN_and, iN_or, iN_nd, iN_shl, iN_shr, iN_cl, iN_in, iN_mul, k193 w, a1, ieq_n, k193 w1, r193_1 w1, r193_2 w1, r193_3 w1, r193_4 w1, r193_5 w1, r193_6 w1, r193_7 w1, r193_8 w1, r193_18 w1, r193_19 w1, r193_32 w1, r193_33 w1, r193_34 w1, r193_36 w1, r193_38 w1, r193_39 w1, r193_40 w1, r193_42 w1, r193_45 w1, r193_46 w1, r193_47 w1, r193_48 w1, r193_49 w1, r193_50 w1, k203 w1, iN_in, iN_cl, a4, q5, iN_p, c1, k193 w2, r193_1 w2, r193_2 w2, r193_3 w2, r193_4 w2, r193_5 w2, r193_6 w2, r193_7 w2, r193_8 w2, r193_18 w2, r193_19 w2, r193_32 w2, r193_33 w2, r193_34 w2, r193_36 w2, r193_38 w2, r193_39 w2, r193_40 w2, r193_42 w2, r193_45 w2, r193_46 w2, r193_47 w2, r193_48 w2, r193_49 w2, r193_50 w2, k203 w2, r0, c4, q6, q7, si_ne, si_nk, si_eq, g22]
        | true =>
          obtain ⟨gv1, gv2⟩ := gdv hg
          rw [hg] at g22
          have G : ∀ u, Fr pTl g2 (mSI (mSI g2 193 20 (if mI g2 193 20 ≤ iN (max v1 v2) then iN (max v1 v2) else mI g2 193 20)) 202 (19 + v1) u) := fun u => F0.si (by decide)
          obtain ⟨m1, m2, m3, m4⟩ := c2.st (G (mI g2 202 (19 + v1) ||| iN (1 <<< v2))) (fun j h1 _ => by simp (disch := omega) only [si_ne, si_nk, si_eq]) rfl
          refine ⟨iN 1, mSI (mSI g2 193 20 (if mI g2 193 20 ≤ iN (max v1 v2) then iN (max v1 v2) else mI g2 193 20)) 202 (19 + v1) (mI g2 202 (19 + v1) ||| iN (1 <<< v2)), ?_, rfl, m1, m2, m3, m4, c3, n0, n1, b0, b1, by simp (disch := omega) only [si_ne, si_nk, si_eq]; exact d0, by simp (disch := omega) only [si_ne, si_nk, si_eq]; exact d1⟩
          unfold f194 f194_93
          simp (disch := omega) only [gT, nbeq, Option.isSome_some, Option.getD_some, Bool.and_true, Bool.true_and, Bool.and_self, mX_some, bS, bN_if, bN_01, i1_01, i0_01, if_true, if_false, Bool.false_eq_true, false_and, and_false, and_true, true_and, and_self, Bool.or_false, Bool.false_or, Bool.or_true, Bool.true_or, Bool.false_and, Bool.and_false, decide_true, decide_false, L0, L1, L2, L3, L4, L5, L6, L7, L8, L9, L10, L11, L12, L13, L14, L15, L16, L17, L18, L19, L20, L21, L22, L23, L24, L25, L27, L33, L39, L40, L45, L48, L57, L60, L72, L90, L97, L98, L99, L100, L121, L122, L242, L255, L256, L580, L600, L1000, L1584, L1000000, Ln1, iN_add, iN_and, iN_or, iN_nd, iN_shl, iN_shr, iN_cl, iN_in, iN_mul, k193 w, a1, ieq_n, k193 w1, r193_1 w1, r193_2 w1, r193_3 w1, r193_4 w1, r193_5 w1, r193_6 w1, r193_7 w1, r193_8 w1, r193_18 w1, r193_19 w1, r193_32 w1, r193_33 w1, r193_34 w1, r193_36 w1, r193_38 w1, r193_39 w1, r193_40 w1, r193_42 w1, r193_45 w1, r193_46 w1, r193_47 w1, r193_48 w1, r193_49 w1, r193_50 w1, k203 w1, iN_in, iN_cl, a4, q5, iN_p, c1, k193 w2, r193_1 w2, r193_2 w2, r193_3 w2, r193_4 w2, r193_5 w2, r193_6 w2, r193_7 w2, r193_8 w2, r193_18 w2, r193_19 w2, r193_32 w2, r193_33 w2, r193_34 w2, r193_36 w2, r193_38 w2, r193_39 w2, r193_40 w2, r193_42 w2, r193_45 w2, r193_46 w2, r193_47 w2, r193_48 w2, r193_49 w2, r193_50 w2, k202 w2, k203 w2, r0, c4, q6, q7, si_ne, si_nk, si_eq, g22]
      | none =>
        rw [hf] at c2 c3
        obtain ⟨⟨q1, q2⟩, hf0⟩ := chk_1 hf
        subst hf0
        obtain ⟨R1, R2, R3⟩ := R0
        have hg : (decide (0 ≤ v1 ∧ v1 ≤ 7) && decide (v2 < min 8 v1)) = true := by
          rw [Bool.and_eq_true, decide_eq_true_eq, decide_eq_true_eq]; omega
        rw [hg] at g22
        have e20 : mI g2 193 20 = pN c.2.1.1 := c2.2.2.2.2.2.1.trans R2
        have emx : (if pN c.2.1.1 ≤ iN (max v1 v2) then iN (max v1 v2) else pN c.2.1.1) = pN (max c.2.1.1 (v1 + 1)) := by
          rw [show max v1 v2 = v1 by omega]
          exact gr_p (by omega) (by omega)
        rw [e20, emx] at F0
        have e3 : mI g2 202 (19 + v1) = iN (c.1 3 v1) := by rw [c2.told, R1 _ (by omega), fl3 (by omega)]
        have G : Fr pTl g2 (mSI (mSI g2 193 20 (pN (max c.2.1.1 (v1 + 1)))) 202 (19 + v1) (iN (c.1 3 v1 ||| 1 <<< v2))) := F0.si (by decide)
        obtain ⟨m1, m2, m3, m4⟩ := c2.st G (fun j h1 _ => by simp (disch := omega) only [si_ne, si_nk, si_eq]) rfl
        refine ⟨iN 1, mSI (mSI g2 193 20 (pN (max c.2.1.1 (v1 + 1)))) 202 (19 + v1) (iN (c.1 3 v1 ||| 1 <<< v2)), ?_, rfl, m1, m2, m3, m4, c3, fun j hj => ?_, ?_, ?_⟩
        · unfold f194 f194_93
          simp (disch := omega) only [gT, nbeq, Option.isSome_some, Option.getD_some, Bool.and_true, Bool.true_and, Bool.and_self, mX_some, bS, bN_if, bN_01, i1_01, i0_01, if_true, if_false, Bool.false_eq_true, false_and, and_false, and_true, true_and, and_self, Bool.or_false, Bool.false_or, Bool.or_true, Bool.true_or, Bool.false_and, Bool.and_false, decide_true, decide_false, L0, L1, L2, L3, L4, L5, L6, L7, L8, L9, L10, L11, L12, L13, L14, L15, L16, L17, L18, L19, L20, L21, L22, L23, L24, L25, L27, L33, L39, L40, L45, L48, L57, L60, L72, L90, L97, L98, L99, L100, L121, L122, L242, L255, L256, L580, L600, L1000, L1584, L1000000, Ln1, iN_add, iN_and, iN_or, iN_nd, iN_shl, iN_shr, iN_cl, iN_in, iN_mul, k193 w, a1, ieq_n, k193 w1, r193_1 w1, r193_2 w1, r193_3 w1, r193_4 w1, r193_5 w1, r193_6 w1, r193_7 w1, r193_8 w1, r193_18 w1, r193_19 w1, r193_32 w1, r193_33 w1, r193_34 w1, r193_36 w1, r193_38 w1, r193_39 w1, r193_40 w1, r193_42 w1, r193_45 w1, r193_46 w1, r193_47 w1, r193_48 w1, r193_49 w1, r193_50 w1, k203 w1, iN_in, iN_cl, a4, q5, iN_p, c1, k193 w2, r193_1 w2, r193_2 w2, r193_3 w2, r193_4 w2, r193_5 w2, r193_6 w2, r193_7 w2, r193_8 w2, r193_18 w2, r193_19 w2, r193_32 w2, r193_33 w2, r193_34 w2, r193_36 w2, r193_38 w2, r193_39 w2, r193_40 w2, r193_42 w2, r193_45 w2, r193_46 w2, r193_47 w2, r193_48 w2, r193_49 w2, r193_50 w2, k202 w2, k203 w2, r0, c4, q6, q7, e20, emx, si_ne, si_nk, si_eq, g22, e3, iN_or]
        · show _ = iN (flat (u2 c.1 3 v1 (c.1 3 v1 ||| 1 <<< v2)) j)
          rw [fu3 (by omega) hj]
          by_cases j2 : j = 19 + v1
          · subst j2; rw [if_pos rfl]; simp only [si_ne, si_nk, si_eq]
          · rw [if_neg j2, si_nk _ _ _ _ _ _ j2, si_ne _ _ _ _ _ _ (by decide), c2.told j]; exact R1 j hj
        · simp (disch := omega) only [si_ne, si_nk, si_eq]; rfl
        · simp (disch := omega) only [si_ne, si_nk, si_eq]; exact c2.2.2.2.2.2.2.trans R3
    · rw [if_neg k2]
      obtain ⟨g2, c1, c2, c3⟩ := z2 k2
      refine ⟨iN 0, g2, ?_, rfl, c2.mono pRd_Tl, c3⟩
      unfold f194 f194_33
      simp (disch := omega) only [gT, nbeq, Option.isSome_some, Option.getD_some, Bool.and_true, Bool.true_and, Bool.and_self, mX_some, bS, bN_if, bN_01, i1_01, i0_01, if_true, if_false, Bool.false_eq_true, false_and, and_false, and_true, true_and, and_self, Bool.or_false, Bool.false_or, Bool.or_true, Bool.true_or, Bool.false_and, Bool.and_false, decide_true, decide_false, L0, L1, L2, L3, L4, L5, L6, L7, L8, L9, L10, L11, L12, L13, L14, L15, L16, L17, L18, L19, L20, L21, L22, L23, L24, L25, L27, L33, L39, L40, L45, L48, L57, L60, L72, L90, L97, L98, L99, L100, L121, L122, L242, L255, L256, L580, L600, L1000, L1584, L1000000, Ln1, iN_add, iN_and, iN_or, iN_nd, iN_shl, iN_shr, iN_cl, iN_in, iN_mul, k193 w, a1, ieq_n, k193 w1, r193_1 w1, r193_2 w1, r193_3 w1, r193_4 w1, r193_5 w1, r193_6 w1, r193_7 w1, r193_8 w1, r193_18 w1, r193_19 w1, r193_32 w1, r193_33 w1, r193_34 w1, r193_36 w1, r193_38 w1, r193_39 w1, r193_40 w1, r193_42 w1, r193_45 w1, r193_46 w1, r193_47 w1, r193_48 w1, r193_49 w1, r193_50 w1, k203 w1, iN_in, iN_cl, a4, q5, iN_p, c1, ieq_p]
  · rw [if_neg k1]
    obtain ⟨g1, a1, a2, a3⟩ := y2 k1
    refine ⟨iN 0, g1, ?_, rfl, a2.mono pRd_Tl, a3⟩
    unfold f194 f194_33
    simp (disch := omega) only [gT, nbeq, Option.isSome_some, Option.getD_some, Bool.and_true, Bool.true_and, Bool.and_self, mX_some, bS, bN_if, bN_01, i1_01, i0_01, if_true, if_false, Bool.false_eq_true, false_and, and_false, and_true, true_and, and_self, Bool.or_false, Bool.false_or, Bool.or_true, Bool.true_or, Bool.false_and, Bool.and_false, decide_true, decide_false, L0, L1, L2, L3, L4, L5, L6, L7, L8, L9, L10, L11, L12, L13, L14, L15, L16, L17, L18, L19, L20, L21, L22, L23, L24, L25, L27, L33, L39, L40, L45, L48, L57, L60, L72, L90, L97, L98, L99, L100, L121, L122, L242, L255, L256, L580, L600, L1000, L1584, L1000000, Ln1, iN_add, iN_and, iN_or, iN_nd, iN_shl, iN_shr, iN_cl, iN_in, iN_mul, k193 w, a1, ieq_p]
/-- hears -/
theorem t197 {p : Nat} (hp : p ≤ len) (e0 : e = tkE b len p) (S : MS g0 g b len e f true) (W : FTW f) (P : PLW f (tkS b len e)) (V : CWF c) (R0 : RC0 g0 c f) : ∃ ok g', f197 g 193 = some (ok, g') ∧ LNr RC0 g0 b len g' ok (lnN b len 5 p e c f) := by
  have he : e ≤ len := by rw [e0]; exact (tkE_ok (b := b) hp).2.1
  have w := S.2.1.1
  have hB := V.2.2.1
  unfold lnN
  rw [if_neg (show ¬ nbk 5 = 0 by decide)]
  obtain ⟨y1, y2⟩ := t190 (i := 0) (lo := iN 0) (hi := iN 5) (ok := decide (0 ≤ tkV b len e ∧ tkV b len e ≤ 5)) (by omega) S W P he (fun hk => inK (by omega) (by omega) (by have := tkV_le he hk; omega))
  by_cases k1 : tkK b len e = 2
  · rw [if_pos k1, if_neg (show ¬ nbk 5 = 1 by decide)]
    obtain ⟨g1, a1, a2, a3, a4, a5⟩ := y1 k1
    have w1 := a2.2.1.1
    have he1 := (tkE_ok (b := b) he).2.1
    have lt1 := tS_lt (b := b) he (by omega)
    have hv1 := tkV_le he k1
    have P1 : PLW (nt (decide (0 ≤ tkV b len e ∧ tkV b len e ≤ 5)) 2 (tkS b len e) f) (tkS b len (tkE b len e)) := (P.mono (by omega)).nt lt1
    obtain ⟨z1, z2⟩ := t191 (i := 1) (lo := iN 0) (hi := iN 5) (but := iN (tkV b len e)) (ok := decide (tkV b len (tkE b len e) ≤ 5 ∧ tkV b len (tkE b len e) ≠ tkV b len e)) (by omega) a2 a3 P1 he1 (fun hk => by
      have hv2 := tkV_le he1 hk
      rw [inK (by omega) (by omega) (by omega)]
      have : decide (iN (tkV b len (tkE b len e)) = iN (tkV b len e)) = decide (tkV b len (tkE b len e) = tkV b len e) := by rw [decide_eq_decide, iN_eq (by omega) (by omega)]
      rw [this, ← decide_not, ← Bool.decide_and, decide_eq_decide]; omega)
    by_cases k2 : tkK b len (tkE b len e) = 2
    · rw [if_pos k2]
      obtain ⟨g2, c1, c2, c3, c4, c5⟩ := z1 k2
      have w2 := c2.2.1.1
      have hv2 := tkV_le he1 k2
      have r0 : mI g2 203 0 = iN (tkV b len e) := (c5 0 (by decide)).trans a4
      generalize tkV b len e = v1 at hv1 r0 a2 a3 a4 c1 c2 c3
      generalize tkV b len (tkE b len e) = v2 at hv2 c4 c2 c3
      rw [Bool.true_and] at c2
      have ec : nt (decide (v2 ≤ 5 ∧ v2 ≠ v1)) 2 (tkS b len (tkE b len e)) (nt (decide (0 ≤ v1 ∧ v1 ≤ 5)) 2 (tkS b len e) f) = chk 5 c (tkS b len p) (tkS b len e) (tkS b len (tkE b len e)) v1 v2 f := by
        have e1 : decide (0 ≤ v1 ∧ v1 ≤ 5) = decide (v1 ≤ 5) := by rw [decide_eq_decide]; omega
        rw [e1]; rfl
      rw [ec] at c2 c3
      have gdv : (decide (0 ≤ v1 ∧ v1 ≤ 5) && decide (v2 ≤ 5 ∧ v2 ≠ v1)) = true → v1 ≤ 5 ∧ v2 ≤ 5 := fun h => by
        rw [Bool.and_eq_true, decide_eq_true_eq, decide_eq_true_eq] at h; omega
      obtain ⟨n0, n1, b0, b1, b2, b3, b4⟩ := R0.bd V
      have d0 : mI g2 202 0 = iN n0 := (c2.told 0).trans b2
      have d1 : mI g2 202 1 = iN n1 := (c2.told 1).trans b3
      have q6 : f196 g2 (iN v1) (iN v2) = some (iN (max v1 v2)) := t196 (by omega) (by omega)
      have q7 : ∀ x, f196 g2 x (iN (max v1 v2)) = some (if x ≤ iN (max v1 v2) then iN (max v1 v2) else x) := fun x => t196g
      have F0 : Fr pTl g2 (mSI g2 193 21 (if mI g2 193 21 ≤ iN (max v1 v2) then iN (max v1 v2) else mI g2 193 21)) := Fr.rfl.si (by decide)
      have g22 := c2.2.2.2.2.1
      cases hf : chk 5 c (tkS b len p) (tkS b len e) (tkS b len (tkE b len e)) v1 v2 f with
      | some x =>
        rw [hf] at c2 c3
        cases hg : (decide (0 ≤ v1 ∧ v1 ≤ 5) && decide (v2 ≤ 5 ∧ v2 ≠ v1)) with
        | false =>
          rw [hg] at g22
          obtain ⟨m1, m2, m3, m4⟩ := c2.st F0 (fun j h1 h2 => by simp (disch := omega) only [si_ne, si_nk, si_eq]) rfl
          refine ⟨iN 1, mSI g2 193 21 (if mI g2 193 21 ≤ iN (max v1 v2) then iN (max v1 v2) else mI g2 193 21), ?_, rfl, m1, m2, m3, m4, c3, n0, n1, b0, b1, by simp (disch := omega) only [si_ne, si_nk, si_eq]; exact d0, by simp (disch := omega) only [si_ne, si_nk, si_eq]; exact d1⟩
          unfold f197 f197_86
          simp (disch := omega) only [gT, nbeq, Option.isSome_some, Option.getD_some, Bool.and_true, Bool.true_and, Bool.and_self, mX_some, bS, bN_if, bN_01, i1_01, i0_01, if_true, if_false, Bool.false_eq_true, false_and, and_false, and_true, true_and, and_self, Bool.or_false, Bool.false_or, Bool.or_true, Bool.true_or, Bool.false_and, Bool.and_false, decide_true, decide_false, L0, L1, L2, L3, L4, L5, L6, L7, L8, L9, L10, L11, L12, L13, L14, L15, L16, L17, L18, L19, L20, L21, L22, L23, L24, L25, L27, L33, L39, L40, L45, L48, L57, L60, L72, L90, L97, L98, L99, L100, L121, L122, L242, L255, L256, L580, L600, L1000, L1584, L1000000, Ln1, iN_add, iN_and, iN_or, iN_nd, iN_shl, iN_shr, iN_cl, iN_in, iN_mul, k193 w, a1, ieq_n, k193 w1, r193_1 w1, r193_2 w1, r193_3 w1, r193_4 w1, r193_5 w1, r193_6 w1, r193_7 w1, r193_8 w1, r193_18 w1, r193_19 w1, r193_32 w1, r193_33 w1, r193_34 w1, r193_36 w1, r193_38 w1, r193_39 w1, r193_40 w1, r193_42 w1, r193_45 w1, r193_46 w1, r193_47 w1, r193_48 w1, r193_49 w1, r193_50 w1, k203 w1, iN_in, iN_cl, a4, c1, k193 w2, r193_1 w2, r193_2 w2, r193_3 w2, r193_4 w2, r193_5 w2, r193_6 w2, r193_7 w2, r193_8 w2, r193_18 w2, r193_19 w2, r193_32 w2, r193_33 w2, r193_34 w2, r193_36 w2, r193_38 w2, r193_39 w2, r193_40 w2, r193_42 w2, r193_45 w2, r193_46 w2, r193_47 w2, r193_48 w2, r193_49 w2, r193_50 w2, k203 w2, r0, c4, q6, q7, si_ne, si_nk, si_eq, g22]
        | true =>
          obtain ⟨gv1, gv2⟩ := gdv hg
          rw [hg] at g22
          have G : ∀ u, Fr pTl g2 (mSI (mSI g2 193 21 (if mI g2 193 21 ≤ iN (max v1 v2) then iN (max v1 v2) else mI g2 193 21)) 202 (39 + v1) u) := fun u => F0.si (by decide)
          obtain ⟨m1, m2, m3, m4⟩ := c2.st (G (mI g2 202 (39 + v1) ||| iN (1 <<< v2))) (fun j h1 h2 => by simp (disch := omega) only [si_ne, si_nk, si_eq]) rfl
          refine ⟨iN 1, mSI (mSI g2 193 21 (if mI g2 193 21 ≤ iN (max v1 v2) then iN (max v1 v2) else mI g2 193 21)) 202 (39 + v1) (mI g2 202 (39 + v1) ||| iN (1 <<< v2)), ?_, rfl, m1, m2, m3, m4, c3, n0, n1, b0, b1, by simp (disch := omega) only [si_ne, si_nk, si_eq]; exact d0, by simp (disch := omega) only [si_ne, si_nk, si_eq]; exact d1⟩
          unfold f197 f197_86
          simp (disch := omega) only [gT, nbeq, Option.isSome_some, Option.getD_some, Bool.and_true, Bool.true_and, Bool.and_self, mX_some, bS, bN_if, bN_01, i1_01, i0_01, if_true, if_false, Bool.false_eq_true, false_and, and_false, and_true, true_and, and_self, Bool.or_false, Bool.false_or, Bool.or_true, Bool.true_or, Bool.false_and, Bool.and_false, decide_true, decide_false, L0, L1, L2, L3, L4, L5, L6, L7, L8, L9, L10, L11, L12, L13, L14, L15, L16, L17, L18, L19, L20, L21, L22, L23, L24, L25, L27, L33, L39, L40, L45, L48, L57, L60, L72, L90, L97, L98, L99, L100, L121, L122, L242, L255, L256, L580, L600, L1000, L1584, L1000000, Ln1, iN_add, iN_and, iN_or, iN_nd, iN_shl, iN_shr, iN_cl, iN_in, iN_mul, k193 w, a1, ieq_n, k193 w1, r193_1 w1, r193_2 w1, r193_3 w1, r193_4 w1, r193_5 w1, r193_6 w1, r193_7 w1, r193_8 w1, r193_18 w1, r193_19 w1, r193_32 w1, r193_33 w1, r193_34 w1, r193_36 w1, r193_38 w1, r193_39 w1, r193_40 w1, r193_42 w1, r193_45 w1, r193_46 w1, r193_47 w1, r193_48 w1, r193_49 w1, r193_50 w1, k203 w1, iN_in, iN_cl, a4, c1, k193 w2, r193_1 w2, r193_2 w2, r193_3 w2, r193_4 w2, r193_5 w2, r193_6 w2, r193_7 w2, r193_8 w2, r193_18 w2, r193_19 w2, r193_32 w2, r193_33 w2, r193_34 w2, r193_36 w2, r193_38 w2, r193_39 w2, r193_40 w2, r193_42 w2, r193_45 w2, r193_46 w2, r193_47 w2, r193_48 w2, r193_49 w2, r193_50 w2, k202 w2, k203 w2, r0, c4, q6, q7, si_ne, si_nk, si_eq, g22]
      | none =>
        rw [hf] at c2 c3
        obtain ⟨⟨q1, q2, q3⟩, hf0⟩ := chk_5 hf
        subst hf0
        obtain ⟨R1, R2, R3⟩ := R0
        have hg : (decide (0 ≤ v1 ∧ v1 ≤ 5) && decide (v2 ≤ 5 ∧ v2 ≠ v1)) = true := by
          rw [Bool.and_eq_true, decide_eq_true_eq, decide_eq_true_eq]; omega
        rw [hg] at g22
        have e20 : mI g2 193 21 = pN c.2.1.2 := c2.2.2.2.2.2.2.trans R3
        have emx : (if pN c.2.1.2 ≤ iN (max v1 v2) then iN (max v1 v2) else pN c.2.1.2) = pN (max c.2.1.2 (max v1 v2 + 1)) := gr_p (by omega) (by omega)
        rw [e20, emx] at F0
        have e3 : mI g2 202 (39 + v1) = iN (c.1 6 v1) := by rw [c2.told, R1 _ (by omega), fl6 (by omega)]
        have G : Fr pTl g2 (mSI (mSI g2 193 21 (pN (max c.2.1.2 (max v1 v2 + 1)))) 202 (39 + v1) (iN (c.1 6 v1 ||| 1 <<< v2))) := F0.si (by decide)
        obtain ⟨m1, m2, m3, m4⟩ := c2.st G (fun j h1 h2 => by simp (disch := omega) only [si_ne, si_nk, si_eq]) rfl
        refine ⟨iN 1, mSI (mSI g2 193 21 (pN (max c.2.1.2 (max v1 v2 + 1)))) 202 (39 + v1) (iN (c.1 6 v1 ||| 1 <<< v2)), ?_, rfl, m1, m2, m3, m4, c3, fun j hj => ?_, ?_, ?_⟩
        · unfold f197 f197_86
          simp (disch := omega) only [gT, nbeq, Option.isSome_some, Option.getD_some, Bool.and_true, Bool.true_and, Bool.and_self, mX_some, bS, bN_if, bN_01, i1_01, i0_01, if_true, if_false, Bool.false_eq_true, false_and, and_false, and_true, true_and, and_self, Bool.or_false, Bool.false_or, Bool.or_true, Bool.true_or, Bool.false_and, Bool.and_false, decide_true, decide_false, L0, L1, L2, L3, L4, L5, L6, L7, L8, L9, L10, L11, L12, L13, L14, L15, L16, L17, L18, L19, L20, L21, L22, L23, L24, L25, L27, L33, L39, L40, L45, L48, L57, L60, L72, L90, L97, L98, L99, L100, L121, L122, L242, L255, L256, L580, L600, L1000, L1584, L1000000, Ln1, iN_add, iN_and, iN_or, iN_nd, iN_shl, iN_shr, iN_cl, iN_in, iN_mul, k193 w, a1, ieq_n, k193 w1, r193_1 w1, r193_2 w1, r193_3 w1, r193_4 w1, r193_5 w1, r193_6 w1, r193_7 w1, r193_8 w1, r193_18 w1, r193_19 w1, r193_32 w1, r193_33 w1, r193_34 w1, r193_36 w1, r193_38 w1, r193_39 w1, r193_40 w1, r193_42 w1, r193_45 w1, r193_46 w1, r193_47 w1, r193_48 w1, r193_49 w1, r193_50 w1, k203 w1, iN_in, iN_cl, a4, c1, k193 w2, r193_1 w2, r193_2 w2, r193_3 w2, r193_4 w2, r193_5 w2, r193_6 w2, r193_7 w2, r193_8 w2, r193_18 w2, r193_19 w2, r193_32 w2, r193_33 w2, r193_34 w2, r193_36 w2, r193_38 w2, r193_39 w2, r193_40 w2, r193_42 w2, r193_45 w2, r193_46 w2, r193_47 w2, r193_48 w2, r193_49 w2, r193_50 w2, k202 w2, k203 w2, r0, c4, q6, q7, e20, emx, si_ne, si_nk, si_eq, g22, e3, iN_or]
        · show _ = iN (flat (u2 c.1 6 v1 (c.1 6 v1 ||| 1 <<< v2)) j)
          rw [fu6 (by omega) hj]
          by_cases j2 : j = 39 + v1
          · subst j2; rw [if_pos rfl]; simp only [si_ne, si_nk, si_eq]
          · rw [if_neg j2, si_nk _ _ _ _ _ _ j2, si_ne _ _ _ _ _ _ (by decide), c2.told j]; exact R1 j hj
        · simp (disch := omega) only [si_ne, si_nk, si_eq]; exact c2.2.2.2.2.2.1.trans R2
        · simp (disch := omega) only [si_ne, si_nk, si_eq]; rfl
    · rw [if_neg k2]
      obtain ⟨g2, c1, c2, c3⟩ := z2 k2
      refine ⟨iN 0, g2, ?_, rfl, c2.mono pRd_Tl, c3⟩
      unfold f197 f197_26
      simp (disch := omega) only [gT, nbeq, Option.isSome_some, Option.getD_some, Bool.and_true, Bool.true_and, Bool.and_self, mX_some, bS, bN_if, bN_01, i1_01, i0_01, if_true, if_false, Bool.false_eq_true, false_and, and_false, and_true, true_and, and_self, Bool.or_false, Bool.false_or, Bool.or_true, Bool.true_or, Bool.false_and, Bool.and_false, decide_true, decide_false, L0, L1, L2, L3, L4, L5, L6, L7, L8, L9, L10, L11, L12, L13, L14, L15, L16, L17, L18, L19, L20, L21, L22, L23, L24, L25, L27, L33, L39, L40, L45, L48, L57, L60, L72, L90, L97, L98, L99, L100, L121, L122, L242, L255, L256, L580, L600, L1000, L1584, L1000000, Ln1, iN_add, iN_and, iN_or, iN_nd, iN_shl, iN_shr, iN_cl, iN_in, iN_mul, k193 w, a1, ieq_n, k193 w1, r193_1 w1, r193_2 w1, r193_3 w1, r193_4 w1, r193_5 w1, r193_6 w1, r193_7 w1, r193_8 w1, r193_18 w1, r193_19 w1, r193_32 w1, r193_33 w1, r193_34 w1, r193_36 w1, r193_38 w1, r193_39 w1, r193_40 w1, r193_42 w1, r193_45 w1, r193_46 w1, r193_47 w1, r193_48 w1, r193_49 w1, r193_50 w1, k203 w1, iN_in, iN_cl, a4, c1, ieq_p]
  · rw [if_neg k1]
    obtain ⟨g1, a1, a2, a3⟩ := y2 k1
    refine ⟨iN 0, g1, ?_, rfl, a2.mono pRd_Tl, a3⟩
    unfold f197 f197_26
    simp (disch := omega) only [gT, nbeq, Option.isSome_some, Option.getD_some, Bool.and_true, Bool.true_and, Bool.and_self, mX_some, bS, bN_if, bN_01, i1_01, i0_01, if_true, if_false, Bool.false_eq_true, false_and, and_false, and_true, true_and, and_self, Bool.or_false, Bool.false_or, Bool.or_true, Bool.true_or, Bool.false_and, Bool.and_false, decide_true, decide_false, L0, L1, L2, L3, L4, L5, L6, L7, L8, L9, L10, L11, L12, L13, L14, L15, L16, L17, L18, L19, L20, L21, L22, L23, L24, L25, L27, L33, L39, L40, L45, L48, L57, L60, L72, L90, L97, L98, L99, L100, L121, L122, L242, L255, L256, L580, L600, L1000, L1584, L1000000, Ln1, iN_add, iN_and, iN_or, iN_nd, iN_shl, iN_shr, iN_cl, iN_in, iN_mul, k193 w, a1, ieq_p]
/-- put -/
theorem t198 {j : Nat} {v : Int32} {gd : Bool} (w : Wd g) (hj : j < 121) (h : mI g 193 22 = bN gd) : f198 g 193 (iN j) v = some (iN 1, if gd = true then mSI g 202 j v else g) := by
  unfold f198 f198_14
  cases gd with
  | false => simp (disch := omega) only [gT, nbeq, Option.isSome_some, Option.getD_some, Bool.and_true, Bool.true_and, Bool.and_self, mX_some, bS, bN_if, bN_01, i1_01, i0_01, if_true, if_false, Bool.false_eq_true, false_and, and_false, and_true, true_and, and_self, Bool.or_false, Bool.false_or, Bool.or_true, Bool.true_or, Bool.false_and, Bool.and_false, decide_true, decide_false, L0, L1, L2, L3, L4, L5, L6, L7, L8, L9, L10, L11, L12, L13, L14, L15, L16, L17, L18, L19, L20, L21, L22, L23, L24, L25, L27, L33, L39, L40, L45, L48, L57, L60, L72, L90, L97, L98, L99, L100, L121, L122, L242, L255, L256, L580, L600, L1000, L1584, L1000000, Ln1, iN_add, iN_and, iN_or, iN_nd, iN_shl, iN_shr, iN_cl, iN_in, iN_mul, k193 w, h]
  | true => simp (disch := omega) only [gT, nbeq, Option.isSome_some, Option.getD_some, Bool.and_true, Bool.true_and, Bool.and_self, mX_some, bS, bN_if, bN_01, i1_01, i0_01, if_true, if_false, Bool.false_eq_true, false_and, and_false, and_true, true_and, and_self, Bool.or_false, Bool.false_or, Bool.or_true, Bool.true_or, Bool.false_and, Bool.and_false, decide_true, decide_false, L0, L1, L2, L3, L4, L5, L6, L7, L8, L9, L10, L11, L12, L13, L14, L15, L16, L17, L18, L19, L20, L21, L22, L23, L24, L25, L27, L33, L39, L40, L45, L48, L57, L60, L72, L90, L97, L98, L99, L100, L121, L122, L242, L255, L256, L580, L600, L1000, L1584, L1000000, Ln1, iN_add, iN_and, iN_or, iN_nd, iN_shl, iN_shr, iN_cl, iN_in, iN_mul, k193 w, r193_1 w, r193_2 w, r193_3 w, r193_4 w, r193_5 w, r193_6 w, r193_7 w, r193_8 w, r193_18 w, r193_19 w, r193_32 w, r193_33 w, r193_34 w, r193_36 w, r193_38 w, r193_39 w, r193_40 w, r193_42 w, r193_45 w, r193_46 w, r193_47 w, r193_48 w, r193_49 w, r193_50 w, k202 w, h, iN_in, iN_cl]
end ML1
