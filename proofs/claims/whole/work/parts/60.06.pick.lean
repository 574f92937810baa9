/-! Calls that ask of NEWS. -/
theorem ofS {h : mH} {q : LQ} {s : LSt} (H : MoS h q) (W : QW q) (C : MLS h s) (S : SW q s) (K : KW q s) {v : Nat} (hv : v < 2147483648) : f230 h 193 (iN v) = some (ansS q s v) := by
  have w := H.1
  have hm := W.1.2.1
  have hn := W.1.1
  have hd := S.done W
  obtain ⟨c1, c2, c3, c4, c5, c6, c7, c8⟩ := id C
  unfold f230 f230_50 f230_52 f230_108 f230_127
  by_cases e : 100 ≤ v
  · have e5 : v - 100 - (v - 100) / 8 * 8 = (v - 100) % 8 := by omega
    unfold ansS
    rw [if_neg (show ¬ v = 0 by omega), if_neg (show ¬ v = 1 by omega), if_neg (show ¬ v = 2 by omega), if_neg (show ¬ v = 3 by omega), if_neg (show ¬ v = 4 by omega), if_neg (show ¬ v = 5 by omega), if_neg (show ¬ (10 ≤ v ∧ v < 16) by omega), if_neg (show ¬ (20 ≤ v ∧ v < 20 + q 0 1) by omega)]
    simp (disch := omega) only [gT, nbeq, Option.isSome_some, Option.getD_some, Bool.and_true, Bool.true_and, Bool.and_self, mX_some, bS, bN_if, bN_01, i1_01, i0_01, if_true, if_false, Bool.false_eq_true, false_and, and_false, and_true, true_and, and_self, Bool.or_false, Bool.false_or, Bool.or_true, Bool.true_or, Bool.false_and, Bool.and_false, decide_true, decide_false, L0, L1, L2, L3, L4, L5, L6, L7, L8, L9, L10, L11, L12, L13, L14, L15, L16, L17, L18, L19, L20, L21, L22, L23, L24, L25, L27, L33, L39, L40, L45, L48, L57, L60, L72, L90, L97, L98, L99, L100, L121, L122, L242, L255, L256, L580, L600, L1000, L1584, L1000000, Ln1, iN_add, iN_and, iN_or, iN_nd, iN_shl, iN_shr, iN_cl, iN_in, iN_mul, Ln2, i8nz, ilt_n, k193 w, r193_1 w, r193_2 w, r193_3 w, r193_4 w, r193_5 w, r193_6 w, r193_7 w, r193_8 w, r193_18 w, r193_19 w, r193_32 w, r193_33 w, r193_34 w, r193_36 w, r193_38 w, r193_39 w, r193_40 w, r193_42 w, r193_45 w, r193_46 w, r193_47 w, r193_48 w, r193_49 w, r193_50 w, k205 w, iN_sub, iN_div, e5, t226 H W, t218 H W, rg_iN]
    by_cases e1 : (v - 100) / 8 < q 0 1
    · by_cases e2 : (v - 100) % 8 < q 0 0
      · have e4 : v - 100 < 48 := by omega
        simp (disch := omega) only [e1, e2, e, gT, nbeq, Option.isSome_some, Option.getD_some, Bool.and_true, Bool.true_and, Bool.and_self, mX_some, bS, bN_if, bN_01, i1_01, i0_01, if_true, if_false, Bool.false_eq_true, false_and, and_false, and_true, true_and, and_self, Bool.or_false, Bool.false_or, Bool.or_true, Bool.true_or, Bool.false_and, Bool.and_false, decide_true, decide_false, iN_in, iN_cl, c2 (v - 100) e4]
      · simp only [e1, e2, e, gT, nbeq, Option.isSome_some, Option.getD_some, Bool.and_true, Bool.true_and, Bool.and_self, mX_some, bS, bN_if, bN_01, i1_01, i0_01, if_true, if_false, Bool.false_eq_true, false_and, and_false, and_true, true_and, and_self, Bool.or_false, Bool.false_or, Bool.or_true, Bool.true_or, Bool.false_and, Bool.and_false, decide_true, decide_false]
    · simp only [e1, e, gT, nbeq, Option.isSome_some, Option.getD_some, Bool.and_true, Bool.true_and, Bool.and_self, mX_some, bS, bN_if, bN_01, i1_01, i0_01, if_true, if_false, Bool.false_eq_true, false_and, and_false, and_true, true_and, and_self, Bool.or_false, Bool.false_or, Bool.or_true, Bool.true_or, Bool.false_and, Bool.and_false, decide_true, decide_false]
  · have e5 : v - v / 10 * 10 = v % 10 := by omega
    simp (disch := omega) only [gT, nbeq, Option.isSome_some, Option.getD_some, Bool.and_true, Bool.true_and, Bool.and_self, mX_some, bS, bN_if, bN_01, i1_01, i0_01, if_true, if_false, Bool.false_eq_true, false_and, and_false, and_true, true_and, and_self, Bool.or_false, Bool.false_or, Bool.or_true, Bool.true_or, Bool.false_and, Bool.and_false, decide_true, decide_false, L0, L1, L2, L3, L4, L5, L6, L7, L8, L9, L10, L11, L12, L13, L14, L15, L16, L17, L18, L19, L20, L21, L22, L23, L24, L25, L27, L33, L39, L40, L45, L48, L57, L60, L72, L90, L97, L98, L99, L100, L121, L122, L242, L255, L256, L580, L600, L1000, L1584, L1000000, Ln1, iN_add, iN_and, iN_or, iN_nd, iN_shl, iN_shr, iN_cl, iN_in, iN_mul, Ln2, i10nz, ilt_p, k193 w, r193_1 w, r193_2 w, r193_3 w, r193_4 w, r193_5 w, r193_6 w, r193_7 w, r193_8 w, r193_18 w, r193_19 w, r193_32 w, r193_33 w, r193_34 w, r193_36 w, r193_38 w, r193_39 w, r193_40 w, r193_42 w, r193_45 w, r193_46 w, r193_47 w, r193_48 w, r193_49 w, r193_50 w, k204 w, iN_sub, iN_div, e5, t226 H W, rg_iN, c3, c4, c5, c6, c7, t232 H W, t231 w W C S K]
    by_cases v0 : v / 10 = 0
    · have : v = 0 ∨ v = 1 ∨ v = 2 ∨ v = 3 ∨ v = 4 ∨ v = 5 ∨ v = 6 ∨ v = 7 ∨ v = 8 ∨ v = 9 := by omega
      rcases this with rfl | rfl | rfl | rfl | rfl | rfl | rfl | rfl | rfl | rfl
      all_goals simp (disch := omega) only [gT, nbeq, Option.isSome_some, Option.getD_some, Bool.and_true, Bool.true_and, Bool.and_self, mX_some, bS, bN_if, bN_01, i1_01, i0_01, if_true, if_false, Bool.false_eq_true, false_and, and_false, and_true, true_and, and_self, Bool.or_false, Bool.false_or, Bool.or_true, Bool.true_or, Bool.false_and, Bool.and_false, decide_true, decide_false, ile_p, ile_n, ilt_p, ilt_n, ieq_p, ieq_n, ij_n, jj_p, ijle, jile, ijlt, jilt]
      all_goals (unfold ansS; simp; try omega)
    · unfold ansS
      rw [if_neg (show ¬ v = 0 by omega), if_neg (show ¬ v = 1 by omega), if_neg (show ¬ v = 2 by omega), if_neg (show ¬ v = 3 by omega), if_neg (show ¬ v = 4 by omega), if_neg (show ¬ v = 5 by omega), ieq_n (by omega) (by omega) v0]
      rw [if_neg (show ¬ (100 ≤ v ∧ (v - 100) / 8 < q 0 1 ∧ (v - 100) % 8 < q 0 0) by omega)]
      by_cases v1 : v / 10 = 1
      · rw [ieq_p v1, if_neg (show ¬ (20 ≤ v ∧ v < 20 + q 0 1) by omega)]
        by_cases e6 : 6 ≤ v % 10
        · rw [ile_p (by omega) (by omega) e6, if_neg (show ¬ (10 ≤ v ∧ v < 16) by omega)]
        · have e7 := c1 (v % 10) (by omega)
          rw [ile_n (by omega) (by omega) (by omega), if_pos (show 10 ≤ v ∧ v < 16 by omega)]
          simp (disch := omega) only [gT, nbeq, Option.isSome_some, Option.getD_some, Bool.and_true, Bool.true_and, Bool.and_self, mX_some, bS, bN_if, bN_01, i1_01, i0_01, if_true, if_false, Bool.false_eq_true, false_and, and_false, and_true, true_and, and_self, Bool.or_false, Bool.false_or, Bool.or_true, Bool.true_or, Bool.false_and, Bool.and_false, decide_true, decide_false, iN_in, iN_cl, e7]
          congr 3; omega
      · rw [ieq_n (by omega) (by omega) v1, if_neg (show ¬ (10 ≤ v ∧ v < 16) by omega)]
        by_cases v2 : v / 10 = 2
        · rw [ieq_p v2]
          by_cases e6 : v % 10 < q 0 1
          · have e8 : v - 20 = v % 10 := by omega
            rw [if_pos (show 20 ≤ v ∧ v < 20 + q 0 1 by omega), e8]
            simp (disch := omega) only [gT, nbeq, Option.isSome_some, Option.getD_some, Bool.and_true, Bool.true_and, Bool.and_self, mX_some, bS, bN_if, bN_01, i1_01, i0_01, if_true, if_false, Bool.false_eq_true, false_and, and_false, and_true, true_and, and_self, Bool.or_false, Bool.false_or, Bool.or_true, Bool.true_or, Bool.false_and, Bool.and_false, decide_true, decide_false, e6, t231 w W C S K]
          · rw [if_neg (show ¬ (20 ≤ v ∧ v < 20 + q 0 1) by omega)]
            simp (disch := omega) only [gT, nbeq, Option.isSome_some, Option.getD_some, Bool.and_true, Bool.true_and, Bool.and_self, mX_some, bS, bN_if, bN_01, i1_01, i0_01, if_true, if_false, Bool.false_eq_true, false_and, and_false, and_true, true_and, and_self, Bool.or_false, Bool.false_or, Bool.or_true, Bool.true_or, Bool.false_and, Bool.and_false, decide_true, decide_false, e6]
        · rw [ieq_n (by omega) (by omega) v2, if_neg (show ¬ (20 ≤ v ∧ v < 20 + q 0 1) by omega)]
theorem FQ.co {h h0 : mH} (F : FQ h h0) : FQ h (mSI h0 193 0 (iN 0)) := F.tr (Fr.qM (Fr.rfl.si (by decide)))
theorem FQ.c0 {h0 : mH} : FQ h0 (mSI h0 193 0 (iN 0)) := Fr.qM (Fr.rfl.si (by decide))
theorem Rel.pick {h : mH} (R : Rel h) (x : Int32) : (f53 h 1 x = some none ∧ ∀ h0, FQ h h0 → f205 h0 193 x = some (bN false, h0)) ∨ ∃ i q, i < 2 ∧ x = iN i ∧ QW q ∧ LibS h (7 + 14 * i) q ∧ f53 h 1 x = some (some (7 + 14 * i)) ∧ ∀ h0, FQ h h0 → ∃ h', f205 h0 193 x = some (bN true, h') ∧ Fr pM h0 h' ∧ (∀ j, 35 ≤ j → mI h' 193 j = mI h0 193 j) ∧ MoS h' q ∧ MLS h' (s0 q) := by
  obtain ⟨m, hm, e1, e2, hl⟩ := R.lib
  cases hr : rg x m with
  | false =>
    refine Or.inl ⟨by rw [t53 R.1 hm e1, hr]; rfl, fun h0 F => ?_⟩
    exact t205n (R.1.q F) hm ((F.i (by decide) 0).trans e2) hr
  | true =>
    obtain ⟨i, hi, rfl, hi2⟩ := rg_t hr
    obtain ⟨q, W, H, S⟩ := hl i hi
    refine Or.inr ⟨i, q, by omega, rfl, W, H, by rw [t53 R.1 hm e1, hr, if_pos rfl, iN_cl hi2], fun h0 F => ?_⟩
    exact t205y (R.1.q F) hm ((F.i (by decide) 0).trans e2) hi W (fun j hj => (F.i (by decide) _).trans (S j hj))
section PB
variable {h : mH}
theorem c_news (R : Rel h) (x1 x2 x3 : Int32) : ∃ v, f97 h 0 x1 x2 x3 = some v ∧ ∀ h0, FQ h h0 → ∃ h2, f245 h0 193 x1 x2 x3 = some (v, h2) ∧ FQ h0 h2 := by
  have w := R.1
  unfold f97 f97_34
  simp only [gT, nbeq, Option.isSome_some, Option.getD_some, Bool.and_true, Bool.true_and, Bool.and_self, mX_some, bS, bN_if, bN_01, i1_01, i0_01, if_true, if_false, Bool.false_eq_true, false_and, and_false, and_true, true_and, and_self, Bool.or_false, Bool.false_or, Bool.or_true, Bool.true_or, Bool.false_and, Bool.and_false, decide_true, decide_false, k0 w, r0_0 w, r0_1 w, r0_2 w, r0_3 w, r0_4 w, r0_5 w, r0_6 w, r0_7 w, r0_8 w, k1 w, r1_0 w, r1_1 w, r1_2 w, r1_3 w, r1_4 w]
  rcases R.pick x1 with ⟨e1, e2⟩ | ⟨i, q, hi, rfl, W, H, e1, e2⟩
  · simp only [gT, nbeq, Option.isSome_some, Option.getD_some, Bool.and_true, Bool.true_and, Bool.and_self, mX_some, bS, bN_if, bN_01, i1_01, i0_01, if_true, if_false, Bool.false_eq_true, false_and, and_false, and_true, true_and, and_self, Bool.or_false, Bool.false_or, Bool.or_true, Bool.true_or, Bool.false_and, Bool.and_false, decide_true, decide_false, e1]
    refine ⟨_, rfl, fun h0 F => ?_⟩
    have w0 := R.1.q F
    unfold f245 f245_43 f245_44
    simp (disch := omega) only [gT, nbeq, Option.isSome_some, Option.getD_some, Bool.and_true, Bool.true_and, Bool.and_self, mX_some, bS, bN_if, bN_01, i1_01, i0_01, if_true, if_false, Bool.false_eq_true, false_and, and_false, and_true, true_and, and_self, Bool.or_false, Bool.false_or, Bool.or_true, Bool.true_or, Bool.false_and, Bool.and_false, decide_true, decide_false, L0, L1, L2, L3, L4, L5, L6, L7, L8, L9, L10, L11, L12, L13, L14, L15, L16, L17, L18, L19, L20, L21, L22, L23, L24, L25, L27, L33, L39, L40, L45, L48, L57, L60, L72, L90, L97, L98, L99, L100, L121, L122, L242, L255, L256, L580, L600, L1000, L1584, L1000000, Ln1, iN_add, iN_and, iN_or, iN_nd, iN_shl, iN_shr, iN_cl, iN_in, iN_mul, k193 w0, r193_1 w0, r193_2 w0, r193_3 w0, r193_4 w0, r193_5 w0, r193_6 w0, r193_7 w0, r193_8 w0, r193_18 w0, r193_19 w0, r193_32 w0, r193_33 w0, r193_34 w0, r193_36 w0, r193_38 w0, r193_39 w0, r193_40 w0, r193_42 w0, r193_45 w0, r193_46 w0, r193_47 w0, r193_48 w0, r193_49 w0, r193_50 w0, t179r, e2 _ F.co]
    cases rg x3 (9 + 1) <;> simp only [gT, nbeq, Option.isSome_some, Option.getD_some, Bool.and_true, Bool.true_and, Bool.and_self, mX_some, bS, bN_if, bN_01, i1_01, i0_01, if_true, if_false, Bool.false_eq_true, false_and, and_false, and_true, true_and, and_self, Bool.or_false, Bool.false_or, Bool.or_true, Bool.true_or, Bool.false_and, Bool.and_false, decide_true, decide_false] <;> exact ⟨_, rfl, FQ.c0⟩
  · have hm6 := W.1.2.1
    have hp6 := pw_6 hm6
    simp (disch := omega) only [gT, nbeq, Option.isSome_some, Option.getD_some, Bool.and_true, Bool.true_and, Bool.and_self, mX_some, bS, bN_if, bN_01, i1_01, i0_01, if_true, if_false, Bool.false_eq_true, false_and, and_false, and_true, true_and, and_self, Bool.or_false, Bool.false_or, Bool.or_true, Bool.true_or, Bool.false_and, Bool.and_false, decide_true, decide_false, L0, L1, L2, L3, L4, L5, L6, L7, L8, L9, L10, L11, L12, L13, L14, L15, L16, L17, L18, L19, L20, L21, L22, L23, L24, L25, L27, L33, L39, L40, L45, L48, L57, L60, L72, L90, L97, L98, L99, L100, L121, L122, L242, L255, L256, L580, L600, L1000, L1584, L1000000, Ln1, iN_add, iN_and, iN_or, iN_nd, iN_shl, iN_shr, iN_cl, iN_in, iN_mul, e1, H.k, t57 H W, t17r, t98 H W]
    cases hp : rg x2 (q 0 1) with
    | false =>
      simp only [gT, nbeq, Option.isSome_some, Option.getD_some, Bool.and_true, Bool.true_and, Bool.and_self, mX_some, bS, bN_if, bN_01, i1_01, i0_01, if_true, if_false, Bool.false_eq_true, false_and, and_false, and_true, true_and, and_self, Bool.or_false, Bool.false_or, Bool.or_true, Bool.true_or, Bool.false_and, Bool.and_false, decide_true, decide_false]
      refine ⟨_, rfl, fun h0 F => ?_⟩
      have w0 := R.1.q F
      obtain ⟨h', f1, f2, f3, f4, f5⟩ := e2 _ F.co
      have w1 := f4.1
      unfold f245 f245_43 f245_44
      simp (disch := omega) only [gT, nbeq, Option.isSome_some, Option.getD_some, Bool.and_true, Bool.true_and, Bool.and_self, mX_some, bS, bN_if, bN_01, i1_01, i0_01, if_true, if_false, Bool.false_eq_true, false_and, and_false, and_true, true_and, and_self, Bool.or_false, Bool.false_or, Bool.or_true, Bool.true_or, Bool.false_and, Bool.and_false, decide_true, decide_false, L0, L1, L2, L3, L4, L5, L6, L7, L8, L9, L10, L11, L12, L13, L14, L15, L16, L17, L18, L19, L20, L21, L22, L23, L24, L25, L27, L33, L39, L40, L45, L48, L57, L60, L72, L90, L97, L98, L99, L100, L121, L122, L242, L255, L256, L580, L600, L1000, L1584, L1000000, Ln1, iN_add, iN_and, iN_or, iN_nd, iN_shl, iN_shr, iN_cl, iN_in, iN_mul, k193 w0, r193_1 w0, r193_2 w0, r193_3 w0, r193_4 w0, r193_5 w0, r193_6 w0, r193_7 w0, r193_8 w0, r193_18 w0, r193_19 w0, r193_32 w0, r193_33 w0, r193_34 w0, r193_36 w0, r193_38 w0, r193_39 w0, r193_40 w0, r193_42 w0, r193_45 w0, r193_46 w0, r193_47 w0, r193_48 w0, r193_49 w0, r193_50 w0, k193 w1, r193_1 w1, r193_2 w1, r193_3 w1, r193_4 w1, r193_5 w1, r193_6 w1, r193_7 w1, r193_8 w1, r193_18 w1, r193_19 w1, r193_32 w1, r193_33 w1, r193_34 w1, r193_36 w1, r193_38 w1, r193_39 w1, r193_40 w1, r193_42 w1, r193_45 w1, r193_46 w1, r193_47 w1, r193_48 w1, r193_49 w1, r193_50 w1, t179r, f1, t226 f4 W, hp]
      cases rg x3 (9 + 1) <;> simp only [gT, nbeq, Option.isSome_some, Option.getD_some, Bool.and_true, Bool.true_and, Bool.and_self, mX_some, bS, bN_if, bN_01, i1_01, i0_01, if_true, if_false, Bool.false_eq_true, false_and, and_false, and_true, true_and, and_self, Bool.or_false, Bool.false_or, Bool.or_true, Bool.true_or, Bool.false_and, Bool.and_false, decide_true, decide_false]
      · exact ⟨_, rfl, FQ.c0⟩
      · exact ⟨_, rfl, FQ.c0.tr f2.qM⟩
    | true =>
      obtain ⟨p, hpp, rfl, _⟩ := rg_t hp
      simp only [gT, nbeq, Option.isSome_some, Option.getD_some, Bool.and_true, Bool.true_and, Bool.and_self, mX_some, bS, bN_if, bN_01, i1_01, i0_01, if_true, if_false, Bool.false_eq_true, false_and, and_false, and_true, true_and, and_self, Bool.or_false, Bool.false_or, Bool.or_true, Bool.true_or, Bool.false_and, Bool.and_false, decide_true, decide_false]
      cases hn : rg x3 (9 + 1) with
      | false =>
        simp only [gT, nbeq, Option.isSome_some, Option.getD_some, Bool.and_true, Bool.true_and, Bool.and_self, mX_some, bS, bN_if, bN_01, i1_01, i0_01, if_true, if_false, Bool.false_eq_true, false_and, and_false, and_true, true_and, and_self, Bool.or_false, Bool.false_or, Bool.or_true, Bool.true_or, Bool.false_and, Bool.and_false, decide_true, decide_false]
        refine ⟨_, rfl, fun h0 F => ?_⟩
        have w0 := R.1.q F
        unfold f245 f245_43 f245_44
        simp (disch := omega) only [gT, nbeq, Option.isSome_some, Option.getD_some, Bool.and_true, Bool.true_and, Bool.and_self, mX_some, bS, bN_if, bN_01, i1_01, i0_01, if_true, if_false, Bool.false_eq_true, false_and, and_false, and_true, true_and, and_self, Bool.or_false, Bool.false_or, Bool.or_true, Bool.true_or, Bool.false_and, Bool.and_false, decide_true, decide_false, L0, L1, L2, L3, L4, L5, L6, L7, L8, L9, L10, L11, L12, L13, L14, L15, L16, L17, L18, L19, L20, L21, L22, L23, L24, L25, L27, L33, L39, L40, L45, L48, L57, L60, L72, L90, L97, L98, L99, L100, L121, L122, L242, L255, L256, L580, L600, L1000, L1584, L1000000, Ln1, iN_add, iN_and, iN_or, iN_nd, iN_shl, iN_shr, iN_cl, iN_in, iN_mul, k193 w0, r193_1 w0, r193_2 w0, r193_3 w0, r193_4 w0, r193_5 w0, r193_6 w0, r193_7 w0, r193_8 w0, r193_18 w0, r193_19 w0, r193_32 w0, r193_33 w0, r193_34 w0, r193_36 w0, r193_38 w0, r193_39 w0, r193_40 w0, r193_42 w0, r193_45 w0, r193_46 w0, r193_47 w0, r193_48 w0, r193_49 w0, r193_50 w0, t179r, hn]
        exact ⟨_, rfl, FQ.c0⟩
      | true =>
        obtain ⟨d, hd, rfl, _⟩ := rg_t hn
        simp (disch := omega) only [gT, nbeq, Option.isSome_some, Option.getD_some, Bool.and_true, Bool.true_and, Bool.and_self, mX_some, bS, bN_if, bN_01, i1_01, i0_01, if_true, if_false, Bool.false_eq_true, false_and, and_false, and_true, true_and, and_self, Bool.or_false, Bool.false_or, Bool.or_true, Bool.true_or, Bool.false_and, Bool.and_false, decide_true, decide_false, L0, L1, L2, L3, L4, L5, L6, L7, L8, L9, L10, L11, L12, L13, L14, L15, L16, L17, L18, L19, L20, L21, L22, L23, L24, L25, L27, L33, L39, L40, L45, L48, L57, L60, L72, L90, L97, L98, L99, L100, L121, L122, L242, L255, L256, L580, L600, L1000, L1584, L1000000, Ln1, iN_add, iN_and, iN_or, iN_nd, iN_shl, iN_shr, iN_cl, iN_in, iN_mul, t99 H W]
        rw [tld_all (sh1_lt hpp)]
        refine ⟨_, rfl, fun h0 F => ?_⟩
        have w0 := R.1.q F
        obtain ⟨h', f1, f2, f3, f4, f5⟩ := e2 _ F.co
        have w1 := f4.1
        unfold f245 f245_44
        simp (disch := omega) only [gT, nbeq, Option.isSome_some, Option.getD_some, Bool.and_true, Bool.true_and, Bool.and_self, mX_some, bS, bN_if, bN_01, i1_01, i0_01, if_true, if_false, Bool.false_eq_true, false_and, and_false, and_true, true_and, and_self, Bool.or_false, Bool.false_or, Bool.or_true, Bool.true_or, Bool.false_and, Bool.and_false, decide_true, decide_false, L0, L1, L2, L3, L4, L5, L6, L7, L8, L9, L10, L11, L12, L13, L14, L15, L16, L17, L18, L19, L20, L21, L22, L23, L24, L25, L27, L33, L39, L40, L45, L48, L57, L60, L72, L90, L97, L98, L99, L100, L121, L122, L242, L255, L256, L580, L600, L1000, L1584, L1000000, Ln1, iN_add, iN_and, iN_or, iN_nd, iN_shl, iN_shr, iN_cl, iN_in, iN_mul, k193 w0, r193_1 w0, r193_2 w0, r193_3 w0, r193_4 w0, r193_5 w0, r193_6 w0, r193_7 w0, r193_8 w0, r193_18 w0, r193_19 w0, r193_32 w0, r193_33 w0, r193_34 w0, r193_36 w0, r193_38 w0, r193_39 w0, r193_40 w0, r193_42 w0, r193_45 w0, r193_46 w0, r193_47 w0, r193_48 w0, r193_49 w0, r193_50 w0, k193 w1, r193_1 w1, r193_2 w1, r193_3 w1, r193_4 w1, r193_5 w1, r193_6 w1, r193_7 w1, r193_8 w1, r193_18 w1, r193_19 w1, r193_32 w1, r193_33 w1, r193_34 w1, r193_36 w1, r193_38 w1, r193_39 w1, r193_40 w1, r193_42 w1, r193_45 w1, r193_46 w1, r193_47 w1, r193_48 w1, r193_49 w1, r193_50 w1, t179r, f1, t226 f4 W, hp, hn, t246 f4 W]
        exact ⟨_, rfl, FQ.c0.tr f2.qM⟩
theorem c_tellers (R : Rel h) (x1 x2 x3 : Int32) : ∃ v, f100 h 0 x1 x2 x3 = some v ∧ ∀ h0, FQ h h0 → ∃ h2, f248 h0 193 x1 x2 x3 = some (v, h2) ∧ FQ h0 h2 := by
  have w := R.1
  unfold f100 f100_25 f100_49
  simp only [gT, nbeq, Option.isSome_some, Option.getD_some, Bool.and_true, Bool.true_and, Bool.and_self, mX_some, bS, bN_if, bN_01, i1_01, i0_01, if_true, if_false, Bool.false_eq_true, false_and, and_false, and_true, true_and, and_self, Bool.or_false, Bool.false_or, Bool.or_true, Bool.true_or, Bool.false_and, Bool.and_false, decide_true, decide_false, k0 w, r0_0 w, r0_1 w, r0_2 w, r0_3 w, r0_4 w, r0_5 w, r0_6 w, r0_7 w, r0_8 w, k1 w, r1_0 w, r1_1 w, r1_2 w, r1_3 w, r1_4 w]
  rcases R.pick x1 with ⟨e1, e2⟩ | ⟨i, q, hi, rfl, W, H, e1, e2⟩
  · simp only [gT, nbeq, Option.isSome_some, Option.getD_some, Bool.and_true, Bool.true_and, Bool.and_self, mX_some, bS, bN_if, bN_01, i1_01, i0_01, if_true, if_false, Bool.false_eq_true, false_and, and_false, and_true, true_and, and_self, Bool.or_false, Bool.false_or, Bool.or_true, Bool.true_or, Bool.false_and, Bool.and_false, decide_true, decide_false, e1]
    refine ⟨_, rfl, fun h0 F => ?_⟩
    have w0 := R.1.q F
    unfold f248 f248_23
    simp (disch := omega) only [gT, nbeq, Option.isSome_some, Option.getD_some, Bool.and_true, Bool.true_and, Bool.and_self, mX_some, bS, bN_if, bN_01, i1_01, i0_01, if_true, if_false, Bool.false_eq_true, false_and, and_false, and_true, true_and, and_self, Bool.or_false, Bool.false_or, Bool.or_true, Bool.true_or, Bool.false_and, Bool.and_false, decide_true, decide_false, L0, L1, L2, L3, L4, L5, L6, L7, L8, L9, L10, L11, L12, L13, L14, L15, L16, L17, L18, L19, L20, L21, L22, L23, L24, L25, L27, L33, L39, L40, L45, L48, L57, L60, L72, L90, L97, L98, L99, L100, L121, L122, L242, L255, L256, L580, L600, L1000, L1584, L1000000, Ln1, iN_add, iN_and, iN_or, iN_nd, iN_shl, iN_shr, iN_cl, iN_in, iN_mul, k193 w0, r193_1 w0, r193_2 w0, r193_3 w0, r193_4 w0, r193_5 w0, r193_6 w0, r193_7 w0, r193_8 w0, r193_18 w0, r193_19 w0, r193_32 w0, r193_33 w0, r193_34 w0, r193_36 w0, r193_38 w0, r193_39 w0, r193_40 w0, r193_42 w0, r193_45 w0, r193_46 w0, r193_47 w0, r193_48 w0, r193_49 w0, r193_50 w0, t179r, e2 _ F.co]
    cases rg x2 (9 + 1) <;> simp only [gT, nbeq, Option.isSome_some, Option.getD_some, Bool.and_true, Bool.true_and, Bool.and_self, mX_some, bS, bN_if, bN_01, i1_01, i0_01, if_true, if_false, Bool.false_eq_true, false_and, and_false, and_true, true_and, and_self, Bool.or_false, Bool.false_or, Bool.or_true, Bool.true_or, Bool.false_and, Bool.and_false, decide_true, decide_false] <;> exact ⟨_, rfl, FQ.c0⟩
  · have hm6 := W.1.2.1
    have hp6 := pw_6 hm6
    have h1p := pw_pos (q 0 1)
    simp (disch := omega) only [gT, nbeq, Option.isSome_some, Option.getD_some, Bool.and_true, Bool.true_and, Bool.and_self, mX_some, bS, bN_if, bN_01, i1_01, i0_01, if_true, if_false, Bool.false_eq_true, false_and, and_false, and_true, true_and, and_self, Bool.or_false, Bool.false_or, Bool.or_true, Bool.true_or, Bool.false_and, Bool.and_false, decide_true, decide_false, L0, L1, L2, L3, L4, L5, L6, L7, L8, L9, L10, L11, L12, L13, L14, L15, L16, L17, L18, L19, L20, L21, L22, L23, L24, L25, L27, L33, L39, L40, L45, L48, L57, L60, L72, L90, L97, L98, L99, L100, L121, L122, L242, L255, L256, L580, L600, L1000, L1584, L1000000, Ln1, iN_add, iN_and, iN_or, iN_nd, iN_shl, iN_shr, iN_cl, iN_in, iN_mul, e1, H.k, t17r]
    cases hn : rg x2 (9 + 1) with
    | false =>
      simp only [gT, nbeq, Option.isSome_some, Option.getD_some, Bool.and_true, Bool.true_and, Bool.and_self, mX_some, bS, bN_if, bN_01, i1_01, i0_01, if_true, if_false, Bool.false_eq_true, false_and, and_false, and_true, true_and, and_self, Bool.or_false, Bool.false_or, Bool.or_true, Bool.true_or, Bool.false_and, Bool.and_false, decide_true, decide_false]
      refine ⟨_, rfl, fun h0 F => ?_⟩
      have w0 := R.1.q F
      unfold f248 f248_23
      simp (disch := omega) only [gT, nbeq, Option.isSome_some, Option.getD_some, Bool.and_true, Bool.true_and, Bool.and_self, mX_some, bS, bN_if, bN_01, i1_01, i0_01, if_true, if_false, Bool.false_eq_true, false_and, and_false, and_true, true_and, and_self, Bool.or_false, Bool.false_or, Bool.or_true, Bool.true_or, Bool.false_and, Bool.and_false, decide_true, decide_false, L0, L1, L2, L3, L4, L5, L6, L7, L8, L9, L10, L11, L12, L13, L14, L15, L16, L17, L18, L19, L20, L21, L22, L23, L24, L25, L27, L33, L39, L40, L45, L48, L57, L60, L72, L90, L97, L98, L99, L100, L121, L122, L242, L255, L256, L580, L600, L1000, L1584, L1000000, Ln1, iN_add, iN_and, iN_or, iN_nd, iN_shl, iN_shr, iN_cl, iN_in, iN_mul, k193 w0, r193_1 w0, r193_2 w0, r193_3 w0, r193_4 w0, r193_5 w0, r193_6 w0, r193_7 w0, r193_8 w0, r193_18 w0, r193_19 w0, r193_32 w0, r193_33 w0, r193_34 w0, r193_36 w0, r193_38 w0, r193_39 w0, r193_40 w0, r193_42 w0, r193_45 w0, r193_46 w0, r193_47 w0, r193_48 w0, r193_49 w0, r193_50 w0, t179r, hn]
      exact ⟨_, rfl, FQ.c0⟩
    | true =>
      obtain ⟨d, hd, rfl, _⟩ := rg_t hn
      have ht : tel q d < 2 ^ q 0 1 := up_inv (f := tef q d) (I := fun _ x => x < 2 ^ q 0 1) (n := 2 ^ q 0 1 - 1) (fun k x hk hx => by unfold tef; split <;> omega) (by omega) _ (Nat.le_refl _)
      simp (disch := omega) only [gT, nbeq, Option.isSome_some, Option.getD_some, Bool.and_true, Bool.true_and, Bool.and_self, mX_some, bS, bN_if, bN_01, i1_01, i0_01, if_true, if_false, Bool.false_eq_true, false_and, and_false, and_true, true_and, and_self, Bool.or_false, Bool.false_or, Bool.or_true, Bool.true_or, Bool.false_and, Bool.and_false, decide_true, decide_false, L0, L1, L2, L3, L4, L5, L6, L7, L8, L9, L10, L11, L12, L13, L14, L15, L16, L17, L18, L19, L20, L21, L22, L23, L24, L25, L27, L33, L39, L40, L45, L48, L57, L60, L72, L90, L97, L98, L99, L100, L121, L122, L242, L255, L256, L580, L600, L1000, L1584, L1000000, Ln1, iN_add, iN_and, iN_or, iN_nd, iN_shl, iN_shr, iN_cl, iN_in, iN_mul, t101 H W, t66]
      refine ⟨if x3 = iN 0 then iN (pc (tel q d)) else iN (tel q d), by split <;> rfl, fun h0 F => ?_⟩
      have w0 := R.1.q F
      obtain ⟨h', f1, f2, f3, f4, f5⟩ := e2 _ F.co
      have w1 := f4.1
      unfold f248
      simp (disch := omega) only [gT, nbeq, Option.isSome_some, Option.getD_some, Bool.and_true, Bool.true_and, Bool.and_self, mX_some, bS, bN_if, bN_01, i1_01, i0_01, if_true, if_false, Bool.false_eq_true, false_and, and_false, and_true, true_and, and_self, Bool.or_false, Bool.false_or, Bool.or_true, Bool.true_or, Bool.false_and, Bool.and_false, decide_true, decide_false, L0, L1, L2, L3, L4, L5, L6, L7, L8, L9, L10, L11, L12, L13, L14, L15, L16, L17, L18, L19, L20, L21, L22, L23, L24, L25, L27, L33, L39, L40, L45, L48, L57, L60, L72, L90, L97, L98, L99, L100, L121, L122, L242, L255, L256, L580, L600, L1000, L1584, L1000000, Ln1, iN_add, iN_and, iN_or, iN_nd, iN_shl, iN_shr, iN_cl, iN_in, iN_mul, k193 w0, r193_1 w0, r193_2 w0, r193_3 w0, r193_4 w0, r193_5 w0, r193_6 w0, r193_7 w0, r193_8 w0, r193_18 w0, r193_19 w0, r193_32 w0, r193_33 w0, r193_34 w0, r193_36 w0, r193_38 w0, r193_39 w0, r193_40 w0, r193_42 w0, r193_45 w0, r193_46 w0, r193_47 w0, r193_48 w0, r193_49 w0, r193_50 w0, k193 w1, r193_1 w1, r193_2 w1, r193_3 w1, r193_4 w1, r193_5 w1, r193_6 w1, r193_7 w1, r193_8 w1, r193_18 w1, r193_19 w1, r193_32 w1, r193_33 w1, r193_34 w1, r193_36 w1, r193_38 w1, r193_39 w1, r193_40 w1, r193_42 w1, r193_45 w1, r193_46 w1, r193_47 w1, r193_48 w1, r193_49 w1, r193_50 w1, t179r, f1, f4.m, hn, iN_all, iN_sub, Nat.one_shiftLeft]
      have := t248l f4 W (d := d) (w := x3) (by omega)
      rw [L0] at this
      rw [this]
      exact ⟨_, rfl, FQ.c0.tr f2.qM⟩
theorem c_between (R : Rel h) (x1 x2 x3 : Int32) : ∃ v, f157 h 0 x1 x2 x3 = some v ∧ ∀ h0, FQ h h0 → ∃ h2, f288 h0 193 x1 x2 x3 = some (v, h2) ∧ FQ h0 h2 := by
  have w := R.1
  unfold f157 f157_33
  simp only [gT, nbeq, Option.isSome_some, Option.getD_some, Bool.and_true, Bool.true_and, Bool.and_self, mX_some, bS, bN_if, bN_01, i1_01, i0_01, if_true, if_false, Bool.false_eq_true, false_and, and_false, and_true, true_and, and_self, Bool.or_false, Bool.false_or, Bool.or_true, Bool.true_or, Bool.false_and, Bool.and_false, decide_true, decide_false, k0 w, r0_0 w, r0_1 w, r0_2 w, r0_3 w, r0_4 w, r0_5 w, r0_6 w, r0_7 w, r0_8 w, k1 w, r1_0 w, r1_1 w, r1_2 w, r1_3 w, r1_4 w]
  rcases R.pick x1 with ⟨e1, e2⟩ | ⟨i, q, hi, rfl, W, H, e1, e2⟩
  · simp only [gT, nbeq, Option.isSome_some, Option.getD_some, Bool.and_true, Bool.true_and, Bool.and_self, mX_some, bS, bN_if, bN_01, i1_01, i0_01, if_true, if_false, Bool.false_eq_true, false_and, and_false, and_true, true_and, and_self, Bool.or_false, Bool.false_or, Bool.or_true, Bool.true_or, Bool.false_and, Bool.and_false, decide_true, decide_false, e1]
    refine ⟨_, rfl, fun h0 F => ?_⟩
    have w0 := R.1.q F
    unfold f288 f288_29
    simp (disch := omega) only [gT, nbeq, Option.isSome_some, Option.getD_some, Bool.and_true, Bool.true_and, Bool.and_self, mX_some, bS, bN_if, bN_01, i1_01, i0_01, if_true, if_false, Bool.false_eq_true, false_and, and_false, and_true, true_and, and_self, Bool.or_false, Bool.false_or, Bool.or_true, Bool.true_or, Bool.false_and, Bool.and_false, decide_true, decide_false, L0, L1, L2, L3, L4, L5, L6, L7, L8, L9, L10, L11, L12, L13, L14, L15, L16, L17, L18, L19, L20, L21, L22, L23, L24, L25, L27, L33, L39, L40, L45, L48, L57, L60, L72, L90, L97, L98, L99, L100, L121, L122, L242, L255, L256, L580, L600, L1000, L1584, L1000000, Ln1, iN_add, iN_and, iN_or, iN_nd, iN_shl, iN_shr, iN_cl, iN_in, iN_mul, k193 w0, r193_1 w0, r193_2 w0, r193_3 w0, r193_4 w0, r193_5 w0, r193_6 w0, r193_7 w0, r193_8 w0, r193_18 w0, r193_19 w0, r193_32 w0, r193_33 w0, r193_34 w0, r193_36 w0, r193_38 w0, r193_39 w0, r193_40 w0, r193_42 w0, r193_45 w0, r193_46 w0, r193_47 w0, r193_48 w0, r193_49 w0, r193_50 w0, e2 _ F.co]
    exact ⟨_, rfl, FQ.c0⟩
  · have hm6 := W.1.2.1
    simp (disch := omega) only [gT, nbeq, Option.isSome_some, Option.getD_some, Bool.and_true, Bool.true_and, Bool.and_self, mX_some, bS, bN_if, bN_01, i1_01, i0_01, if_true, if_false, Bool.false_eq_true, false_and, and_false, and_true, true_and, and_self, Bool.or_false, Bool.false_or, Bool.or_true, Bool.true_or, Bool.false_and, Bool.and_false, decide_true, decide_false, L0, L1, L2, L3, L4, L5, L6, L7, L8, L9, L10, L11, L12, L13, L14, L15, L16, L17, L18, L19, L20, L21, L22, L23, L24, L25, L27, L33, L39, L40, L45, L48, L57, L60, L72, L90, L97, L98, L99, L100, L121, L122, L242, L255, L256, L580, L600, L1000, L1584, L1000000, Ln1, iN_add, iN_and, iN_or, iN_nd, iN_shl, iN_shr, iN_cl, iN_in, iN_mul, e1, H.k, t57 H W]
    cases hp : rg x2 (q 0 1) with
    | false =>
      simp only [gT, nbeq, Option.isSome_some, Option.getD_some, Bool.and_true, Bool.true_and, Bool.and_self, mX_some, bS, bN_if, bN_01, i1_01, i0_01, if_true, if_false, Bool.false_eq_true, false_and, and_false, and_true, true_and, and_self, Bool.or_false, Bool.false_or, Bool.or_true, Bool.true_or, Bool.false_and, Bool.and_false, decide_true, decide_false]
      refine ⟨_, rfl, fun h0 F => ?_⟩
      have w0 := R.1.q F
      obtain ⟨h', f1, f2, f3, f4, f5⟩ := e2 _ F.co
      have w1 := f4.1
      unfold f288 f288_29
      simp (disch := omega) only [gT, nbeq, Option.isSome_some, Option.getD_some, Bool.and_true, Bool.true_and, Bool.and_self, mX_some, bS, bN_if, bN_01, i1_01, i0_01, if_true, if_false, Bool.false_eq_true, false_and, and_false, and_true, true_and, and_self, Bool.or_false, Bool.false_or, Bool.or_true, Bool.true_or, Bool.false_and, Bool.and_false, decide_true, decide_false, L0, L1, L2, L3, L4, L5, L6, L7, L8, L9, L10, L11, L12, L13, L14, L15, L16, L17, L18, L19, L20, L21, L22, L23, L24, L25, L27, L33, L39, L40, L45, L48, L57, L60, L72, L90, L97, L98, L99, L100, L121, L122, L242, L255, L256, L580, L600, L1000, L1584, L1000000, Ln1, iN_add, iN_and, iN_or, iN_nd, iN_shl, iN_shr, iN_cl, iN_in, iN_mul, k193 w0, r193_1 w0, r193_2 w0, r193_3 w0, r193_4 w0, r193_5 w0, r193_6 w0, r193_7 w0, r193_8 w0, r193_18 w0, r193_19 w0, r193_32 w0, r193_33 w0, r193_34 w0, r193_36 w0, r193_38 w0, r193_39 w0, r193_40 w0, r193_42 w0, r193_45 w0, r193_46 w0, r193_47 w0, r193_48 w0, r193_49 w0, r193_50 w0, k193 w1, r193_1 w1, r193_2 w1, r193_3 w1, r193_4 w1, r193_5 w1, r193_6 w1, r193_7 w1, r193_8 w1, r193_18 w1, r193_19 w1, r193_32 w1, r193_33 w1, r193_34 w1, r193_36 w1, r193_38 w1, r193_39 w1, r193_40 w1, r193_42 w1, r193_45 w1, r193_46 w1, r193_47 w1, r193_48 w1, r193_49 w1, r193_50 w1, f1, t226 f4 W, hp]
      exact ⟨_, rfl, FQ.c0.tr f2.qM⟩
    | true =>
      cases hp3 : rg x3 (q 0 1) with
      | false =>
        simp only [gT, nbeq, Option.isSome_some, Option.getD_some, Bool.and_true, Bool.true_and, Bool.and_self, mX_some, bS, bN_if, bN_01, i1_01, i0_01, if_true, if_false, Bool.false_eq_true, false_and, and_false, and_true, true_and, and_self, Bool.or_false, Bool.false_or, Bool.or_true, Bool.true_or, Bool.false_and, Bool.and_false, decide_true, decide_false]
        refine ⟨_, rfl, fun h0 F => ?_⟩
        have w0 := R.1.q F
        obtain ⟨h', f1, f2, f3, f4, f5⟩ := e2 _ F.co
        have w1 := f4.1
        unfold f288 f288_29
        simp (disch := omega) only [gT, nbeq, Option.isSome_some, Option.getD_some, Bool.and_true, Bool.true_and, Bool.and_self, mX_some, bS, bN_if, bN_01, i1_01, i0_01, if_true, if_false, Bool.false_eq_true, false_and, and_false, and_true, true_and, and_self, Bool.or_false, Bool.false_or, Bool.or_true, Bool.true_or, Bool.false_and, Bool.and_false, decide_true, decide_false, L0, L1, L2, L3, L4, L5, L6, L7, L8, L9, L10, L11, L12, L13, L14, L15, L16, L17, L18, L19, L20, L21, L22, L23, L24, L25, L27, L33, L39, L40, L45, L48, L57, L60, L72, L90, L97, L98, L99, L100, L121, L122, L242, L255, L256, L580, L600, L1000, L1584, L1000000, Ln1, iN_add, iN_and, iN_or, iN_nd, iN_shl, iN_shr, iN_cl, iN_in, iN_mul, k193 w0, r193_1 w0, r193_2 w0, r193_3 w0, r193_4 w0, r193_5 w0, r193_6 w0, r193_7 w0, r193_8 w0, r193_18 w0, r193_19 w0, r193_32 w0, r193_33 w0, r193_34 w0, r193_36 w0, r193_38 w0, r193_39 w0, r193_40 w0, r193_42 w0, r193_45 w0, r193_46 w0, r193_47 w0, r193_48 w0, r193_49 w0, r193_50 w0, k193 w1, r193_1 w1, r193_2 w1, r193_3 w1, r193_4 w1, r193_5 w1, r193_6 w1, r193_7 w1, r193_8 w1, r193_18 w1, r193_19 w1, r193_32 w1, r193_33 w1, r193_34 w1, r193_36 w1, r193_38 w1, r193_39 w1, r193_40 w1, r193_42 w1, r193_45 w1, r193_46 w1, r193_47 w1, r193_48 w1, r193_49 w1, r193_50 w1, f1, t226 f4 W, hp, hp3]
        exact ⟨_, rfl, FQ.c0.tr f2.qM⟩
      | true =>
        obtain ⟨p, hpp, rfl, _⟩ := rg_t hp
        obtain ⟨b, hb, rfl, _⟩ := rg_t hp3
        have hb6 : 1 <<< b < 2147483648 := by have := sh1_lt (k := b) (n := 6) (by omega); omega
        simp (disch := omega) only [gT, nbeq, Option.isSome_some, Option.getD_some, Bool.and_true, Bool.true_and, Bool.and_self, mX_some, bS, bN_if, bN_01, i1_01, i0_01, if_true, if_false, Bool.false_eq_true, false_and, and_false, and_true, true_and, and_self, Bool.or_false, Bool.false_or, Bool.or_true, Bool.true_or, Bool.false_and, Bool.and_false, decide_true, decide_false, L0, L1, L2, L3, L4, L5, L6, L7, L8, L9, L10, L11, L12, L13, L14, L15, L16, L17, L18, L19, L20, L21, L22, L23, L24, L25, L27, L33, L39, L40, L45, L48, L57, L60, L72, L90, L97, L98, L99, L100, L121, L122, L242, L255, L256, L580, L600, L1000, L1584, L1000000, Ln1, iN_add, iN_and, iN_or, iN_nd, iN_shl, iN_shr, iN_cl, iN_in, iN_mul]
        rw [t158 H W (sh1_lt hpp) hb6]
        simp only [gT, nbeq, Option.isSome_some, Option.getD_some, Bool.and_true, Bool.true_and, Bool.and_self, mX_some, bS, bN_if, bN_01, i1_01, i0_01, if_true, if_false, Bool.false_eq_true, false_and, and_false, and_true, true_and, and_self, Bool.or_false, Bool.false_or, Bool.or_true, Bool.true_or, Bool.false_and, Bool.and_false, decide_true, decide_false]
        refine ⟨_, rfl, fun h0 F => ?_⟩
        have w0 := R.1.q F
        obtain ⟨h', f1, f2, f3, f4, f5⟩ := e2 _ F.co
        have w1 := f4.1
        have key : (if iN (fN (dys q (1 <<< b) (1 <<< p))) < iN 1000000 then (some (iN (fN (dys q (1 <<< b) (1 <<< p))), h') : Option (Int32 × mH)) else some (jN, h')) = some (zN (dys q (1 <<< b) (1 <<< p)), h') := by
          cases hd : dys q (1 <<< b) (1 <<< p) with
          | none => rw [ilt_n (by decide) (by decide) (by decide)]; rfl
          | some k =>
            have := du_le _ _ _ _ hd
            rw [ilt_p (by show k < _; omega) (by decide) (by show k < _; omega)]; rfl
        unfold f288 f288_53
        simp (disch := omega) only [gT, nbeq, Option.isSome_some, Option.getD_some, Bool.and_true, Bool.true_and, Bool.and_self, mX_some, bS, bN_if, bN_01, i1_01, i0_01, if_true, if_false, Bool.false_eq_true, false_and, and_false, and_true, true_and, and_self, Bool.or_false, Bool.false_or, Bool.or_true, Bool.true_or, Bool.false_and, Bool.and_false, decide_true, decide_false, L0, L1, L2, L3, L4, L5, L6, L7, L8, L9, L10, L11, L12, L13, L14, L15, L16, L17, L18, L19, L20, L21, L22, L23, L24, L25, L27, L33, L39, L40, L45, L48, L57, L60, L72, L90, L97, L98, L99, L100, L121, L122, L242, L255, L256, L580, L600, L1000, L1584, L1000000, Ln1, iN_add, iN_and, iN_or, iN_nd, iN_shl, iN_shr, iN_cl, iN_in, iN_mul, k193 w0, r193_1 w0, r193_2 w0, r193_3 w0, r193_4 w0, r193_5 w0, r193_6 w0, r193_7 w0, r193_8 w0, r193_18 w0, r193_19 w0, r193_32 w0, r193_33 w0, r193_34 w0, r193_36 w0, r193_38 w0, r193_39 w0, r193_40 w0, r193_42 w0, r193_45 w0, r193_46 w0, r193_47 w0, r193_48 w0, r193_49 w0, r193_50 w0, k193 w1, r193_1 w1, r193_2 w1, r193_3 w1, r193_4 w1, r193_5 w1, r193_6 w1, r193_7 w1, r193_8 w1, r193_18 w1, r193_19 w1, r193_32 w1, r193_33 w1, r193_34 w1, r193_36 w1, r193_38 w1, r193_39 w1, r193_40 w1, r193_42 w1, r193_45 w1, r193_46 w1, r193_47 w1, r193_48 w1, r193_49 w1, r193_50 w1, f1, t226 f4 W, hp, hp3, t289 f4 W]
        rw [key]
        exact ⟨_, rfl, FQ.c0.tr f2.qM⟩
end PB
