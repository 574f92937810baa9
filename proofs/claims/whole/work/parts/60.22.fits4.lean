/-! fits, odds, ago: the calls -/
section PB
variable {h : mH}
theorem c_fits (R : Rel h) (x1 x2 x3 : Int32) : ∃ v h1, f113 h 0 x1 x2 x3 = some (v, h1) ∧ FQ h h1 ∧ ∀ h0, FQ h h0 → ∃ h2, f261 h0 193 x1 x2 x3 = some (v, h2) ∧ FQ h0 h2 := by
  have w := R.1
  rcases R.pickLG x1 x2 with ⟨h1, a1, a2, a3⟩ | ⟨i, q, l, h1, hi, rfl, W, H, b0, b1, b2, b3, b4, b5, b6, b7, b8⟩
  · refine ⟨wN, h1, ?_, a2, fun h0 F => ?_⟩
    · unfold f113
      simp only [gT, nbeq, Option.isSome_some, Option.getD_some, Bool.and_true, Bool.true_and, Bool.and_self, mX_some, bS, bN_if, bN_01, i1_01, i0_01, if_true, if_false, Bool.false_eq_true, false_and, and_false, and_true, true_and, and_self, Bool.or_false, Bool.false_or, Bool.or_true, Bool.true_or, Bool.false_and, Bool.and_false, decide_true, decide_false, L0, L1, L2, L3, L4, L5, L6, L7, L8, L9, L10, L11, L12, L13, L14, L15, L16, L17, L18, L19, L20, L21, L22, L23, L24, L25, L27, L33, L39, L40, L45, L48, L57, L60, L72, L90, L97, L98, L99, L100, L121, L122, L242, L255, L256, L580, L600, L1000, L1584, L1000000, Ln1, iN_add, iN_and, iN_or, iN_nd, iN_shl, iN_shr, iN_cl, iN_in, iN_mul, Ln2, k0 w, r0_0 w, r0_1 w, r0_2 w, r0_3 w, r0_4 w, r0_5 w, r0_6 w, r0_7 w, r0_8 w, a1]
    · have w0 := R.1.q F
      obtain ⟨h', g1, g2⟩ := a3 _ F.co
      unfold f261
      simp only [gT, nbeq, Option.isSome_some, Option.getD_some, Bool.and_true, Bool.true_and, Bool.and_self, mX_some, bS, bN_if, bN_01, i1_01, i0_01, if_true, if_false, Bool.false_eq_true, false_and, and_false, and_true, true_and, and_self, Bool.or_false, Bool.false_or, Bool.or_true, Bool.true_or, Bool.false_and, Bool.and_false, decide_true, decide_false, L0, L1, L2, L3, L4, L5, L6, L7, L8, L9, L10, L11, L12, L13, L14, L15, L16, L17, L18, L19, L20, L21, L22, L23, L24, L25, L27, L33, L39, L40, L45, L48, L57, L60, L72, L90, L97, L98, L99, L100, L121, L122, L242, L255, L256, L580, L600, L1000, L1584, L1000000, Ln1, iN_add, iN_and, iN_or, iN_nd, iN_shl, iN_shr, iN_cl, iN_in, iN_mul, Ln2, k193 w0, r193_1 w0, r193_2 w0, r193_3 w0, r193_4 w0, r193_5 w0, r193_6 w0, r193_7 w0, r193_8 w0, r193_18 w0, r193_19 w0, r193_32 w0, r193_33 w0, r193_34 w0, r193_36 w0, r193_38 w0, r193_39 w0, r193_40 w0, r193_42 w0, r193_45 w0, r193_46 w0, r193_47 w0, r193_48 w0, r193_49 w0, r193_50 w0, g1]
      exact ⟨_, rfl, FQ.c0.tr g2⟩
  · have hm := W.1.2.1
    have w1 := w.q b2
    have hv60 : ∀ k, k < l.length → l.getD k 0 < 60 := fun k hk => by have := b6 k hk; omega
    have cl : ∀ v, (if x3 = iN 0 then some (iN l.length, h1) else if x3 = iN 1 then some (zN (sur l), h1) else if x3 = iN 2 then (f119 h1 88).bind (fun r => some (r, h1)) else if x3 < iN 10 then some (wN, h1) else if iN l.length ≤ x3 - iN 10 then some (wN, h1) else mGd (mIn (x3 - iN 10) 60) (some (mI h1 89 (Int32.toNatClampNeg (x3 - iN 10)), h1))) = some (v, h1) → f113 h 0 (iN i) x2 x3 = some (v, h1) := fun v hv => by
      rw [← hv]
      unfold f113 f113_99 f113_101
      simp only [gT, nbeq, Option.isSome_some, Option.getD_some, Bool.and_true, Bool.true_and, Bool.and_self, mX_some, bS, bN_if, bN_01, i1_01, i0_01, if_true, if_false, Bool.false_eq_true, false_and, and_false, and_true, true_and, and_self, Bool.or_false, Bool.false_or, Bool.or_true, Bool.true_or, Bool.false_and, Bool.and_false, decide_true, decide_false, L0, L1, L2, L3, L4, L5, L6, L7, L8, L9, L10, L11, L12, L13, L14, L15, L16, L17, L18, L19, L20, L21, L22, L23, L24, L25, L27, L33, L39, L40, L45, L48, L57, L60, L72, L90, L97, L98, L99, L100, L121, L122, L242, L255, L256, L580, L600, L1000, L1584, L1000000, Ln1, iN_add, iN_and, iN_or, iN_nd, iN_shl, iN_shr, iN_cl, iN_in, iN_mul, Ln2, k0 w, r0_0 w, r0_1 w, r0_2 w, r0_3 w, r0_4 w, r0_5 w, r0_6 w, r0_7 w, r0_8 w, k0 w1, r0_0 w1, r0_1 w1, r0_2 w1, r0_3 w1, r0_4 w1, r0_5 w1, r0_6 w1, r0_7 w1, r0_8 w1, k88 w1, r88_0 w1, r88_2 w1, k89 w1, b1, t118 w1 b3 (by omega) hv60, b3.1]
    have mo : ∀ v, (∀ h', MoS h' q → MGf h' l → (if x3 < iN 10 then (if x3 = iN 0 then some (iN l.length, h') else if x3 = iN 1 then some (zN (sur l), h') else if x3 = iN 2 then (f265 h' 193).bind (fun r => some (r, h')) else some (wN, h')) else if iN l.length ≤ x3 - iN 10 then some (wN, h') else mGd (mIn (x3 - iN 10) 60) (some (mI h' 211 (Int32.toNatClampNeg (x3 - iN 10)), h'))) = some (v, h')) → ∀ h0, FQ h h0 → ∃ h2, f261 h0 193 (iN i) x2 x3 = some (v, h2) ∧ FQ h0 h2 := fun v hv h0 F => by
      have w0 := R.1.q F
      obtain ⟨h', g1, g2, g3, g4⟩ := b8 _ F.co
      have w2 := g3.1
      refine ⟨h', ?_, FQ.c0.tr g2⟩
      rw [← hv h' g3 g4]
      unfold f261 f261_48
      simp only [gT, nbeq, Option.isSome_some, Option.getD_some, Bool.and_true, Bool.true_and, Bool.and_self, mX_some, bS, bN_if, bN_01, i1_01, i0_01, if_true, if_false, Bool.false_eq_true, false_and, and_false, and_true, true_and, and_self, Bool.or_false, Bool.false_or, Bool.or_true, Bool.true_or, Bool.false_and, Bool.and_false, decide_true, decide_false, L0, L1, L2, L3, L4, L5, L6, L7, L8, L9, L10, L11, L12, L13, L14, L15, L16, L17, L18, L19, L20, L21, L22, L23, L24, L25, L27, L33, L39, L40, L45, L48, L57, L60, L72, L90, L97, L98, L99, L100, L121, L122, L242, L255, L256, L580, L600, L1000, L1584, L1000000, Ln1, iN_add, iN_and, iN_or, iN_nd, iN_shl, iN_shr, iN_cl, iN_in, iN_mul, Ln2, k193 w0, r193_1 w0, r193_2 w0, r193_3 w0, r193_4 w0, r193_5 w0, r193_6 w0, r193_7 w0, r193_8 w0, r193_18 w0, r193_19 w0, r193_32 w0, r193_33 w0, r193_34 w0, r193_36 w0, r193_38 w0, r193_39 w0, r193_40 w0, r193_42 w0, r193_45 w0, r193_46 w0, r193_47 w0, r193_48 w0, r193_49 w0, r193_50 w0, k193 w2, r193_1 w2, r193_2 w2, r193_3 w2, r193_4 w2, r193_5 w2, r193_6 w2, r193_7 w2, r193_8 w2, r193_18 w2, r193_19 w2, r193_32 w2, r193_33 w2, r193_34 w2, r193_36 w2, r193_38 w2, r193_39 w2, r193_40 w2, r193_42 w2, r193_45 w2, r193_46 w2, r193_47 w2, r193_48 w2, r193_49 w2, r193_50 w2, k211 w2, g1, t264 g3 g4 (by omega) hv60 b7, g4.1]
    by_cases hx : x3.toInt < 0
    · have n : ∀ v, v < 2147483648 → x3 ≠ iN v := fun v hv => (lt_iN hx hv).2.2
      have l10 : x3 < iN 10 := (lt_iN hx (by omega)).1
      refine ⟨wN, h1, cl _ ?_, b2, mo _ (fun h' _ _ => ?_)⟩
      · rw [if_neg (n 0 (by omega)), if_neg (n 1 (by omega)), if_neg (n 2 (by omega)), if_pos l10]
      · rw [if_pos l10, if_neg (n 0 (by omega)), if_neg (n 1 (by omega)), if_neg (n 2 (by omega))]
    · obtain ⟨v, hv, rfl⟩ := ge_iN hx
      by_cases v0 : v = 0
      · subst v0
        refine ⟨iN l.length, h1, cl _ ?_, b2, mo _ (fun h' _ _ => ?_)⟩
        · rw [ieq_p rfl]
        · rw [ilt_p (by omega) (by omega) (by omega), ieq_p rfl]
      · by_cases v1 : v = 1
        · subst v1
          refine ⟨zN (sur l), h1, cl _ ?_, b2, mo _ (fun h' _ _ => ?_)⟩
          · rw [ieq_n (by omega) (by omega) (by omega), ieq_p rfl]
          · rw [ilt_p (by omega) (by omega) (by omega), ieq_n (by omega) (by omega) (by omega), ieq_p rfl]
        · by_cases v2 : v = 2
          · subst v2
            by_cases ln : l.length = 0
            · refine ⟨jN, h1, cl _ ?_, b2, mo _ (fun h' m1 m2 => ?_)⟩
              · rw [ieq_n (by omega) (by omega) (by omega), ieq_n (by omega) (by omega) (by omega), ieq_p rfl, t119z w1 W b3 b4 ln]; rfl
              · rw [ilt_p (by omega) (by omega) (by omega), ieq_n (by omega) (by omega) (by omega), ieq_n (by omega) (by omega) (by omega), ieq_p rfl, t265z m1 W m2 ln]; rfl
            · have hr := am_rel (G := grt q l) (n := q 0 1) (B := 61) (B' := 1000000) (fun p _ => by have := grt_le q l p; omega) (q 0 1) (Nat.le_refl _)
              refine ⟨zN (up (amA (grt q l)) (q 0 1) (none, 61)).1, h1, cl _ ?_, b2, mo _ (fun h' m1 m2 => ?_)⟩
              · rw [ieq_n (by omega) (by omega) (by omega), ieq_n (by omega) (by omega) (by omega), ieq_p rfl, t119 w1 W b3 b5 b6 b4 ln, bS]
              · rw [ilt_p (by omega) (by omega) (by omega), ieq_n (by omega) (by omega) (by omega), ieq_n (by omega) (by omega) (by omega), ieq_p rfl, t265 m1 W m2 b5 b6 ln, hr.1, bS]
          · by_cases v10 : v < 10
            · refine ⟨wN, h1, cl _ ?_, b2, mo _ (fun h' _ _ => ?_)⟩
              · rw [ieq_n hv (by omega) v0, ieq_n hv (by omega) v1, ieq_n hv (by omega) v2, ilt_p hv (by omega) v10]
              · rw [ilt_p hv (by omega) v10, ieq_n hv (by omega) v0, ieq_n hv (by omega) v1, ieq_n hv (by omega) v2]
            · have es : iN v - iN 10 = iN (v - 10) := iN_sub (by omega)
              by_cases vl : l.length ≤ v - 10
              · refine ⟨wN, h1, cl _ ?_, b2, mo _ (fun h' _ _ => ?_)⟩
                · rw [ieq_n hv (by omega) v0, ieq_n hv (by omega) v1, ieq_n hv (by omega) v2, ilt_n hv (by omega) (by omega), es, ile_p (by omega) (by omega) vl]
                · rw [ilt_n hv (by omega) (by omega), es, ile_p (by omega) (by omega) vl]
              · refine ⟨iN (l.getD (v - 10) 0), h1, cl _ ?_, b2, mo _ (fun h' _ m2 => ?_)⟩
                · rw [ieq_n hv (by omega) v0, ieq_n hv (by omega) v1, ieq_n hv (by omega) v2, ilt_n hv (by omega) (by omega), es, ile_n (by omega) (by omega) (by omega), iN_in (by omega) (by omega), iN_cl (by omega), (b3.2 _ (by omega)).1, gT]
                · rw [ilt_n hv (by omega) (by omega), es, ile_n (by omega) (by omega) (by omega), iN_in (by omega) (by omega), iN_cl (by omega), m2.2 _ (by omega), gT]
theorem c_odds (R : Rel h) (x1 x2 x3 x4 : Int32) : ∃ v h1, f167 h 0 x1 x2 x3 x4 = some (v, h1) ∧ FQ h h1 ∧ ∀ h0, FQ h h0 → ∃ h2, f295 h0 193 x1 x2 x3 x4 = some (v, h2) ∧ FQ h0 h2 := by
  have w := R.1
  rcases R.pickLG x1 x2 with ⟨h1, a1, a2, a3⟩ | ⟨i, q, l, h1, hi, rfl, W, H, b0, b1, b2, b3, b4, b5, b6, b7, b8⟩
  · refine ⟨mN, h1, ?_, a2, fun h0 F => ?_⟩
    · unfold f167 f167_19
      simp only [gT, nbeq, Option.isSome_some, Option.getD_some, Bool.and_true, Bool.true_and, Bool.and_self, mX_some, bS, bN_if, bN_01, i1_01, i0_01, if_true, if_false, Bool.false_eq_true, false_and, and_false, and_true, true_and, and_self, Bool.or_false, Bool.false_or, Bool.or_true, Bool.true_or, Bool.false_and, Bool.and_false, decide_true, decide_false, L0, L1, L2, L3, L4, L5, L6, L7, L8, L9, L10, L11, L12, L13, L14, L15, L16, L17, L18, L19, L20, L21, L22, L23, L24, L25, L27, L33, L39, L40, L45, L48, L57, L60, L72, L90, L97, L98, L99, L100, L121, L122, L242, L255, L256, L580, L600, L1000, L1584, L1000000, Ln1, iN_add, iN_and, iN_or, iN_nd, iN_shl, iN_shr, iN_cl, iN_in, iN_mul, K1l, Kn1, k0 w, r0_0 w, r0_1 w, r0_2 w, r0_3 w, r0_4 w, r0_5 w, r0_6 w, r0_7 w, r0_8 w, a1]
    · have w0 := R.1.q F
      obtain ⟨h', g1, g2⟩ := a3 _ F.co
      unfold f295 f295_48 f295_51
      simp only [gT, nbeq, Option.isSome_some, Option.getD_some, Bool.and_true, Bool.true_and, Bool.and_self, mX_some, bS, bN_if, bN_01, i1_01, i0_01, if_true, if_false, Bool.false_eq_true, false_and, and_false, and_true, true_and, and_self, Bool.or_false, Bool.false_or, Bool.or_true, Bool.true_or, Bool.false_and, Bool.and_false, decide_true, decide_false, L0, L1, L2, L3, L4, L5, L6, L7, L8, L9, L10, L11, L12, L13, L14, L15, L16, L17, L18, L19, L20, L21, L22, L23, L24, L25, L27, L33, L39, L40, L45, L48, L57, L60, L72, L90, L97, L98, L99, L100, L121, L122, L242, L255, L256, L580, L600, L1000, L1584, L1000000, Ln1, iN_add, iN_and, iN_or, iN_nd, iN_shl, iN_shr, iN_cl, iN_in, iN_mul, K1l, Kn1, k193 w0, r193_1 w0, r193_2 w0, r193_3 w0, r193_4 w0, r193_5 w0, r193_6 w0, r193_7 w0, r193_8 w0, r193_18 w0, r193_19 w0, r193_32 w0, r193_33 w0, r193_34 w0, r193_36 w0, r193_38 w0, r193_39 w0, r193_40 w0, r193_42 w0, r193_45 w0, r193_46 w0, r193_47 w0, r193_48 w0, r193_49 w0, r193_50 w0, g1]
      exact ⟨_, rfl, FQ.c0.tr g2⟩
  · have hm := W.1.2.1
    have w1 := w.q b2
    unfold f167 f167_19 f167_47
    simp (disch := omega) only [gT, nbeq, Option.isSome_some, Option.getD_some, Bool.and_true, Bool.true_and, Bool.and_self, mX_some, bS, bN_if, bN_01, i1_01, i0_01, if_true, if_false, Bool.false_eq_true, false_and, and_false, and_true, true_and, and_self, Bool.or_false, Bool.false_or, Bool.or_true, Bool.true_or, Bool.false_and, Bool.and_false, decide_true, decide_false, L0, L1, L2, L3, L4, L5, L6, L7, L8, L9, L10, L11, L12, L13, L14, L15, L16, L17, L18, L19, L20, L21, L22, L23, L24, L25, L27, L33, L39, L40, L45, L48, L57, L60, L72, L90, L97, L98, L99, L100, L121, L122, L242, L255, L256, L580, L600, L1000, L1584, L1000000, Ln1, iN_add, iN_and, iN_or, iN_nd, iN_shl, iN_shr, iN_cl, iN_in, iN_mul, K1l, Kn1, k0 w, r0_0 w, r0_1 w, r0_2 w, r0_3 w, r0_4 w, r0_5 w, r0_6 w, r0_7 w, r0_8 w, k0 w1, r0_0 w1, r0_1 w1, r0_2 w1, r0_3 w1, r0_4 w1, r0_5 w1, r0_6 w1, r0_7 w1, r0_8 w1, k1 w1, r1_0 w1, r1_1 w1, r1_2 w1, r1_3 w1, r1_4 w1, k88 w1, r88_0 w1, r88_2 w1, b1, b3.1, b0, H.k, t57 H W]
    by_cases ln : l.length = 0
    · rw [ieq_p ln]
      refine ⟨_, _, rfl, b2, fun h0 F => ?_⟩
      have w0 := R.1.q F
      obtain ⟨h', g1, g2, g3, g4⟩ := b8 _ F.co
      have w2 := g3.1
      unfold f295 f295_48 f295_51
      simp (disch := omega) only [gT, nbeq, Option.isSome_some, Option.getD_some, Bool.and_true, Bool.true_and, Bool.and_self, mX_some, bS, bN_if, bN_01, i1_01, i0_01, if_true, if_false, Bool.false_eq_true, false_and, and_false, and_true, true_and, and_self, Bool.or_false, Bool.false_or, Bool.or_true, Bool.true_or, Bool.false_and, Bool.and_false, decide_true, decide_false, L0, L1, L2, L3, L4, L5, L6, L7, L8, L9, L10, L11, L12, L13, L14, L15, L16, L17, L18, L19, L20, L21, L22, L23, L24, L25, L27, L33, L39, L40, L45, L48, L57, L60, L72, L90, L97, L98, L99, L100, L121, L122, L242, L255, L256, L580, L600, L1000, L1584, L1000000, Ln1, iN_add, iN_and, iN_or, iN_nd, iN_shl, iN_shr, iN_cl, iN_in, iN_mul, K1l, Kn1, k193 w0, r193_1 w0, r193_2 w0, r193_3 w0, r193_4 w0, r193_5 w0, r193_6 w0, r193_7 w0, r193_8 w0, r193_18 w0, r193_19 w0, r193_32 w0, r193_33 w0, r193_34 w0, r193_36 w0, r193_38 w0, r193_39 w0, r193_40 w0, r193_42 w0, r193_45 w0, r193_46 w0, r193_47 w0, r193_48 w0, r193_49 w0, r193_50 w0, k193 w2, r193_1 w2, r193_2 w2, r193_3 w2, r193_4 w2, r193_5 w2, r193_6 w2, r193_7 w2, r193_8 w2, r193_18 w2, r193_19 w2, r193_32 w2, r193_33 w2, r193_34 w2, r193_36 w2, r193_38 w2, r193_39 w2, r193_40 w2, r193_42 w2, r193_45 w2, r193_46 w2, r193_47 w2, r193_48 w2, r193_49 w2, r193_50 w2, g1, t226 g3 W, g4.1, ile_p]
      cases rg x3 (q 0 1) <;> simp only [gT, nbeq, Option.isSome_some, Option.getD_some, Bool.and_true, Bool.true_and, Bool.and_self, mX_some, bS, bN_if, bN_01, i1_01, i0_01, if_true, if_false, Bool.false_eq_true, false_and, and_false, and_true, true_and, and_self, Bool.or_false, Bool.false_or, Bool.or_true, Bool.true_or, Bool.false_and, Bool.and_false, decide_true, decide_false] <;> exact ⟨_, rfl, FQ.c0.tr g2⟩
    · rw [ieq_n (by omega) (by omega) ln]
      cases hp : rg x3 (q 0 1) with
      | false =>
        simp only [gT, nbeq, Option.isSome_some, Option.getD_some, Bool.and_true, Bool.true_and, Bool.and_self, mX_some, bS, bN_if, bN_01, i1_01, i0_01, if_true, if_false, Bool.false_eq_true, false_and, and_false, and_true, true_and, and_self, Bool.or_false, Bool.false_or, Bool.or_true, Bool.true_or, Bool.false_and, Bool.and_false, decide_true, decide_false]
        refine ⟨_, _, rfl, b2, fun h0 F => ?_⟩
        have w0 := R.1.q F
        obtain ⟨h', g1, g2, g3, g4⟩ := b8 _ F.co
        have w2 := g3.1
        unfold f295 f295_48 f295_51
        simp (disch := omega) only [gT, nbeq, Option.isSome_some, Option.getD_some, Bool.and_true, Bool.true_and, Bool.and_self, mX_some, bS, bN_if, bN_01, i1_01, i0_01, if_true, if_false, Bool.false_eq_true, false_and, and_false, and_true, true_and, and_self, Bool.or_false, Bool.false_or, Bool.or_true, Bool.true_or, Bool.false_and, Bool.and_false, decide_true, decide_false, L0, L1, L2, L3, L4, L5, L6, L7, L8, L9, L10, L11, L12, L13, L14, L15, L16, L17, L18, L19, L20, L21, L22, L23, L24, L25, L27, L33, L39, L40, L45, L48, L57, L60, L72, L90, L97, L98, L99, L100, L121, L122, L242, L255, L256, L580, L600, L1000, L1584, L1000000, Ln1, iN_add, iN_and, iN_or, iN_nd, iN_shl, iN_shr, iN_cl, iN_in, iN_mul, K1l, Kn1, k193 w0, r193_1 w0, r193_2 w0, r193_3 w0, r193_4 w0, r193_5 w0, r193_6 w0, r193_7 w0, r193_8 w0, r193_18 w0, r193_19 w0, r193_32 w0, r193_33 w0, r193_34 w0, r193_36 w0, r193_38 w0, r193_39 w0, r193_40 w0, r193_42 w0, r193_45 w0, r193_46 w0, r193_47 w0, r193_48 w0, r193_49 w0, r193_50 w0, k193 w2, r193_1 w2, r193_2 w2, r193_3 w2, r193_4 w2, r193_5 w2, r193_6 w2, r193_7 w2, r193_8 w2, r193_18 w2, r193_19 w2, r193_32 w2, r193_33 w2, r193_34 w2, r193_36 w2, r193_38 w2, r193_39 w2, r193_40 w2, r193_42 w2, r193_45 w2, r193_46 w2, r193_47 w2, r193_48 w2, r193_49 w2, r193_50 w2, g1, t226 g3 W, hp]
        exact ⟨_, rfl, FQ.c0.tr g2⟩
      | true =>
        obtain ⟨p, hpp, rfl, _⟩ := rg_t hp
        have hk := kc_le q l p
        simp (disch := omega) only [gT, nbeq, Option.isSome_some, Option.getD_some, Bool.and_true, Bool.true_and, Bool.and_self, mX_some, bS, bN_if, bN_01, i1_01, i0_01, if_true, if_false, Bool.false_eq_true, false_and, and_false, and_true, true_and, and_self, Bool.or_false, Bool.false_or, Bool.or_true, Bool.true_or, Bool.false_and, Bool.and_false, decide_true, decide_false, t120 w1 W b3 b5 b6, iN_l, t109]
        refine ⟨_, _, rfl, b2, fun h0 F => ?_⟩
        have w0 := R.1.q F
        obtain ⟨h', g1, g2, g3, g4⟩ := b8 _ F.co
        have w2 := g3.1
        unfold f295 f295_51
        simp (disch := omega) only [gT, nbeq, Option.isSome_some, Option.getD_some, Bool.and_true, Bool.true_and, Bool.and_self, mX_some, bS, bN_if, bN_01, i1_01, i0_01, if_true, if_false, Bool.false_eq_true, false_and, and_false, and_true, true_and, and_self, Bool.or_false, Bool.false_or, Bool.or_true, Bool.true_or, Bool.false_and, Bool.and_false, decide_true, decide_false, L0, L1, L2, L3, L4, L5, L6, L7, L8, L9, L10, L11, L12, L13, L14, L15, L16, L17, L18, L19, L20, L21, L22, L23, L24, L25, L27, L33, L39, L40, L45, L48, L57, L60, L72, L90, L97, L98, L99, L100, L121, L122, L242, L255, L256, L580, L600, L1000, L1584, L1000000, Ln1, iN_add, iN_and, iN_or, iN_nd, iN_shl, iN_shr, iN_cl, iN_in, iN_mul, K1l, Kn1, k193 w0, r193_1 w0, r193_2 w0, r193_3 w0, r193_4 w0, r193_5 w0, r193_6 w0, r193_7 w0, r193_8 w0, r193_18 w0, r193_19 w0, r193_32 w0, r193_33 w0, r193_34 w0, r193_36 w0, r193_38 w0, r193_39 w0, r193_40 w0, r193_42 w0, r193_45 w0, r193_46 w0, r193_47 w0, r193_48 w0, r193_49 w0, r193_50 w0, k193 w2, r193_1 w2, r193_2 w2, r193_3 w2, r193_4 w2, r193_5 w2, r193_6 w2, r193_7 w2, r193_8 w2, r193_18 w2, r193_19 w2, r193_32 w2, r193_33 w2, r193_34 w2, r193_36 w2, r193_38 w2, r193_39 w2, r193_40 w2, r193_42 w2, r193_45 w2, r193_46 w2, r193_47 w2, r193_48 w2, r193_49 w2, r193_50 w2, g1, t226 g3 W, hp, g4.1, ile_n, t266 g3 W g4 b5 b6, iN_l, t255]
        exact ⟨_, rfl, FQ.c0.tr g2⟩
theorem c_ago (R : Rel h) (x1 x2 x3 : Int32) : ∃ v h1, f168 h 0 x1 x2 x3 = some (v, h1) ∧ FQ h h1 ∧ ∀ h0, FQ h h0 → ∃ h2, f296 h0 193 x1 x2 x3 = some (v, h2) ∧ FQ h0 h2 := by
  have w := R.1
  rcases R.pickLG x1 x2 with ⟨h1, a1, a2, a3⟩ | ⟨i, q, l, h1, hi, rfl, W, H, b0, b1, b2, b3, b4, b5, b6, b7, b8⟩
  · refine ⟨jN, h1, ?_, a2, fun h0 F => ?_⟩
    · unfold f168 f168_19
      simp only [gT, nbeq, Option.isSome_some, Option.getD_some, Bool.and_true, Bool.true_and, Bool.and_self, mX_some, bS, bN_if, bN_01, i1_01, i0_01, if_true, if_false, Bool.false_eq_true, false_and, and_false, and_true, true_and, and_self, Bool.or_false, Bool.false_or, Bool.or_true, Bool.true_or, Bool.false_and, Bool.and_false, decide_true, decide_false, L0, L1, L2, L3, L4, L5, L6, L7, L8, L9, L10, L11, L12, L13, L14, L15, L16, L17, L18, L19, L20, L21, L22, L23, L24, L25, L27, L33, L39, L40, L45, L48, L57, L60, L72, L90, L97, L98, L99, L100, L121, L122, L242, L255, L256, L580, L600, L1000, L1584, L1000000, Ln1, iN_add, iN_and, iN_or, iN_nd, iN_shl, iN_shr, iN_cl, iN_in, iN_mul, k0 w, r0_0 w, r0_1 w, r0_2 w, r0_3 w, r0_4 w, r0_5 w, r0_6 w, r0_7 w, r0_8 w, a1]
    · have w0 := R.1.q F
      obtain ⟨h', g1, g2⟩ := a3 _ F.co
      unfold f296 f296_21
      simp only [gT, nbeq, Option.isSome_some, Option.getD_some, Bool.and_true, Bool.true_and, Bool.and_self, mX_some, bS, bN_if, bN_01, i1_01, i0_01, if_true, if_false, Bool.false_eq_true, false_and, and_false, and_true, true_and, and_self, Bool.or_false, Bool.false_or, Bool.or_true, Bool.true_or, Bool.false_and, Bool.and_false, decide_true, decide_false, L0, L1, L2, L3, L4, L5, L6, L7, L8, L9, L10, L11, L12, L13, L14, L15, L16, L17, L18, L19, L20, L21, L22, L23, L24, L25, L27, L33, L39, L40, L45, L48, L57, L60, L72, L90, L97, L98, L99, L100, L121, L122, L242, L255, L256, L580, L600, L1000, L1584, L1000000, Ln1, iN_add, iN_and, iN_or, iN_nd, iN_shl, iN_shr, iN_cl, iN_in, iN_mul, k193 w0, r193_1 w0, r193_2 w0, r193_3 w0, r193_4 w0, r193_5 w0, r193_6 w0, r193_7 w0, r193_8 w0, r193_18 w0, r193_19 w0, r193_32 w0, r193_33 w0, r193_34 w0, r193_36 w0, r193_38 w0, r193_39 w0, r193_40 w0, r193_42 w0, r193_45 w0, r193_46 w0, r193_47 w0, r193_48 w0, r193_49 w0, r193_50 w0, g1]
      exact ⟨_, rfl, FQ.c0.tr g2⟩
  · have hm := W.1.2.1
    have w1 := w.q b2
    have hv60 : ∀ k, k < l.length → l.getD k 0 < 60 := fun k hk => by have := b6 k hk; omega
    unfold f168 f168_19 f168_42
    simp (disch := omega) only [gT, nbeq, Option.isSome_some, Option.getD_some, Bool.and_true, Bool.true_and, Bool.and_self, mX_some, bS, bN_if, bN_01, i1_01, i0_01, if_true, if_false, Bool.false_eq_true, false_and, and_false, and_true, true_and, and_self, Bool.or_false, Bool.false_or, Bool.or_true, Bool.true_or, Bool.false_and, Bool.and_false, decide_true, decide_false, L0, L1, L2, L3, L4, L5, L6, L7, L8, L9, L10, L11, L12, L13, L14, L15, L16, L17, L18, L19, L20, L21, L22, L23, L24, L25, L27, L33, L39, L40, L45, L48, L57, L60, L72, L90, L97, L98, L99, L100, L121, L122, L242, L255, L256, L580, L600, L1000, L1584, L1000000, Ln1, iN_add, iN_and, iN_or, iN_nd, iN_shl, iN_shr, iN_cl, iN_in, iN_mul, k0 w, r0_0 w, r0_1 w, r0_2 w, r0_3 w, r0_4 w, r0_5 w, r0_6 w, r0_7 w, r0_8 w, k0 w1, r0_0 w1, r0_1 w1, r0_2 w1, r0_3 w1, r0_4 w1, r0_5 w1, r0_6 w1, r0_7 w1, r0_8 w1, k88 w1, r88_0 w1, r88_2 w1, b1, b3.1, t169 w1 b3 (by omega) hv60, t170 w1 b3 (by omega) hv60]
    by_cases ln : l.length = 0
    · rw [ieq_p ln]
      refine ⟨_, _, rfl, b2, fun h0 F => ?_⟩
      have w0 := R.1.q F
      obtain ⟨h', g1, g2, g3, g4⟩ := b8 _ F.co
      have w2 := g3.1
      unfold f296 f296_21
      simp (disch := omega) only [gT, nbeq, Option.isSome_some, Option.getD_some, Bool.and_true, Bool.true_and, Bool.and_self, mX_some, bS, bN_if, bN_01, i1_01, i0_01, if_true, if_false, Bool.false_eq_true, false_and, and_false, and_true, true_and, and_self, Bool.or_false, Bool.false_or, Bool.or_true, Bool.true_or, Bool.false_and, Bool.and_false, decide_true, decide_false, L0, L1, L2, L3, L4, L5, L6, L7, L8, L9, L10, L11, L12, L13, L14, L15, L16, L17, L18, L19, L20, L21, L22, L23, L24, L25, L27, L33, L39, L40, L45, L48, L57, L60, L72, L90, L97, L98, L99, L100, L121, L122, L242, L255, L256, L580, L600, L1000, L1584, L1000000, Ln1, iN_add, iN_and, iN_or, iN_nd, iN_shl, iN_shr, iN_cl, iN_in, iN_mul, k193 w0, r193_1 w0, r193_2 w0, r193_3 w0, r193_4 w0, r193_5 w0, r193_6 w0, r193_7 w0, r193_8 w0, r193_18 w0, r193_19 w0, r193_32 w0, r193_33 w0, r193_34 w0, r193_36 w0, r193_38 w0, r193_39 w0, r193_40 w0, r193_42 w0, r193_45 w0, r193_46 w0, r193_47 w0, r193_48 w0, r193_49 w0, r193_50 w0, k193 w2, r193_1 w2, r193_2 w2, r193_3 w2, r193_4 w2, r193_5 w2, r193_6 w2, r193_7 w2, r193_8 w2, r193_18 w2, r193_19 w2, r193_32 w2, r193_33 w2, r193_34 w2, r193_36 w2, r193_38 w2, r193_39 w2, r193_40 w2, r193_42 w2, r193_45 w2, r193_46 w2, r193_47 w2, r193_48 w2, r193_49 w2, r193_50 w2, g1, g4.1, ieq_p]
      exact ⟨_, rfl, FQ.c0.tr g2⟩
    · rw [ieq_n (by omega) (by omega) ln]
      have hmin : up (fun k x => min x (l.getD k 0 % 10)) l.length 9 = up (fun k x => min x (l.getD k 0 % 10)) l.length (l.getD 0 0 % 10) := by
        have := up_rel (f := fun k x => min x (l.getD k 0 % 10)) (g := fun k x => min x (l.getD k 0 % 10)) (I := fun k x y => (k = 0 ∧ x = 9 ∧ y = l.getD 0 0 % 10) ∨ (0 < k ∧ x = y)) (n := l.length) (fun k x y _ hI => by
          rcases hI with ⟨rfl, rfl, rfl⟩ | ⟨a, rfl⟩
          · exact Or.inr ⟨by omega, by show min 9 (l.getD 0 0 % 10) = min (l.getD 0 0 % 10) (l.getD 0 0 % 10); omega⟩
          · exact Or.inr ⟨by omega, rfl⟩) (a := 9) (b := l.getD 0 0 % 10) (Or.inl ⟨rfl, rfl, rfl⟩) l.length (Nat.le_refl _)
        omega
      have hmax : up (fun k x => max x (l.getD k 0 % 10)) l.length 0 = up (fun k x => max x (l.getD k 0 % 10)) l.length (l.getD 0 0 % 10) := by
        have := up_rel (f := fun k x => max x (l.getD k 0 % 10)) (g := fun k x => max x (l.getD k 0 % 10)) (I := fun k x y => (k = 0 ∧ x = 0 ∧ y = l.getD 0 0 % 10) ∨ (0 < k ∧ x = y)) (n := l.length) (fun k x y _ hI => by
          rcases hI with ⟨rfl, rfl, rfl⟩ | ⟨a, rfl⟩
          · exact Or.inr ⟨by omega, by show max 0 (l.getD 0 0 % 10) = max (l.getD 0 0 % 10) (l.getD 0 0 % 10); omega⟩
          · exact Or.inr ⟨by omega, rfl⟩) (a := 0) (b := l.getD 0 0 % 10) (Or.inl ⟨rfl, rfl, rfl⟩) l.length (Nat.le_refl _)
        omega
      rw [hmin, hmax]
      refine ⟨if x3 = iN 0 then iN (up (fun k x => min x (l.getD k 0 % 10)) l.length (l.getD 0 0 % 10)) else iN (up (fun k x => max x (l.getD k 0 % 10)) l.length (l.getD 0 0 % 10)), h1, by split <;> rfl, b2, fun h0 F => ?_⟩
      have w0 := R.1.q F
      obtain ⟨h', g1, g2, g3, g4⟩ := b8 _ F.co
      have w2 := g3.1
      have hz := hv60 0 (by omega)
      have e6 : ∀ k, k < l.length → iN (l.getD k 0) - iN (l.getD k 0) / iN 10 * iN 10 = iN (l.getD k 0 % 10) := fun k hk => iN_rem (by have := hv60 k hk; omega) (by omega)
      have c0 := g4.2 0 (by omega)
      have lp : mLoop (f296_37 h' 193 x3) mFuel (iN (l.getD 0 0 % 10), iN 0) = some (if x3 = iN 0 then iN (up (fun k x => min x (l.getD k 0 % 10)) l.length (l.getD 0 0 % 10)) else iN (up (fun k x => max x (l.getD k 0 % 10)) l.length (l.getD 0 0 % 10)), h') := by
        by_cases ez : x3 = iN 0
        · rw [if_pos ez]
          refine lp_up (fun k x => (iN x, iN k)) _ (fun x => (iN x, h')) (fun _ x => x ≤ 9) l.length (a0 := l.getD 0 0 % 10) (by show l.getD 0 0 % 10 ≤ 9; omega) (fun k x _ hx => by show min x (l.getD k 0 % 10) ≤ 9; omega) ?_ ?_ (by omega)
          · intro k x hk hx
            have c2 := g4.2 k hk
            have e7 := e6 k hk
            have h1 := hv60 k hk
            unfold f296_37 f296_83
            simp (disch := omega) only [gT, nbeq, Option.isSome_some, Option.getD_some, Bool.and_true, Bool.true_and, Bool.and_self, mX_some, bS, bN_if, bN_01, i1_01, i0_01, if_true, if_false, Bool.false_eq_true, false_and, and_false, and_true, true_and, and_self, Bool.or_false, Bool.false_or, Bool.or_true, Bool.true_or, Bool.false_and, Bool.and_false, decide_true, decide_false, L0, L1, L10, i10nz, iN_cl, iN_in, k193 w2, r193_1 w2, r193_2 w2, r193_3 w2, r193_4 w2, r193_5 w2, r193_6 w2, r193_7 w2, r193_8 w2, r193_18 w2, r193_19 w2, r193_32 w2, r193_33 w2, r193_34 w2, r193_36 w2, r193_38 w2, r193_39 w2, r193_40 w2, r193_42 w2, r193_45 w2, r193_46 w2, r193_47 w2, r193_48 w2, r193_49 w2, r193_50 w2, k211 w2, g4.1, ile_n, c2, e7, t195, iN_add, ez]
          · intro x _
            unfold f296_37
            simp (disch := omega) only [gT, nbeq, Option.isSome_some, Option.getD_some, Bool.and_true, Bool.true_and, Bool.and_self, mX_some, bS, bN_if, bN_01, i1_01, i0_01, if_true, if_false, Bool.false_eq_true, false_and, and_false, and_true, true_and, and_self, Bool.or_false, Bool.false_or, Bool.or_true, Bool.true_or, Bool.false_and, Bool.and_false, decide_true, decide_false, L0, L1, L2, L3, L4, L5, L6, L7, L8, L9, L10, L11, L12, L13, L14, L15, L16, L17, L18, L19, L20, L21, L22, L23, L24, L25, L27, L33, L39, L40, L45, L48, L57, L60, L72, L90, L97, L98, L99, L100, L121, L122, L242, L255, L256, L580, L600, L1000, L1584, L1000000, Ln1, iN_add, iN_and, iN_or, iN_nd, iN_shl, iN_shr, iN_cl, iN_in, iN_mul, k193 w2, r193_1 w2, r193_2 w2, r193_3 w2, r193_4 w2, r193_5 w2, r193_6 w2, r193_7 w2, r193_8 w2, r193_18 w2, r193_19 w2, r193_32 w2, r193_33 w2, r193_34 w2, r193_36 w2, r193_38 w2, r193_39 w2, r193_40 w2, r193_42 w2, r193_45 w2, r193_46 w2, r193_47 w2, r193_48 w2, r193_49 w2, r193_50 w2, g4.1, ile_p]
        · rw [if_neg ez]
          refine lp_up (fun k x => (iN x, iN k)) _ (fun x => (iN x, h')) (fun _ x => x ≤ 9) l.length (a0 := l.getD 0 0 % 10) (by show l.getD 0 0 % 10 ≤ 9; omega) (fun k x _ hx => by show max x (l.getD k 0 % 10) ≤ 9; omega) ?_ ?_ (by omega)
          · intro k x hk hx
            have c2 := g4.2 k hk
            have e7 := e6 k hk
            have h1 := hv60 k hk
            unfold f296_37 f296_83
            simp (disch := omega) only [gT, nbeq, Option.isSome_some, Option.getD_some, Bool.and_true, Bool.true_and, Bool.and_self, mX_some, bS, bN_if, bN_01, i1_01, i0_01, if_true, if_false, Bool.false_eq_true, false_and, and_false, and_true, true_and, and_self, Bool.or_false, Bool.false_or, Bool.or_true, Bool.true_or, Bool.false_and, Bool.and_false, decide_true, decide_false, L0, L1, L10, i10nz, iN_cl, iN_in, k193 w2, r193_1 w2, r193_2 w2, r193_3 w2, r193_4 w2, r193_5 w2, r193_6 w2, r193_7 w2, r193_8 w2, r193_18 w2, r193_19 w2, r193_32 w2, r193_33 w2, r193_34 w2, r193_36 w2, r193_38 w2, r193_39 w2, r193_40 w2, r193_42 w2, r193_45 w2, r193_46 w2, r193_47 w2, r193_48 w2, r193_49 w2, r193_50 w2, k211 w2, g4.1, ile_n, c2, e7, t196, iN_add, ez]
          · intro x _
            unfold f296_37
            simp (disch := omega) only [gT, nbeq, Option.isSome_some, Option.getD_some, Bool.and_true, Bool.true_and, Bool.and_self, mX_some, bS, bN_if, bN_01, i1_01, i0_01, if_true, if_false, Bool.false_eq_true, false_and, and_false, and_true, true_and, and_self, Bool.or_false, Bool.false_or, Bool.or_true, Bool.true_or, Bool.false_and, Bool.and_false, decide_true, decide_false, L0, L1, L2, L3, L4, L5, L6, L7, L8, L9, L10, L11, L12, L13, L14, L15, L16, L17, L18, L19, L20, L21, L22, L23, L24, L25, L27, L33, L39, L40, L45, L48, L57, L60, L72, L90, L97, L98, L99, L100, L121, L122, L242, L255, L256, L580, L600, L1000, L1584, L1000000, Ln1, iN_add, iN_and, iN_or, iN_nd, iN_shl, iN_shr, iN_cl, iN_in, iN_mul, k193 w2, r193_1 w2, r193_2 w2, r193_3 w2, r193_4 w2, r193_5 w2, r193_6 w2, r193_7 w2, r193_8 w2, r193_18 w2, r193_19 w2, r193_32 w2, r193_33 w2, r193_34 w2, r193_36 w2, r193_38 w2, r193_39 w2, r193_40 w2, r193_42 w2, r193_45 w2, r193_46 w2, r193_47 w2, r193_48 w2, r193_49 w2, r193_50 w2, g4.1, ile_p]
      refine ⟨h', ?_, FQ.c0.tr g2⟩
      rw [← lp]
      have e7 := e6 0 (by omega)
      unfold f296
      simp (disch := omega) only [gT, nbeq, Option.isSome_some, Option.getD_some, Bool.and_true, Bool.true_and, Bool.and_self, mX_some, bS, bN_if, bN_01, i1_01, i0_01, if_true, if_false, Bool.false_eq_true, false_and, and_false, and_true, true_and, and_self, Bool.or_false, Bool.false_or, Bool.or_true, Bool.true_or, Bool.false_and, Bool.and_false, decide_true, decide_false, L0, L10, i10nz, iN_cl, iN_in, k193 w0, r193_1 w0, r193_2 w0, r193_3 w0, r193_4 w0, r193_5 w0, r193_6 w0, r193_7 w0, r193_8 w0, r193_18 w0, r193_19 w0, r193_32 w0, r193_33 w0, r193_34 w0, r193_36 w0, r193_38 w0, r193_39 w0, r193_40 w0, r193_42 w0, r193_45 w0, r193_46 w0, r193_47 w0, r193_48 w0, r193_49 w0, r193_50 w0, k193 w2, r193_1 w2, r193_2 w2, r193_3 w2, r193_4 w2, r193_5 w2, r193_6 w2, r193_7 w2, r193_8 w2, r193_18 w2, r193_19 w2, r193_32 w2, r193_33 w2, r193_34 w2, r193_36 w2, r193_38 w2, r193_39 w2, r193_40 w2, r193_42 w2, r193_45 w2, r193_46 w2, r193_47 w2, r193_48 w2, r193_49 w2, r193_50 w2, k211 w2, g1, g4.1, ieq_n, c0, e7]
end PB
