/-! after: the whole loop; the call -/
section ML
variable {h : mH} {q : LQ} {y : YQ}
def outX (x : XSt) (v : Nat) : Int32 := if v = 0 then iN x.2.2.2.2.2 else if v = 1 then iN (sFg x.1) else if v = 2 then zN x.2.1 else if v = 3 then zN x.2.2.2.2.1 else iN x.2.2.2.1
theorem after_loop (H : MoS h q) (W : QW q) (Y : MY h y) (V : YW y) (C : MLS h (s0 q)) {v : Nat} (hv : v < 5) : ∃ h', mLoop (f293_47 193 (iN v)) mFuel (iN 0, jN, iN 0, jN, iN 0, iN 1, iN 0, h) = some (outX (runX q y y.1 0 (x0 q)).2 v, h') ∧ FM h h' := by
  have hy := V.1
  have := lp_inv (body := f293_47 193 (iN v)) (P := fun i z => (i ≤ y.1 ∧ ∃ u, RunZ h q i 1 u z ∧ runX q y y.1 0 (x0 q) = runX q y (y.1 - i) i (ntc q u)) ∨ ∃ j x, RunZ h q j 0 x z ∧ (runX q y y.1 0 (x0 q)).2 = x) (Q := fun r => r.1 = outX (runX q y y.1 0 (x0 q)).2 v ∧ FM h r.2) (y.1 + 1) (fun i z hi hP => by
    rcases hP with ⟨hiy, u, Z, e⟩ | ⟨j, x, Z, e⟩
    · obtain ⟨z', f1, ⟨hc, Z'⟩ | ⟨s', hlt, hya, Z'⟩⟩ := after_in H W Y V (l3 := iN v) hiy Z
      · refine Or.inl ⟨z', f1, Or.inr ⟨_, _, Z', ?_⟩⟩
        rw [e]
        rcases hc with hc | hc
        · rw [hc, Nat.sub_self]; rfl
        · cases hn : y.1 - i with
          | zero => rfl
          | succ n =>
            show (match yAct q y i (ntc q u).1 with
              | none => (i, ntc q u)
              | some s' => runX q y n (i + 1) (stX q y i (ntc q u) s')).2 = _
            rw [show (ntc q u).1 = u.1 from rfl, hc]
      · refine Or.inl ⟨z', f1, Or.inl ⟨by omega, _, Z', ?_⟩⟩
        rw [e]
        have hn : y.1 - i = (y.1 - (i + 1)) + 1 := by omega
        rw [hn]
        show (match yAct q y i (ntc q u).1 with
          | none => (i, ntc q u)
          | some s' => runX q y (y.1 - (i + 1)) (i + 1) (stX q y i (ntc q u) s')) = _
        rw [show (ntc q u).1 = u.1 from rfl, hya]
        rfl
    · obtain ⟨g, rfl, z1, z2, z3, z4, z5, z6, z7⟩ := Z
      refine Or.inr ⟨(outX x v, g), ?_, by rw [e], z1⟩
      have w2 := (H.fm z1).1
      have e31 : mI g 193 31 = iN (sFg x.1) := z2.2.2.2.2.2.2.2
      unfold f293_47 outX
      have : v = 0 ∨ v = 1 ∨ v = 2 ∨ v = 3 ∨ v = 4 := by omega
      rcases this with rfl | rfl | rfl | rfl | rfl
      all_goals simp (disch := omega) only [gT, nbeq, Option.isSome_some, Option.getD_some, Bool.and_true, Bool.true_and, Bool.and_self, mX_some, bS, bN_if, bN_01, i1_01, i0_01, if_true, if_false, Bool.false_eq_true, false_and, and_false, and_true, true_and, and_self, Bool.or_false, Bool.false_or, Bool.or_true, Bool.true_or, Bool.false_and, Bool.and_false, decide_true, decide_false, L0, L1, L2, L3, L4, L5, L6, L7, L8, L9, L10, L11, L12, L13, L14, L15, L16, L17, L18, L19, L20, L21, L22, L23, L24, L25, L27, L33, L39, L40, L45, L48, L57, L60, L72, L90, L97, L98, L99, L100, L121, L122, L242, L255, L256, L580, L600, L1000, L1584, L1000000, Ln1, iN_add, iN_and, iN_or, iN_nd, iN_shl, iN_shr, iN_cl, iN_in, iN_mul, ile_p, ile_n, ilt_p, ilt_n, ieq_p, ieq_n, ij_n, jj_p, ijle, jile, ijlt, jilt, k193 w2, r193_1 w2, r193_2 w2, r193_3 w2, r193_4 w2, r193_5 w2, r193_6 w2, r193_7 w2, r193_8 w2, r193_18 w2, r193_19 w2, r193_32 w2, r193_33 w2, r193_34 w2, r193_36 w2, r193_38 w2, r193_39 w2, r193_40 w2, r193_42 w2, r193_45 w2, r193_46 w2, r193_47 w2, r193_48 w2, r193_49 w2, r193_50 w2, e31]
      all_goals rfl) (fun z hP => by
    rcases hP with ⟨hiy, _⟩ | ⟨j, x, Z, e⟩
    · omega
    · obtain ⟨g, rfl, z1, z2, z3, z4, z5, z6, z7⟩ := Z
      refine ⟨(outX x v, g), ?_, by rw [e], z1⟩
      have w2 := (H.fm z1).1
      have e31 : mI g 193 31 = iN (sFg x.1) := z2.2.2.2.2.2.2.2
      unfold f293_47 outX
      have : v = 0 ∨ v = 1 ∨ v = 2 ∨ v = 3 ∨ v = 4 := by omega
      rcases this with rfl | rfl | rfl | rfl | rfl
      all_goals simp (disch := omega) only [gT, nbeq, Option.isSome_some, Option.getD_some, Bool.and_true, Bool.true_and, Bool.and_self, mX_some, bS, bN_if, bN_01, i1_01, i0_01, if_true, if_false, Bool.false_eq_true, false_and, and_false, and_true, true_and, and_self, Bool.or_false, Bool.false_or, Bool.or_true, Bool.true_or, Bool.false_and, Bool.and_false, decide_true, decide_false, L0, L1, L2, L3, L4, L5, L6, L7, L8, L9, L10, L11, L12, L13, L14, L15, L16, L17, L18, L19, L20, L21, L22, L23, L24, L25, L27, L33, L39, L40, L45, L48, L57, L60, L72, L90, L97, L98, L99, L100, L121, L122, L242, L255, L256, L580, L600, L1000, L1584, L1000000, Ln1, iN_add, iN_and, iN_or, iN_nd, iN_shl, iN_shr, iN_cl, iN_in, iN_mul, ile_p, ile_n, ilt_p, ilt_n, ieq_p, ieq_n, ij_n, jj_p, ijle, jile, ijlt, jilt, k193 w2, r193_1 w2, r193_2 w2, r193_3 w2, r193_4 w2, r193_5 w2, r193_6 w2, r193_7 w2, r193_8 w2, r193_18 w2, r193_19 w2, r193_32 w2, r193_33 w2, r193_34 w2, r193_36 w2, r193_38 w2, r193_39 w2, r193_40 w2, r193_42 w2, r193_45 w2, r193_46 w2, r193_47 w2, r193_48 w2, r193_49 w2, r193_50 w2, e31]
      all_goals rfl) (by omega) (s := (iN 0, jN, iN 0, jN, iN 0, iN 1, iN 0, h)) (Or.inl ⟨by omega, (s0 q, none, 0, 0, none, 0), ⟨h, rfl, FM.rfl, C, SW0 W, KW0 q, by show 0 ≤ 8; omega, fun j hj => (by cases hj), fun _ => rfl⟩, rfl⟩)
  obtain ⟨⟨r, h'⟩, r1, r2, r3⟩ := this
  cases r2
  exact ⟨h', r1, r3⟩
end ML
section PB
variable {h : mH}
theorem c_after (R : Rel h) (x1 x2 x3 : Int32) : ∃ v h1, f165 h 0 x1 x2 x3 = some (v, h1) ∧ FQ h h1 ∧ ∀ h0, FQ h h0 → ∃ h2, f293 h0 193 x1 x2 x3 = some (v, h2) ∧ FQ h0 h2 := by
  have w := R.1
  unfold f165 f165_30
  simp only [gT, nbeq, Option.isSome_some, Option.getD_some, Bool.and_true, Bool.true_and, Bool.and_self, mX_some, bS, bN_if, bN_01, i1_01, i0_01, if_true, if_false, Bool.false_eq_true, false_and, and_false, and_true, true_and, and_self, Bool.or_false, Bool.false_or, Bool.or_true, Bool.true_or, Bool.false_and, Bool.and_false, decide_true, decide_false, k0 w, r0_0 w, r0_1 w, r0_2 w, r0_3 w, r0_4 w, r0_5 w, r0_6 w, r0_7 w, r0_8 w, k1 w, r1_0 w, r1_1 w, r1_2 w, r1_3 w, r1_4 w]
  rcases R.pickLY x1 x2 with ⟨e1, e2⟩ | ⟨i, q, k, y, hi, hk, W, H, e1, V, Y, e3, e2⟩
  · refine ⟨wN, h, ?_, FQ.rfl, fun h0 F => ?_⟩
    · rcases e1 with ⟨a1, o, a2⟩ | ⟨a, a1, a2⟩
      · simp only [gT, nbeq, Option.isSome_some, Option.getD_some, Bool.and_true, Bool.true_and, Bool.and_self, mX_some, bS, bN_if, bN_01, i1_01, i0_01, if_true, if_false, Bool.false_eq_true, false_and, and_false, and_true, true_and, and_self, Bool.or_false, Bool.false_or, Bool.or_true, Bool.true_or, Bool.false_and, Bool.and_false, decide_true, decide_false, L0, L1, L2, L3, L4, L5, L6, L7, L8, L9, L10, L11, L12, L13, L14, L15, L16, L17, L18, L19, L20, L21, L22, L23, L24, L25, L27, L33, L39, L40, L45, L48, L57, L60, L72, L90, L97, L98, L99, L100, L121, L122, L242, L255, L256, L580, L600, L1000, L1584, L1000000, Ln1, iN_add, iN_and, iN_or, iN_nd, iN_shl, iN_shr, iN_cl, iN_in, iN_mul, Ln2, a1, a2]
        cases o <;> rfl
      · simp only [gT, nbeq, Option.isSome_some, Option.getD_some, Bool.and_true, Bool.true_and, Bool.and_self, mX_some, bS, bN_if, bN_01, i1_01, i0_01, if_true, if_false, Bool.false_eq_true, false_and, and_false, and_true, true_and, and_self, Bool.or_false, Bool.false_or, Bool.or_true, Bool.true_or, Bool.false_and, Bool.and_false, decide_true, decide_false, L0, L1, L2, L3, L4, L5, L6, L7, L8, L9, L10, L11, L12, L13, L14, L15, L16, L17, L18, L19, L20, L21, L22, L23, L24, L25, L27, L33, L39, L40, L45, L48, L57, L60, L72, L90, L97, L98, L99, L100, L121, L122, L242, L255, L256, L580, L600, L1000, L1584, L1000000, Ln1, iN_add, iN_and, iN_or, iN_nd, iN_shl, iN_shr, iN_cl, iN_in, iN_mul, Ln2, a1, a2]
    · have w0 := R.1.q F
      obtain ⟨h', g1, g2⟩ := e2 _ F.co
      unfold f293 f293_23
      simp only [gT, nbeq, Option.isSome_some, Option.getD_some, Bool.and_true, Bool.true_and, Bool.and_self, mX_some, bS, bN_if, bN_01, i1_01, i0_01, if_true, if_false, Bool.false_eq_true, false_and, and_false, and_true, true_and, and_self, Bool.or_false, Bool.false_or, Bool.or_true, Bool.true_or, Bool.false_and, Bool.and_false, decide_true, decide_false, L0, L1, L2, L3, L4, L5, L6, L7, L8, L9, L10, L11, L12, L13, L14, L15, L16, L17, L18, L19, L20, L21, L22, L23, L24, L25, L27, L33, L39, L40, L45, L48, L57, L60, L72, L90, L97, L98, L99, L100, L121, L122, L242, L255, L256, L580, L600, L1000, L1584, L1000000, Ln1, iN_add, iN_and, iN_or, iN_nd, iN_shl, iN_shr, iN_cl, iN_in, iN_mul, Ln2, k193 w0, r193_1 w0, r193_2 w0, r193_3 w0, r193_4 w0, r193_5 w0, r193_6 w0, r193_7 w0, r193_8 w0, r193_18 w0, r193_19 w0, r193_32 w0, r193_33 w0, r193_34 w0, r193_36 w0, r193_38 w0, r193_39 w0, r193_40 w0, r193_42 w0, r193_45 w0, r193_46 w0, r193_47 w0, r193_48 w0, r193_49 w0, r193_50 w0, g1]
      exact ⟨_, rfl, FQ.c0.tr g2⟩
  · have hy := V.1
    obtain ⟨h1, a1, ⟨g, a2, a3⟩, a4, a5, a6, a7⟩ := t62 w.l56 H W Y V (by omega) (by omega) (n := y.1) (Nat.le_refl _)
    have Q1 : FQ h h1 := a2.q.tr a3.q56
    have wh := w.q Q1
    simp only [gT, nbeq, Option.isSome_some, Option.getD_some, Bool.and_true, Bool.true_and, Bool.and_self, mX_some, bS, bN_if, bN_01, i1_01, i0_01, if_true, if_false, Bool.false_eq_true, false_and, and_false, and_true, true_and, and_self, Bool.or_false, Bool.false_or, Bool.or_true, Bool.true_or, Bool.false_and, Bool.and_false, decide_true, decide_false, L0, L1, L2, L3, L4, L5, L6, L7, L8, L9, L10, L11, L12, L13, L14, L15, L16, L17, L18, L19, L20, L21, L22, L23, L24, L25, L27, L33, L39, L40, L45, L48, L57, L60, L72, L90, L97, L98, L99, L100, L121, L122, L242, L255, L256, L580, L600, L1000, L1584, L1000000, Ln1, iN_add, iN_and, iN_or, iN_nd, iN_shl, iN_shr, iN_cl, iN_in, iN_mul, Ln2, e1, e3, k56 w, r56_0 w, r56_2 w, k0 wh, r0_0 wh, r0_1 wh, r0_2 wh, r0_3 wh, r0_4 wh, r0_5 wh, r0_6 wh, r0_7 wh, r0_8 wh, k56 wh, r56_0 wh, r56_2 wh, Y.k, Y.n, a1]
    obtain ⟨C6, b1, b2, b3, b4, b5⟩ := a6
    cases hr : rg x3 (4 + 1) with
    | false =>
      have ne : ∀ t, t < 5 → x3 ≠ iN t := fun t ht e => by rw [e, rg_iN (by omega)] at hr; simp [ht] at hr
      have e : f166 h1 56 x3 = some wN := by
        unfold f166
        simp only [L0, L1, L2, L3, L4, Ln2]
        rw [if_neg (ne 0 (by omega)), if_neg (ne 1 (by omega)), if_neg (ne 2 (by omega)), if_neg (ne 3 (by omega)), if_neg (ne 4 (by omega))]
        simp only [gT, nbeq, Option.isSome_some, Option.getD_some, Bool.and_true, Bool.true_and, Bool.and_self, mX_some, bS, bN_if, bN_01, i1_01, i0_01, if_true, if_false, Bool.false_eq_true, false_and, and_false, and_true, true_and, and_self, Bool.or_false, Bool.false_or, Bool.or_true, Bool.true_or, Bool.false_and, Bool.and_false, decide_true, decide_false]
      simp only [gT, nbeq, Option.isSome_some, Option.getD_some, Bool.and_true, Bool.true_and, Bool.and_self, mX_some, bS, bN_if, bN_01, i1_01, i0_01, if_true, if_false, Bool.false_eq_true, false_and, and_false, and_true, true_and, and_self, Bool.or_false, Bool.false_or, Bool.or_true, Bool.true_or, Bool.false_and, Bool.and_false, decide_true, decide_false, e]
      refine ⟨_, _, rfl, Q1, fun h0 F => ?_⟩
      have w0 := R.1.q F
      obtain ⟨h', g1, g2, g3, g4, g5⟩ := e2 _ F.co
      unfold f293 f293_23
      simp (disch := omega) only [gT, nbeq, Option.isSome_some, Option.getD_some, Bool.and_true, Bool.true_and, Bool.and_self, mX_some, bS, bN_if, bN_01, i1_01, i0_01, if_true, if_false, Bool.false_eq_true, false_and, and_false, and_true, true_and, and_self, Bool.or_false, Bool.false_or, Bool.or_true, Bool.true_or, Bool.false_and, Bool.and_false, decide_true, decide_false, L0, L1, L2, L3, L4, L5, L6, L7, L8, L9, L10, L11, L12, L13, L14, L15, L16, L17, L18, L19, L20, L21, L22, L23, L24, L25, L27, L33, L39, L40, L45, L48, L57, L60, L72, L90, L97, L98, L99, L100, L121, L122, L242, L255, L256, L580, L600, L1000, L1584, L1000000, Ln1, iN_add, iN_and, iN_or, iN_nd, iN_shl, iN_shr, iN_cl, iN_in, iN_mul, Ln2, k193 w0, r193_1 w0, r193_2 w0, r193_3 w0, r193_4 w0, r193_5 w0, r193_6 w0, r193_7 w0, r193_8 w0, r193_18 w0, r193_19 w0, r193_32 w0, r193_33 w0, r193_34 w0, r193_36 w0, r193_38 w0, r193_39 w0, r193_40 w0, r193_42 w0, r193_45 w0, r193_46 w0, r193_47 w0, r193_48 w0, r193_49 w0, r193_50 w0, g1, t179r, hr]
      exact ⟨_, rfl, FQ.c0.tr g2⟩
    | true =>
      obtain ⟨v, hv, rfl, _⟩ := rg_t hr
      have e : f166 h1 56 (iN v) = some (outX (runX q y y.1 0 (x0 q)).2 v) := by
        unfold f166 outX
        have c9 : mI h1 56 9 = iN (sFg (runX q y y.1 0 (x0 q)).2.1) := C6.2.2.2.2.2.2.2
        have : v = 0 ∨ v = 1 ∨ v = 2 ∨ v = 3 ∨ v = 4 := by omega
        rcases this with rfl | rfl | rfl | rfl | rfl
        all_goals simp (disch := omega) only [gT, nbeq, Option.isSome_some, Option.getD_some, Bool.and_true, Bool.true_and, Bool.and_self, mX_some, bS, bN_if, bN_01, i1_01, i0_01, if_true, if_false, Bool.false_eq_true, false_and, and_false, and_true, true_and, and_self, Bool.or_false, Bool.false_or, Bool.or_true, Bool.true_or, Bool.false_and, Bool.and_false, decide_true, decide_false, L0, L1, L2, L3, L4, L5, L6, L7, L8, L9, L10, L11, L12, L13, L14, L15, L16, L17, L18, L19, L20, L21, L22, L23, L24, L25, L27, L33, L39, L40, L45, L48, L57, L60, L72, L90, L97, L98, L99, L100, L121, L122, L242, L255, L256, L580, L600, L1000, L1584, L1000000, Ln1, iN_add, iN_and, iN_or, iN_nd, iN_shl, iN_shr, iN_cl, iN_in, iN_mul, ile_p, ile_n, ilt_p, ilt_n, ieq_p, ieq_n, ij_n, jj_p, ijle, jile, ijlt, jilt, k56 wh, r56_0 wh, r56_2 wh, b1, b3, b4, b5, c9]
        all_goals rfl
      simp only [gT, nbeq, Option.isSome_some, Option.getD_some, Bool.and_true, Bool.true_and, Bool.and_self, mX_some, bS, bN_if, bN_01, i1_01, i0_01, if_true, if_false, Bool.false_eq_true, false_and, and_false, and_true, true_and, and_self, Bool.or_false, Bool.false_or, Bool.or_true, Bool.true_or, Bool.false_and, Bool.and_false, decide_true, decide_false, e]
      refine ⟨_, _, rfl, Q1, fun h0 F => ?_⟩
      have w0 := R.1.q F
      obtain ⟨h', g1, g2, g3, g4, g5⟩ := e2 _ F.co
      obtain ⟨h2, c1, c2⟩ := after_loop g3 W g5 V g4 hv
      unfold f293
      simp (disch := omega) only [gT, nbeq, Option.isSome_some, Option.getD_some, Bool.and_true, Bool.true_and, Bool.and_self, mX_some, bS, bN_if, bN_01, i1_01, i0_01, if_true, if_false, Bool.false_eq_true, false_and, and_false, and_true, true_and, and_self, Bool.or_false, Bool.false_or, Bool.or_true, Bool.true_or, Bool.false_and, Bool.and_false, decide_true, decide_false, L0, L1, L2, L3, L4, L5, L6, L7, L8, L9, L10, L11, L12, L13, L14, L15, L16, L17, L18, L19, L20, L21, L22, L23, L24, L25, L27, L33, L39, L40, L45, L48, L57, L60, L72, L90, L97, L98, L99, L100, L121, L122, L242, L255, L256, L580, L600, L1000, L1584, L1000000, Ln1, iN_add, iN_and, iN_or, iN_nd, iN_shl, iN_shr, iN_cl, iN_in, iN_mul, Ln2, k193 w0, r193_1 w0, r193_2 w0, r193_3 w0, r193_4 w0, r193_5 w0, r193_6 w0, r193_7 w0, r193_8 w0, r193_18 w0, r193_19 w0, r193_32 w0, r193_33 w0, r193_34 w0, r193_36 w0, r193_38 w0, r193_39 w0, r193_40 w0, r193_42 w0, r193_45 w0, r193_46 w0, r193_47 w0, r193_48 w0, r193_49 w0, r193_50 w0, g1, t179r, hr, c1]
      exact ⟨_, rfl, (FQ.c0.tr g2).tr c2.1.qM⟩
end PB
