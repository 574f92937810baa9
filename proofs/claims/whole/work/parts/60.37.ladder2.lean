/-! ladder: the class's programs -/
def pY (b : Nat) : Bool := Nat.beq b 80 || Nat.beq b 81 || Nat.beq b 84
theorem pY_C : ∀ b, pY b = true → pC b = true := by
  intro b hb
  unfold pY at hb
  simp only [Bool.or_eq_true] at hb
  rcases hb with (hb | hb) | hb
  all_goals rw [Nat.eq_of_beq_eq_true hb]; decide
theorem pY_n : ∀ b, b < 80 → pY b = false := by decide +kernel
section LC
variable {h : mH} {la : Nat} {q : LQ} {V : Nat → Nat} {M : Nat} {Y : Nat → Option Nat} {X : Nat → Nat × (Nat → Nat)}
theorem t147 (w : Wd h) (H : LibS h la q) (W : QW q) (p : la + 7 ≤ 37) (A : lad q V M Y) (e1 : mI h 80 1 = iN M) (eV : ∀ c, c < q 0 0 → mI h 84 c = iN (V c)) : ∃ h', f147 h 80 la = some ((), h') ∧ Fr (fun b => Nat.beq b 81) h h' ∧ ∀ j, j < M → ∃ x, x < q 0 0 ∧ Y (j + 1) = some x ∧ mI h' 81 j = iN x := by
  have hn := W.1.1
  have hM := A.2.2.1
  have hY0 := A.2.2.2.1
  have hYs := A.2.2.2.2
  have pn : ∀ i, i < 7 → (fun b => Nat.beq b 81) (la + i) = false := fun i hi => by
    show Nat.beq (la + i) 81 = false
    cases e : Nat.beq (la + i) 81 with
    | false => rfl
    | true => have := Nat.eq_of_beq_eq_true e; omega
  unfold f147
  simp only [L0, L1, L2, L3, L4, L5, L6, L7, L8, L9, L10, L11, L12, L13, L14, L15, L16, L17, L18, L19, L20, L21, L22, L23, L24, L25, L27, L33, L39, L40, L45, L48, L57, L60, L72, L90, L97, L98, L99, L100, L121, L122, L242, L255, L256, L580, L600, L1000, L1584, L1000000, Ln1, iN_add, iN_and, iN_or, iN_nd, iN_shl, iN_shr, iN_cl, iN_in, iN_mul]
  have := lp_inv (body := f147_4 80 la) (P := fun c z => ∃ a, z.1 = iN a ∧ z.2.1 = iN c ∧ Fr (fun b => Nat.beq b 81) h z.2.2 ∧ a ≤ M ∧ (∀ j, j < a → ∃ x, x < q 0 0 ∧ Y (j + 1) = some x ∧ mI z.2.2 81 j = iN x) ∧ ∀ c', c' < c → lok q V M a (Y a) c' = false) (Q := fun r => Fr (fun b => Nat.beq b 81) h r.2 ∧ ∀ j, j < M → ∃ x, x < q 0 0 ∧ Y (j + 1) = some x ∧ mI r.2 81 j = iN x) (q 0 0) (fun c z hc hP => by
    obtain ⟨u1, u2, u3⟩ := z
    obtain ⟨a, z1, z2, z3, z4, z5, z6⟩ := hP
    have z1 : u1 = iN a := z1
    have z2 : u2 = iN c := z2
    have z3 : Fr (fun b => Nat.beq b 81) h u3 := z3
    have z5 : ∀ j, j < a → ∃ x, x < q 0 0 ∧ Y (j + 1) = some x ∧ mI u3 81 j = iN x := z5
    subst z1 z2
    have w2 := w.fr z3
    have H2 := H.fr z3 pn
    have f1 : mI u3 80 1 = iN M := (z3.i (by decide) _).trans e1
    have f2 : mI u3 84 c = iN (V c) := (z3.i (by decide) _).trans (eV c hc)
    have hV := (A.1 c hc).2.2.2
    have h3 := W.2.2.2.2.1 c (by omega)
    have h8 := pw_8 (show c ≤ 8 by omega)
    by_cases ea : M ≤ a
    · right
      have : a = M := by omega
      subst this
      refine ⟨((), u3), ?_, z3, z5⟩
      unfold f147_4 f147_87
      simp (disch := omega) only [gT, nbeq, Option.isSome_some, Option.getD_some, Bool.and_true, Bool.true_and, Bool.and_self, mX_some, bS, bN_if, bN_01, i1_01, i0_01, if_true, if_false, Bool.false_eq_true, false_and, and_false, and_true, true_and, and_self, Bool.or_false, Bool.false_or, Bool.or_true, Bool.true_or, Bool.false_and, Bool.and_false, decide_true, decide_false, L0, L1, L2, L3, L4, L5, L6, L7, L8, L9, L10, L11, L12, L13, L14, L15, L16, L17, L18, L19, L20, L21, L22, L23, L24, L25, L27, L33, L39, L40, L45, L48, L57, L60, L72, L90, L97, L98, L99, L100, L121, L122, L242, L255, L256, L580, L600, L1000, L1584, L1000000, Ln1, iN_add, iN_and, iN_or, iN_nd, iN_shl, iN_shr, iN_cl, iN_in, iN_mul, k80 w2, r80_0 w2, r80_4 w2, r80_5 w2, r80_6 w2, H2.k, H2.r0, H2.r1, H2.r2, H2.r3, H2.r4, H2.r5, H2.k1, H2.k2, H2.k3, H2.k4, H2.k5, H2.k6, H2.n, H2.m, H2.lp, H2.hr, H2.tp, H2.ln, H2.lk, H2.me, H2.he, ile_n, ile_p, f1]
    · left
      have key : f147_4 80 la (iN a, iN c, u3) = f147_49 u3 80 la (iN a) (iN c) (bN (match Y a with
          | none => true
          | some x => (q 3 c).testBit x)) := by
        unfold f147_4
        cases a with
        | zero =>
          simp (disch := omega) only [gT, nbeq, Option.isSome_some, Option.getD_some, Bool.and_true, Bool.true_and, Bool.and_self, mX_some, bS, bN_if, bN_01, i1_01, i0_01, if_true, if_false, Bool.false_eq_true, false_and, and_false, and_true, true_and, and_self, Bool.or_false, Bool.false_or, Bool.or_true, Bool.true_or, Bool.false_and, Bool.and_false, decide_true, decide_false, L0, L1, L2, L3, L4, L5, L6, L7, L8, L9, L10, L11, L12, L13, L14, L15, L16, L17, L18, L19, L20, L21, L22, L23, L24, L25, L27, L33, L39, L40, L45, L48, L57, L60, L72, L90, L97, L98, L99, L100, L121, L122, L242, L255, L256, L580, L600, L1000, L1584, L1000000, Ln1, iN_add, iN_and, iN_or, iN_nd, iN_shl, iN_shr, iN_cl, iN_in, iN_mul, k80 w2, r80_0 w2, r80_4 w2, r80_5 w2, r80_6 w2, H2.k, H2.r0, H2.r1, H2.r2, H2.r3, H2.r4, H2.r5, H2.k1, H2.k2, H2.k3, H2.k4, H2.k5, H2.k6, H2.n, H2.m, H2.lp, H2.hr, H2.tp, H2.ln, H2.lk, H2.me, H2.he, ile_n, f1, hY0]
          unfold f147_44
          rfl
        | succ a =>
          obtain ⟨x, hx, ex, ex2⟩ := z5 a (by omega)
          simp (disch := omega) only [gT, nbeq, Option.isSome_some, Option.getD_some, Bool.and_true, Bool.true_and, Bool.and_self, mX_some, bS, bN_if, bN_01, i1_01, i0_01, if_true, if_false, Bool.false_eq_true, false_and, and_false, and_true, true_and, and_self, Bool.or_false, Bool.false_or, Bool.or_true, Bool.true_or, Bool.false_and, Bool.and_false, decide_true, decide_false, L0, L1, L2, L3, L4, L5, L6, L7, L8, L9, L10, L11, L12, L13, L14, L15, L16, L17, L18, L19, L20, L21, L22, L23, L24, L25, L27, L33, L39, L40, L45, L48, L57, L60, L72, L90, L97, L98, L99, L100, L121, L122, L242, L255, L256, L580, L600, L1000, L1584, L1000000, Ln1, iN_add, iN_and, iN_or, iN_nd, iN_shl, iN_shr, iN_cl, iN_in, iN_mul, k80 w2, r80_0 w2, r80_4 w2, r80_5 w2, r80_6 w2, k81 w2, H2.k, H2.r0, H2.r1, H2.r2, H2.r3, H2.r4, H2.r5, H2.k1, H2.k2, H2.k3, H2.k4, H2.k5, H2.k6, H2.n, H2.m, H2.lp, H2.hr, H2.tp, H2.ln, H2.lk, H2.me, H2.he, ile_n, ieq_n, f1, ex, iN_sub, Nat.add_sub_cancel, ex2, t71]
          cases (q 3 c).testBit x <;> simp only [gT, nbeq, Option.isSome_some, Option.getD_some, Bool.and_true, Bool.true_and, Bool.and_self, mX_some, bS, bN_if, bN_01, i1_01, i0_01, if_true, if_false, Bool.false_eq_true, false_and, and_false, and_true, true_and, and_self, Bool.or_false, Bool.false_or, Bool.or_true, Bool.true_or, Bool.false_and, Bool.and_false, decide_true, decide_false, f147_44] <;> rfl
      rw [key]
      unfold f147_49 f147_81
      have el : lok q V M a (Y a) c = (decide (V c = M - a) && (match Y a with
          | none => true
          | some x => (q 3 c).testBit x)) := rfl
      generalize (match Y a with
          | none => true
          | some x => (q 3 c).testBit x) = bb at el
      cases bb with
      | false =>
        refine ⟨(iN a, iN (c + 1), u3), ?_, a, rfl, rfl, z3, z4, z5, fun c' h1 => ?_⟩
        · simp only [gT, nbeq, Option.isSome_some, Option.getD_some, Bool.and_true, Bool.true_and, Bool.and_self, mX_some, bS, bN_if, bN_01, i1_01, i0_01, if_true, if_false, Bool.false_eq_true, false_and, and_false, and_true, true_and, and_self, Bool.or_false, Bool.false_or, Bool.or_true, Bool.true_or, Bool.false_and, Bool.and_false, decide_true, decide_false, L0, L1, L2, L3, L4, L5, L6, L7, L8, L9, L10, L11, L12, L13, L14, L15, L16, L17, L18, L19, L20, L21, L22, L23, L24, L25, L27, L33, L39, L40, L45, L48, L57, L60, L72, L90, L97, L98, L99, L100, L121, L122, L242, L255, L256, L580, L600, L1000, L1584, L1000000, Ln1, iN_add, iN_and, iN_or, iN_nd, iN_shl, iN_shr, iN_cl, iN_in, iN_mul]
        · by_cases e : c' = c
          · rw [e, el, Bool.and_false]
          · exact z6 c' (by omega)
      | true =>
        by_cases ev : V c = M - a
        · have hl : lok q V M a (Y a) c = true := by rw [el, decide_eq_true ev]; rfl
          have hy : Y (a + 1) = some c := by
            rw [hYs a]
            exact fz_first hl _ _ (Nat.zero_le _) (by omega) (fun j _ h2 => z6 j h2)
          refine ⟨(iN (a + 1), iN (c + 1), mSI u3 81 a (iN c)), ?_, a + 1, rfl, rfl, z3.si (by decide), by omega, fun j h1 => ?_, fun c' h1 => ?_⟩
          · simp (disch := omega) only [gT, nbeq, Option.isSome_some, Option.getD_some, Bool.and_true, Bool.true_and, Bool.and_self, mX_some, bS, bN_if, bN_01, i1_01, i0_01, if_true, if_false, Bool.false_eq_true, false_and, and_false, and_true, true_and, and_self, Bool.or_false, Bool.false_or, Bool.or_true, Bool.true_or, Bool.false_and, Bool.and_false, decide_true, decide_false, L0, L1, L2, L3, L4, L5, L6, L7, L8, L9, L10, L11, L12, L13, L14, L15, L16, L17, L18, L19, L20, L21, L22, L23, L24, L25, L27, L33, L39, L40, L45, L48, L57, L60, L72, L90, L97, L98, L99, L100, L121, L122, L242, L255, L256, L580, L600, L1000, L1584, L1000000, Ln1, iN_add, iN_and, iN_or, iN_nd, iN_shl, iN_shr, iN_cl, iN_in, iN_mul, k80 w2, r80_0 w2, r80_4 w2, r80_5 w2, r80_6 w2, k81 w2, k84 w2, f1, f2, iN_sub, ieq_p]
          · by_cases e : j = a
            · subst e
              exact ⟨c, hc, hy, by simp (disch := omega) only [si_ne, si_nk, si_eq]⟩
            · obtain ⟨x, x1, x2, x3⟩ := z5 j (by omega)
              exact ⟨x, x1, x2, by simp (disch := omega) only [si_ne, si_nk, si_eq]; exact x3⟩
          · rw [hy]
            unfold lok
            have h4 := W.2.2.2.2.1 c' (by omega)
            have : (q 3 c').testBit c = false := Nat.testBit_lt_two_pow (Nat.lt_of_lt_of_le h4 (Nat.pow_le_pow_right (by omega) (by omega)))
            show (decide (V c' = M - (a + 1)) && (q 3 c').testBit c) = false
            rw [this, Bool.and_false]
        · refine ⟨(iN a, iN (c + 1), u3), ?_, a, rfl, rfl, z3, z4, z5, fun c' h1 => ?_⟩
          · simp (disch := omega) only [gT, nbeq, Option.isSome_some, Option.getD_some, Bool.and_true, Bool.true_and, Bool.and_self, mX_some, bS, bN_if, bN_01, i1_01, i0_01, if_true, if_false, Bool.false_eq_true, false_and, and_false, and_true, true_and, and_self, Bool.or_false, Bool.false_or, Bool.or_true, Bool.true_or, Bool.false_and, Bool.and_false, decide_true, decide_false, L0, L1, L2, L3, L4, L5, L6, L7, L8, L9, L10, L11, L12, L13, L14, L15, L16, L17, L18, L19, L20, L21, L22, L23, L24, L25, L27, L33, L39, L40, L45, L48, L57, L60, L72, L90, L97, L98, L99, L100, L121, L122, L242, L255, L256, L580, L600, L1000, L1584, L1000000, Ln1, iN_add, iN_and, iN_or, iN_nd, iN_shl, iN_shr, iN_cl, iN_in, iN_mul, k80 w2, r80_0 w2, r80_4 w2, r80_5 w2, r80_6 w2, k84 w2, f1, f2, iN_sub, ieq_n]
          · by_cases e : c' = c
            · rw [e, el, decide_eq_false ev]; rfl
            · exact z6 c' (by omega)) (fun z hP => by
    obtain ⟨u1, u2, u3⟩ := z
    obtain ⟨a, z1, z2, z3, z4, z5, z6⟩ := hP
    have z2 : u2 = iN (q 0 0) := z2
    have z3 : Fr (fun b => Nat.beq b 81) h u3 := z3
    have z5 : ∀ j, j < a → ∃ x, x < q 0 0 ∧ Y (j + 1) = some x ∧ mI u3 81 j = iN x := z5
    subst z2
    have H2 := H.fr z3 pn
    have : a = M := by
      refine Decidable.byContradiction (fun hne => ?_)
      exact lad_ne A (by omega) (fun j hj => by obtain ⟨x, x1, x2, _⟩ := z5 j hj; exact ⟨x, x1, x2⟩) z6
    subst this
    refine ⟨((), u3), ?_, z3, z5⟩
    unfold f147_4 f147_87
    simp (disch := omega) only [gT, nbeq, Option.isSome_some, Option.getD_some, Bool.and_true, Bool.true_and, Bool.and_self, mX_some, bS, bN_if, bN_01, i1_01, i0_01, if_true, if_false, Bool.false_eq_true, false_and, and_false, and_true, true_and, and_self, Bool.or_false, Bool.false_or, Bool.or_true, Bool.true_or, Bool.false_and, Bool.and_false, decide_true, decide_false, L0, L1, L2, L3, L4, L5, L6, L7, L8, L9, L10, L11, L12, L13, L14, L15, L16, L17, L18, L19, L20, L21, L22, L23, L24, L25, L27, L33, L39, L40, L45, L48, L57, L60, L72, L90, L97, L98, L99, L100, L121, L122, L242, L255, L256, L580, L600, L1000, L1584, L1000000, Ln1, iN_add, iN_and, iN_or, iN_nd, iN_shl, iN_shr, iN_cl, iN_in, iN_mul, H2.k, H2.r0, H2.r1, H2.r2, H2.r3, H2.r4, H2.r5, H2.k1, H2.k2, H2.k3, H2.k4, H2.k5, H2.k6, H2.n, H2.m, H2.lp, H2.hr, H2.tp, H2.ln, H2.lk, H2.me, H2.he, ile_p]) (by omega) (s := (iN 0, iN 0, h)) ⟨0, rfl, rfl, Fr.rfl, Nat.zero_le _, fun j hj => (by omega), fun c hc => by omega⟩
  obtain ⟨⟨⟨⟩, h'⟩, r1, r2, r3⟩ := this
  exact ⟨h', r1, r2, r3⟩
theorem t146i {c : Nat} (w : Wd h) (H : LibS h la q) (W : QW q) (p : la + 7 ≤ 37) (hc : c < q 0 0) (hM : M ≤ 8) (e1 : mI h 80 1 = iN M) (eV : ∀ j, c < j → j < q 0 0 → V j + j ≤ q 0 0 ∧ mI h 84 j = iN (V j)) : ∃ h', mLoop (f146_27 80 la (iN c)) mFuel (iN (c + 1), mSI h 84 c (iN 1)) = some (.inl (pN c, h')) ∧ Fr pY h h' ∧ mI h' 80 1 = iN (max M (lin q V c)) ∧ mI h' 84 c = iN (lin q V c) ∧ ∀ j, j ≠ c → mI h' 84 j = mI h 84 j := by
  have hn := W.1.1
  have hb := lin_b (q := q) (V := V) hc (fun j h1 h2 => (eV j h1 h2).1)
  have := lp_inv (body := f146_27 80 la (iN c)) (P := fun k z => z.1 = iN (c + 1 + k) ∧ Fr pY h z.2 ∧ mI z.2 80 1 = iN M ∧ mI z.2 84 c = iN (up (lgo q V c) k 1) ∧ ∀ j, j ≠ c → mI z.2 84 j = mI h 84 j) (Q := fun r => ∃ h', r = .inl (pN c, h') ∧ Fr pY h h' ∧ mI h' 80 1 = iN (max M (lin q V c)) ∧ mI h' 84 c = iN (lin q V c) ∧ ∀ j, j ≠ c → mI h' 84 j = mI h 84 j) (q 0 0 - (c + 1)) (fun k z hk hP => by
    obtain ⟨u1, u3⟩ := z
    obtain ⟨z1, z2, z3, z4, z5⟩ := hP
    have z1 : u1 = iN (c + 1 + k) := z1
    have z2 : Fr pY h u3 := z2
    have z3 : mI u3 80 1 = iN M := z3
    have z4 : mI u3 84 c = iN (up (lgo q V c) k 1) := z4
    have z5 : ∀ j, j ≠ c → mI u3 84 j = mI h 84 j := z5
    subst z1
    have w2 := w.fr z2
    have H2 := H.fr z2 (fun i hi => pY_n _ (by omega))
    have h3 := W.2.2.2.2.1 (c + 1 + k) (by omega)
    have h8 := pw_8 (show c + 1 + k ≤ 8 by omega)
    have hbk := hb k (by omega)
    obtain ⟨v1, v2⟩ := eV (c + 1 + k) (by omega) (by omega)
    have v3 : mI u3 84 (c + 1 + k) = iN (V (c + 1 + k)) := (z5 _ (by omega)).trans v2
    left
    cases eb : (q 3 (c + 1 + k)).testBit c with
    | false =>
      refine ⟨(iN (c + 1 + k + 1), u3), ?_, rfl, z2, z3, ?_, z5⟩
      · unfold f146_27 f146_71
        simp (disch := omega) only [gT, nbeq, Option.isSome_some, Option.getD_some, Bool.and_true, Bool.true_and, Bool.and_self, mX_some, bS, bN_if, bN_01, i1_01, i0_01, if_true, if_false, Bool.false_eq_true, false_and, and_false, and_true, true_and, and_self, Bool.or_false, Bool.false_or, Bool.or_true, Bool.true_or, Bool.false_and, Bool.and_false, decide_true, decide_false, L0, L1, L2, L3, L4, L5, L6, L7, L8, L9, L10, L11, L12, L13, L14, L15, L16, L17, L18, L19, L20, L21, L22, L23, L24, L25, L27, L33, L39, L40, L45, L48, L57, L60, L72, L90, L97, L98, L99, L100, L121, L122, L242, L255, L256, L580, L600, L1000, L1584, L1000000, Ln1, iN_add, iN_and, iN_or, iN_nd, iN_shl, iN_shr, iN_cl, iN_in, iN_mul, k80 w2, r80_0 w2, r80_4 w2, r80_5 w2, r80_6 w2, k84 w2, H2.k, H2.r0, H2.r1, H2.r2, H2.r3, H2.r4, H2.r5, H2.k1, H2.k2, H2.k3, H2.k4, H2.k5, H2.k6, H2.n, H2.m, H2.lp, H2.hr, H2.tp, H2.ln, H2.lk, H2.me, H2.he, ile_n, t71, eb]
      · show _ = iN (lgo q V c k (up (lgo q V c) k 1))
        rw [show lgo q V c k (up (lgo q V c) k 1) = up (lgo q V c) k 1 from by
          unfold lgo; rw [eb]; rfl]
        exact z4
    | true =>
      refine ⟨(iN (c + 1 + k + 1), mSI u3 84 c (iN (max (up (lgo q V c) k 1) (V (c + 1 + k) + 1)))), ?_, rfl, z2.si (by decide), ?_, ?_, fun j hj => ?_⟩
      · unfold f146_27 f146_71
        simp (disch := omega) only [gT, nbeq, Option.isSome_some, Option.getD_some, Bool.and_true, Bool.true_and, Bool.and_self, mX_some, bS, bN_if, bN_01, i1_01, i0_01, if_true, if_false, Bool.false_eq_true, false_and, and_false, and_true, true_and, and_self, Bool.or_false, Bool.false_or, Bool.or_true, Bool.true_or, Bool.false_and, Bool.and_false, decide_true, decide_false, L0, L1, L2, L3, L4, L5, L6, L7, L8, L9, L10, L11, L12, L13, L14, L15, L16, L17, L18, L19, L20, L21, L22, L23, L24, L25, L27, L33, L39, L40, L45, L48, L57, L60, L72, L90, L97, L98, L99, L100, L121, L122, L242, L255, L256, L580, L600, L1000, L1584, L1000000, Ln1, iN_add, iN_and, iN_or, iN_nd, iN_shl, iN_shr, iN_cl, iN_in, iN_mul, k80 w2, r80_0 w2, r80_4 w2, r80_5 w2, r80_6 w2, k84 w2, H2.k, H2.r0, H2.r1, H2.r2, H2.r3, H2.r4, H2.r5, H2.k1, H2.k2, H2.k3, H2.k4, H2.k5, H2.k6, H2.n, H2.m, H2.lp, H2.hr, H2.tp, H2.ln, H2.lk, H2.me, H2.he, ile_n, t71, eb, z4, v3, imax]
      · simp (disch := omega) only [si_ne, si_nk, si_eq]; exact z3
      · show _ = iN (lgo q V c k (up (lgo q V c) k 1))
        rw [show lgo q V c k (up (lgo q V c) k 1) = max (up (lgo q V c) k 1) (V (c + 1 + k) + 1) from by
          show (if (q 3 (c + 1 + k)).testBit c = true then max (up (lgo q V c) k 1) (V (c + 1 + k) + 1) else up (lgo q V c) k 1) = _
          rw [if_pos eb]]
        simp (disch := omega) only [si_ne, si_nk, si_eq]
      · simp (disch := omega) only [si_ne, si_nk, si_eq]; exact z5 j hj) (fun z hP => by
    obtain ⟨u1, u3⟩ := z
    obtain ⟨z1, z2, z3, z4, z5⟩ := hP
    have z1 : u1 = iN (c + 1 + (q 0 0 - (c + 1))) := z1
    have z2 : Fr pY h u3 := z2
    have z3 : mI u3 80 1 = iN M := z3
    have z4 : mI u3 84 c = iN (lin q V c) := z4
    have z5 : ∀ j, j ≠ c → mI u3 84 j = mI h 84 j := z5
    rw [show c + 1 + (q 0 0 - (c + 1)) = q 0 0 by omega] at z1
    subst z1
    have w2 := w.fr z2
    have H2 := H.fr z2 (fun i hi => pY_n _ (by omega))
    have y4 : mI u3 84 c = iN (lin q V c) := z4
    have hbk := hb _ (Nat.le_refl _)
    change 1 ≤ lin q V c ∧ lin q V c + c ≤ q 0 0 at hbk
    refine ⟨.inl (pN c, mSI u3 80 1 (iN (max M (lin q V c)))), ?_, mSI u3 80 1 (iN (max M (lin q V c))), rfl, z2.si (by decide), ?_, ?_, fun j hj => ?_⟩
    · unfold f146_27 f146_94
      simp (disch := omega) only [gT, nbeq, Option.isSome_some, Option.getD_some, Bool.and_true, Bool.true_and, Bool.and_self, mX_some, bS, bN_if, bN_01, i1_01, i0_01, if_true, if_false, Bool.false_eq_true, false_and, and_false, and_true, true_and, and_self, Bool.or_false, Bool.false_or, Bool.or_true, Bool.true_or, Bool.false_and, Bool.and_false, decide_true, decide_false, L0, L1, L2, L3, L4, L5, L6, L7, L8, L9, L10, L11, L12, L13, L14, L15, L16, L17, L18, L19, L20, L21, L22, L23, L24, L25, L27, L33, L39, L40, L45, L48, L57, L60, L72, L90, L97, L98, L99, L100, L121, L122, L242, L255, L256, L580, L600, L1000, L1584, L1000000, Ln1, iN_add, iN_and, iN_or, iN_nd, iN_shl, iN_shr, iN_cl, iN_in, iN_mul, k80 w2, r80_0 w2, r80_4 w2, r80_5 w2, r80_6 w2, k84 w2, H2.k, H2.r0, H2.r1, H2.r2, H2.r3, H2.r4, H2.r5, H2.k1, H2.k2, H2.k3, H2.k4, H2.k5, H2.k6, H2.n, H2.m, H2.lp, H2.hr, H2.tp, H2.ln, H2.lk, H2.me, H2.he, ile_p, z3, y4, imax, iN_pj]
    · simp (disch := omega) only [si_ne, si_nk, si_eq]
    · simp (disch := omega) only [si_ne, si_nk, si_eq]; exact z4
    · simp (disch := omega) only [si_ne, si_nk, si_eq]; exact z5 j hj) (by omega) (s := (iN (c + 1), mSI h 84 c (iN 1))) ⟨rfl, Fr.rfl.si (by decide), (by simp (disch := omega) only [si_ne, si_nk, si_eq]; exact e1), (by simp (disch := omega) only [si_ne, si_nk, si_eq]; rfl), fun j hj => by simp (disch := omega) only [si_ne, si_nk, si_eq]⟩
  obtain ⟨r, r1, h', rfl, r2⟩ := this
  exact ⟨h', r1, r2⟩
theorem t146 (w : Wd h) (H : LibS h la q) (W : QW q) (p : la + 7 ≤ 37) (X0 : X 0 = (0, fun _ => 0)) (Xs : ∀ i, X (i + 1) = lst q (q 0 0 - (i + 1)) (X i)) (A : lad q (X (q 0 0)).2 (X (q 0 0)).1 Y) : ∃ h', f146 h 80 la = some ((), h') ∧ Fr pY h h' ∧ mI h' 80 1 = iN (X (q 0 0)).1 ∧ ∀ j, j < (X (q 0 0)).1 → ∃ x, x < q 0 0 ∧ Y (j + 1) = some x ∧ mI h' 81 j = iN x := by
  have hn := W.1.1
  have hok := lad_ok X0 Xs
  have H1 : LibS (mSI h 80 1 (iN 0)) la q := H.fr (P := pY) (Fr.rfl.si (by decide)) (fun i hi => pY_n _ (by omega))
  unfold f146
  simp (disch := omega) only [gT, nbeq, Option.isSome_some, Option.getD_some, Bool.and_true, Bool.true_and, Bool.and_self, mX_some, bS, bN_if, bN_01, i1_01, i0_01, if_true, if_false, Bool.false_eq_true, false_and, and_false, and_true, true_and, and_self, Bool.or_false, Bool.false_or, Bool.or_true, Bool.true_or, Bool.false_and, Bool.and_false, decide_true, decide_false, L0, L1, L2, L3, L4, L5, L6, L7, L8, L9, L10, L11, L12, L13, L14, L15, L16, L17, L18, L19, L20, L21, L22, L23, L24, L25, L27, L33, L39, L40, L45, L48, L57, L60, L72, L90, L97, L98, L99, L100, L121, L122, L242, L255, L256, L580, L600, L1000, L1584, L1000000, Ln1, iN_add, iN_and, iN_or, iN_nd, iN_shl, iN_shr, iN_cl, iN_in, iN_mul, k80 w, r80_0 w, r80_4 w, r80_5 w, r80_6 w, H.k, H1.n, iN_p]
  have := lp_inv (body := f146_12 80 la) (P := fun i z => z.1 = pN (q 0 0 - i) ∧ Fr pY h z.2 ∧ mI z.2 80 1 = iN (X i).1 ∧ ∀ j, q 0 0 - i ≤ j → j < q 0 0 → mI z.2 84 j = iN ((X i).2 j)) (Q := fun r => Fr pY h r.2 ∧ mI r.2 80 1 = iN (X (q 0 0)).1 ∧ ∀ j, j < (X (q 0 0)).1 → ∃ x, x < q 0 0 ∧ Y (j + 1) = some x ∧ mI r.2 81 j = iN x) (q 0 0) (fun i z hi hP => by
    obtain ⟨u1, u3⟩ := z
    obtain ⟨z1, z2, z3, z4⟩ := hP
    have z1 : u1 = pN (q 0 0 - i) := z1
    have z2 : Fr pY h u3 := z2
    have z3 : mI u3 80 1 = iN (X i).1 := z3
    have z4 : ∀ j, q 0 0 - i ≤ j → j < q 0 0 → mI u3 84 j = iN ((X i).2 j) := z4
    obtain ⟨c, hc⟩ : ∃ c, q 0 0 - i = c + 1 := ⟨q 0 0 - i - 1, by omega⟩
    have hc2 : q 0 0 - (i + 1) = c := by omega
    rw [hc, pN_s] at z1
    subst z1
    have w2 := w.fr z2
    have H2 := H.fr z2 (fun i hi => pY_n _ (by omega))
    obtain ⟨o1, o2⟩ := hok i (by omega)
    have hM : (X i).1 ≤ 8 := by
      rcases o2 with o2 | ⟨c', k1, k2, k3⟩
      · omega
      · have := (o1 c' k1 k2).2.2.2
        omega
    obtain ⟨h', b1, b2, b3, b4, b5⟩ := t146i (c := c) (V := (X i).2) w2 H2 W p (by omega) hM z3 (fun j h1 h2 => ⟨(o1 j (by omega) h2).2.2.2, z4 j (by omega) h2⟩)
    left
    rw [Xs i, hc2]
    refine ⟨(pN c, h'), ?_, rfl, z2.tr b2, b3, fun j h1 h2 => ?_⟩
    · unfold f146_12
      simp (disch := omega) only [gT, nbeq, Option.isSome_some, Option.getD_some, Bool.and_true, Bool.true_and, Bool.and_self, mX_some, bS, bN_if, bN_01, i1_01, i0_01, if_true, if_false, Bool.false_eq_true, false_and, and_false, and_true, true_and, and_self, Bool.or_false, Bool.false_or, Bool.or_true, Bool.true_or, Bool.false_and, Bool.and_false, decide_true, decide_false, L0, L1, L2, L3, L4, L5, L6, L7, L8, L9, L10, L11, L12, L13, L14, L15, L16, L17, L18, L19, L20, L21, L22, L23, L24, L25, L27, L33, L39, L40, L45, L48, L57, L60, L72, L90, L97, L98, L99, L100, L121, L122, L242, L255, L256, L580, L600, L1000, L1584, L1000000, Ln1, iN_add, iN_and, iN_or, iN_nd, iN_shl, iN_shr, iN_cl, iN_in, iN_mul, k80 w2, r80_0 w2, r80_4 w2, r80_5 w2, r80_6 w2, k84 w2, ilt_n, b1]
    · show _ = iN (ud (X i).2 c (lin q (X i).2 c) j)
      by_cases e : j = c
      · subst e; rw [ud_eq]; exact b4
      · rw [ud_ne _ _ e, b5 j e]; exact z4 j (by omega) h2) (fun z hP => by
    obtain ⟨u1, u3⟩ := z
    obtain ⟨z1, z2, z3, z4⟩ := hP
    have z1 : u1 = pN (q 0 0 - q 0 0) := z1
    have z2 : Fr pY h u3 := z2
    have z3 : mI u3 80 1 = iN (X (q 0 0)).1 := z3
    have z4 : ∀ j, q 0 0 - q 0 0 ≤ j → j < q 0 0 → mI u3 84 j = iN ((X (q 0 0)).2 j) := z4
    rw [Nat.sub_self, pN_z] at z1
    subst z1
    have w2 := w.fr z2
    have H2 := H.fr z2 (fun i hi => pY_n _ (by omega))
    obtain ⟨h', b1, b2, b3⟩ := t147 w2 H2 W p A z3 (fun c hc => z4 c (by omega) hc)
    refine ⟨((), h'), ?_, z2.tr (b2.mono (fun b hb => by rw [Nat.eq_of_beq_eq_true hb]; decide)), (b2.i (by decide) _).trans z3, b3⟩
    unfold f146_12
    simp (disch := omega) only [gT, nbeq, Option.isSome_some, Option.getD_some, Bool.and_true, Bool.true_and, Bool.and_self, mX_some, bS, bN_if, bN_01, i1_01, i0_01, if_true, if_false, Bool.false_eq_true, false_and, and_false, and_true, true_and, and_self, Bool.or_false, Bool.false_or, Bool.or_true, Bool.true_or, Bool.false_and, Bool.and_false, decide_true, decide_false, L0, L1, L2, L3, L4, L5, L6, L7, L8, L9, L10, L11, L12, L13, L14, L15, L16, L17, L18, L19, L20, L21, L22, L23, L24, L25, L27, L33, L39, L40, L45, L48, L57, L60, L72, L90, L97, L98, L99, L100, L121, L122, L242, L255, L256, L580, L600, L1000, L1584, L1000000, Ln1, iN_add, iN_and, iN_or, iN_nd, iN_shl, iN_shr, iN_cl, iN_in, iN_mul, k80 w2, r80_0 w2, r80_4 w2, r80_5 w2, r80_6 w2, jilt, b1]) (by omega) (s := (pN (q 0 0), mSI h 80 1 (iN 0))) ⟨rfl, Fr.rfl.si (by decide), (by rw [X0]; simp (disch := omega) only [si_ne, si_nk, si_eq]), fun j h1 h2 => by omega⟩
  obtain ⟨⟨⟨⟩, h'⟩, r1, r2, r3, r4⟩ := this
  exact ⟨h', r1, r2, r3, r4⟩
end LC
