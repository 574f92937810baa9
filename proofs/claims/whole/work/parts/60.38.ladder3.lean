/-! ladder: the reference's, the call -/
section LR
variable {h : mH} {q : LQ} {V : Nat → Nat} {M : Nat} {Y : Nat → Option Nat} {X : Nat → Nat × (Nat → Nat)} {x2 : Int32}
theorem MoS.f6 {h' : mH} (H : MoS h q) (x : Fr (fun b => Nat.beq b 216) h h') : MoS h' q := by
  obtain ⟨v, h1, h2, s, h3, h4, h5⟩ := H
  exact ⟨v.fr x, (x.i (by decide) _).trans h1, (x.i (by decide) _).trans h2, s, h3, (x.i (by decide) _).trans h4, fun i hi => (x.i (by decide) _).trans (h5 i hi)⟩
theorem t282i {c : Nat} (H : MoS h q) (W : QW q) (hc : c < q 0 0) (hM : M ≤ 8) (eV : ∀ j, c < j → j < q 0 0 → V j + j ≤ q 0 0 ∧ mI h 216 j = iN (V j)) : ∃ h', mLoop (f282_44 193 x2 (iN M) (iN c)) mFuel (iN (c + 1), mSI h 216 c (iN 1)) = some (.inl (iN (max M (lin q V c)), pN c, h')) ∧ Fr (fun b => Nat.beq b 216) h h' ∧ mI h' 216 c = iN (lin q V c) ∧ ∀ j, j ≠ c → mI h' 216 j = mI h 216 j := by
  have hn := W.1.1
  have hb := lin_b (q := q) (V := V) hc (fun j h1 h2 => (eV j h1 h2).1)
  have := lp_inv (body := f282_44 193 x2 (iN M) (iN c)) (P := fun k z => z.1 = iN (c + 1 + k) ∧ Fr (fun b => Nat.beq b 216) h z.2 ∧ mI z.2 216 c = iN (up (lgo q V c) k 1) ∧ ∀ j, j ≠ c → mI z.2 216 j = mI h 216 j) (Q := fun r => ∃ h', r = .inl (iN (max M (lin q V c)), pN c, h') ∧ Fr (fun b => Nat.beq b 216) h h' ∧ mI h' 216 c = iN (lin q V c) ∧ ∀ j, j ≠ c → mI h' 216 j = mI h 216 j) (q 0 0 - (c + 1)) (fun k z hk hP => by
    obtain ⟨u1, u3⟩ := z
    obtain ⟨z1, z2, z4, z5⟩ := hP
    have z1 : u1 = iN (c + 1 + k) := z1
    subst z1
    have y2 : Fr (fun b => Nat.beq b 216) h u3 := z2
    have y4 : mI u3 216 c = iN (up (lgo q V c) k 1) := z4
    have y5 : ∀ j, j ≠ c → mI u3 216 j = mI h 216 j := z5
    have H2 := H.f6 y2
    have w2 := H2.1
    have h3 := W.2.2.2.2.1 (c + 1 + k) (by omega)
    have h8 := pw_8 (show c + 1 + k ≤ 8 by omega)
    have hbk := hb k (by omega)
    obtain ⟨v1, v2⟩ := eV (c + 1 + k) (by omega) (by omega)
    have v3 : mI u3 216 (c + 1 + k) = iN (V (c + 1 + k)) := (y5 _ (by omega)).trans v2
    have ec : 1 + V (c + 1 + k) = V (c + 1 + k) + 1 := by omega
    have e3 := fl3 (q := q) (k := c + 1 + k) (by omega)
    have e206 := t206 H2 (j := 19 + (c + 1 + k)) (by omega)
    rw [e3] at e206
    left
    cases eb : (q 3 (c + 1 + k)).testBit c with
    | false =>
      refine ⟨(iN (c + 1 + k + 1), mSI u3 216 c (iN (up (lgo q V c) k 1))), ?_, rfl, y2.si (by decide), ?_, fun j hj => ?_⟩
      · unfold f282_44 f282_105
        simp (disch := omega) only [gT, nbeq, Option.isSome_some, Option.getD_some, Bool.and_true, Bool.true_and, Bool.and_self, mX_some, bS, bN_if, bN_01, i1_01, i0_01, if_true, if_false, Bool.false_eq_true, false_and, and_false, and_true, true_and, and_self, Bool.or_false, Bool.false_or, Bool.or_true, Bool.true_or, Bool.false_and, Bool.and_false, decide_true, decide_false, L0, L1, L2, L3, L4, L5, L6, L7, L8, L9, L10, L11, L12, L13, L14, L15, L16, L17, L18, L19, L20, L21, L22, L23, L24, L25, L27, L33, L39, L40, L45, L48, L57, L60, L72, L90, L97, L98, L99, L100, L121, L122, L242, L255, L256, L580, L600, L1000, L1584, L1000000, Ln1, iN_add, iN_and, iN_or, iN_nd, iN_shl, iN_shr, iN_cl, iN_in, iN_mul, k193 w2, r193_1 w2, r193_2 w2, r193_3 w2, r193_4 w2, r193_5 w2, r193_6 w2, r193_7 w2, r193_8 w2, r193_18 w2, r193_19 w2, r193_32 w2, r193_33 w2, r193_34 w2, r193_36 w2, r193_38 w2, r193_39 w2, r193_40 w2, r193_42 w2, r193_45 w2, r193_46 w2, r193_47 w2, r193_48 w2, r193_49 w2, r193_50 w2, k216 w2, H2.n, ile_n, e206, t221, eb, y4]
      · show _ = iN (lgo q V c k (up (lgo q V c) k 1))
        rw [show lgo q V c k (up (lgo q V c) k 1) = up (lgo q V c) k 1 from by
          unfold lgo; rw [eb]; rfl]
        simp (disch := omega) only [si_ne, si_nk, si_eq]
      · simp (disch := omega) only [si_ne, si_nk, si_eq]; exact y5 j hj
    | true =>
      refine ⟨(iN (c + 1 + k + 1), mSI u3 216 c (iN (max (up (lgo q V c) k 1) (V (c + 1 + k) + 1)))), ?_, rfl, y2.si (by decide), ?_, fun j hj => ?_⟩
      · unfold f282_44 f282_105
        simp (disch := omega) only [gT, nbeq, Option.isSome_some, Option.getD_some, Bool.and_true, Bool.true_and, Bool.and_self, mX_some, bS, bN_if, bN_01, i1_01, i0_01, if_true, if_false, Bool.false_eq_true, false_and, and_false, and_true, true_and, and_self, Bool.or_false, Bool.false_or, Bool.or_true, Bool.true_or, Bool.false_and, Bool.and_false, decide_true, decide_false, L0, L1, L2, L3, L4, L5, L6, L7, L8, L9, L10, L11, L12, L13, L14, L15, L16, L17, L18, L19, L20, L21, L22, L23, L24, L25, L27, L33, L39, L40, L45, L48, L57, L60, L72, L90, L97, L98, L99, L100, L121, L122, L242, L255, L256, L580, L600, L1000, L1584, L1000000, Ln1, iN_add, iN_and, iN_or, iN_nd, iN_shl, iN_shr, iN_cl, iN_in, iN_mul, k193 w2, r193_1 w2, r193_2 w2, r193_3 w2, r193_4 w2, r193_5 w2, r193_6 w2, r193_7 w2, r193_8 w2, r193_18 w2, r193_19 w2, r193_32 w2, r193_33 w2, r193_34 w2, r193_36 w2, r193_38 w2, r193_39 w2, r193_40 w2, r193_42 w2, r193_45 w2, r193_46 w2, r193_47 w2, r193_48 w2, r193_49 w2, r193_50 w2, k216 w2, H2.n, ile_n, e206, t221, eb, y4, v3, t196, ec]
      · show _ = iN (lgo q V c k (up (lgo q V c) k 1))
        rw [show lgo q V c k (up (lgo q V c) k 1) = max (up (lgo q V c) k 1) (V (c + 1 + k) + 1) from by
          show (if (q 3 (c + 1 + k)).testBit c = true then max (up (lgo q V c) k 1) (V (c + 1 + k) + 1) else up (lgo q V c) k 1) = _
          rw [if_pos eb]]
        simp (disch := omega) only [si_ne, si_nk, si_eq]
      · simp (disch := omega) only [si_ne, si_nk, si_eq]; exact y5 j hj) (fun z hP => by
    obtain ⟨u1, u3⟩ := z
    obtain ⟨z1, z2, z4, z5⟩ := hP
    have z1 : u1 = iN (c + 1 + (q 0 0 - (c + 1))) := z1
    rw [show c + 1 + (q 0 0 - (c + 1)) = q 0 0 by omega] at z1
    subst z1
    have y2 : Fr (fun b => Nat.beq b 216) h u3 := z2
    have y4 : mI u3 216 c = iN (lin q V c) := z4
    have H2 := H.f6 y2
    have w2 := H2.1
    have hbk := hb _ (Nat.le_refl _)
    change 1 ≤ lin q V c ∧ lin q V c + c ≤ q 0 0 at hbk
    refine ⟨.inl (iN (max M (lin q V c)), pN c, u3), ?_, u3, rfl, y2, y4, z5⟩
    unfold f282_44
    simp (disch := omega) only [gT, nbeq, Option.isSome_some, Option.getD_some, Bool.and_true, Bool.true_and, Bool.and_self, mX_some, bS, bN_if, bN_01, i1_01, i0_01, if_true, if_false, Bool.false_eq_true, false_and, and_false, and_true, true_and, and_self, Bool.or_false, Bool.false_or, Bool.or_true, Bool.true_or, Bool.false_and, Bool.and_false, decide_true, decide_false, L0, L1, L2, L3, L4, L5, L6, L7, L8, L9, L10, L11, L12, L13, L14, L15, L16, L17, L18, L19, L20, L21, L22, L23, L24, L25, L27, L33, L39, L40, L45, L48, L57, L60, L72, L90, L97, L98, L99, L100, L121, L122, L242, L255, L256, L580, L600, L1000, L1584, L1000000, Ln1, iN_add, iN_and, iN_or, iN_nd, iN_shl, iN_shr, iN_cl, iN_in, iN_mul, k193 w2, r193_1 w2, r193_2 w2, r193_3 w2, r193_4 w2, r193_5 w2, r193_6 w2, r193_7 w2, r193_8 w2, r193_18 w2, r193_19 w2, r193_32 w2, r193_33 w2, r193_34 w2, r193_36 w2, r193_38 w2, r193_39 w2, r193_40 w2, r193_42 w2, r193_45 w2, r193_46 w2, r193_47 w2, r193_48 w2, r193_49 w2, r193_50 w2, k216 w2, H2.n, ile_p, y4, t196, iN_pj]) (by omega) (s := (iN (c + 1), mSI h 216 c (iN 1))) ⟨rfl, Fr.rfl.si (by decide), (by simp (disch := omega) only [si_ne, si_nk, si_eq]; rfl), fun j hj => by simp (disch := omega) only [si_ne, si_nk, si_eq]⟩
  obtain ⟨r, r1, h', rfl, r2⟩ := this
  exact ⟨h', r1, r2⟩
theorem lad_lt (A : lad q V M Y) {i a : Nat} (e : Y i = some a) : a < q 0 0 := by
  obtain ⟨_, _, _, a4, a5⟩ := A
  cases i with
  | zero => rw [a4] at e; cases e
  | succ i => rw [a5] at e; have := fz_lt e; omega
theorem t282p {k : Nat} (H : MoS h q) (W : QW q) (A : lad q V M Y) (hk : k < M) (eV : ∀ j, j < q 0 0 → mI h 216 j = iN (V j)) : mLoop (f282_163 h 193 (iN k) (iN M)) mFuel (jN, iN 0) = some (zN (Y (k + 1)), h) := by
  have hn := W.1.1
  have w := H.1
  have hM := A.2.2.1
  have hY0 := A.2.2.2.1
  have hYs := A.2.2.2.2
  have := lp_run (body := f282_163 h 193 (iN k) (iN M)) (fun i => (zN (Y i), iN i)) (k + 1) (r := (zN (Y (k + 1)), h)) (fun i hi => by
    unfold f282_163
    simp (disch := omega) only [gT, nbeq, Option.isSome_some, Option.getD_some, Bool.and_true, Bool.true_and, Bool.and_self, mX_some, bS, bN_if, bN_01, i1_01, i0_01, if_true, if_false, Bool.false_eq_true, false_and, and_false, and_true, true_and, and_self, Bool.or_false, Bool.false_or, Bool.or_true, Bool.true_or, Bool.false_and, Bool.and_false, decide_true, decide_false, L0, L1, L2, L3, L4, L5, L6, L7, L8, L9, L10, L11, L12, L13, L14, L15, L16, L17, L18, L19, L20, L21, L22, L23, L24, L25, L27, L33, L39, L40, L45, L48, L57, L60, L72, L90, L97, L98, L99, L100, L121, L122, L242, L255, L256, L580, L600, L1000, L1584, L1000000, Ln1, iN_add, iN_and, iN_or, iN_nd, iN_shl, iN_shr, iN_cl, iN_in, iN_mul, k193 w, r193_1 w, r193_2 w, r193_3 w, r193_4 w, r193_5 w, r193_6 w, r193_7 w, r193_8 w, r193_18 w, r193_19 w, r193_32 w, r193_33 w, r193_34 w, r193_36 w, r193_38 w, r193_39 w, r193_40 w, r193_42 w, r193_45 w, r193_46 w, r193_47 w, r193_48 w, r193_49 w, r193_50 w, H.n, ilt_n, iN_p]
    have ew : Y (i + 1) = dn (fun c (u : Option Nat) => if lok q V M i (Y i) c = true then some c else u) (q 0 0) none := by
      rw [hYs i, dn_fz]
      cases fz (lok q V M i (Y i)) (q 0 0) 0 <;> rfl
    rw [ew]
    refine lp_dn (body := f282_180 h 193 (iN k) (iN M) (zN (Y i)) (iN i)) (fun k (u : Option Nat) => (zN u, pN k)) (fun c (u : Option Nat) => if lok q V M i (Y i) c = true then some c else u) (fun u => Sum.inl (zN u, iN (i + 1))) (fun _ u => ∀ v, u = some v → v < 8) (q 0 0) (a0 := none) (fun v hv => by cases hv) (fun k u hk hu v hv => by
      by_cases e : lok q V M i (Y i) k = true
      · rw [if_pos e] at hv; cases hv; omega
      · rw [if_neg e] at hv; exact hu v hv) ?_ ?_ (by omega)
    · intro c u hc hu
      have hV := (A.1 c hc).2.2.2
      have h3 := W.2.2.2.2.1 c (by omega)
      have h8 := pw_8 (show c ≤ 8 by omega)
      have e206 := t206 H (j := 19 + c) (by omega)
      rw [fl3 (q := q) (k := c) (by omega)] at e206
      have e1 := eV c hc
      unfold f282_180 lok
      rw [pN_s]
      by_cases ev : V c = M - i
      · simp (disch := omega) only [gT, nbeq, Option.isSome_some, Option.getD_some, Bool.and_true, Bool.true_and, Bool.and_self, mX_some, bS, bN_if, bN_01, i1_01, i0_01, if_true, if_false, Bool.false_eq_true, false_and, and_false, and_true, true_and, and_self, Bool.or_false, Bool.false_or, Bool.or_true, Bool.true_or, Bool.false_and, Bool.and_false, decide_true, decide_false, L0, L1, L2, L3, L4, L5, L6, L7, L8, L9, L10, L11, L12, L13, L14, L15, L16, L17, L18, L19, L20, L21, L22, L23, L24, L25, L27, L33, L39, L40, L45, L48, L57, L60, L72, L90, L97, L98, L99, L100, L121, L122, L242, L255, L256, L580, L600, L1000, L1584, L1000000, Ln1, iN_add, iN_and, iN_or, iN_nd, iN_shl, iN_shr, iN_cl, iN_in, iN_mul, k193 w, r193_1 w, r193_2 w, r193_3 w, r193_4 w, r193_5 w, r193_6 w, r193_7 w, r193_8 w, r193_18 w, r193_19 w, r193_32 w, r193_33 w, r193_34 w, r193_36 w, r193_38 w, r193_39 w, r193_40 w, r193_42 w, r193_45 w, r193_46 w, r193_47 w, r193_48 w, r193_49 w, r193_50 w, k216 w, ilt_n, e1, iN_sub, ieq_p]
        rw [decide_eq_true ev]
        cases ey : Y i with
        | none =>
          unfold f282_222 f282_227 f282_241
          simp (disch := omega) only [zN_none, jj_p, gT, nbeq, Option.isSome_some, Option.getD_some, Bool.and_true, Bool.true_and, Bool.and_self, mX_some, bS, bN_if, bN_01, i1_01, i0_01, if_true, if_false, Bool.false_eq_true, false_and, and_false, and_true, true_and, and_self, Bool.or_false, Bool.false_or, Bool.or_true, Bool.true_or, Bool.false_and, Bool.and_false, decide_true, decide_false, L0, L1, L2, L3, L4, L5, L6, L7, L8, L9, L10, L11, L12, L13, L14, L15, L16, L17, L18, L19, L20, L21, L22, L23, L24, L25, L27, L33, L39, L40, L45, L48, L57, L60, L72, L90, L97, L98, L99, L100, L121, L122, L242, L255, L256, L580, L600, L1000, L1584, L1000000, Ln1, iN_add, iN_and, iN_or, iN_nd, iN_shl, iN_shr, iN_cl, iN_in, iN_mul, iN_pj]
          rfl
        | some a =>
          have ha := lad_lt A ey
          simp (disch := omega) only [zN_some, ij_n, gT, nbeq, Option.isSome_some, Option.getD_some, Bool.and_true, Bool.true_and, Bool.and_self, mX_some, bS, bN_if, bN_01, i1_01, i0_01, if_true, if_false, Bool.false_eq_true, false_and, and_false, and_true, true_and, and_self, Bool.or_false, Bool.false_or, Bool.or_true, Bool.true_or, Bool.false_and, Bool.and_false, decide_true, decide_false, L0, L1, L2, L3, L4, L5, L6, L7, L8, L9, L10, L11, L12, L13, L14, L15, L16, L17, L18, L19, L20, L21, L22, L23, L24, L25, L27, L33, L39, L40, L45, L48, L57, L60, L72, L90, L97, L98, L99, L100, L121, L122, L242, L255, L256, L580, L600, L1000, L1584, L1000000, Ln1, iN_add, iN_and, iN_or, iN_nd, iN_shl, iN_shr, iN_cl, iN_in, iN_mul, e206, t221]
          cases (q 3 c).testBit a with
          | false =>
            unfold f282_226 f282_227 f282_241
            simp (disch := omega) only [gT, nbeq, Option.isSome_some, Option.getD_some, Bool.and_true, Bool.true_and, Bool.and_self, mX_some, bS, bN_if, bN_01, i1_01, i0_01, if_true, if_false, Bool.false_eq_true, false_and, and_false, and_true, true_and, and_self, Bool.or_false, Bool.false_or, Bool.or_true, Bool.true_or, Bool.false_and, Bool.and_false, decide_true, decide_false, L0, L1, L2, L3, L4, L5, L6, L7, L8, L9, L10, L11, L12, L13, L14, L15, L16, L17, L18, L19, L20, L21, L22, L23, L24, L25, L27, L33, L39, L40, L45, L48, L57, L60, L72, L90, L97, L98, L99, L100, L121, L122, L242, L255, L256, L580, L600, L1000, L1584, L1000000, Ln1, iN_add, iN_and, iN_or, iN_nd, iN_shl, iN_shr, iN_cl, iN_in, iN_mul, iN_pj]
          | true =>
            unfold f282_222 f282_227 f282_241
            simp (disch := omega) only [gT, nbeq, Option.isSome_some, Option.getD_some, Bool.and_true, Bool.true_and, Bool.and_self, mX_some, bS, bN_if, bN_01, i1_01, i0_01, if_true, if_false, Bool.false_eq_true, false_and, and_false, and_true, true_and, and_self, Bool.or_false, Bool.false_or, Bool.or_true, Bool.true_or, Bool.false_and, Bool.and_false, decide_true, decide_false, L0, L1, L2, L3, L4, L5, L6, L7, L8, L9, L10, L11, L12, L13, L14, L15, L16, L17, L18, L19, L20, L21, L22, L23, L24, L25, L27, L33, L39, L40, L45, L48, L57, L60, L72, L90, L97, L98, L99, L100, L121, L122, L242, L255, L256, L580, L600, L1000, L1584, L1000000, Ln1, iN_add, iN_and, iN_or, iN_nd, iN_shl, iN_shr, iN_cl, iN_in, iN_mul, iN_pj]
            rfl
      · simp (disch := omega) only [gT, nbeq, Option.isSome_some, Option.getD_some, Bool.and_true, Bool.true_and, Bool.and_self, mX_some, bS, bN_if, bN_01, i1_01, i0_01, if_true, if_false, Bool.false_eq_true, false_and, and_false, and_true, true_and, and_self, Bool.or_false, Bool.false_or, Bool.or_true, Bool.true_or, Bool.false_and, Bool.and_false, decide_true, decide_false, L0, L1, L2, L3, L4, L5, L6, L7, L8, L9, L10, L11, L12, L13, L14, L15, L16, L17, L18, L19, L20, L21, L22, L23, L24, L25, L27, L33, L39, L40, L45, L48, L57, L60, L72, L90, L97, L98, L99, L100, L121, L122, L242, L255, L256, L580, L600, L1000, L1584, L1000000, Ln1, iN_add, iN_and, iN_or, iN_nd, iN_shl, iN_shr, iN_cl, iN_in, iN_mul, k193 w, r193_1 w, r193_2 w, r193_3 w, r193_4 w, r193_5 w, r193_6 w, r193_7 w, r193_8 w, r193_18 w, r193_19 w, r193_32 w, r193_33 w, r193_34 w, r193_36 w, r193_38 w, r193_39 w, r193_40 w, r193_42 w, r193_45 w, r193_46 w, r193_47 w, r193_48 w, r193_49 w, r193_50 w, k216 w, ilt_n, e1, iN_sub, ieq_n]
        rw [decide_eq_false ev]
        unfold f282_226 f282_227 f282_241
        simp (disch := omega) only [gT, nbeq, Option.isSome_some, Option.getD_some, Bool.and_true, Bool.true_and, Bool.and_self, mX_some, bS, bN_if, bN_01, i1_01, i0_01, if_true, if_false, Bool.false_eq_true, false_and, and_false, and_true, true_and, and_self, Bool.or_false, Bool.false_or, Bool.or_true, Bool.true_or, Bool.false_and, Bool.and_false, decide_true, decide_false, L0, L1, L2, L3, L4, L5, L6, L7, L8, L9, L10, L11, L12, L13, L14, L15, L16, L17, L18, L19, L20, L21, L22, L23, L24, L25, L27, L33, L39, L40, L45, L48, L57, L60, L72, L90, L97, L98, L99, L100, L121, L122, L242, L255, L256, L580, L600, L1000, L1584, L1000000, Ln1, iN_add, iN_and, iN_or, iN_nd, iN_shl, iN_shr, iN_cl, iN_in, iN_mul, iN_pj]
    · intro u hu
      unfold f282_180
      rw [pN_z]
      simp (disch := omega) only [gT, nbeq, Option.isSome_some, Option.getD_some, Bool.and_true, Bool.true_and, Bool.and_self, mX_some, bS, bN_if, bN_01, i1_01, i0_01, if_true, if_false, Bool.false_eq_true, false_and, and_false, and_true, true_and, and_self, Bool.or_false, Bool.false_or, Bool.or_true, Bool.true_or, Bool.false_and, Bool.and_false, decide_true, decide_false, L0, L1, L2, L3, L4, L5, L6, L7, L8, L9, L10, L11, L12, L13, L14, L15, L16, L17, L18, L19, L20, L21, L22, L23, L24, L25, L27, L33, L39, L40, L45, L48, L57, L60, L72, L90, L97, L98, L99, L100, L121, L122, L242, L255, L256, L580, L600, L1000, L1584, L1000000, Ln1, iN_add, iN_and, iN_or, iN_nd, iN_shl, iN_shr, iN_cl, iN_in, iN_mul, jilt]) (by
    unfold f282_163
    simp (disch := omega) only [gT, nbeq, Option.isSome_some, Option.getD_some, Bool.and_true, Bool.true_and, Bool.and_self, mX_some, bS, bN_if, bN_01, i1_01, i0_01, if_true, if_false, Bool.false_eq_true, false_and, and_false, and_true, true_and, and_self, Bool.or_false, Bool.false_or, Bool.or_true, Bool.true_or, Bool.false_and, Bool.and_false, decide_true, decide_false, L0, L1, L2, L3, L4, L5, L6, L7, L8, L9, L10, L11, L12, L13, L14, L15, L16, L17, L18, L19, L20, L21, L22, L23, L24, L25, L27, L33, L39, L40, L45, L48, L57, L60, L72, L90, L97, L98, L99, L100, L121, L122, L242, L255, L256, L580, L600, L1000, L1584, L1000000, Ln1, iN_add, iN_and, iN_or, iN_nd, iN_shl, iN_shr, iN_cl, iN_in, iN_mul, ilt_p]) (by omega)
  rw [hY0] at this
  exact this
theorem t282l (H : MoS h q) (W : QW q) (X0 : X 0 = (0, fun _ => 0)) (Xs : ∀ i, X (i + 1) = lst q (q 0 0 - (i + 1)) (X i)) (A : lad q (X (q 0 0)).2 (X (q 0 0)).1 Y) : ∃ r, mLoop (f282_25 193 x2) mFuel (iN 0, pN (q 0 0), h) = some r ∧ Fr (fun b => Nat.beq b 216) h r.2 ∧ (x2 = jN → r.1 = iN (X (q 0 0)).1) ∧ (x2 ≠ jN → rg x2 (X (q 0 0)).1 = false → r.1 = jN) ∧ ∀ k, x2 = iN k → k < (X (q 0 0)).1 → r.1 = zN (Y (k + 1)) := by
  have hn := W.1.1
  have hok := lad_ok X0 Xs
  have hMn := A.2.2.1
  refine lp_inv (body := f282_25 193 x2) (P := fun i z => z.1 = iN (X i).1 ∧ z.2.1 = pN (q 0 0 - i) ∧ Fr (fun b => Nat.beq b 216) h z.2.2 ∧ ∀ j, q 0 0 - i ≤ j → j < q 0 0 → mI z.2.2 216 j = iN ((X i).2 j)) (Q := fun r => Fr (fun b => Nat.beq b 216) h r.2 ∧ (x2 = jN → r.1 = iN (X (q 0 0)).1) ∧ (x2 ≠ jN → rg x2 (X (q 0 0)).1 = false → r.1 = jN) ∧ ∀ k, x2 = iN k → k < (X (q 0 0)).1 → r.1 = zN (Y (k + 1))) (q 0 0) (fun i z hi hP => ?_) (fun z hP => ?_) (by omega) (s := (iN 0, pN (q 0 0), h)) ⟨(by rw [X0]), rfl, Fr.rfl, fun j h1 h2 => by omega⟩
  · obtain ⟨u1, u2, u3⟩ := z
    obtain ⟨z0, z1, z2, z4⟩ := hP
    have e0 : u1 = iN (X i).1 := z0
    have e1 : u2 = pN (q 0 0 - i) := z1
    obtain ⟨c, hc⟩ : ∃ c, q 0 0 - i = c + 1 := ⟨q 0 0 - i - 1, by omega⟩
    have hc2 : q 0 0 - (i + 1) = c := by omega
    rw [hc, pN_s] at e1
    subst e0
    subst e1
    have y2 : Fr (fun b => Nat.beq b 216) h u3 := z2
    have y4 : ∀ j, q 0 0 - i ≤ j → j < q 0 0 → mI u3 216 j = iN ((X i).2 j) := z4
    have H2 := H.f6 y2
    have w2 := H2.1
    obtain ⟨o1, o2⟩ := hok i (by omega)
    have hM : (X i).1 ≤ 8 := by
      rcases o2 with o2 | ⟨c', k1, k2, k3⟩
      · omega
      · have := (o1 c' k1 k2).2.2.2
        omega
    obtain ⟨h', b1, b2, b4, b5⟩ := t282i (c := c) (V := (X i).2) (x2 := x2) H2 W (by omega) hM (fun j h1 h2 => ⟨(o1 j (by omega) h2).2.2.2, y4 j (by omega) h2⟩)
    left
    rw [Xs i, hc2]
    refine ⟨(iN (max (X i).1 (lin q (X i).2 c)), pN c, h'), ?_, rfl, rfl, y2.tr b2, fun j h1 h2 => ?_⟩
    · unfold f282_25
      simp (disch := omega) only [gT, nbeq, Option.isSome_some, Option.getD_some, Bool.and_true, Bool.true_and, Bool.and_self, mX_some, bS, bN_if, bN_01, i1_01, i0_01, if_true, if_false, Bool.false_eq_true, false_and, and_false, and_true, true_and, and_self, Bool.or_false, Bool.false_or, Bool.or_true, Bool.true_or, Bool.false_and, Bool.and_false, decide_true, decide_false, L0, L1, L2, L3, L4, L5, L6, L7, L8, L9, L10, L11, L12, L13, L14, L15, L16, L17, L18, L19, L20, L21, L22, L23, L24, L25, L27, L33, L39, L40, L45, L48, L57, L60, L72, L90, L97, L98, L99, L100, L121, L122, L242, L255, L256, L580, L600, L1000, L1584, L1000000, Ln1, iN_add, iN_and, iN_or, iN_nd, iN_shl, iN_shr, iN_cl, iN_in, iN_mul, k193 w2, r193_1 w2, r193_2 w2, r193_3 w2, r193_4 w2, r193_5 w2, r193_6 w2, r193_7 w2, r193_8 w2, r193_18 w2, r193_19 w2, r193_32 w2, r193_33 w2, r193_34 w2, r193_36 w2, r193_38 w2, r193_39 w2, r193_40 w2, r193_42 w2, r193_45 w2, r193_46 w2, r193_47 w2, r193_48 w2, r193_49 w2, r193_50 w2, k216 w2, ilt_n, b1]
    · show _ = iN (ud (X i).2 c (lin q (X i).2 c) j)
      by_cases e : j = c
      · subst e; rw [ud_eq]; exact b4
      · rw [ud_ne _ _ e, b5 j e]; exact y4 j (by omega) h2
  · obtain ⟨u1, u2, u3⟩ := z
    obtain ⟨z0, z1, z2, z4⟩ := hP
    have e0 : u1 = iN (X (q 0 0)).1 := z0
    have e1 : u2 = pN (q 0 0 - q 0 0) := z1
    rw [Nat.sub_self, pN_z] at e1
    subst e0
    subst e1
    have y2 : Fr (fun b => Nat.beq b 216) h u3 := z2
    have y4 : ∀ j, q 0 0 - q 0 0 ≤ j → j < q 0 0 → mI u3 216 j = iN ((X (q 0 0)).2 j) := z4
    have H2 := H.f6 y2
    have w2 := H2.1
    by_cases ex : x2 = jN
    · refine ⟨(iN (X (q 0 0)).1, u3), ?_, y2, fun _ => rfl, fun hne => absurd ex hne, fun k hk hlt => ?_⟩
      · unfold f282_25 f282_146 f282_156
        simp (disch := omega) only [gT, nbeq, Option.isSome_some, Option.getD_some, Bool.and_true, Bool.true_and, Bool.and_self, mX_some, bS, bN_if, bN_01, i1_01, i0_01, if_true, if_false, Bool.false_eq_true, false_and, and_false, and_true, true_and, and_self, Bool.or_false, Bool.false_or, Bool.or_true, Bool.true_or, Bool.false_and, Bool.and_false, decide_true, decide_false, L0, L1, L2, L3, L4, L5, L6, L7, L8, L9, L10, L11, L12, L13, L14, L15, L16, L17, L18, L19, L20, L21, L22, L23, L24, L25, L27, L33, L39, L40, L45, L48, L57, L60, L72, L90, L97, L98, L99, L100, L121, L122, L242, L255, L256, L580, L600, L1000, L1584, L1000000, Ln1, iN_add, iN_and, iN_or, iN_nd, iN_shl, iN_shr, iN_cl, iN_in, iN_mul, jilt, ex]
      · rw [ex] at hk
        have := congrArg Int32.toInt hk
        rw [jN_toInt, iN_toInt (by omega)] at this
        omega
    · cases hg : rg x2 (X (q 0 0)).1 with
      | false =>
        refine ⟨(jN, u3), ?_, y2, fun he => absurd he ex, fun _ _ => rfl, fun k hk hlt => ?_⟩
        · unfold f282_25 f282_146 f282_156
          simp (disch := omega) only [gT, nbeq, Option.isSome_some, Option.getD_some, Bool.and_true, Bool.true_and, Bool.and_self, mX_some, bS, bN_if, bN_01, i1_01, i0_01, if_true, if_false, Bool.false_eq_true, false_and, and_false, and_true, true_and, and_self, Bool.or_false, Bool.false_or, Bool.or_true, Bool.true_or, Bool.false_and, Bool.and_false, decide_true, decide_false, L0, L1, L2, L3, L4, L5, L6, L7, L8, L9, L10, L11, L12, L13, L14, L15, L16, L17, L18, L19, L20, L21, L22, L23, L24, L25, L27, L33, L39, L40, L45, L48, L57, L60, L72, L90, L97, L98, L99, L100, L121, L122, L242, L255, L256, L580, L600, L1000, L1584, L1000000, Ln1, iN_add, iN_and, iN_or, iN_nd, iN_shl, iN_shr, iN_cl, iN_in, iN_mul, jilt, ex, iN_p, t179p, hg]
        · rw [hk, rg_iN (by omega), decide_eq_true hlt] at hg
          cases hg
      | true =>
        obtain ⟨a, ha, rfl, hla⟩ := rg_t hg
        have ep := t282p (k := a) H2 W A ha (fun j hj => y4 j (by omega) hj)
        refine ⟨(zN (Y (a + 1)), u3), ?_, y2, fun he => absurd he ex, fun _ hf => (by cases hf), fun k hk hlt => ?_⟩
        · unfold f282_25
          simp (disch := omega) only [gT, nbeq, Option.isSome_some, Option.getD_some, Bool.and_true, Bool.true_and, Bool.and_self, mX_some, bS, bN_if, bN_01, i1_01, i0_01, if_true, if_false, Bool.false_eq_true, false_and, and_false, and_true, true_and, and_self, Bool.or_false, Bool.false_or, Bool.or_true, Bool.true_or, Bool.false_and, Bool.and_false, decide_true, decide_false, L0, L1, L2, L3, L4, L5, L6, L7, L8, L9, L10, L11, L12, L13, L14, L15, L16, L17, L18, L19, L20, L21, L22, L23, L24, L25, L27, L33, L39, L40, L45, L48, L57, L60, L72, L90, L97, L98, L99, L100, L121, L122, L242, L255, L256, L580, L600, L1000, L1584, L1000000, Ln1, iN_add, iN_and, iN_or, iN_nd, iN_shl, iN_shr, iN_cl, iN_in, iN_mul, jilt, ex, iN_p, t179p, hg, ep]
        · have : a = k := by
            have := congrArg Int32.toInt hk
            rw [iN_toInt (by omega), iN_toInt (by omega)] at this
            omega
          rw [this]
end LR
theorem p216_M {h h' : mH} (x : Fr (fun b => Nat.beq b 216) h h') : FQ h h' := (x.mono (P' := pM) (fun b hb => by rw [Nat.eq_of_beq_eq_true hb]; decide)).qM
section PB
variable {h : mH}
theorem c_ladder (R : Rel h) (x1 x2 : Int32) : ∃ v h1, f145 h 0 x1 x2 = some (v, h1) ∧ FQ h h1 ∧ ∀ h0, FQ h h0 → ∃ h2, f282 h0 193 x1 x2 = some (v, h2) ∧ FQ h0 h2 := by
  have w := R.1
  unfold f145
  simp only [gT, nbeq, Option.isSome_some, Option.getD_some, Bool.and_true, Bool.true_and, Bool.and_self, mX_some, bS, bN_if, bN_01, i1_01, i0_01, if_true, if_false, Bool.false_eq_true, false_and, and_false, and_true, true_and, and_self, Bool.or_false, Bool.false_or, Bool.or_true, Bool.true_or, Bool.false_and, Bool.and_false, decide_true, decide_false, k0 w, r0_0 w, r0_1 w, r0_2 w, r0_3 w, r0_4 w, r0_5 w, r0_6 w, r0_7 w, r0_8 w, k1 w, r1_0 w, r1_1 w, r1_2 w, r1_3 w, r1_4 w]
  rcases R.pick x1 with ⟨e1, e2⟩ | ⟨i, q, hi, rfl, W, H, e1, e2⟩
  · simp only [gT, nbeq, Option.isSome_some, Option.getD_some, Bool.and_true, Bool.true_and, Bool.and_self, mX_some, bS, bN_if, bN_01, i1_01, i0_01, if_true, if_false, Bool.false_eq_true, false_and, and_false, and_true, true_and, and_self, Bool.or_false, Bool.false_or, Bool.or_true, Bool.true_or, Bool.false_and, Bool.and_false, decide_true, decide_false, L0, L1, L2, L3, L4, L5, L6, L7, L8, L9, L10, L11, L12, L13, L14, L15, L16, L17, L18, L19, L20, L21, L22, L23, L24, L25, L27, L33, L39, L40, L45, L48, L57, L60, L72, L90, L97, L98, L99, L100, L121, L122, L242, L255, L256, L580, L600, L1000, L1584, L1000000, Ln1, iN_add, iN_and, iN_or, iN_nd, iN_shl, iN_shr, iN_cl, iN_in, iN_mul, e1]
    refine ⟨_, _, rfl, FQ.rfl, fun h0 F => ?_⟩
    have w0 := R.1.q F
    unfold f282
    simp (disch := omega) only [gT, nbeq, Option.isSome_some, Option.getD_some, Bool.and_true, Bool.true_and, Bool.and_self, mX_some, bS, bN_if, bN_01, i1_01, i0_01, if_true, if_false, Bool.false_eq_true, false_and, and_false, and_true, true_and, and_self, Bool.or_false, Bool.false_or, Bool.or_true, Bool.true_or, Bool.false_and, Bool.and_false, decide_true, decide_false, L0, L1, L2, L3, L4, L5, L6, L7, L8, L9, L10, L11, L12, L13, L14, L15, L16, L17, L18, L19, L20, L21, L22, L23, L24, L25, L27, L33, L39, L40, L45, L48, L57, L60, L72, L90, L97, L98, L99, L100, L121, L122, L242, L255, L256, L580, L600, L1000, L1584, L1000000, Ln1, iN_add, iN_and, iN_or, iN_nd, iN_shl, iN_shr, iN_cl, iN_in, iN_mul, k193 w0, r193_1 w0, r193_2 w0, r193_3 w0, r193_4 w0, r193_5 w0, r193_6 w0, r193_7 w0, r193_8 w0, r193_18 w0, r193_19 w0, r193_32 w0, r193_33 w0, r193_34 w0, r193_36 w0, r193_38 w0, r193_39 w0, r193_40 w0, r193_42 w0, r193_45 w0, r193_46 w0, r193_47 w0, r193_48 w0, r193_49 w0, r193_50 w0, e2 _ F.co]
    exact ⟨_, rfl, FQ.c0⟩
  · have hn := W.1.1
    obtain ⟨X, X0, Xs⟩ := up_ex (fun i x => lst q (q 0 0 - (i + 1)) x) (0, fun _ => 0)
    obtain ⟨Y, A⟩ := lad_ex X0 Xs
    obtain ⟨h1, a1, a2, a3, a4⟩ := t146 w H W (by omega) X0 Xs A
    have w1 := w.fr a2
    have hM := A.2.2.1
    have hYs := A.2.2.2.2
    have ev := t88 (r := fun j => (Y (j + 1)).getD 0) (k81 w1) (by omega) (show (X (q 0 0)).1 ≤ 8 by omega) (fun j hj => by
      obtain ⟨x, _, x2, x3⟩ := a4 j hj
      show _ = iN ((Y (j + 1)).getD 0)
      rw [x2]; exact x3) x2
    simp (disch := omega) only [gT, nbeq, Option.isSome_some, Option.getD_some, Bool.and_true, Bool.true_and, Bool.and_self, mX_some, bS, bN_if, bN_01, i1_01, i0_01, if_true, if_false, Bool.false_eq_true, false_and, and_false, and_true, true_and, and_self, Bool.or_false, Bool.false_or, Bool.or_true, Bool.true_or, Bool.false_and, Bool.and_false, decide_true, decide_false, L0, L1, L2, L3, L4, L5, L6, L7, L8, L9, L10, L11, L12, L13, L14, L15, L16, L17, L18, L19, L20, L21, L22, L23, L24, L25, L27, L33, L39, L40, L45, L48, L57, L60, L72, L90, L97, L98, L99, L100, L121, L122, L242, L255, L256, L580, L600, L1000, L1584, L1000000, Ln1, iN_add, iN_and, iN_or, iN_nd, iN_shl, iN_shr, iN_cl, iN_in, iN_mul, k0 w, r0_0 w, r0_1 w, r0_2 w, r0_3 w, r0_4 w, r0_5 w, r0_6 w, r0_7 w, r0_8 w, k80 w, r80_0 w, r80_4 w, r80_5 w, r80_6 w, k0 w1, r0_0 w1, r0_1 w1, r0_2 w1, r0_3 w1, r0_4 w1, r0_5 w1, r0_6 w1, r0_7 w1, r0_8 w1, k80 w1, r80_0 w1, r80_4 w1, r80_5 w1, r80_6 w1, e1, a1, a3, ev]
    refine ⟨_, h1, rfl, (a2.mono pY_C).qC, fun h0 F => ?_⟩
    have w0 := R.1.q F
    obtain ⟨h', g1, g2, g3, g4, g5⟩ := e2 _ F.co
    have w2 := g4.1
    obtain ⟨⟨r, h3⟩, c1, c2, c3, c4, c5⟩ := t282l (x2 := x2) g4 W X0 Xs A
    have er : r = cAt (X (q 0 0)).1 (fun j => (Y (j + 1)).getD 0) x2 := by
      unfold cAt
      by_cases ex : x2 = jN
      · rw [if_pos ex]; exact c3 ex
      · rw [if_neg ex]
        cases hg : rg x2 (X (q 0 0)).1 with
        | false => exact c4 ex hg
        | true =>
          obtain ⟨a, ha, rfl, hla⟩ := rg_t hg
          have e5 : r = zN (Y (a + 1)) := c5 a rfl ha
          obtain ⟨x, _, y2, _⟩ := a4 a ha
          simp (disch := omega) only [e5, iN_cl, if_true, y2, zN_some, Option.getD_some]
    rw [← er]
    refine ⟨h3, ?_, (FQ.c0.tr g2.qM).tr (p216_M c2)⟩
    unfold f282
    simp (disch := omega) only [gT, nbeq, Option.isSome_some, Option.getD_some, Bool.and_true, Bool.true_and, Bool.and_self, mX_some, bS, bN_if, bN_01, i1_01, i0_01, if_true, if_false, Bool.false_eq_true, false_and, and_false, and_true, true_and, and_self, Bool.or_false, Bool.false_or, Bool.or_true, Bool.true_or, Bool.false_and, Bool.and_false, decide_true, decide_false, L0, L1, L2, L3, L4, L5, L6, L7, L8, L9, L10, L11, L12, L13, L14, L15, L16, L17, L18, L19, L20, L21, L22, L23, L24, L25, L27, L33, L39, L40, L45, L48, L57, L60, L72, L90, L97, L98, L99, L100, L121, L122, L242, L255, L256, L580, L600, L1000, L1584, L1000000, Ln1, iN_add, iN_and, iN_or, iN_nd, iN_shl, iN_shr, iN_cl, iN_in, iN_mul, k193 w0, r193_1 w0, r193_2 w0, r193_3 w0, r193_4 w0, r193_5 w0, r193_6 w0, r193_7 w0, r193_8 w0, r193_18 w0, r193_19 w0, r193_32 w0, r193_33 w0, r193_34 w0, r193_36 w0, r193_38 w0, r193_39 w0, r193_40 w0, r193_42 w0, r193_45 w0, r193_46 w0, r193_47 w0, r193_48 w0, r193_49 w0, r193_50 w0, k193 w2, r193_1 w2, r193_2 w2, r193_3 w2, r193_4 w2, r193_5 w2, r193_6 w2, r193_7 w2, r193_8 w2, r193_18 w2, r193_19 w2, r193_32 w2, r193_33 w2, r193_34 w2, r193_36 w2, r193_38 w2, r193_39 w2, r193_40 w2, r193_42 w2, r193_45 w2, r193_46 w2, r193_47 w2, r193_48 w2, r193_49 w2, r193_50 w2, g1, g4.n, iN_p, c1]
end PB
