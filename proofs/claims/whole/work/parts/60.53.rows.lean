/-! rows: class and reference -/
section RC
variable {h : mH} {q : LQ} {B U : Nat → Nat}
theorem t133 {a : Nat} (wd : Wd h) (H : LibS h a q) (W : QW q) (pa : a + 7 ≤ 80) (hB : ∀ s, B s = wyF q s B) : ∃ h', f133 h 80 a = some (iN (B (2 ^ q 0 0 - 1)), h') ∧ Fr (fun b => Nat.beq b 82) h h' := by
  have hn := W.1.1
  have h8 := pw_8 hn
  have hp := pw_pos (q 0 0)
  have pn : ∀ i, i < 7 → (fun b => Nat.beq b 82) (a + i) = false := fun i hi => by
    show Nat.beq (a + i) 82 = false
    cases e : Nat.beq (a + i) 82 with
    | false => rfl
    | true => have := Nat.eq_of_beq_eq_true e; omega
  unfold f133
  simp (disch := omega) only [gT, nbeq, Option.isSome_some, Option.getD_some, Bool.and_true, Bool.true_and, Bool.and_self, mX_some, bS, bN_if, bN_01, i1_01, i0_01, if_true, if_false, Bool.false_eq_true, false_and, and_false, and_true, true_and, and_self, Bool.or_false, Bool.false_or, Bool.or_true, Bool.true_or, Bool.false_and, Bool.and_false, decide_true, decide_false, L0, L1, L2, L3, L4, L5, L6, L7, L8, L9, L10, L11, L12, L13, L14, L15, L16, L17, L18, L19, L20, L21, L22, L23, L24, L25, L27, L33, L39, L40, L45, L48, L57, L60, L72, L90, L97, L98, L99, L100, L121, L122, L242, L255, L256, L580, L600, L1000, L1584, L1000000, Ln1, iN_add, iN_and, iN_or, iN_nd, iN_shl, iN_shr, iN_cl, iN_in, iN_mul, k80 wd, r80_0 wd, r80_4 wd, r80_5 wd, r80_6 wd, k82 wd]
  have := lp_inv (body := f133_9 80 a) (P := fun i z => z.1 = iN (i + 1) ∧ Fr (fun b => Nat.beq b 82) h z.2 ∧ ∀ j, j ≤ i → mI z.2 82 j = iN (B j)) (Q := fun r => r.1 = iN (B (2 ^ q 0 0 - 1)) ∧ Fr (fun b => Nat.beq b 82) h r.2) (2 ^ q 0 0 - 1) (fun i z hi hP => by
    obtain ⟨z1, z2, z3⟩ := hP
    have w2 := wd.fr z2
    have H2 := H.fr z2 pn
    refine Or.inl ⟨(iN (i + 2), mSI z.2 82 (i + 1) (iN (B (i + 1)))), ?_, rfl, z2.si (by decide), fun j hj => ?_⟩
    · unfold f133_9
      rw [z1]
      simp (disch := omega) only [gT, nbeq, Option.isSome_some, Option.getD_some, Bool.and_true, Bool.true_and, Bool.and_self, mX_some, bS, bN_if, bN_01, i1_01, i0_01, if_true, if_false, Bool.false_eq_true, false_and, and_false, and_true, true_and, and_self, Bool.or_false, Bool.false_or, Bool.or_true, Bool.true_or, Bool.false_and, Bool.and_false, decide_true, decide_false, L0, L1, L2, L3, L4, L5, L6, L7, L8, L9, L10, L11, L12, L13, L14, L15, L16, L17, L18, L19, L20, L21, L22, L23, L24, L25, L27, L33, L39, L40, L45, L48, L57, L60, L72, L90, L97, L98, L99, L100, L121, L122, L242, L255, L256, L580, L600, L1000, L1584, L1000000, Ln1, iN_add, iN_and, iN_or, iN_nd, iN_shl, iN_shr, iN_cl, iN_in, iN_mul, H2.k, t94 H2 W, ilt_n]
      have eB : B (i + 1) = up (fun c x => x + if (i + 1).testBit c = true ∧ nd (q 3 c) (nd (i + 1) (1 <<< c)) = 0 then B (nd (i + 1) (1 <<< c)) else 0) (q 0 0) 0 := by
        rw [hB (i + 1)]
        unfold wyF
        rw [if_neg (by omega)]
        rfl
      rw [eB]
      refine lp_up (body := f133_22 z.2 80 a (iN (i + 1))) (fun c x => (iN x, iN c)) (fun c x => x + if (i + 1).testBit c = true ∧ nd (q 3 c) (nd (i + 1) (1 <<< c)) = 0 then B (nd (i + 1) (1 <<< c)) else 0) (fun x => Sum.inl (iN (i + 2), mSI z.2 82 (i + 1) (iN x))) (fun _ _ => True) (q 0 0) (a0 := 0) trivial (fun _ _ _ _ => trivial) ?_ ?_ (by omega)
      · intro c x hc _
        have g1 := nd_le (i + 1) (1 <<< c)
        have g2 := q3_8 W (c := c) (by omega)
        have g3 := nd_le (q 3 c) (nd (i + 1) (1 <<< c))
        unfold f133_22 f133_72
        simp (disch := omega) only [gT, nbeq, Option.isSome_some, Option.getD_some, Bool.and_true, Bool.true_and, Bool.and_self, mX_some, bS, bN_if, bN_01, i1_01, i0_01, if_true, if_false, Bool.false_eq_true, false_and, and_false, and_true, true_and, and_self, Bool.or_false, Bool.false_or, Bool.or_true, Bool.true_or, Bool.false_and, Bool.and_false, decide_true, decide_false, L0, L1, L2, L3, L4, L5, L6, L7, L8, L9, L10, L11, L12, L13, L14, L15, L16, L17, L18, L19, L20, L21, L22, L23, L24, L25, L27, L33, L39, L40, L45, L48, L57, L60, L72, L90, L97, L98, L99, L100, L121, L122, L242, L255, L256, L580, L600, L1000, L1584, L1000000, Ln1, iN_add, iN_and, iN_or, iN_nd, iN_shl, iN_shr, iN_cl, iN_in, iN_mul, H2.k, H2.r0, H2.r1, H2.r2, H2.r3, H2.r4, H2.r5, H2.k1, H2.k2, H2.k3, H2.k4, H2.k5, H2.k6, H2.n, H2.m, H2.lp, H2.hr, H2.tp, H2.ln, H2.lk, H2.me, H2.he, k80 w2, r80_0 w2, r80_4 w2, r80_5 w2, r80_6 w2, k82 w2, ile_n, ieq_d]
        cases hb : (i + 1).testBit c with
        | false =>
          rw [nd_self hb]
          simp (disch := omega) only [if_true, gT, nbeq, Option.isSome_some, Option.getD_some, Bool.and_true, Bool.true_and, Bool.and_self, mX_some, bS, bN_if, bN_01, i1_01, i0_01, if_true, if_false, Bool.false_eq_true, false_and, and_false, and_true, true_and, and_self, Bool.or_false, Bool.false_or, Bool.or_true, Bool.true_or, Bool.false_and, Bool.and_false, decide_true, decide_false, Nat.add_zero]
        | true =>
          have g4 := nd_less hb
          rw [if_neg (by omega)]
          by_cases e : nd (q 3 c) (nd (i + 1) (1 <<< c)) = 0
          · simp (disch := omega) only [e, if_true, gT, nbeq, Option.isSome_some, Option.getD_some, Bool.and_true, Bool.true_and, Bool.and_self, mX_some, bS, bN_if, bN_01, i1_01, i0_01, if_true, if_false, Bool.false_eq_true, false_and, and_false, and_true, true_and, and_self, Bool.or_false, Bool.false_or, Bool.or_true, Bool.true_or, Bool.false_and, Bool.and_false, decide_true, decide_false, iN_in, iN_cl, z3 _ (show nd (i + 1) (1 <<< c) ≤ i by omega), iN_add]
          · simp (disch := omega) only [e, if_false, gT, nbeq, Option.isSome_some, Option.getD_some, Bool.and_true, Bool.true_and, Bool.and_self, mX_some, bS, bN_if, bN_01, i1_01, i0_01, if_true, if_false, Bool.false_eq_true, false_and, and_false, and_true, true_and, and_self, Bool.or_false, Bool.false_or, Bool.or_true, Bool.true_or, Bool.false_and, Bool.and_false, decide_true, decide_false, Nat.add_zero]
      · intro x _
        unfold f133_22
        simp (disch := omega) only [gT, nbeq, Option.isSome_some, Option.getD_some, Bool.and_true, Bool.true_and, Bool.and_self, mX_some, bS, bN_if, bN_01, i1_01, i0_01, if_true, if_false, Bool.false_eq_true, false_and, and_false, and_true, true_and, and_self, Bool.or_false, Bool.false_or, Bool.or_true, Bool.true_or, Bool.false_and, Bool.and_false, decide_true, decide_false, L0, L1, L2, L3, L4, L5, L6, L7, L8, L9, L10, L11, L12, L13, L14, L15, L16, L17, L18, L19, L20, L21, L22, L23, L24, L25, L27, L33, L39, L40, L45, L48, L57, L60, L72, L90, L97, L98, L99, L100, L121, L122, L242, L255, L256, L580, L600, L1000, L1584, L1000000, Ln1, iN_add, iN_and, iN_or, iN_nd, iN_shl, iN_shr, iN_cl, iN_in, iN_mul, H2.k, H2.r0, H2.r1, H2.r2, H2.r3, H2.r4, H2.r5, H2.k1, H2.k2, H2.k3, H2.k4, H2.k5, H2.k6, H2.n, H2.m, H2.lp, H2.hr, H2.tp, H2.ln, H2.lk, H2.me, H2.he, k80 w2, r80_0 w2, r80_4 w2, r80_5 w2, r80_6 w2, k82 w2, ile_p]
    · by_cases e : j = i + 1
      · subst e; simp (disch := omega) only [si_ne, si_nk, si_eq]
      · simp (disch := omega) only [si_ne, si_nk, si_eq]; exact z3 j (by omega)) (fun z hP => by
    obtain ⟨z1, z2, z3⟩ := hP
    have w2 := wd.fr z2
    have H2 := H.fr z2 pn
    refine ⟨(iN (B (2 ^ q 0 0 - 1)), z.2), ?_, rfl, z2⟩
    unfold f133_9
    rw [z1]
    simp (disch := omega) only [gT, nbeq, Option.isSome_some, Option.getD_some, Bool.and_true, Bool.true_and, Bool.and_self, mX_some, bS, bN_if, bN_01, i1_01, i0_01, if_true, if_false, Bool.false_eq_true, false_and, and_false, and_true, true_and, and_self, Bool.or_false, Bool.false_or, Bool.or_true, Bool.true_or, Bool.false_and, Bool.and_false, decide_true, decide_false, L0, L1, L2, L3, L4, L5, L6, L7, L8, L9, L10, L11, L12, L13, L14, L15, L16, L17, L18, L19, L20, L21, L22, L23, L24, L25, L27, L33, L39, L40, L45, L48, L57, L60, L72, L90, L97, L98, L99, L100, L121, L122, L242, L255, L256, L580, L600, L1000, L1584, L1000000, Ln1, iN_add, iN_and, iN_or, iN_nd, iN_shl, iN_shr, iN_cl, iN_in, iN_mul, H2.k, t94 H2 W, ilt_p, k80 w2, r80_0 w2, r80_4 w2, r80_5 w2, r80_6 w2, k82 w2, z3 _ (Nat.le_refl _)]) (by omega) (s := (iN 1, mSI h 82 0 (iN 1))) ⟨rfl, Fr.rfl.si (by decide), fun j hj => by
      have : j = 0 := by omega
      subst this
      simp (disch := omega) only [si_ne, si_nk, si_eq]
      rw [hB 0]
      unfold wyF
      rw [if_pos rfl]⟩
  obtain ⟨⟨r, h'⟩, r1, r2, r3⟩ := this
  have r2' : r = iN (B (2 ^ q 0 0 - 1)) := r2
  rw [r2'] at r1
  exact ⟨h', r1, r3⟩
theorem MoS.f213 {h h' : mH} {q : LQ} (H : MoS h q) (x : Fr (fun b => Nat.beq b 213) h h') : MoS h' q := by
  obtain ⟨w, a1, a2, s, a3, a4, a5⟩ := id H
  exact ⟨w.fr x, (x.i (by decide) _).trans a1, (x.i (by decide) _).trans a2, s, a3, (x.i (by decide) _).trans a4, fun j hj => (x.i (by decide) _).trans (a5 j hj)⟩
theorem MoS.f212 {h h' : mH} {q : LQ} (H : MoS h q) (x : Fr (fun b => Nat.beq b 212) h h') : MoS h' q := by
  obtain ⟨w, a1, a2, s, a3, a4, a5⟩ := id H
  exact ⟨w.fr x, (x.i (by decide) _).trans a1, (x.i (by decide) _).trans a2, s, a3, (x.i (by decide) _).trans a4, fun j hj => (x.i (by decide) _).trans (a5 j hj)⟩
/-- the sum up to c -/
def wzP (q : LQ) (U : Nat → Nat) (s c : Nat) : Nat := (if s = 2 ^ q 0 0 - 1 then 1 else 0) + zs (fun c => if mayB q s c = true then U (s ||| 1 <<< c) else 0) c
theorem t275i {x : Int32} {s : Nat} (H : MoS h q) (W : QW q) (hs2 : s < 2 ^ q 0 0) (h0 : mI h 213 s = iN (wzP q U s 0)) (hu : ∀ j, s < j → j < 2 ^ q 0 0 → mI h 213 j = iN (U j)) : ∃ h', mLoop (f275_33 193 x (iN s)) mFuel (iN 0, h) = some (Sum.inl (pN s, h')) ∧ Fr (fun b => Nat.beq b 213) h h' ∧ mI h' 213 s = iN (wzP q U s (q 0 0)) ∧ ∀ j, j ≠ s → mI h' 213 j = mI h 213 j := by
  have hn := W.1.1
  have h8 := pw_8 hn
  have hp := pw_pos (q 0 0)
  have := lp_inv (body := f275_33 193 x (iN s)) (P := fun c z => z.1 = iN c ∧ Fr (fun b => Nat.beq b 213) h z.2 ∧ mI z.2 213 s = iN (wzP q U s c) ∧ ∀ j, j ≠ s → mI z.2 213 j = mI h 213 j) (Q := fun r => ∃ h', r = Sum.inl (pN s, h') ∧ Fr (fun b => Nat.beq b 213) h h' ∧ mI h' 213 s = iN (wzP q U s (q 0 0)) ∧ ∀ j, j ≠ s → mI h' 213 j = mI h 213 j) (q 0 0) (fun c z hc hP => by
    obtain ⟨z1, z2, z3, z4⟩ := hP
    have H2 := H.f213 z2
    have w2 := H2.1
    refine Or.inl ⟨(iN (c + 1), mSI z.2 213 s (iN (wzP q U s (c + 1)))), ?_, rfl, z2.si (by decide), by simp only [si_ne, si_nk, si_eq], fun j hj => by simp (disch := omega) only [si_ne, si_nk, si_eq]; exact z4 j hj⟩
    unfold f275_33 f275_73
    rw [z1]
    simp (disch := omega) only [gT, nbeq, Option.isSome_some, Option.getD_some, Bool.and_true, Bool.true_and, Bool.and_self, mX_some, bS, bN_if, bN_01, i1_01, i0_01, if_true, if_false, Bool.false_eq_true, false_and, and_false, and_true, true_and, and_self, Bool.or_false, Bool.false_or, Bool.or_true, Bool.true_or, Bool.false_and, Bool.and_false, decide_true, decide_false, L0, L1, L2, L3, L4, L5, L6, L7, L8, L9, L10, L11, L12, L13, L14, L15, L16, L17, L18, L19, L20, L21, L22, L23, L24, L25, L27, L33, L39, L40, L45, L48, L57, L60, L72, L90, L97, L98, L99, L100, L121, L122, L242, L255, L256, L580, L600, L1000, L1584, L1000000, Ln1, iN_add, iN_and, iN_or, iN_nd, iN_shl, iN_shr, iN_cl, iN_in, iN_mul, k193 w2, r193_1 w2, r193_2 w2, r193_3 w2, r193_4 w2, r193_5 w2, r193_6 w2, r193_7 w2, r193_8 w2, r193_18 w2, r193_19 w2, r193_32 w2, r193_33 w2, r193_34 w2, r193_36 w2, r193_38 w2, r193_39 w2, r193_40 w2, r193_42 w2, r193_45 w2, r193_46 w2, r193_47 w2, r193_48 w2, r193_49 w2, r193_50 w2, k213 w2, H2.n, ile_n, t220 H2 W]
    cases hm : mayB q s c with
    | false =>
      simp (disch := omega) only [gT, nbeq, Option.isSome_some, Option.getD_some, Bool.and_true, Bool.true_and, Bool.and_self, mX_some, bS, bN_if, bN_01, i1_01, i0_01, if_true, if_false, Bool.false_eq_true, false_and, and_false, and_true, true_and, and_self, Bool.or_false, Bool.false_or, Bool.or_true, Bool.true_or, Bool.false_and, Bool.and_false, decide_true, decide_false, iN_in, iN_cl, z3, iN_add]
      unfold wzP
      rw [zs_s, hm]
      rfl
    | true =>
      have og := or_gt hs2 hc (mayB_f hm)
      have e1 : mI z.2 213 (s ||| 1 <<< c) = iN (U (s ||| 1 <<< c)) := (z4 _ (by omega)).trans (hu _ og.1 og.2)
      simp (disch := omega) only [gT, nbeq, Option.isSome_some, Option.getD_some, Bool.and_true, Bool.true_and, Bool.and_self, mX_some, bS, bN_if, bN_01, i1_01, i0_01, if_true, if_false, Bool.false_eq_true, false_and, and_false, and_true, true_and, and_self, Bool.or_false, Bool.false_or, Bool.or_true, Bool.true_or, Bool.false_and, Bool.and_false, decide_true, decide_false, iN_in, iN_cl, z3, e1, iN_add]
      unfold wzP
      rw [zs_s, hm, if_pos rfl, Nat.add_assoc]) (fun z hP => by
    obtain ⟨z1, z2, z3, z4⟩ := hP
    have H2 := H.f213 z2
    have w2 := H2.1
    refine ⟨Sum.inl (pN s, z.2), ?_, z.2, rfl, z2, z3, z4⟩
    unfold f275_33
    rw [z1]
    simp (disch := omega) only [gT, nbeq, Option.isSome_some, Option.getD_some, Bool.and_true, Bool.true_and, Bool.and_self, mX_some, bS, bN_if, bN_01, i1_01, i0_01, if_true, if_false, Bool.false_eq_true, false_and, and_false, and_true, true_and, and_self, Bool.or_false, Bool.false_or, Bool.or_true, Bool.true_or, Bool.false_and, Bool.and_false, decide_true, decide_false, L0, L1, L2, L3, L4, L5, L6, L7, L8, L9, L10, L11, L12, L13, L14, L15, L16, L17, L18, L19, L20, L21, L22, L23, L24, L25, L27, L33, L39, L40, L45, L48, L57, L60, L72, L90, L97, L98, L99, L100, L121, L122, L242, L255, L256, L580, L600, L1000, L1584, L1000000, Ln1, iN_add, iN_and, iN_or, iN_nd, iN_shl, iN_shr, iN_cl, iN_in, iN_mul, k193 w2, r193_1 w2, r193_2 w2, r193_3 w2, r193_4 w2, r193_5 w2, r193_6 w2, r193_7 w2, r193_8 w2, r193_18 w2, r193_19 w2, r193_32 w2, r193_33 w2, r193_34 w2, r193_36 w2, r193_38 w2, r193_39 w2, r193_40 w2, r193_42 w2, r193_45 w2, r193_46 w2, r193_47 w2, r193_48 w2, r193_49 w2, r193_50 w2, k213 w2, H2.n, ile_p, iN_pj]) (by omega) (s := (iN 0, h)) ⟨rfl, Fr.rfl, h0, fun j _ => rfl⟩
  obtain ⟨r, r1, h', r2, r3, r4, r5⟩ := this
  rw [r2] at r1
  exact ⟨h', r1, r3, r4, r5⟩
theorem t275 (H : MoS h q) (W : QW q) (hU : ∀ s, s < 2 ^ q 0 0 → U s = wzF q s U) : ∃ h', f275 h 193 = some (iN (U 0), h') ∧ Fr (fun b => Nat.beq b 213) h h' := by
  have hn := W.1.1
  have h8 := pw_8 hn
  have hp := pw_pos (q 0 0)
  have w := H.1
  unfold f275
  simp (disch := omega) only [gT, nbeq, Option.isSome_some, Option.getD_some, Bool.and_true, Bool.true_and, Bool.and_self, mX_some, bS, bN_if, bN_01, i1_01, i0_01, if_true, if_false, Bool.false_eq_true, false_and, and_false, and_true, true_and, and_self, Bool.or_false, Bool.false_or, Bool.or_true, Bool.true_or, Bool.false_and, Bool.and_false, decide_true, decide_false, L0, L1, L2, L3, L4, L5, L6, L7, L8, L9, L10, L11, L12, L13, L14, L15, L16, L17, L18, L19, L20, L21, L22, L23, L24, L25, L27, L33, L39, L40, L45, L48, L57, L60, L72, L90, L97, L98, L99, L100, L121, L122, L242, L255, L256, L580, L600, L1000, L1584, L1000000, Ln1, iN_add, iN_and, iN_or, iN_nd, iN_shl, iN_shr, iN_cl, iN_in, iN_mul, k193 w, r193_1 w, r193_2 w, r193_3 w, r193_4 w, r193_5 w, r193_6 w, r193_7 w, r193_8 w, r193_18 w, r193_19 w, r193_32 w, r193_33 w, r193_34 w, r193_36 w, r193_38 w, r193_39 w, r193_40 w, r193_42 w, r193_45 w, r193_46 w, r193_47 w, r193_48 w, r193_49 w, r193_50 w, H.n, Nat.one_shiftLeft, iN_sub]
  have := lp_inv (body := f275_11 193 (iN (2 ^ q 0 0 - 1))) (P := fun i z => z.1 = pN (2 ^ q 0 0 - i) ∧ Fr (fun b => Nat.beq b 213) h z.2 ∧ ∀ j, 2 ^ q 0 0 - i ≤ j → j < 2 ^ q 0 0 → mI z.2 213 j = iN (U j)) (Q := fun r => r.1 = iN (U 0) ∧ Fr (fun b => Nat.beq b 213) h r.2) (2 ^ q 0 0) (fun i z hi hP => by
    obtain ⟨z1, z2, z3⟩ := hP
    have H2 := H.f213 z2
    have w2 := H2.1
    obtain ⟨s, hs⟩ : ∃ s, 2 ^ q 0 0 - i = s + 1 := ⟨2 ^ q 0 0 - i - 1, by omega⟩
    have es : 2 ^ q 0 0 - (i + 1) = s := by omega
    rw [hs, pN_s] at z1
    have F3 : Fr (fun b => Nat.beq b 213) z.2 (mSI z.2 213 s (iN (wzP q U s 0))) := Fr.rfl.si (by decide)
    obtain ⟨h', g1, g2, g3, g4⟩ := t275i (U := U) (x := iN (2 ^ q 0 0 - 1)) (s := s) (H2.f213 F3) W (by omega) (by simp only [si_ne, si_nk, si_eq]) (fun j h1 h2 => by simp (disch := omega) only [si_ne, si_nk, si_eq]; exact z3 j (by omega) h2)
    refine Or.inl ⟨(pN s, h'), ?_, by rw [es], (z2.tr F3).tr g2, fun j h1 h2 => ?_⟩
    · unfold f275_11
      rw [z1]
      simp (disch := omega) only [gT, nbeq, Option.isSome_some, Option.getD_some, Bool.and_true, Bool.true_and, Bool.and_self, mX_some, bS, bN_if, bN_01, i1_01, i0_01, if_true, if_false, Bool.false_eq_true, false_and, and_false, and_true, true_and, and_self, Bool.or_false, Bool.false_or, Bool.or_true, Bool.true_or, Bool.false_and, Bool.and_false, decide_true, decide_false, L0, L1, L2, L3, L4, L5, L6, L7, L8, L9, L10, L11, L12, L13, L14, L15, L16, L17, L18, L19, L20, L21, L22, L23, L24, L25, L27, L33, L39, L40, L45, L48, L57, L60, L72, L90, L97, L98, L99, L100, L121, L122, L242, L255, L256, L580, L600, L1000, L1584, L1000000, Ln1, iN_add, iN_and, iN_or, iN_nd, iN_shl, iN_shr, iN_cl, iN_in, iN_mul, k193 w2, r193_1 w2, r193_2 w2, r193_3 w2, r193_4 w2, r193_5 w2, r193_6 w2, r193_7 w2, r193_8 w2, r193_18 w2, r193_19 w2, r193_32 w2, r193_33 w2, r193_34 w2, r193_36 w2, r193_38 w2, r193_39 w2, r193_40 w2, r193_42 w2, r193_45 w2, r193_46 w2, r193_47 w2, r193_48 w2, r193_49 w2, r193_50 w2, k213 w2, ilt_n, ieq_d]
      unfold wzP at g1
      rw [zs_0, Nat.add_zero] at g1
      by_cases e : s = 2 ^ q 0 0 - 1
      · rw [if_pos e]
        rw [if_pos e] at g1
        exact g1
      · rw [if_neg e]
        rw [if_neg e] at g1
        exact g1
    · by_cases e : j = s
      · rw [e, g3, hU s (by omega)]; rfl
      · rw [g4 j e]
        simp (disch := omega) only [si_ne, si_nk, si_eq]
        exact z3 j (by omega) h2) (fun z hP => by
    obtain ⟨z1, z2, z3⟩ := hP
    have H2 := H.f213 z2
    have w2 := H2.1
    rw [Nat.sub_self, pN_z] at z1
    refine ⟨(iN (U 0), z.2), ?_, rfl, z2⟩
    unfold f275_11
    rw [z1]
    simp (disch := omega) only [gT, nbeq, Option.isSome_some, Option.getD_some, Bool.and_true, Bool.true_and, Bool.and_self, mX_some, bS, bN_if, bN_01, i1_01, i0_01, if_true, if_false, Bool.false_eq_true, false_and, and_false, and_true, true_and, and_self, Bool.or_false, Bool.false_or, Bool.or_true, Bool.true_or, Bool.false_and, Bool.and_false, decide_true, decide_false, L0, L1, L2, L3, L4, L5, L6, L7, L8, L9, L10, L11, L12, L13, L14, L15, L16, L17, L18, L19, L20, L21, L22, L23, L24, L25, L27, L33, L39, L40, L45, L48, L57, L60, L72, L90, L97, L98, L99, L100, L121, L122, L242, L255, L256, L580, L600, L1000, L1584, L1000000, Ln1, iN_add, iN_and, iN_or, iN_nd, iN_shl, iN_shr, iN_cl, iN_in, iN_mul, jilt, k193 w2, r193_1 w2, r193_2 w2, r193_3 w2, r193_4 w2, r193_5 w2, r193_6 w2, r193_7 w2, r193_8 w2, r193_18 w2, r193_19 w2, r193_32 w2, r193_33 w2, r193_34 w2, r193_36 w2, r193_38 w2, r193_39 w2, r193_40 w2, r193_42 w2, r193_45 w2, r193_46 w2, r193_47 w2, r193_48 w2, r193_49 w2, r193_50 w2, k213 w2, z3 0 (by omega) (by omega)]) (by omega) (s := (iN (2 ^ q 0 0 - 1), h)) ⟨by
      show iN (2 ^ q 0 0 - 1) = pN (2 ^ q 0 0 - 0)
      obtain ⟨s, hs⟩ : ∃ s, 2 ^ q 0 0 = s + 1 := ⟨2 ^ q 0 0 - 1, by omega⟩
      rw [hs]; rfl, Fr.rfl, fun j h1 h2 => by omega⟩
  obtain ⟨⟨r, h'⟩, r1, r2, r3⟩ := this
  have r2' : r = iN (U 0) := r2
  rw [r2'] at r1
  exact ⟨h', r1, r3⟩
end RC
