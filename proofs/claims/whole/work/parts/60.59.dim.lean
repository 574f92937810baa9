/-! dim: the call -/
theorem t17d {h : mH} {x : Int32} : f17 h x (iN 1) (iN 20) = some (bN (decide (1 ≤ x.toInt ∧ x.toInt ≤ 20))) := by
  rw [t17]
  congr 2
  rw [← Bool.decide_and, decide_eq_decide, Int32.le_iff_toInt_le, Int32.le_iff_toInt_le, iN_toInt (by omega), iN_toInt (by omega)]
  rfl
theorem t179d {h : mH} {x : Int32} : f179 h x (iN 1) (iN 20) = some (bN (decide (1 ≤ x.toInt ∧ x.toInt ≤ 20))) := t17d (h := h)
theorem bf_ex (q : LQ) : ∃ B : Nat → Nat → Nat, ∀ l s, B l s = bsF q l s (B l) := ⟨fun l => Classical.choose (bs_ex q l), fun l => Classical.choose_spec (bs_ex q l)⟩
/-- is the lamp k + 1 enough for n days -/
def dmZ (q : LQ) (B : Nat → Nat → Nat) (n k : Nat) : Bool := decide (fN (fwO q (k + 1) (2 ^ q 0 0 - 1) (B (k + 1))) ≤ n)
theorem fz_c (Z : Nat → Bool) (n k : Nat) : fz Z (n + 1) k = if Z k = true then some k else fz Z n (k + 1) := rfl
section DM
variable {h : mH} {q : LQ} {B : Nat → Nat → Nat} {n : Nat}
theorem t148l {i : Nat} (w : Wd h) (hi : i < 2) (H : LibS h (7 + 14 * i) q) (W : QW q) (hB : ∀ l s, B l s = bsF q l s (B l)) (hn : n ≤ 20) : ∃ h', mLoop (f148_28 0 (iN n) (7 + 14 * i)) mFuel (iN 1, h) = some (zN ((fz (dmZ q B n) 12 0).map (· + 1)), h') ∧ Fr (fun b => Nat.beq b 82) h h' := by
  have hn8 := W.1.1
  have h8 := pw_8 hn8
  have hp := pw_pos (q 0 0)
  have pn := p82 (a := 7 + 14 * i) (by omega)
  have := lp_inv (body := f148_28 0 (iN n) (7 + 14 * i)) (P := fun k z => z.1 = iN (k + 1) ∧ Fr (fun b => Nat.beq b 82) h z.2 ∧ fz (dmZ q B n) 12 0 = fz (dmZ q B n) (12 - k) k) (Q := fun r => r.1 = zN ((fz (dmZ q B n) 12 0).map (· + 1)) ∧ Fr (fun b => Nat.beq b 82) h r.2) 12 (fun k z hk hP => by
    obtain ⟨z1, z2, z3⟩ := hP
    have w2 := w.fr z2
    have H2 := H.fr z2 pn
    obtain ⟨h1, a1, a2⟩ := t131 (K := 2 ^ q 0 0 - 1) (lamp := k + 1) w2 H2 W (by omega) (by omega) (hB (k + 1)) (by omega)
    have hst : 12 - k = (12 - (k + 1)) + 1 := by omega
    rw [hst, fz_c _ (12 - (k + 1)) k] at z3
    cases ef : fwO q (k + 1) (2 ^ q 0 0 - 1) (B (k + 1)) with
    | none =>
      have hz : dmZ q B n k = false := by
        unfold dmZ
        rw [ef]
        exact decide_eq_false (by show ¬ 1000000 ≤ n; omega)
      rw [hz] at z3
      refine Or.inl ⟨(iN (k + 2), h1), ?_, rfl, z2.tr a2, z3⟩
      rw [ef] at a1
      unfold f148_28 f148_66
      rw [z1]
      simp (disch := omega) only [gT, nbeq, Option.isSome_some, Option.getD_some, Bool.and_true, Bool.true_and, Bool.and_self, mX_some, bS, bN_if, bN_01, i1_01, i0_01, if_true, if_false, Bool.false_eq_true, false_and, and_false, and_true, true_and, and_self, Bool.or_false, Bool.false_or, Bool.or_true, Bool.true_or, Bool.false_and, Bool.and_false, decide_true, decide_false, L0, L1, L2, L3, L4, L5, L6, L7, L8, L9, L10, L11, L12, L13, L14, L15, L16, L17, L18, L19, L20, L21, L22, L23, L24, L25, L27, L33, L39, L40, L45, L48, L57, L60, L72, L90, L97, L98, L99, L100, L121, L122, L242, L255, L256, L580, L600, L1000, L1584, L1000000, Ln1, iN_add, iN_and, iN_or, iN_nd, iN_shl, iN_shr, iN_cl, iN_in, iN_mul, k0 w2, r0_0 w2, r0_1 w2, r0_2 w2, r0_3 w2, r0_4 w2, r0_5 w2, r0_6 w2, r0_7 w2, r0_8 w2, k80 w2, r80_0 w2, r80_4 w2, r80_5 w2, r80_6 w2, H2.k, t94 H2 W, ilt_n, a1, zN_none, jj_p]
    | some d =>
      have hd := fwO_le (show k + 1 ≤ 12 by omega) (hB (k + 1)) ef
      rw [ef] at a1
      by_cases e : d ≤ n
      · have hz : dmZ q B n k = true := by
          unfold dmZ
          rw [ef]
          exact decide_eq_true e
        rw [hz] at z3
        refine Or.inr ⟨(iN (k + 1), h1), ?_, by rw [z3]; rfl, z2.tr a2⟩
        unfold f148_28
        rw [z1]
        simp (disch := omega) only [gT, nbeq, Option.isSome_some, Option.getD_some, Bool.and_true, Bool.true_and, Bool.and_self, mX_some, bS, bN_if, bN_01, i1_01, i0_01, if_true, if_false, Bool.false_eq_true, false_and, and_false, and_true, true_and, and_self, Bool.or_false, Bool.false_or, Bool.or_true, Bool.true_or, Bool.false_and, Bool.and_false, decide_true, decide_false, L0, L1, L2, L3, L4, L5, L6, L7, L8, L9, L10, L11, L12, L13, L14, L15, L16, L17, L18, L19, L20, L21, L22, L23, L24, L25, L27, L33, L39, L40, L45, L48, L57, L60, L72, L90, L97, L98, L99, L100, L121, L122, L242, L255, L256, L580, L600, L1000, L1584, L1000000, Ln1, iN_add, iN_and, iN_or, iN_nd, iN_shl, iN_shr, iN_cl, iN_in, iN_mul, k0 w2, r0_0 w2, r0_1 w2, r0_2 w2, r0_3 w2, r0_4 w2, r0_5 w2, r0_6 w2, r0_7 w2, r0_8 w2, k80 w2, r80_0 w2, r80_4 w2, r80_5 w2, r80_6 w2, H2.k, t94 H2 W, ilt_n, a1, zN_some, ij_n]
      · have hz : dmZ q B n k = false := by
          unfold dmZ
          rw [ef]
          exact decide_eq_false e
        rw [hz] at z3
        refine Or.inl ⟨(iN (k + 2), h1), ?_, rfl, z2.tr a2, z3⟩
        unfold f148_28 f148_66
        rw [z1]
        simp (disch := omega) only [gT, nbeq, Option.isSome_some, Option.getD_some, Bool.and_true, Bool.true_and, Bool.and_self, mX_some, bS, bN_if, bN_01, i1_01, i0_01, if_true, if_false, Bool.false_eq_true, false_and, and_false, and_true, true_and, and_self, Bool.or_false, Bool.false_or, Bool.or_true, Bool.true_or, Bool.false_and, Bool.and_false, decide_true, decide_false, L0, L1, L2, L3, L4, L5, L6, L7, L8, L9, L10, L11, L12, L13, L14, L15, L16, L17, L18, L19, L20, L21, L22, L23, L24, L25, L27, L33, L39, L40, L45, L48, L57, L60, L72, L90, L97, L98, L99, L100, L121, L122, L242, L255, L256, L580, L600, L1000, L1584, L1000000, Ln1, iN_add, iN_and, iN_or, iN_nd, iN_shl, iN_shr, iN_cl, iN_in, iN_mul, k0 w2, r0_0 w2, r0_1 w2, r0_2 w2, r0_3 w2, r0_4 w2, r0_5 w2, r0_6 w2, r0_7 w2, r0_8 w2, k80 w2, r80_0 w2, r80_4 w2, r80_5 w2, r80_6 w2, H2.k, t94 H2 W, ilt_n, a1, zN_some, ij_n, ilt_p]) (fun z hP => by
    obtain ⟨z1, z2, z3⟩ := hP
    refine ⟨(jN, z.2), ?_, by rw [z3]; rfl, z2⟩
    unfold f148_28
    rw [z1]
    simp (disch := omega) only [gT, nbeq, Option.isSome_some, Option.getD_some, Bool.and_true, Bool.true_and, Bool.and_self, mX_some, bS, bN_if, bN_01, i1_01, i0_01, if_true, if_false, Bool.false_eq_true, false_and, and_false, and_true, true_and, and_self, Bool.or_false, Bool.false_or, Bool.or_true, Bool.true_or, Bool.false_and, Bool.and_false, decide_true, decide_false, L0, L1, L2, L3, L4, L5, L6, L7, L8, L9, L10, L11, L12, L13, L14, L15, L16, L17, L18, L19, L20, L21, L22, L23, L24, L25, L27, L33, L39, L40, L45, L48, L57, L60, L72, L90, L97, L98, L99, L100, L121, L122, L242, L255, L256, L580, L600, L1000, L1584, L1000000, Ln1, iN_add, iN_and, iN_or, iN_nd, iN_shl, iN_shr, iN_cl, iN_in, iN_mul, ilt_p]) (by omega) (s := (iN 1, h)) ⟨rfl, Fr.rfl, rfl⟩
  obtain ⟨⟨r, h'⟩, r1, r2, r3⟩ := this
  have r2' : r = zN ((fz (dmZ q B n) 12 0).map (· + 1)) := r2
  rw [r2'] at r1
  exact ⟨h', r1, r3⟩
theorem t283l (H : MoS h q) (W : QW q) (hB : ∀ l s, B l s = bsF q l s (B l)) (hn : n ≤ 20) : ∃ h', mLoop (f283_27 193 (iN n)) mFuel (iN 1, h) = some (zN ((fz (dmZ q B n) 12 0).map (· + 1)), h') ∧ Fr (fun b => Nat.beq b 212) h h' := by
  have hn8 := W.1.1
  have h8 := pw_8 hn8
  have hp := pw_pos (q 0 0)
  have := lp_inv (body := f283_27 193 (iN n)) (P := fun k z => z.1 = iN (k + 1) ∧ Fr (fun b => Nat.beq b 212) h z.2 ∧ fz (dmZ q B n) 12 0 = fz (dmZ q B n) (12 - k) k) (Q := fun r => r.1 = zN ((fz (dmZ q B n) 12 0).map (· + 1)) ∧ Fr (fun b => Nat.beq b 212) h r.2) 12 (fun k z hk hP => by
    obtain ⟨z1, z2, z3⟩ := hP
    have H2 := H.f212 z2
    have w2 := H2.1
    obtain ⟨h1, a1, a2⟩ := t272 (K := 2 ^ q 0 0 - 1) (lamp := k + 1) H2 W (by omega) (by omega) (hB (k + 1)) (by omega) (all_cl W)
    have hst : 12 - k = (12 - (k + 1)) + 1 := by omega
    rw [hst, fz_c _ (12 - (k + 1)) k] at z3
    have hf : fN (fwO q (k + 1) (2 ^ q 0 0 - 1) (B (k + 1))) ≤ 1000000 := by
      cases ef : fwO q (k + 1) (2 ^ q 0 0 - 1) (B (k + 1)) with
      | none => exact Nat.le_refl _
      | some d =>
        have hd := fwO_le (show k + 1 ≤ 12 by omega) (hB (k + 1)) ef
        show d ≤ 1000000
        omega
    by_cases e : fN (fwO q (k + 1) (2 ^ q 0 0 - 1) (B (k + 1))) ≤ n
    · have hz : dmZ q B n k = true := decide_eq_true e
      rw [hz] at z3
      refine Or.inr ⟨(iN (k + 1), h1), ?_, by rw [z3]; rfl, z2.tr a2⟩
      unfold f283_27
      rw [z1]
      simp (disch := omega) only [gT, nbeq, Option.isSome_some, Option.getD_some, Bool.and_true, Bool.true_and, Bool.and_self, mX_some, bS, bN_if, bN_01, i1_01, i0_01, if_true, if_false, Bool.false_eq_true, false_and, and_false, and_true, true_and, and_self, Bool.or_false, Bool.false_or, Bool.or_true, Bool.true_or, Bool.false_and, Bool.and_false, decide_true, decide_false, L0, L1, L2, L3, L4, L5, L6, L7, L8, L9, L10, L11, L12, L13, L14, L15, L16, L17, L18, L19, L20, L21, L22, L23, L24, L25, L27, L33, L39, L40, L45, L48, L57, L60, L72, L90, L97, L98, L99, L100, L121, L122, L242, L255, L256, L580, L600, L1000, L1584, L1000000, Ln1, iN_add, iN_and, iN_or, iN_nd, iN_shl, iN_shr, iN_cl, iN_in, iN_mul, k193 w2, r193_1 w2, r193_2 w2, r193_3 w2, r193_4 w2, r193_5 w2, r193_6 w2, r193_7 w2, r193_8 w2, r193_18 w2, r193_19 w2, r193_32 w2, r193_33 w2, r193_34 w2, r193_36 w2, r193_38 w2, r193_39 w2, r193_40 w2, r193_42 w2, r193_45 w2, r193_46 w2, r193_47 w2, r193_48 w2, r193_49 w2, r193_50 w2, H2.n, Nat.one_shiftLeft, iN_sub, ilt_n, a1]
    · have hz : dmZ q B n k = false := decide_eq_false e
      rw [hz] at z3
      refine Or.inl ⟨(iN (k + 2), h1), ?_, rfl, z2.tr a2, z3⟩
      unfold f283_27
      rw [z1]
      simp (disch := omega) only [gT, nbeq, Option.isSome_some, Option.getD_some, Bool.and_true, Bool.true_and, Bool.and_self, mX_some, bS, bN_if, bN_01, i1_01, i0_01, if_true, if_false, Bool.false_eq_true, false_and, and_false, and_true, true_and, and_self, Bool.or_false, Bool.false_or, Bool.or_true, Bool.true_or, Bool.false_and, Bool.and_false, decide_true, decide_false, L0, L1, L2, L3, L4, L5, L6, L7, L8, L9, L10, L11, L12, L13, L14, L15, L16, L17, L18, L19, L20, L21, L22, L23, L24, L25, L27, L33, L39, L40, L45, L48, L57, L60, L72, L90, L97, L98, L99, L100, L121, L122, L242, L255, L256, L580, L600, L1000, L1584, L1000000, Ln1, iN_add, iN_and, iN_or, iN_nd, iN_shl, iN_shr, iN_cl, iN_in, iN_mul, k193 w2, r193_1 w2, r193_2 w2, r193_3 w2, r193_4 w2, r193_5 w2, r193_6 w2, r193_7 w2, r193_8 w2, r193_18 w2, r193_19 w2, r193_32 w2, r193_33 w2, r193_34 w2, r193_36 w2, r193_38 w2, r193_39 w2, r193_40 w2, r193_42 w2, r193_45 w2, r193_46 w2, r193_47 w2, r193_48 w2, r193_49 w2, r193_50 w2, H2.n, Nat.one_shiftLeft, iN_sub, ilt_n, a1, ilt_p]) (fun z hP => by
    obtain ⟨z1, z2, z3⟩ := hP
    refine ⟨(jN, z.2), ?_, by rw [z3]; rfl, z2⟩
    unfold f283_27
    rw [z1]
    simp (disch := omega) only [gT, nbeq, Option.isSome_some, Option.getD_some, Bool.and_true, Bool.true_and, Bool.and_self, mX_some, bS, bN_if, bN_01, i1_01, i0_01, if_true, if_false, Bool.false_eq_true, false_and, and_false, and_true, true_and, and_self, Bool.or_false, Bool.false_or, Bool.or_true, Bool.true_or, Bool.false_and, Bool.and_false, decide_true, decide_false, L0, L1, L2, L3, L4, L5, L6, L7, L8, L9, L10, L11, L12, L13, L14, L15, L16, L17, L18, L19, L20, L21, L22, L23, L24, L25, L27, L33, L39, L40, L45, L48, L57, L60, L72, L90, L97, L98, L99, L100, L121, L122, L242, L255, L256, L580, L600, L1000, L1584, L1000000, Ln1, iN_add, iN_and, iN_or, iN_nd, iN_shl, iN_shr, iN_cl, iN_in, iN_mul, ilt_p]) (by omega) (s := (iN 1, h)) ⟨rfl, Fr.rfl, rfl⟩
  obtain ⟨⟨r, h'⟩, r1, r2, r3⟩ := this
  have r2' : r = zN ((fz (dmZ q B n) 12 0).map (· + 1)) := r2
  rw [r2'] at r1
  exact ⟨h', r1, r3⟩
end DM
section PB
variable {h : mH}
theorem c_dim (R : Rel h) (x1 x2 : Int32) : ∃ v h1, f148 h 0 x1 x2 = some (v, h1) ∧ FQ h h1 ∧ ∀ h0, FQ h h0 → ∃ h2, f283 h0 193 x1 x2 = some (v, h2) ∧ FQ h0 h2 := by
  have w := R.1
  unfold f148 f148_23
  simp only [gT, nbeq, Option.isSome_some, Option.getD_some, Bool.and_true, Bool.true_and, Bool.and_self, mX_some, bS, bN_if, bN_01, i1_01, i0_01, if_true, if_false, Bool.false_eq_true, false_and, and_false, and_true, true_and, and_self, Bool.or_false, Bool.false_or, Bool.or_true, Bool.true_or, Bool.false_and, Bool.and_false, decide_true, decide_false, k0 w, r0_0 w, r0_1 w, r0_2 w, r0_3 w, r0_4 w, r0_5 w, r0_6 w, r0_7 w, r0_8 w, k1 w, r1_0 w, r1_1 w, r1_2 w, r1_3 w, r1_4 w]
  rcases R.pick x1 with ⟨e1, e2⟩ | ⟨i, q, hi, rfl, W, H, e1, e2⟩
  · simp only [gT, nbeq, Option.isSome_some, Option.getD_some, Bool.and_true, Bool.true_and, Bool.and_self, mX_some, bS, bN_if, bN_01, i1_01, i0_01, if_true, if_false, Bool.false_eq_true, false_and, and_false, and_true, true_and, and_self, Bool.or_false, Bool.false_or, Bool.or_true, Bool.true_or, Bool.false_and, Bool.and_false, decide_true, decide_false, L0, L1, L2, L3, L4, L5, L6, L7, L8, L9, L10, L11, L12, L13, L14, L15, L16, L17, L18, L19, L20, L21, L22, L23, L24, L25, L27, L33, L39, L40, L45, L48, L57, L60, L72, L90, L97, L98, L99, L100, L121, L122, L242, L255, L256, L580, L600, L1000, L1584, L1000000, Ln1, iN_add, iN_and, iN_or, iN_nd, iN_shl, iN_shr, iN_cl, iN_in, iN_mul, e1]
    refine ⟨_, _, rfl, FQ.rfl, fun h0 F => ?_⟩
    have w0 := R.1.q F
    unfold f283 f283_23
    simp (disch := omega) only [gT, nbeq, Option.isSome_some, Option.getD_some, Bool.and_true, Bool.true_and, Bool.and_self, mX_some, bS, bN_if, bN_01, i1_01, i0_01, if_true, if_false, Bool.false_eq_true, false_and, and_false, and_true, true_and, and_self, Bool.or_false, Bool.false_or, Bool.or_true, Bool.true_or, Bool.false_and, Bool.and_false, decide_true, decide_false, L0, L1, L2, L3, L4, L5, L6, L7, L8, L9, L10, L11, L12, L13, L14, L15, L16, L17, L18, L19, L20, L21, L22, L23, L24, L25, L27, L33, L39, L40, L45, L48, L57, L60, L72, L90, L97, L98, L99, L100, L121, L122, L242, L255, L256, L580, L600, L1000, L1584, L1000000, Ln1, iN_add, iN_and, iN_or, iN_nd, iN_shl, iN_shr, iN_cl, iN_in, iN_mul, k193 w0, r193_1 w0, r193_2 w0, r193_3 w0, r193_4 w0, r193_5 w0, r193_6 w0, r193_7 w0, r193_8 w0, r193_18 w0, r193_19 w0, r193_32 w0, r193_33 w0, r193_34 w0, r193_36 w0, r193_38 w0, r193_39 w0, r193_40 w0, r193_42 w0, r193_45 w0, r193_46 w0, r193_47 w0, r193_48 w0, r193_49 w0, r193_50 w0, t179d, e2 _ F.co]
    cases decide (1 ≤ x2.toInt ∧ x2.toInt ≤ 20) <;> simp only [gT, nbeq, Option.isSome_some, Option.getD_some, Bool.and_true, Bool.true_and, Bool.and_self, mX_some, bS, bN_if, bN_01, i1_01, i0_01, if_true, if_false, Bool.false_eq_true, false_and, and_false, and_true, true_and, and_self, Bool.or_false, Bool.false_or, Bool.or_true, Bool.true_or, Bool.false_and, Bool.and_false, decide_true, decide_false] <;> exact ⟨_, rfl, FQ.c0⟩
  · simp (disch := omega) only [gT, nbeq, Option.isSome_some, Option.getD_some, Bool.and_true, Bool.true_and, Bool.and_self, mX_some, bS, bN_if, bN_01, i1_01, i0_01, if_true, if_false, Bool.false_eq_true, false_and, and_false, and_true, true_and, and_self, Bool.or_false, Bool.false_or, Bool.or_true, Bool.true_or, Bool.false_and, Bool.and_false, decide_true, decide_false, L0, L1, L2, L3, L4, L5, L6, L7, L8, L9, L10, L11, L12, L13, L14, L15, L16, L17, L18, L19, L20, L21, L22, L23, L24, L25, L27, L33, L39, L40, L45, L48, L57, L60, L72, L90, L97, L98, L99, L100, L121, L122, L242, L255, L256, L580, L600, L1000, L1584, L1000000, Ln1, iN_add, iN_and, iN_or, iN_nd, iN_shl, iN_shr, iN_cl, iN_in, iN_mul, e1, t17d]
    cases hr : decide (1 ≤ x2.toInt ∧ x2.toInt ≤ 20) with
    | false =>
      simp only [gT, nbeq, Option.isSome_some, Option.getD_some, Bool.and_true, Bool.true_and, Bool.and_self, mX_some, bS, bN_if, bN_01, i1_01, i0_01, if_true, if_false, Bool.false_eq_true, false_and, and_false, and_true, true_and, and_self, Bool.or_false, Bool.false_or, Bool.or_true, Bool.true_or, Bool.false_and, Bool.and_false, decide_true, decide_false]
      refine ⟨_, _, rfl, FQ.rfl, fun h0 F => ?_⟩
      have w0 := R.1.q F
      unfold f283 f283_23
      simp (disch := omega) only [gT, nbeq, Option.isSome_some, Option.getD_some, Bool.and_true, Bool.true_and, Bool.and_self, mX_some, bS, bN_if, bN_01, i1_01, i0_01, if_true, if_false, Bool.false_eq_true, false_and, and_false, and_true, true_and, and_self, Bool.or_false, Bool.false_or, Bool.or_true, Bool.true_or, Bool.false_and, Bool.and_false, decide_true, decide_false, L0, L1, L2, L3, L4, L5, L6, L7, L8, L9, L10, L11, L12, L13, L14, L15, L16, L17, L18, L19, L20, L21, L22, L23, L24, L25, L27, L33, L39, L40, L45, L48, L57, L60, L72, L90, L97, L98, L99, L100, L121, L122, L242, L255, L256, L580, L600, L1000, L1584, L1000000, Ln1, iN_add, iN_and, iN_or, iN_nd, iN_shl, iN_shr, iN_cl, iN_in, iN_mul, k193 w0, r193_1 w0, r193_2 w0, r193_3 w0, r193_4 w0, r193_5 w0, r193_6 w0, r193_7 w0, r193_8 w0, r193_18 w0, r193_19 w0, r193_32 w0, r193_33 w0, r193_34 w0, r193_36 w0, r193_38 w0, r193_39 w0, r193_40 w0, r193_42 w0, r193_45 w0, r193_46 w0, r193_47 w0, r193_48 w0, r193_49 w0, r193_50 w0, t179d, hr]
      exact ⟨_, rfl, FQ.c0⟩
    | true =>
      have hr2 := of_decide_eq_true hr
      obtain ⟨m, rfl, h1, hm⟩ : ∃ m, x2 = iN m ∧ 1 ≤ m ∧ m ≤ 20 := by
        refine ⟨x2.toInt.toNat, Int32.toInt.inj ?_, by omega, by omega⟩
        rw [iN_toInt (by omega)]; omega
      obtain ⟨B, hB⟩ := bf_ex q
      obtain ⟨h1', a1, a2⟩ := t148l w hi H W hB hm
      simp only [gT, nbeq, Option.isSome_some, Option.getD_some, Bool.and_true, Bool.true_and, Bool.and_self, mX_some, bS, bN_if, bN_01, i1_01, i0_01, if_true, if_false, Bool.false_eq_true, false_and, and_false, and_true, true_and, and_self, Bool.or_false, Bool.false_or, Bool.or_true, Bool.true_or, Bool.false_and, Bool.and_false, decide_true, decide_false, a1]
      refine ⟨_, _, rfl, (a2.mono p82_pC).qC, fun h0 F => ?_⟩
      have w0 := R.1.q F
      obtain ⟨h', f1, f2, f3, f4, f5⟩ := e2 _ F.co
      obtain ⟨h2, b1, b2⟩ := t283l f4 W hB hm
      refine ⟨h2, ?_, (FQ.c0.tr f2.qM).tr (b2.mono p212_pM).qM⟩
      unfold f283
      simp (disch := omega) only [gT, nbeq, Option.isSome_some, Option.getD_some, Bool.and_true, Bool.true_and, Bool.and_self, mX_some, bS, bN_if, bN_01, i1_01, i0_01, if_true, if_false, Bool.false_eq_true, false_and, and_false, and_true, true_and, and_self, Bool.or_false, Bool.false_or, Bool.or_true, Bool.true_or, Bool.false_and, Bool.and_false, decide_true, decide_false, L0, L1, L2, L3, L4, L5, L6, L7, L8, L9, L10, L11, L12, L13, L14, L15, L16, L17, L18, L19, L20, L21, L22, L23, L24, L25, L27, L33, L39, L40, L45, L48, L57, L60, L72, L90, L97, L98, L99, L100, L121, L122, L242, L255, L256, L580, L600, L1000, L1584, L1000000, Ln1, iN_add, iN_and, iN_or, iN_nd, iN_shl, iN_shr, iN_cl, iN_in, iN_mul, k193 w0, r193_1 w0, r193_2 w0, r193_3 w0, r193_4 w0, r193_5 w0, r193_6 w0, r193_7 w0, r193_8 w0, r193_18 w0, r193_19 w0, r193_32 w0, r193_33 w0, r193_34 w0, r193_36 w0, r193_38 w0, r193_39 w0, r193_40 w0, r193_42 w0, r193_45 w0, r193_46 w0, r193_47 w0, r193_48 w0, r193_49 w0, r193_50 w0, t179d, hr, f1, b1]
end PB
