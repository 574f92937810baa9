/-! The reference's day; a deed. -/
theorem and_z {x y : Nat} : x &&& y = 0 ↔ ∀ j, ¬ (x.testBit j = true ∧ y.testBit j = true) := by
  constructor
  · intro h j hj
    have := congrArg (fun z => z.testBit j) h
    simp only [Nat.testBit_and, hj.1, hj.2, Nat.zero_testBit] at this
    simp at this
  · intro h
    apply Nat.eq_of_testBit_eq; intro j
    rw [Nat.testBit_and, Nat.zero_testBit]
    cases hx : x.testBit j with
    | false => rfl
    | true =>
      cases hy : y.testBit j with
      | false => rfl
      | true => exact absurd ⟨hx, hy⟩ (h j)
theorem and_or_bit {x y i : Nat} : x &&& (y ||| 1 <<< i) = 0 ↔ x &&& y = 0 ∧ x.testBit i = false := by
  rw [and_z, and_z]
  constructor
  · intro h
    refine ⟨fun j hj => h j ⟨hj.1, by rw [Nat.testBit_or, hj.2]; rfl⟩, ?_⟩
    cases e : x.testBit i with
    | false => rfl
    | true => exact absurd ⟨e, by rw [Nat.testBit_or, tb_sh]; simp⟩ (h i)
  · intro h j hj
    rw [Nat.testBit_or, tb_sh] at hj
    by_cases e : i = j
    · subst e; rw [h.2] at hj; cases hj.1
    · simp only [e, decide_false, Bool.or_false] at hj
      exact h.1 j hj
def pA (a : Nat) : Bool := Nat.beq a 193 || Nat.beq a 205
section ML
variable {h : mH} {q : LQ} {s : LSt}
theorem MoS.fa {h h' : mH} {q : LQ} (H : MoS h q) (x : Fr pA h h') (y : ∀ j, j ≠ 31 → mI h' 193 j = mI h 193 j) : MoS h' q := by
  obtain ⟨w, h1, h2, s, h3, h4, h5⟩ := H
  exact ⟨w.fr x, (y 24 (by omega)).trans h1, (y 25 (by omega)).trans h2, s, h3, (y 23 (by omega)).trans h4, fun j hj => (x.i (by decide) _).trans (h5 j hj)⟩
theorem t228 (H : MoS h q) (W : QW q) (A : ∀ k, k < 48 → mI h 206 k = zN (sKn s k)) (S : SW q s) {p c : Nat} (hp : p < q 0 1) (hc : c < 8) (B : mI h 205 (8 * p + c) = zN (sKn s (8 * p + c))) : ∃ h', f228 h 193 (iN p) (iN c) = some ((), h') ∧ Fr pA h h' ∧ (∀ j, j ≠ 31 → mI h' 193 j = mI h 193 j) ∧ (∀ k, mI h' 205 k = if k = 8 * p + c then zN (nK q s k) else mI h 205 k) ∧ mI h' 193 31 = mI h 193 31 + iN (if fgB q s (8 * p + c) = true then 1 else 0) := by
  have w := H.1
  have hm := W.1.2.1
  have e := A (8 * p + c) (by omega)
  have dv : (8 * p + c) / 8 = p := by omega
  have md : (8 * p + c) % 8 = c := by omega
  have hmm := W.2.2.2.2.2.2.2.1 p (by omega)
  have hq := q6_6 W (p := p) (by omega)
  unfold f228
  simp (disch := omega) only [gT, nbeq, Option.isSome_some, Option.getD_some, Bool.and_true, Bool.true_and, Bool.and_self, mX_some, bS, bN_if, bN_01, i1_01, i0_01, if_true, if_false, Bool.false_eq_true, false_and, and_false, and_true, true_and, and_self, Bool.or_false, Bool.false_or, Bool.or_true, Bool.true_or, Bool.false_and, Bool.and_false, decide_true, decide_false, L0, L1, L2, L3, L4, L5, L6, L7, L8, L9, L10, L11, L12, L13, L14, L15, L16, L17, L18, L19, L20, L21, L22, L23, L24, L25, L27, L33, L39, L40, L45, L48, L57, L60, L72, L90, L97, L98, L99, L100, L121, L122, L242, L255, L256, L580, L600, L1000, L1584, L1000000, Ln1, iN_add, iN_and, iN_or, iN_nd, iN_shl, iN_shr, iN_cl, iN_in, iN_mul, k193 w, r193_1 w, r193_2 w, r193_3 w, r193_4 w, r193_5 w, r193_6 w, r193_7 w, r193_8 w, r193_18 w, r193_19 w, r193_32 w, r193_33 w, r193_34 w, r193_36 w, r193_38 w, r193_39 w, r193_40 w, r193_42 w, r193_45 w, r193_46 w, r193_47 w, r193_48 w, r193_49 w, r193_50 w, k205 w, k206 w, e]
  rw [zj (SW.kb W S (by omega))]
  cases hs : sKn s (8 * p + c) with
  | some v =>
    have hw := S.2.1 _ (by omega) v hs
    rw [dv] at hw
    rw [hs] at e
    simp (disch := omega) only [gT, nbeq, Option.isSome_some, Option.getD_some, Bool.and_true, Bool.true_and, Bool.and_self, mX_some, bS, bN_if, bN_01, i1_01, i0_01, if_true, if_false, Bool.false_eq_true, false_and, and_false, and_true, true_and, and_self, Bool.or_false, Bool.false_or, Bool.or_true, Bool.true_or, Bool.false_and, Bool.and_false, decide_true, decide_false, t206 H, fl5, zN_some, L0, L1, L2, L3, L4, L5, L6, L7, L8, L9, L10, L11, L12, L13, L14, L15, L16, L17, L18, L19, L20, L21, L22, L23, L24, L25, L27, L33, L39, L40, L45, L48, L57, L60, L72, L90, L97, L98, L99, L100, L121, L122, L242, L255, L256, L580, L600, L1000, L1584, L1000000, Ln1, iN_add, iN_and, iN_or, iN_nd, iN_shl, iN_shr, iN_cl, iN_in, iN_mul, ieq_d]
    unfold f228_78
    by_cases ev : v + 1 = q 5 p
    · have hnk : nK q s (8 * p + c) = none := by unfold nK; rw [dv, if_pos hp, hs]; simp only [ev, if_true]
      have hfg : fgB q s (8 * p + c) = true := by unfold fgB; rw [hs, dv]; simp only [ev, decide_true]
      simp (disch := omega) only [ev, if_true, gT, nbeq, Option.isSome_some, Option.getD_some, Bool.and_true, Bool.true_and, Bool.and_self, mX_some, bS, bN_if, bN_01, i1_01, i0_01, if_true, if_false, Bool.false_eq_true, false_and, and_false, and_true, true_and, and_self, Bool.or_false, Bool.false_or, Bool.or_true, Bool.true_or, Bool.false_and, Bool.and_false, decide_true, decide_false, si_ne, si_nk, si_eq, jj_p]
      refine ⟨_, rfl, (Fr.rfl.si (by decide)).si (by decide), fun j hj => ?_, fun k => ?_, ?_⟩
      · simp (disch := omega) only [si_ne, si_nk, si_eq]
      · by_cases ek : k = 8 * p + c
        · subst ek; rw [if_pos rfl, hnk]; simp (disch := omega) only [si_ne, si_nk, si_eq]; rfl
        · rw [if_neg ek]; simp (disch := omega) only [si_ne, si_nk, si_eq]
      · simp (disch := omega) only [si_ne, si_nk, si_eq, hfg, if_true]
    · have hnk : nK q s (8 * p + c) = some (v + 1) := by unfold nK; rw [dv, if_pos hp, hs]; simp only [ev, if_false]
      have hfg : fgB q s (8 * p + c) = false := by unfold fgB; rw [hs, dv]; simp only [ev, decide_false]
      simp (disch := omega) only [ev, if_false, gT, nbeq, Option.isSome_some, Option.getD_some, Bool.and_true, Bool.true_and, Bool.and_self, mX_some, bS, bN_if, bN_01, i1_01, i0_01, if_true, if_false, Bool.false_eq_true, false_and, and_false, and_true, true_and, and_self, Bool.or_false, Bool.false_or, Bool.or_true, Bool.true_or, Bool.false_and, Bool.and_false, decide_true, decide_false, si_ne, si_nk, si_eq, ij_n]
      refine ⟨_, rfl, (Fr.rfl.si (by decide)).si (by decide), fun j hj => ?_, fun k => ?_, ?_⟩
      · simp (disch := omega) only [si_ne, si_nk, si_eq]
      · by_cases ek : k = 8 * p + c
        · subst ek; rw [if_pos rfl, hnk]; simp (disch := omega) only [si_ne, si_nk, si_eq]; rfl
        · rw [if_neg ek]; simp (disch := omega) only [si_ne, si_nk, si_eq]
      · simp (disch := omega) only [si_ne, si_nk, si_eq, hfg, if_false, Bool.false_eq_true]
  | none =>
    have hfg : fgB q s (8 * p + c) = false := by unfold fgB; rw [hs]
    rw [hs] at B
    simp (disch := omega) only [gT, nbeq, Option.isSome_some, Option.getD_some, Bool.and_true, Bool.true_and, Bool.and_self, mX_some, bS, bN_if, bN_01, i1_01, i0_01, if_true, if_false, Bool.false_eq_true, false_and, and_false, and_true, true_and, and_self, Bool.or_false, Bool.false_or, Bool.or_true, Bool.true_or, Bool.false_and, Bool.and_false, decide_true, decide_false, Option.isSome_none]
    have := lp_inv (body := f228_82 193 (iN p) (iN c) (iN (8 * p + c))) (P := fun i z => z.1 = iN i ∧ Fr pA h z.2 ∧ (∀ j, mI z.2 193 j = mI h 193 j) ∧ (∀ k, mI z.2 205 k = if k = 8 * p + c then zN (if q 6 p &&& ups (whB s c) i = 0 then none else some 0) else mI h 205 k)) (Q := fun r => Fr pA h r.2 ∧ (∀ j, j ≠ 31 → mI r.2 193 j = mI h 193 j) ∧ (∀ k, mI r.2 205 k = if k = 8 * p + c then zN (nK q s k) else mI h 205 k) ∧ mI r.2 193 31 = mI h 193 31 + iN 0) (q 0 1) (fun i z hi hP => by
      obtain ⟨h1, h2, h3, h4⟩ := hP
      have H2 := H.fa h2 (fun j _ => h3 j)
      have w2 := H2.1
      have a206 : mI z.2 206 (8 * i + c) = zN (sKn s (8 * i + c)) := (h2.i (by decide) _).trans (A _ (by omega))
      have hup : ups (whB s c) (i + 1) = if whB s c i = true then ups (whB s c) i ||| 1 <<< i else ups (whB s c) i := rfl
      have hwb : whB s c i = (sKn s (8 * i + c)).isSome := rfl
      have stay : (q 6 p &&& ups (whB s c) (i + 1) = 0 ↔ q 6 p &&& ups (whB s c) i = 0) → ∃ s', some (Sum.inl (iN (i + 1), z.2)) = some (Sum.inl (β := Unit × mH) s') ∧ (s'.1 = iN (i + 1) ∧ Fr pA h s'.2 ∧ (∀ j, mI s'.2 193 j = mI h 193 j) ∧ (∀ k, mI s'.2 205 k = if k = 8 * p + c then zN (if q 6 p &&& ups (whB s c) (i + 1) = 0 then none else some 0) else mI h 205 k)) := by
        intro hh
        refine ⟨_, rfl, rfl, h2, h3, fun k => ?_⟩
        simp only [hh]; exact h4 k
      refine Or.inl ?_
      unfold f228_82 f228_130
      rw [h1]
      simp (disch := omega) only [gT, nbeq, Option.isSome_some, Option.getD_some, Bool.and_true, Bool.true_and, Bool.and_self, mX_some, bS, bN_if, bN_01, i1_01, i0_01, if_true, if_false, Bool.false_eq_true, false_and, and_false, and_true, true_and, and_self, Bool.or_false, Bool.false_or, Bool.or_true, Bool.true_or, Bool.false_and, Bool.and_false, decide_true, decide_false, L0, L1, L2, L3, L4, L5, L6, L7, L8, L9, L10, L11, L12, L13, L14, L15, L16, L17, L18, L19, L20, L21, L22, L23, L24, L25, L27, L33, L39, L40, L45, L48, L57, L60, L72, L90, L97, L98, L99, L100, L121, L122, L242, L255, L256, L580, L600, L1000, L1584, L1000000, Ln1, iN_add, iN_and, iN_or, iN_nd, iN_shl, iN_shr, iN_cl, iN_in, iN_mul, k193 w2, r193_1 w2, r193_2 w2, r193_3 w2, r193_4 w2, r193_5 w2, r193_6 w2, r193_7 w2, r193_8 w2, r193_18 w2, r193_19 w2, r193_32 w2, r193_33 w2, r193_34 w2, r193_36 w2, r193_38 w2, r193_39 w2, r193_40 w2, r193_42 w2, r193_45 w2, r193_46 w2, r193_47 w2, r193_48 w2, r193_49 w2, r193_50 w2, k205 w2, k206 w2, H2.m, ile_n, t206 H2, fl6, t221, a206]
      cases hb : (q 6 p).testBit i with
      | false =>
        simp only [gT, nbeq, Option.isSome_some, Option.getD_some, Bool.and_true, Bool.true_and, Bool.and_self, mX_some, bS, bN_if, bN_01, i1_01, i0_01, if_true, if_false, Bool.false_eq_true, false_and, and_false, and_true, true_and, and_self, Bool.or_false, Bool.false_or, Bool.or_true, Bool.true_or, Bool.false_and, Bool.and_false, decide_true, decide_false]
        refine stay ?_
        rw [hup]
        split
        · rw [and_or_bit, hb]; simp
        · exact Iff.rfl
      | true =>
        simp only [gT, nbeq, Option.isSome_some, Option.getD_some, Bool.and_true, Bool.true_and, Bool.and_self, mX_some, bS, bN_if, bN_01, i1_01, i0_01, if_true, if_false, Bool.false_eq_true, false_and, and_false, and_true, true_and, and_self, Bool.or_false, Bool.false_or, Bool.or_true, Bool.true_or, Bool.false_and, Bool.and_false, decide_true, decide_false]
        rw [zj (SW.kb W S (by omega))]
        cases hk : (sKn s (8 * i + c)).isSome with
        | false =>
          simp only [gT, nbeq, Option.isSome_some, Option.getD_some, Bool.and_true, Bool.true_and, Bool.and_self, mX_some, bS, bN_if, bN_01, i1_01, i0_01, if_true, if_false, Bool.false_eq_true, false_and, and_false, and_true, true_and, and_self, Bool.or_false, Bool.false_or, Bool.or_true, Bool.true_or, Bool.false_and, Bool.and_false, decide_true, decide_false]
          refine stay ?_
          rw [hup, hwb, hk]; simp
        | true =>
          simp only [gT, nbeq, Option.isSome_some, Option.getD_some, Bool.and_true, Bool.true_and, Bool.and_self, mX_some, bS, bN_if, bN_01, i1_01, i0_01, if_true, if_false, Bool.false_eq_true, false_and, and_false, and_true, true_and, and_self, Bool.or_false, Bool.false_or, Bool.or_true, Bool.true_or, Bool.false_and, Bool.and_false, decide_true, decide_false]
          refine ⟨_, rfl, rfl, h2.si (by decide), fun j => ?_, fun k => ?_⟩
          · simp (disch := omega) only [si_ne, si_nk, si_eq]; exact h3 j
          · have nz : ¬ (q 6 p &&& ups (whB s c) (i + 1) = 0) := by
              rw [hup, hwb, hk, if_pos rfl, and_or_bit, hb]; simp
            by_cases ek : k = 8 * p + c
            · subst ek; rw [if_pos rfl, if_neg nz]; simp (disch := omega) only [si_ne, si_nk, si_eq]; rfl
            · rw [if_neg ek]; simp (disch := omega) only [si_ne, si_nk, si_eq]; rw [h4 k, if_neg ek]) (fun z hP => by
      obtain ⟨h1, h2, h3, h4⟩ := hP
      have H2 := H.fa h2 (fun j _ => h3 j)
      have w2 := H2.1
      refine ⟨((), z.2), ?_, h2, fun j _ => h3 j, fun k => ?_, ?_⟩
      · unfold f228_82
        rw [h1]
        simp (disch := omega) only [gT, nbeq, Option.isSome_some, Option.getD_some, Bool.and_true, Bool.true_and, Bool.and_self, mX_some, bS, bN_if, bN_01, i1_01, i0_01, if_true, if_false, Bool.false_eq_true, false_and, and_false, and_true, true_and, and_self, Bool.or_false, Bool.false_or, Bool.or_true, Bool.true_or, Bool.false_and, Bool.and_false, decide_true, decide_false, L0, L1, L2, L3, L4, L5, L6, L7, L8, L9, L10, L11, L12, L13, L14, L15, L16, L17, L18, L19, L20, L21, L22, L23, L24, L25, L27, L33, L39, L40, L45, L48, L57, L60, L72, L90, L97, L98, L99, L100, L121, L122, L242, L255, L256, L580, L600, L1000, L1584, L1000000, Ln1, iN_add, iN_and, iN_or, iN_nd, iN_shl, iN_shr, iN_cl, iN_in, iN_mul, k193 w2, r193_1 w2, r193_2 w2, r193_3 w2, r193_4 w2, r193_5 w2, r193_6 w2, r193_7 w2, r193_8 w2, r193_18 w2, r193_19 w2, r193_32 w2, r193_33 w2, r193_34 w2, r193_36 w2, r193_38 w2, r193_39 w2, r193_40 w2, r193_42 w2, r193_45 w2, r193_46 w2, r193_47 w2, r193_48 w2, r193_49 w2, r193_50 w2, H2.m, ile_p]
      · rw [h4 k]
        by_cases ek : k = 8 * p + c
        · rw [if_pos ek, if_pos ek, ek]
          unfold nK; rw [dv, if_pos hp, hs, md]
        · rw [if_neg ek, if_neg ek]
      · rw [h3, show (iN 0) = (0 : Int32) from rfl, Int32.add_zero]) (by omega) (s := (iN 0, h)) ⟨rfl, Fr.rfl, fun _ => rfl, fun k => by
        by_cases ek : k = 8 * p + c
        · subst ek; rw [if_pos rfl, B]; simp [ups, up]
        · rw [if_neg ek]⟩
    obtain ⟨⟨u, h'⟩, r1, r2, r3, r4, r5⟩ := this
    exact ⟨h', r1, r2, r3, r4, by rw [r5, hfg]; rfl⟩
end ML
