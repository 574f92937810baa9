/-! PEOPLE and days that FIT: the reference's -/
def MGf (h : mH) (l : List Nat) : Prop := mI h 193 43 = iN l.length ∧ ∀ k, k < l.length → mI h 211 k = iN (l.getD k 0)
def pF (b : Nat) : Bool := Nat.beq b 193 || Nat.beq b 211
theorem pF_pM : ∀ b, pF b = true → pM b = true := by
  intro b hb
  unfold pF at hb
  simp only [Bool.or_eq_true] at hb
  rcases hb with hb | hb
  · rw [Nat.eq_of_beq_eq_true hb]; decide
  · rw [Nat.eq_of_beq_eq_true hb]; decide
section ML
variable {h : mH} {q : LQ} {g : GQ}
theorem MoS.ff {h h' : mH} {q : LQ} (H : MoS h q) (x : Fr pF h h') (y : ∀ j, j ≠ 43 → mI h' 193 j = mI h 193 j) : MoS h' q := by
  obtain ⟨w, h1, h2, s, h3, h4, h5⟩ := H
  exact ⟨w.fr x, (y 24 (by omega)).trans h1, (y 25 (by omega)).trans h2, s, h3, (y 23 (by omega)).trans h4, fun j hj => (x.i (by decide) _).trans (h5 j hj)⟩
theorem MG.ff {h h' : mH} {g : GQ} (H : MG h g) (x : Fr pF h h') (y : ∀ j, j ≠ 43 → mI h' 193 j = mI h 193 j) : MG h' g := by
  obtain ⟨i, h1, h2, h3, h4⟩ := H
  exact ⟨i, h1, (y 41 (by omega)).trans h2, (x.i (by decide) _).trans h3, fun k hk => ⟨(x.i (by decide) _).trans (h4 k hk).1, (x.i (by decide) _).trans (h4 k hk).2⟩⟩
theorem MG.f5 {h h' : mH} {y : GQ} (H : MG h y) (x : Fr pM h h') (z : ∀ j, 35 ≤ j → mI h' 193 j = mI h 193 j) : MG h' y := by
  obtain ⟨i, h1, h2, h3, h4⟩ := H
  exact ⟨i, h1, (z 41 (by omega)).trans h2, (x.i (by decide) _).trans h3, fun k hk => ⟨(x.i (by decide) _).trans (h4 k hk).1, (x.i (by decide) _).trans (h4 k hk).2⟩⟩
theorem t263 (H : MoS h q) (W : QW q) {f : Nat} (hf : f < 60) : f263 h 193 (iN f) = some (iN (kw q f)) := by
  have w := H.1
  have e6 : iN f - iN f / iN 10 * iN 10 = iN (f % 10) := iN_rem (by omega) (by omega)
  have e7 : iN f / iN 10 = iN (f / 10) := iN_div (by omega) (by omega)
  unfold f263
  simp only [L0, L1, L10, e6]
  simp (disch := omega) only [e7, gT, nbeq, Option.isSome_some, Option.getD_some, Bool.and_true, Bool.true_and, Bool.and_self, mX_some, bS, bN_if, bN_01, i1_01, i0_01, if_true, if_false, Bool.false_eq_true, false_and, and_false, and_true, true_and, and_self, Bool.or_false, Bool.false_or, Bool.or_true, Bool.true_or, Bool.false_and, Bool.and_false, decide_true, decide_false, i10nz, k193 w, r193_1 w, r193_2 w, r193_3 w, r193_4 w, r193_5 w, r193_6 w, r193_7 w, r193_8 w, r193_18 w, r193_19 w, r193_32 w, r193_33 w, r193_34 w, r193_36 w, r193_38 w, r193_39 w, r193_40 w, r193_42 w, r193_45 w, r193_46 w, r193_47 w, r193_48 w, r193_49 w, r193_50 w, iN_shl, t246 H W]
  rfl
theorem t262i (H : MoS h q) (W : QW q) (G : MG h g) (V : GW g) (ho : oth g (q 0 1) g.1 = false) {f : Nat} {l : List Nat} (hf : f < 10 * q 0 1) (hl : l.length < 60) (L : MGf h l) : ∃ h', mLoop (f262_73 h 193 (iN f)) mFuel (iN 1, iN 0) = some (.inl (iN (f + 1), h')) ∧ Fr pF h h' ∧ (∀ j, j ≠ 43 → mI h' 193 j = mI h 193 j) ∧ MGf h' (ftf q g f l) := by
  have w := H.1
  have hm := W.1.2.1
  have hg := V.1
  have h6 := pw_6 hm
  have hk := kw_lt (q := q) (f := f) (by omega)
  have key : ∀ h' : mH, (∀ b : Bool, b = fitB q g f → ((if bN b = iN 0 then some (.inl (iN (f + 1), mSI (mSI h 211 l.length (iN 0)) 193 43 (iN l.length))) else some (.inl (iN (f + 1), mSI (mSI h 211 l.length (iN f)) 193 43 (iN (l.length + 1)))) : Option ((Int32 × mH) ⊕ (Int32 × mH))) = some (.inl (iN (f + 1), h')))) → mLoop (f262_73 h 193 (iN f)) mFuel (iN 1, iN 0) = some (.inl (iN (f + 1), h')) := by
    intro h' hh
    refine lp_up (body := f262_73 h 193 (iN f)) (fun k (b : Bool) => (bN b, iN k)) (fun k b => b && decide ((kw q f).testBit (g.2.2 k) = decide (g.2.1 k = 0))) (fun _ => Sum.inl (iN (f + 1), h')) (fun k b => b = faB g (kw q f) k) g.1 (a0 := true) rfl (fun k b _ hb => by rw [hb]; rfl) ?_ ?_ (by omega)
    · intro k b hk2 hb
      obtain ⟨e1, e2⟩ := t260 w G V hk2
      obtain ⟨v1, v2⟩ := V.2 k hk2
      unfold f262_73 f262_117 f262_124 f262_125
      simp (disch := omega) only [gT, nbeq, Option.isSome_some, Option.getD_some, Bool.and_true, Bool.true_and, Bool.and_self, mX_some, bS, bN_if, bN_01, i1_01, i0_01, if_true, if_false, Bool.false_eq_true, false_and, and_false, and_true, true_and, and_self, Bool.or_false, Bool.false_or, Bool.or_true, Bool.true_or, Bool.false_and, Bool.and_false, decide_true, decide_false, L0, L1, L2, L3, L4, L5, L6, L7, L8, L9, L10, L11, L12, L13, L14, L15, L16, L17, L18, L19, L20, L21, L22, L23, L24, L25, L27, L33, L39, L40, L45, L48, L57, L60, L72, L90, L97, L98, L99, L100, L121, L122, L242, L255, L256, L580, L600, L1000, L1584, L1000000, Ln1, iN_add, iN_and, iN_or, iN_nd, iN_shl, iN_shr, iN_cl, iN_in, iN_mul, k193 w, r193_1 w, r193_2 w, r193_3 w, r193_4 w, r193_5 w, r193_6 w, r193_7 w, r193_8 w, r193_18 w, r193_19 w, r193_32 w, r193_33 w, r193_34 w, r193_36 w, r193_38 w, r193_39 w, r193_40 w, r193_42 w, r193_45 w, r193_46 w, r193_47 w, r193_48 w, r193_49 w, r193_50 w, t259 w G, ile_n, e1, e2, t263 H W, t221]
      cases b with
      | false => simp only [gT, nbeq, Option.isSome_some, Option.getD_some, Bool.and_true, Bool.true_and, Bool.and_self, mX_some, bS, bN_if, bN_01, i1_01, i0_01, if_true, if_false, Bool.false_eq_true, false_and, and_false, and_true, true_and, and_self, Bool.or_false, Bool.false_or, Bool.or_true, Bool.true_or, Bool.false_and, Bool.and_false, decide_true, decide_false]; rfl
      | true =>
        simp only [gT, nbeq, Option.isSome_some, Option.getD_some, Bool.and_true, Bool.true_and, Bool.and_self, mX_some, bS, bN_if, bN_01, i1_01, i0_01, if_true, if_false, Bool.false_eq_true, false_and, and_false, and_true, true_and, and_self, Bool.or_false, Bool.false_or, Bool.or_true, Bool.true_or, Bool.false_and, Bool.and_false, decide_true, decide_false]
        by_cases e0 : g.2.1 k = 0
        · rw [ieq_p e0, e0]
          cases (kw q f).testBit (g.2.2 k)
          · rw [show bN false = iN 0 from rfl, ieq_n (by omega) (by omega) (by omega)]; rfl
          · rw [show bN true = iN 1 from rfl, ieq_p rfl]; rfl
        · rw [ieq_n (by omega) (by omega) e0, decide_eq_false e0]
          cases (kw q f).testBit (g.2.2 k) <;> rfl
    · intro b hb
      have := hh b hb
      unfold f262_73 f262_171
      simp (disch := omega) only [gT, nbeq, Option.isSome_some, Option.getD_some, Bool.and_true, Bool.true_and, Bool.and_self, mX_some, bS, bN_if, bN_01, i1_01, i0_01, if_true, if_false, Bool.false_eq_true, false_and, and_false, and_true, true_and, and_self, Bool.or_false, Bool.false_or, Bool.or_true, Bool.true_or, Bool.false_and, Bool.and_false, decide_true, decide_false, L0, L1, L2, L3, L4, L5, L6, L7, L8, L9, L10, L11, L12, L13, L14, L15, L16, L17, L18, L19, L20, L21, L22, L23, L24, L25, L27, L33, L39, L40, L45, L48, L57, L60, L72, L90, L97, L98, L99, L100, L121, L122, L242, L255, L256, L580, L600, L1000, L1584, L1000000, Ln1, iN_add, iN_and, iN_or, iN_nd, iN_shl, iN_shr, iN_cl, iN_in, iN_mul, k193 w, r193_1 w, r193_2 w, r193_3 w, r193_4 w, r193_5 w, r193_6 w, r193_7 w, r193_8 w, r193_18 w, r193_19 w, r193_32 w, r193_33 w, r193_34 w, r193_36 w, r193_38 w, r193_39 w, r193_40 w, r193_42 w, r193_45 w, r193_46 w, r193_47 w, r193_48 w, r193_49 w, r193_50 w, k211 w, t259 w G, ile_p, L.1, si_ne, si_nk, si_eq, Nat.add_zero]
      cases b with
      | false => simp only [gT, nbeq, Option.isSome_some, Option.getD_some, Bool.and_true, Bool.true_and, Bool.and_self, mX_some, bS, bN_if, bN_01, i1_01, i0_01, if_true, if_false, Bool.false_eq_true, false_and, and_false, and_true, true_and, and_self, Bool.or_false, Bool.false_or, Bool.or_true, Bool.true_or, Bool.false_and, Bool.and_false, decide_true, decide_false] at this ⊢; exact congrArg (fun z => some (Sum.inr z)) (Option.some.inj this)
      | true => simp only [gT, nbeq, Option.isSome_some, Option.getD_some, Bool.and_true, Bool.true_and, Bool.and_self, mX_some, bS, bN_if, bN_01, i1_01, i0_01, if_true, if_false, Bool.false_eq_true, false_and, and_false, and_true, true_and, and_self, Bool.or_false, Bool.false_or, Bool.or_true, Bool.true_or, Bool.false_and, Bool.and_false, decide_true, decide_false] at this ⊢; exact congrArg (fun z => some (Sum.inr z)) (Option.some.inj this)
  have hst : ftf q g f l = if fitB q g f = true then l ++ [f] else l := rfl
  rw [hst]
  cases hfb : fitB q g f with
  | false =>
    refine ⟨mSI (mSI h 211 l.length (iN 0)) 193 43 (iN l.length), key _ (fun b hb => by rw [hb, hfb]; simp only [gT, nbeq, Option.isSome_some, Option.getD_some, Bool.and_true, Bool.true_and, Bool.and_self, mX_some, bS, bN_if, bN_01, i1_01, i0_01, if_true, if_false, Bool.false_eq_true, false_and, and_false, and_true, true_and, and_self, Bool.or_false, Bool.false_or, Bool.or_true, Bool.true_or, Bool.false_and, Bool.and_false, decide_true, decide_false]), (Fr.rfl.si (by decide)).si (by decide), fun j hj => ?_, ?_, fun k hk2 => ?_⟩
    · simp (disch := omega) only [si_ne, si_nk, si_eq]
    · simp (disch := omega) only [si_ne, si_nk, si_eq, Bool.false_eq_true, if_false]
    · simp only [Bool.false_eq_true, if_false] at hk2 ⊢
      simp (disch := omega) only [si_ne, si_nk, si_eq]
      exact L.2 k hk2
  | true =>
    refine ⟨mSI (mSI h 211 l.length (iN f)) 193 43 (iN (l.length + 1)), key _ (fun b hb => by rw [hb, hfb]; simp only [gT, nbeq, Option.isSome_some, Option.getD_some, Bool.and_true, Bool.true_and, Bool.and_self, mX_some, bS, bN_if, bN_01, i1_01, i0_01, if_true, if_false, Bool.false_eq_true, false_and, and_false, and_true, true_and, and_self, Bool.or_false, Bool.false_or, Bool.or_true, Bool.true_or, Bool.false_and, Bool.and_false, decide_true, decide_false]), (Fr.rfl.si (by decide)).si (by decide), fun j hj => ?_, ?_, fun k hk2 => ?_⟩
    · simp (disch := omega) only [si_ne, si_nk, si_eq]
    · simp (disch := omega) only [si_ne, si_nk, si_eq, if_true]; rw [List.length_append]; rfl
    · simp only [if_true] at hk2 ⊢
      rw [List.length_append] at hk2
      have hk3 : k < l.length + 1 := hk2
      by_cases e : k < l.length
      · rw [app_l e]
        simp (disch := omega) only [si_ne, si_nk, si_eq]
        exact L.2 k e
      · have e2 : k = l.length := by omega
        subst e2
        rw [app_r]
        simp (disch := omega) only [si_ne, si_nk, si_eq]
theorem t262l (H : MoS h q) (W : QW q) (G : MG h g) (V : GW g) : ∃ h', mLoop (f262_20 h 193) mFuel (iN 0) = some (bN (!oth g (q 0 1) g.1), h') ∧ Fr pF h h' ∧ (∀ j, j ≠ 43 → mI h' 193 j = mI h 193 j) ∧ (oth g (q 0 1) g.1 = false → MGf h' (ftl q g (10 * q 0 1))) := by
  have w := H.1
  have hm := W.1.2.1
  have hg := V.1
  have := lp_inv (body := f262_20 h 193) (P := fun i s => s = iN i ∧ oth g (q 0 1) i = false) (Q := fun r => r.1 = bN (!oth g (q 0 1) g.1) ∧ Fr pF h r.2 ∧ (∀ j, j ≠ 43 → mI r.2 193 j = mI h 193 j) ∧ (oth g (q 0 1) g.1 = false → MGf r.2 (ftl q g (10 * q 0 1)))) g.1 (fun i s hi hP => by
    obtain ⟨rfl, ho⟩ := hP
    obtain ⟨e1, e2⟩ := t260 w G V hi
    have hp := (V.2 i hi).2
    by_cases e : g.2.2 i < q 0 1
    · refine Or.inl ⟨iN (i + 1), ?_, rfl, ?_⟩
      · unfold f262_20
        simp (disch := omega) only [gT, nbeq, Option.isSome_some, Option.getD_some, Bool.and_true, Bool.true_and, Bool.and_self, mX_some, bS, bN_if, bN_01, i1_01, i0_01, if_true, if_false, Bool.false_eq_true, false_and, and_false, and_true, true_and, and_self, Bool.or_false, Bool.false_or, Bool.or_true, Bool.true_or, Bool.false_and, Bool.and_false, decide_true, decide_false, L0, L1, L2, L3, L4, L5, L6, L7, L8, L9, L10, L11, L12, L13, L14, L15, L16, L17, L18, L19, L20, L21, L22, L23, L24, L25, L27, L33, L39, L40, L45, L48, L57, L60, L72, L90, L97, L98, L99, L100, L121, L122, L242, L255, L256, L580, L600, L1000, L1584, L1000000, Ln1, iN_add, iN_and, iN_or, iN_nd, iN_shl, iN_shr, iN_cl, iN_in, iN_mul, k193 w, r193_1 w, r193_2 w, r193_3 w, r193_4 w, r193_5 w, r193_6 w, r193_7 w, r193_8 w, r193_18 w, r193_19 w, r193_32 w, r193_33 w, r193_34 w, r193_36 w, r193_38 w, r193_39 w, r193_40 w, r193_42 w, r193_45 w, r193_46 w, r193_47 w, r193_48 w, r193_49 w, r193_50 w, t259 w G, ile_n, e2, t226 H W, rg_iN, e]
      · simp only [oth]; rw [ho, decide_eq_false (by omega)]; rfl
    · have ht : oth g (q 0 1) g.1 = true := oth_t (i := i + 1) (by omega) (by simp only [oth]; rw [decide_eq_true e]; simp)
      refine Or.inr ⟨(iN 0, h), ?_, by rw [ht]; rfl, Fr.rfl, fun j _ => rfl, fun e => by rw [ht] at e; cases e⟩
      unfold f262_20
      simp (disch := omega) only [gT, nbeq, Option.isSome_some, Option.getD_some, Bool.and_true, Bool.true_and, Bool.and_self, mX_some, bS, bN_if, bN_01, i1_01, i0_01, if_true, if_false, Bool.false_eq_true, false_and, and_false, and_true, true_and, and_self, Bool.or_false, Bool.false_or, Bool.or_true, Bool.true_or, Bool.false_and, Bool.and_false, decide_true, decide_false, L0, L1, L2, L3, L4, L5, L6, L7, L8, L9, L10, L11, L12, L13, L14, L15, L16, L17, L18, L19, L20, L21, L22, L23, L24, L25, L27, L33, L39, L40, L45, L48, L57, L60, L72, L90, L97, L98, L99, L100, L121, L122, L242, L255, L256, L580, L600, L1000, L1584, L1000000, Ln1, iN_add, iN_and, iN_or, iN_nd, iN_shl, iN_shr, iN_cl, iN_in, iN_mul, k193 w, r193_1 w, r193_2 w, r193_3 w, r193_4 w, r193_5 w, r193_6 w, r193_7 w, r193_8 w, r193_18 w, r193_19 w, r193_32 w, r193_33 w, r193_34 w, r193_36 w, r193_38 w, r193_39 w, r193_40 w, r193_42 w, r193_45 w, r193_46 w, r193_47 w, r193_48 w, r193_49 w, r193_50 w, t259 w G, ile_n, e2, t226 H W, rg_iN, e]) (fun s hP => by
    obtain ⟨rfl, ho⟩ := hP
    have := lp_inv (body := f262_56 193) (P := fun f z => z.1 = iN f ∧ Fr pF h z.2 ∧ (∀ j, j ≠ 43 → mI z.2 193 j = mI h 193 j) ∧ MGf z.2 (ftl q g f)) (Q := fun r => r.1 = bN (!oth g (q 0 1) g.1) ∧ Fr pF h r.2 ∧ (∀ j, j ≠ 43 → mI r.2 193 j = mI h 193 j) ∧ (oth g (q 0 1) g.1 = false → MGf r.2 (ftl q g (10 * q 0 1)))) (10 * q 0 1) (fun f z hf hP => by
      obtain ⟨z1, z2, z3, z4⟩ := hP
      have H2 := H.ff z2 z3
      have w2 := H2.1
      have hl := (ftl_ok q g f).1
      obtain ⟨h', f1, f2, f3, f4⟩ := t262i H2 W (G.ff z2 z3) V ho hf (by omega) z4
      refine Or.inl ⟨(iN (f + 1), h'), ?_, rfl, z2.tr f2, fun j hj => (f3 j hj).trans (z3 j hj), f4⟩
      unfold f262_56
      rw [z1]
      simp (disch := omega) only [gT, nbeq, Option.isSome_some, Option.getD_some, Bool.and_true, Bool.true_and, Bool.and_self, mX_some, bS, bN_if, bN_01, i1_01, i0_01, if_true, if_false, Bool.false_eq_true, false_and, and_false, and_true, true_and, and_self, Bool.or_false, Bool.false_or, Bool.or_true, Bool.true_or, Bool.false_and, Bool.and_false, decide_true, decide_false, L0, L1, L2, L3, L4, L5, L6, L7, L8, L9, L10, L11, L12, L13, L14, L15, L16, L17, L18, L19, L20, L21, L22, L23, L24, L25, L27, L33, L39, L40, L45, L48, L57, L60, L72, L90, L97, L98, L99, L100, L121, L122, L242, L255, L256, L580, L600, L1000, L1584, L1000000, Ln1, iN_add, iN_and, iN_or, iN_nd, iN_shl, iN_shr, iN_cl, iN_in, iN_mul, k193 w2, r193_1 w2, r193_2 w2, r193_3 w2, r193_4 w2, r193_5 w2, r193_6 w2, r193_7 w2, r193_8 w2, r193_18 w2, r193_19 w2, r193_32 w2, r193_33 w2, r193_34 w2, r193_36 w2, r193_38 w2, r193_39 w2, r193_40 w2, r193_42 w2, r193_45 w2, r193_46 w2, r193_47 w2, r193_48 w2, r193_49 w2, r193_50 w2, H2.m, ile_n, f1]) (fun z hP => by
      obtain ⟨z1, z2, z3, z4⟩ := hP
      have H2 := H.ff z2 z3
      have w2 := H2.1
      refine ⟨(iN 1, z.2), ?_, by rw [ho]; rfl, z2, z3, fun _ => z4⟩
      unfold f262_56
      rw [z1]
      simp (disch := omega) only [gT, nbeq, Option.isSome_some, Option.getD_some, Bool.and_true, Bool.true_and, Bool.and_self, mX_some, bS, bN_if, bN_01, i1_01, i0_01, if_true, if_false, Bool.false_eq_true, false_and, and_false, and_true, true_and, and_self, Bool.or_false, Bool.false_or, Bool.or_true, Bool.true_or, Bool.false_and, Bool.and_false, decide_true, decide_false, L0, L1, L2, L3, L4, L5, L6, L7, L8, L9, L10, L11, L12, L13, L14, L15, L16, L17, L18, L19, L20, L21, L22, L23, L24, L25, L27, L33, L39, L40, L45, L48, L57, L60, L72, L90, L97, L98, L99, L100, L121, L122, L242, L255, L256, L580, L600, L1000, L1584, L1000000, Ln1, iN_add, iN_and, iN_or, iN_nd, iN_shl, iN_shr, iN_cl, iN_in, iN_mul, k193 w2, r193_1 w2, r193_2 w2, r193_3 w2, r193_4 w2, r193_5 w2, r193_6 w2, r193_7 w2, r193_8 w2, r193_18 w2, r193_19 w2, r193_32 w2, r193_33 w2, r193_34 w2, r193_36 w2, r193_38 w2, r193_39 w2, r193_40 w2, r193_42 w2, r193_45 w2, r193_46 w2, r193_47 w2, r193_48 w2, r193_49 w2, r193_50 w2, H2.m, ile_p]) (by omega) (s := (iN 0, mSI h 193 43 (iN 0))) ⟨rfl, Fr.rfl.si (by decide), fun j hj => by simp (disch := omega) only [si_ne, si_nk, si_eq], ⟨by simp (disch := omega) only [si_ne, si_nk, si_eq]; rfl, fun k hk => absurd hk (by simp [ftl, up])⟩⟩
    obtain ⟨r, r1, r2⟩ := this
    refine ⟨r, ?_, r2⟩
    unfold f262_20
    simp (disch := omega) only [gT, nbeq, Option.isSome_some, Option.getD_some, Bool.and_true, Bool.true_and, Bool.and_self, mX_some, bS, bN_if, bN_01, i1_01, i0_01, if_true, if_false, Bool.false_eq_true, false_and, and_false, and_true, true_and, and_self, Bool.or_false, Bool.false_or, Bool.or_true, Bool.true_or, Bool.false_and, Bool.and_false, decide_true, decide_false, L0, L1, L2, L3, L4, L5, L6, L7, L8, L9, L10, L11, L12, L13, L14, L15, L16, L17, L18, L19, L20, L21, L22, L23, L24, L25, L27, L33, L39, L40, L45, L48, L57, L60, L72, L90, L97, L98, L99, L100, L121, L122, L242, L255, L256, L580, L600, L1000, L1584, L1000000, Ln1, iN_add, iN_and, iN_or, iN_nd, iN_shl, iN_shr, iN_cl, iN_in, iN_mul, k193 w, r193_1 w, r193_2 w, r193_3 w, r193_4 w, r193_5 w, r193_6 w, r193_7 w, r193_8 w, r193_18 w, r193_19 w, r193_32 w, r193_33 w, r193_34 w, r193_36 w, r193_38 w, r193_39 w, r193_40 w, r193_42 w, r193_45 w, r193_46 w, r193_47 w, r193_48 w, r193_49 w, r193_50 w, t259 w G, ile_p, r1]) (by omega) (s := iN 0) ⟨rfl, rfl⟩
  obtain ⟨⟨r, h'⟩, r1, r2, r3⟩ := this
  have r2' : r = bN (!oth g (q 0 1) g.1) := r2
  rw [r2'] at r1
  exact ⟨h', r1, r3⟩
end ML
theorem Rel.pickLG {h : mH} (R : Rel h) (x1 x2 : Int32) : (∃ h1, f114 h 0 x1 x2 = some (bN false, h1) ∧ FQ h h1 ∧ ∀ h0, FQ h h0 → ∃ h', f262 h0 193 x1 x2 = some (bN false, h') ∧ FQ h0 h') ∨ ∃ i q l h1, i < 2 ∧ x1 = iN i ∧ QW q ∧ LibS h1 (7 + 14 * i) q ∧ f53 h1 1 x1 = some (some (7 + 14 * i)) ∧ f114 h 0 x1 x2 = some (bN true, h1) ∧ FQ h h1 ∧ CG h1 q l ∧ mI h1 88 3 = iN (q 0 1) ∧ l.length ≤ 10 * q 0 1 ∧ (∀ k, k < l.length → l.getD k 0 < 10 * q 0 1) ∧ (∀ i j, i < j → j < l.length → l.getD i 0 < l.getD j 0) ∧ ∀ h0, FQ h h0 → ∃ h', f262 h0 193 x1 x2 = some (bN true, h') ∧ FQ h0 h' ∧ MoS h' q ∧ MGf h' l := by
  have w := R.1
  have cl : ∀ o1 o2, f53 h 1 x1 = some o1 → f111 h 1 x2 = some o2 → (o1 = none ∨ o2 = none) → f114 h 0 x1 x2 = some (bN false, h) := by
    intro o1 o2 e1 e2 e3
    unfold f114 f114_45 f114_46
    simp only [gT, nbeq, Option.isSome_some, Option.getD_some, Bool.and_true, Bool.true_and, Bool.and_self, mX_some, bS, bN_if, bN_01, i1_01, i0_01, if_true, if_false, Bool.false_eq_true, false_and, and_false, and_true, true_and, and_self, Bool.or_false, Bool.false_or, Bool.or_true, Bool.true_or, Bool.false_and, Bool.and_false, decide_true, decide_false, L0, L1, L2, L3, L4, L5, L6, L7, L8, L9, L10, L11, L12, L13, L14, L15, L16, L17, L18, L19, L20, L21, L22, L23, L24, L25, L27, L33, L39, L40, L45, L48, L57, L60, L72, L90, L97, L98, L99, L100, L121, L122, L242, L255, L256, L580, L600, L1000, L1584, L1000000, Ln1, iN_add, iN_and, iN_or, iN_nd, iN_shl, iN_shr, iN_cl, iN_in, iN_mul, k0 w, r0_0 w, r0_1 w, r0_2 w, r0_3 w, r0_4 w, r0_5 w, r0_6 w, r0_7 w, r0_8 w, k1 w, r1_0 w, r1_1 w, r1_2 w, r1_3 w, r1_4 w, e1, e2]
    cases o1 with
    | none => cases o2 <;> rfl
    | some a =>
      cases o2 with
      | none => rfl
      | some b => rcases e3 with e | e <;> cases e
  rcases R.pickG x2 with ⟨e3, e4⟩ | ⟨k, g, hk, rfl, V, G, e3, e4⟩
  · have no : ∀ h0, FQ h h0 → ∃ h', f262 h0 193 x1 x2 = some (bN false, h') ∧ FQ h0 h' := fun h0 F => by
      have w0 := R.1.q F
      unfold f262 f262_16
      simp only [gT, nbeq, Option.isSome_some, Option.getD_some, Bool.and_true, Bool.true_and, Bool.and_self, mX_some, bS, bN_if, bN_01, i1_01, i0_01, if_true, if_false, Bool.false_eq_true, false_and, and_false, and_true, true_and, and_self, Bool.or_false, Bool.false_or, Bool.or_true, Bool.true_or, Bool.false_and, Bool.and_false, decide_true, decide_false, L0, L1, L2, L3, L4, L5, L6, L7, L8, L9, L10, L11, L12, L13, L14, L15, L16, L17, L18, L19, L20, L21, L22, L23, L24, L25, L27, L33, L39, L40, L45, L48, L57, L60, L72, L90, L97, L98, L99, L100, L121, L122, L242, L255, L256, L580, L600, L1000, L1584, L1000000, Ln1, iN_add, iN_and, iN_or, iN_nd, iN_shl, iN_shr, iN_cl, iN_in, iN_mul, k193 w0, r193_1 w0, r193_2 w0, r193_3 w0, r193_4 w0, r193_5 w0, r193_6 w0, r193_7 w0, r193_8 w0, r193_18 w0, r193_19 w0, r193_32 w0, r193_33 w0, r193_34 w0, r193_36 w0, r193_38 w0, r193_39 w0, r193_40 w0, r193_42 w0, r193_45 w0, r193_46 w0, r193_47 w0, r193_48 w0, r193_49 w0, r193_50 w0, e4 h0 F]
      exact ⟨_, rfl, FQ.cw⟩
    rcases R.pick x1 with ⟨e1, e2⟩ | ⟨i, q, hi, rfl, W, H, e1, e2⟩
    · exact Or.inl ⟨h, cl _ _ e1 e3 (Or.inl rfl), FQ.rfl, no⟩
    · exact Or.inl ⟨h, cl _ _ e1 e3 (Or.inr rfl), FQ.rfl, no⟩
  · rcases R.pick x1 with ⟨e1, e2⟩ | ⟨i, q, hi, rfl, W, H, e1, e2⟩
    · refine Or.inl ⟨h, cl _ _ e1 e3 (Or.inl rfl), FQ.rfl, fun h0 F => ?_⟩
      have w0 := R.1.q F
      have F1 : FQ h (mSI h0 193 41 (iN k)) := F.tr FQ.cw
      have w1 := R.1.q F1
      unfold f262 f262_16
      simp only [gT, nbeq, Option.isSome_some, Option.getD_some, Bool.and_true, Bool.true_and, Bool.and_self, mX_some, bS, bN_if, bN_01, i1_01, i0_01, if_true, if_false, Bool.false_eq_true, false_and, and_false, and_true, true_and, and_self, Bool.or_false, Bool.false_or, Bool.or_true, Bool.true_or, Bool.false_and, Bool.and_false, decide_true, decide_false, L0, L1, L2, L3, L4, L5, L6, L7, L8, L9, L10, L11, L12, L13, L14, L15, L16, L17, L18, L19, L20, L21, L22, L23, L24, L25, L27, L33, L39, L40, L45, L48, L57, L60, L72, L90, L97, L98, L99, L100, L121, L122, L242, L255, L256, L580, L600, L1000, L1584, L1000000, Ln1, iN_add, iN_and, iN_or, iN_nd, iN_shl, iN_shr, iN_cl, iN_in, iN_mul, k193 w0, r193_1 w0, r193_2 w0, r193_3 w0, r193_4 w0, r193_5 w0, r193_6 w0, r193_7 w0, r193_8 w0, r193_18 w0, r193_19 w0, r193_32 w0, r193_33 w0, r193_34 w0, r193_36 w0, r193_38 w0, r193_39 w0, r193_40 w0, r193_42 w0, r193_45 w0, r193_46 w0, r193_47 w0, r193_48 w0, r193_49 w0, r193_50 w0, k193 w1, r193_1 w1, r193_2 w1, r193_3 w1, r193_4 w1, r193_5 w1, r193_6 w1, r193_7 w1, r193_8 w1, r193_18 w1, r193_19 w1, r193_32 w1, r193_33 w1, r193_34 w1, r193_36 w1, r193_38 w1, r193_39 w1, r193_40 w1, r193_42 w1, r193_45 w1, r193_46 w1, r193_47 w1, r193_48 w1, r193_49 w1, r193_50 w1, (e4 h0 F).1, e2 _ F1]
      exact ⟨_, rfl, FQ.cw⟩
    · obtain ⟨h1, a1, a2, a3⟩ := t115 w H W G V (by omega) (by omega)
      have Q1 : FQ h h1 := (a2.mono pG_pC).qC
      have mo : ∀ h0, FQ h h0 → ∃ h', f262 h0 193 (iN i) (iN k) = some (bN (!oth g (q 0 1) g.1), h') ∧ FQ h0 h' ∧ MoS h' q ∧ (oth g (q 0 1) g.1 = false → MGf h' (ftl q g (10 * q 0 1))) := fun h0 F => by
        have w0 := R.1.q F
        have F1 : FQ h (mSI h0 193 41 (iN k)) := F.tr FQ.cw
        have w1 := R.1.q F1
        obtain ⟨b1, b2⟩ := e4 h0 F
        obtain ⟨h', f1, f2, f3, f4, f5⟩ := e2 _ F1
        obtain ⟨h2, c1, c2, c3, c4⟩ := t262l f4 W (b2.f5 f2 f3) V
        refine ⟨h2, ?_, (FQ.cw.tr f2.qM).tr (c2.mono pF_pM).qM, f4.ff c2 c3, c4⟩
        unfold f262
        simp only [gT, nbeq, Option.isSome_some, Option.getD_some, Bool.and_true, Bool.true_and, Bool.and_self, mX_some, bS, bN_if, bN_01, i1_01, i0_01, if_true, if_false, Bool.false_eq_true, false_and, and_false, and_true, true_and, and_self, Bool.or_false, Bool.false_or, Bool.or_true, Bool.true_or, Bool.false_and, Bool.and_false, decide_true, decide_false, L0, L1, L2, L3, L4, L5, L6, L7, L8, L9, L10, L11, L12, L13, L14, L15, L16, L17, L18, L19, L20, L21, L22, L23, L24, L25, L27, L33, L39, L40, L45, L48, L57, L60, L72, L90, L97, L98, L99, L100, L121, L122, L242, L255, L256, L580, L600, L1000, L1584, L1000000, Ln1, iN_add, iN_and, iN_or, iN_nd, iN_shl, iN_shr, iN_cl, iN_in, iN_mul, k193 w0, r193_1 w0, r193_2 w0, r193_3 w0, r193_4 w0, r193_5 w0, r193_6 w0, r193_7 w0, r193_8 w0, r193_18 w0, r193_19 w0, r193_32 w0, r193_33 w0, r193_34 w0, r193_36 w0, r193_38 w0, r193_39 w0, r193_40 w0, r193_42 w0, r193_45 w0, r193_46 w0, r193_47 w0, r193_48 w0, r193_49 w0, r193_50 w0, k193 w1, r193_1 w1, r193_2 w1, r193_3 w1, r193_4 w1, r193_5 w1, r193_6 w1, r193_7 w1, r193_8 w1, r193_18 w1, r193_19 w1, r193_32 w1, r193_33 w1, r193_34 w1, r193_36 w1, r193_38 w1, r193_39 w1, r193_40 w1, r193_42 w1, r193_45 w1, r193_46 w1, r193_47 w1, r193_48 w1, r193_49 w1, r193_50 w1, b1, f1, c1]
      have c114 : f114 h 0 (iN i) (iN k) = some (bN (!oth g (q 0 1) g.1), h1) := by
        unfold f114 f114_45 f114_46
        simp only [gT, nbeq, Option.isSome_some, Option.getD_some, Bool.and_true, Bool.true_and, Bool.and_self, mX_some, bS, bN_if, bN_01, i1_01, i0_01, if_true, if_false, Bool.false_eq_true, false_and, and_false, and_true, true_and, and_self, Bool.or_false, Bool.false_or, Bool.or_true, Bool.true_or, Bool.false_and, Bool.and_false, decide_true, decide_false, L0, L1, L2, L3, L4, L5, L6, L7, L8, L9, L10, L11, L12, L13, L14, L15, L16, L17, L18, L19, L20, L21, L22, L23, L24, L25, L27, L33, L39, L40, L45, L48, L57, L60, L72, L90, L97, L98, L99, L100, L121, L122, L242, L255, L256, L580, L600, L1000, L1584, L1000000, Ln1, iN_add, iN_and, iN_or, iN_nd, iN_shl, iN_shr, iN_cl, iN_in, iN_mul, k0 w, r0_0 w, r0_1 w, r0_2 w, r0_3 w, r0_4 w, r0_5 w, r0_6 w, r0_7 w, r0_8 w, k1 w, r1_0 w, r1_1 w, r1_2 w, r1_3 w, r1_4 w, k88 w, r88_0 w, r88_2 w, e1, e3, a1]
        cases oth g (q 0 1) g.1 <;> rfl
      cases ho : oth g (q 0 1) g.1 with
      | true =>
        rw [ho] at c114 mo
        exact Or.inl ⟨h1, c114, Q1, fun h0 F => by obtain ⟨h', m1, m2, _⟩ := mo h0 F; exact ⟨h', m1, m2⟩⟩
      | false =>
        rw [ho] at c114 mo
        obtain ⟨b1, b2⟩ := a3 ho
        obtain ⟨l1, l2, l3⟩ := ftl_ok q g (10 * q 0 1)
        obtain ⟨m, hm, n1, n2, _⟩ := R.lib
        refine Or.inr ⟨i, q, ftl q g (10 * q 0 1), h1, hi, rfl, W, H.fr a2 (fun j hj => pG_n (by omega)), ?_, c114, Q1, b1, b2, l1, l2, l3, fun h0 F => ?_⟩
        · rw [t53 (w.q Q1) hm ((Q1.i (by decide) 0).trans n1), ← t53 w hm n1]; exact e1
        · obtain ⟨h', m1, m2, m3, m4⟩ := mo h0 F
          exact ⟨h', m1, m2, m3, m4 rfl⟩
