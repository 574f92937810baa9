/-! The reference's STATE. -/
def FM (h h' : mH) : Prop := Fr pM h h' ∧ ∀ j, (23 ≤ j ∧ j ≤ 25) ∨ 35 ≤ j → mI h' 193 j = mI h 193 j
theorem FM.rfl {h : mH} : FM h h := ⟨Fr.rfl, fun _ _ => Eq.refl _⟩
theorem FM.tr {h h' h2 : mH} (x : FM h h') (y : FM h' h2) : FM h h2 := ⟨x.1.tr y.1, fun j hj => (y.2 j hj).trans (x.2 j hj)⟩
theorem FM.si {h h' : mH} (x : FM h h') {a j : Nat} {v : Int32} (p : pM a = true) (n : a ≠ 193 ∨ ¬ ((23 ≤ j ∧ j ≤ 25) ∨ 35 ≤ j)) : FM h (mSI h' a j v) := ⟨x.1.si p, fun k hk => by
  rcases n with n | n
  · rw [si_ne _ _ _ _ _ _ (fun e => n e.symm)]; exact x.2 k hk
  · rw [si_nk _ _ _ j k _ (fun e => n (by rw [← e]; exact hk))]; exact x.2 k hk⟩
theorem MoS.fm {h h' : mH} {q : LQ} (H : MoS h q) (x : FM h h') : MoS h' q := by
  obtain ⟨w, h1, h2, s, h3, h4, h5⟩ := H
  exact ⟨w.fr x.1, (x.2 24 (by omega)).trans h1, (x.2 25 (by omega)).trans h2, s, h3, (x.2 23 (by omega)).trans h4, fun j hj => (x.1.i (by decide) _).trans (h5 j hj)⟩
def MLS (h : mH) (s : LSt) : Prop := (∀ t, t < 6 → mI h 204 t = iN (sLk s t)) ∧ (∀ k, k < 48 → mI h 205 k = zN (sKn s k)) ∧ mI h 193 30 = iN (sDy s) ∧ mI h 193 26 = iN (sRd s) ∧ mI h 193 27 = iN (sSk s) ∧ mI h 193 28 = iN (sLf s) ∧ mI h 193 29 = bN (sCd s) ∧ mI h 193 31 = iN (sFg s)
theorem t207 {h : mH} {q : LQ} (H : MoS h q) (W : QW q) : ∃ h', f207 h 193 = some ((), h') ∧ FM h h' ∧ MLS h' (s0 q) := by
  have w := H.1
  have hl := W.1.2.2
  unfold f207
  have H1 : MoS (mSI (mSI h 193 26 (iN 0)) 193 27 (iN 0)) q := H.fm ((FM.rfl.si (by decide) (Or.inr (by omega))).si (by decide) (Or.inr (by omega)))
  simp (disch := omega) only [gT, nbeq, Option.isSome_some, Option.getD_some, Bool.and_true, Bool.true_and, Bool.and_self, mX_some, bS, bN_if, bN_01, i1_01, i0_01, if_true, if_false, Bool.false_eq_true, false_and, and_false, and_true, true_and, and_self, Bool.or_false, Bool.false_or, Bool.or_true, Bool.true_or, Bool.false_and, Bool.and_false, decide_true, decide_false, L0, L1, L2, L3, L4, L5, L6, L7, L8, L9, L10, L11, L12, L13, L14, L15, L16, L17, L18, L19, L20, L21, L22, L23, L24, L25, L27, L33, L39, L40, L45, L48, L57, L60, L72, L90, L97, L98, L99, L100, L121, L122, L242, L255, L256, L580, L600, L1000, L1584, L1000000, Ln1, iN_add, iN_and, iN_or, iN_nd, iN_shl, iN_shr, iN_cl, iN_in, iN_mul, k193 w, r193_1 w, r193_2 w, r193_3 w, r193_4 w, r193_5 w, r193_6 w, r193_7 w, r193_8 w, r193_18 w, r193_19 w, r193_32 w, r193_33 w, r193_34 w, r193_36 w, r193_38 w, r193_39 w, r193_40 w, r193_42 w, r193_45 w, r193_46 w, r193_47 w, r193_48 w, r193_49 w, r193_50 w, t206 H1, fl0]
  generalize hg : mSI (mSI (mSI (mSI (mSI (mSI h 193 26 (iN 0)) 193 27 (iN 0)) 193 28 (iN (q 0 2))) 193 29 (iN 0)) 193 30 (iN 0)) 193 31 (iN 0) = g
  have F : FM h g := by
    rw [← hg]
    exact (((((FM.rfl.si (by decide) (Or.inr (by omega))).si (by decide) (Or.inr (by omega))).si (by decide) (Or.inr (by omega))).si (by decide) (Or.inr (by omega))).si (by decide) (Or.inr (by omega))).si (by decide) (Or.inr (by omega))
  have g26 : mI g 193 26 = iN 0 := by rw [← hg]; simp (disch := omega) only [si_ne, si_nk, si_eq]
  have g27 : mI g 193 27 = iN 0 := by rw [← hg]; simp (disch := omega) only [si_ne, si_nk, si_eq]
  have g28 : mI g 193 28 = iN (q 0 2) := by rw [← hg]; simp (disch := omega) only [si_ne, si_nk, si_eq]
  have g29 : mI g 193 29 = iN 0 := by rw [← hg]; simp (disch := omega) only [si_ne, si_nk, si_eq]
  have g30 : mI g 193 30 = iN 0 := by rw [← hg]; simp (disch := omega) only [si_ne, si_nk, si_eq]
  have g31 : mI g 193 31 = iN 0 := by rw [← hg]; simp (disch := omega) only [si_ne, si_nk, si_eq]
  have := lp_inv (body := f207_36 193) (P := fun i z => z.1 = iN i ∧ FM g z.2 ∧ (∀ j, mI z.2 193 j = mI g 193 j) ∧ ∀ t, t < i → mI z.2 204 t = iN (q 4 t)) (Q := fun r => FM g r.2 ∧ (∀ j, mI r.2 193 j = mI g 193 j) ∧ (∀ t, t < 6 → mI r.2 204 t = iN (q 4 t)) ∧ ∀ k, k < 48 → mI r.2 205 k = jN) 6 (fun i z hi hP => by
    obtain ⟨h1, h2, h3, h4⟩ := hP
    have H2 := (H.fm F).fm h2
    have w2 := H2.1
    refine Or.inl ⟨(iN (i + 1), mSI z.2 204 i (iN (q 4 i))), ?_, rfl, h2.si (by decide) (Or.inl (by decide)), fun j => ?_, fun t ht => ?_⟩
    · unfold f207_36
      rw [h1]
      simp (disch := omega) only [gT, nbeq, Option.isSome_some, Option.getD_some, Bool.and_true, Bool.true_and, Bool.and_self, mX_some, bS, bN_if, bN_01, i1_01, i0_01, if_true, if_false, Bool.false_eq_true, false_and, and_false, and_true, true_and, and_self, Bool.or_false, Bool.false_or, Bool.or_true, Bool.true_or, Bool.false_and, Bool.and_false, decide_true, decide_false, L0, L1, L2, L3, L4, L5, L6, L7, L8, L9, L10, L11, L12, L13, L14, L15, L16, L17, L18, L19, L20, L21, L22, L23, L24, L25, L27, L33, L39, L40, L45, L48, L57, L60, L72, L90, L97, L98, L99, L100, L121, L122, L242, L255, L256, L580, L600, L1000, L1584, L1000000, Ln1, iN_add, iN_and, iN_or, iN_nd, iN_shl, iN_shr, iN_cl, iN_in, iN_mul, k193 w2, r193_1 w2, r193_2 w2, r193_3 w2, r193_4 w2, r193_5 w2, r193_6 w2, r193_7 w2, r193_8 w2, r193_18 w2, r193_19 w2, r193_32 w2, r193_33 w2, r193_34 w2, r193_36 w2, r193_38 w2, r193_39 w2, r193_40 w2, r193_42 w2, r193_45 w2, r193_46 w2, r193_47 w2, r193_48 w2, r193_49 w2, r193_50 w2, k204 w2, ile_n, t206 H2, fl4]
    · simp (disch := omega) only [si_ne, si_nk, si_eq]; exact h3 j
    · by_cases e : t = i
      · subst e; simp (disch := omega) only [si_ne, si_nk, si_eq]
      · simp (disch := omega) only [si_ne, si_nk, si_eq]; exact h4 t (by omega)) (fun z hP => by
    obtain ⟨h1, h2, h3, h4⟩ := hP
    have := lp_inv (body := f207_64 193) (P := fun i y => y.1 = iN i ∧ FM g y.2 ∧ (∀ j, mI y.2 193 j = mI g 193 j) ∧ (∀ t, mI y.2 204 t = mI z.2 204 t) ∧ ∀ k, k < i → mI y.2 205 k = jN) (Q := fun r => FM g r.2 ∧ (∀ j, mI r.2 193 j = mI g 193 j) ∧ (∀ t, t < 6 → mI r.2 204 t = iN (q 4 t)) ∧ ∀ k, k < 48 → mI r.2 205 k = jN) 48 (fun i y hi hP => by
      obtain ⟨y1, y2, y3, y4, y5⟩ := hP
      have w2 := ((H.fm F).fm y2).1
      refine Or.inl ⟨(iN (i + 1), mSI y.2 205 i jN), ?_, rfl, y2.si (by decide) (Or.inl (by decide)), fun j => ?_, fun t => ?_, fun k hk => ?_⟩
      · unfold f207_64
        rw [y1]
        simp (disch := omega) only [gT, nbeq, Option.isSome_some, Option.getD_some, Bool.and_true, Bool.true_and, Bool.and_self, mX_some, bS, bN_if, bN_01, i1_01, i0_01, if_true, if_false, Bool.false_eq_true, false_and, and_false, and_true, true_and, and_self, Bool.or_false, Bool.false_or, Bool.or_true, Bool.true_or, Bool.false_and, Bool.and_false, decide_true, decide_false, L0, L1, L2, L3, L4, L5, L6, L7, L8, L9, L10, L11, L12, L13, L14, L15, L16, L17, L18, L19, L20, L21, L22, L23, L24, L25, L27, L33, L39, L40, L45, L48, L57, L60, L72, L90, L97, L98, L99, L100, L121, L122, L242, L255, L256, L580, L600, L1000, L1584, L1000000, Ln1, iN_add, iN_and, iN_or, iN_nd, iN_shl, iN_shr, iN_cl, iN_in, iN_mul, k193 w2, r193_1 w2, r193_2 w2, r193_3 w2, r193_4 w2, r193_5 w2, r193_6 w2, r193_7 w2, r193_8 w2, r193_18 w2, r193_19 w2, r193_32 w2, r193_33 w2, r193_34 w2, r193_36 w2, r193_38 w2, r193_39 w2, r193_40 w2, r193_42 w2, r193_45 w2, r193_46 w2, r193_47 w2, r193_48 w2, r193_49 w2, r193_50 w2, k205 w2, ile_n]
      · simp (disch := omega) only [si_ne, si_nk, si_eq]; exact y3 j
      · simp (disch := omega) only [si_ne, si_nk, si_eq]; exact y4 t
      · by_cases e : k = i
        · subst e; simp (disch := omega) only [si_ne, si_nk, si_eq]
        · simp (disch := omega) only [si_ne, si_nk, si_eq]; exact y5 k (by omega)) (fun y hP => by
      obtain ⟨y1, y2, y3, y4, y5⟩ := hP
      refine ⟨((), y.2), ?_, y2, y3, fun t ht => (y4 t).trans (h4 t ht), y5⟩
      unfold f207_64
      rw [y1]
      simp (disch := omega) only [gT, nbeq, Option.isSome_some, Option.getD_some, Bool.and_true, Bool.true_and, Bool.and_self, mX_some, bS, bN_if, bN_01, i1_01, i0_01, if_true, if_false, Bool.false_eq_true, false_and, and_false, and_true, true_and, and_self, Bool.or_false, Bool.false_or, Bool.or_true, Bool.true_or, Bool.false_and, Bool.and_false, decide_true, decide_false, L0, L1, L2, L3, L4, L5, L6, L7, L8, L9, L10, L11, L12, L13, L14, L15, L16, L17, L18, L19, L20, L21, L22, L23, L24, L25, L27, L33, L39, L40, L45, L48, L57, L60, L72, L90, L97, L98, L99, L100, L121, L122, L242, L255, L256, L580, L600, L1000, L1584, L1000000, Ln1, iN_add, iN_and, iN_or, iN_nd, iN_shl, iN_shr, iN_cl, iN_in, iN_mul, ile_p]) (by omega) (s := (iN 0, z.2)) ⟨rfl, h2, h3, fun _ => rfl, fun k hk => by omega⟩
    obtain ⟨r, r1, r2⟩ := this
    refine ⟨r, ?_, r2⟩
    unfold f207_36
    rw [h1]
    simp (disch := omega) only [gT, nbeq, Option.isSome_some, Option.getD_some, Bool.and_true, Bool.true_and, Bool.and_self, mX_some, bS, bN_if, bN_01, i1_01, i0_01, if_true, if_false, Bool.false_eq_true, false_and, and_false, and_true, true_and, and_self, Bool.or_false, Bool.false_or, Bool.or_true, Bool.true_or, Bool.false_and, Bool.and_false, decide_true, decide_false, L0, L1, L2, L3, L4, L5, L6, L7, L8, L9, L10, L11, L12, L13, L14, L15, L16, L17, L18, L19, L20, L21, L22, L23, L24, L25, L27, L33, L39, L40, L45, L48, L57, L60, L72, L90, L97, L98, L99, L100, L121, L122, L242, L255, L256, L580, L600, L1000, L1584, L1000000, Ln1, iN_add, iN_and, iN_or, iN_nd, iN_shl, iN_shr, iN_cl, iN_in, iN_mul, ile_p, r1]) (by omega) (s := (iN 0, g)) ⟨rfl, FM.rfl, fun _ => rfl, fun t ht => by omega⟩
  obtain ⟨⟨u, h'⟩, r1, r2, r3, r4, r5⟩ := this
  exact ⟨h', r1, F.tr r2, r4, r5, (r3 30).trans g30, (r3 26).trans g26, (r3 27).trans g27, (r3 28).trans g28, (r3 29).trans g29, (r3 31).trans g31⟩
theorem t205n {h : mH} (w : Wd h) {m : Nat} (hm : m ≤ 2) (c : mI h 198 0 = iN m) {x : Int32} (hx : rg x m = false) : f205 h 193 x = some (bN false, h) := by
  unfold f205
  simp (disch := omega) only [gT, nbeq, Option.isSome_some, Option.getD_some, Bool.and_true, Bool.true_and, Bool.and_self, mX_some, bS, bN_if, bN_01, i1_01, i0_01, if_true, if_false, Bool.false_eq_true, false_and, and_false, and_true, true_and, and_self, Bool.or_false, Bool.false_or, Bool.or_true, Bool.true_or, Bool.false_and, Bool.and_false, decide_true, decide_false, L0, L1, L2, L3, L4, L5, L6, L7, L8, L9, L10, L11, L12, L13, L14, L15, L16, L17, L18, L19, L20, L21, L22, L23, L24, L25, L27, L33, L39, L40, L45, L48, L57, L60, L72, L90, L97, L98, L99, L100, L121, L122, L242, L255, L256, L580, L600, L1000, L1584, L1000000, Ln1, iN_add, iN_and, iN_or, iN_nd, iN_shl, iN_shr, iN_cl, iN_in, iN_mul, k193 w, r193_1 w, r193_2 w, r193_3 w, r193_4 w, r193_5 w, r193_6 w, r193_7 w, r193_8 w, r193_18 w, r193_19 w, r193_32 w, r193_33 w, r193_34 w, r193_36 w, r193_38 w, r193_39 w, r193_40 w, r193_42 w, r193_45 w, r193_46 w, r193_47 w, r193_48 w, r193_49 w, r193_50 w, t181 w hm (s := 0) (by omega) c, hx]
  rfl
theorem t205y {h : mH} (w : Wd h) {m i : Nat} {q : LQ} (hm : m ≤ 2) (c : mI h 198 0 = iN m) (hi : i < m) (W : QW q) (S : ShC h (45 * i) q) : ∃ h', f205 h 193 (iN i) = some (bN true, h') ∧ Fr pM h h' ∧ (∀ j, 35 ≤ j → mI h' 193 j = mI h 193 j) ∧ MoS h' q ∧ MLS h' (s0 q) := by
  have a1 : f206 (mSI h 193 23 (iN i)) 193 (iN 0) = some (iN (q 0 0)) := by
    have e : mI h 199 (45 * i) = iN (flat q 0) := S 0 (by omega)
    unfold f206
    simp (disch := omega) only [gT, nbeq, Option.isSome_some, Option.getD_some, Bool.and_true, Bool.true_and, Bool.and_self, mX_some, bS, bN_if, bN_01, i1_01, i0_01, if_true, if_false, Bool.false_eq_true, false_and, and_false, and_true, true_and, and_self, Bool.or_false, Bool.false_or, Bool.or_true, Bool.true_or, Bool.false_and, Bool.and_false, decide_true, decide_false, L0, L1, L2, L3, L4, L5, L6, L7, L8, L9, L10, L11, L12, L13, L14, L15, L16, L17, L18, L19, L20, L21, L22, L23, L24, L25, L27, L33, L39, L40, L45, L48, L57, L60, L72, L90, L97, L98, L99, L100, L121, L122, L242, L255, L256, L580, L600, L1000, L1584, L1000000, Ln1, iN_add, iN_and, iN_or, iN_nd, iN_shl, iN_shr, iN_cl, iN_in, iN_mul, mK_SI, mR_SI, k193 w, r193_1 w, r193_2 w, r193_3 w, r193_4 w, r193_5 w, r193_6 w, r193_7 w, r193_8 w, r193_18 w, r193_19 w, r193_32 w, r193_33 w, r193_34 w, r193_36 w, r193_38 w, r193_39 w, r193_40 w, r193_42 w, r193_45 w, r193_46 w, r193_47 w, r193_48 w, r193_49 w, r193_50 w, k199 w, si_ne, si_nk, si_eq, Nat.add_zero, e]; rfl
  have a2 : f206 (mSI (mSI h 193 23 (iN i)) 193 24 (iN (q 0 0))) 193 (iN 1) = some (iN (q 0 1)) := by
    have e : mI h 199 (45 * i + 1) = iN (flat q 1) := S 1 (by omega)
    unfold f206
    simp (disch := omega) only [gT, nbeq, Option.isSome_some, Option.getD_some, Bool.and_true, Bool.true_and, Bool.and_self, mX_some, bS, bN_if, bN_01, i1_01, i0_01, if_true, if_false, Bool.false_eq_true, false_and, and_false, and_true, true_and, and_self, Bool.or_false, Bool.false_or, Bool.or_true, Bool.true_or, Bool.false_and, Bool.and_false, decide_true, decide_false, L0, L1, L2, L3, L4, L5, L6, L7, L8, L9, L10, L11, L12, L13, L14, L15, L16, L17, L18, L19, L20, L21, L22, L23, L24, L25, L27, L33, L39, L40, L45, L48, L57, L60, L72, L90, L97, L98, L99, L100, L121, L122, L242, L255, L256, L580, L600, L1000, L1584, L1000000, Ln1, iN_add, iN_and, iN_or, iN_nd, iN_shl, iN_shr, iN_cl, iN_in, iN_mul, mK_SI, mR_SI, k193 w, r193_1 w, r193_2 w, r193_3 w, r193_4 w, r193_5 w, r193_6 w, r193_7 w, r193_8 w, r193_18 w, r193_19 w, r193_32 w, r193_33 w, r193_34 w, r193_36 w, r193_38 w, r193_39 w, r193_40 w, r193_42 w, r193_45 w, r193_46 w, r193_47 w, r193_48 w, r193_49 w, r193_50 w, k199 w, si_ne, si_nk, si_eq, e]; rfl
  have F : Fr pM h (mSI (mSI (mSI h 193 23 (iN i)) 193 24 (iN (q 0 0))) 193 25 (iN (q 0 1))) := ((Fr.rfl.si (by decide)).si (by decide)).si (by decide)
  have H : MoS (mSI (mSI (mSI h 193 23 (iN i)) 193 24 (iN (q 0 0))) 193 25 (iN (q 0 1))) q := by
    refine ⟨w.fr F, ?_, ?_, i, by omega, ?_, fun j hj => (F.i (by decide) _).trans (S j hj)⟩
    · simp (disch := omega) only [si_ne, si_nk, si_eq]
    · simp (disch := omega) only [si_ne, si_nk, si_eq]
    · simp (disch := omega) only [si_ne, si_nk, si_eq]
  obtain ⟨h', f1, f2, f3⟩ := t207 H W
  unfold f205
  simp (disch := omega) only [gT, nbeq, Option.isSome_some, Option.getD_some, Bool.and_true, Bool.true_and, Bool.and_self, mX_some, bS, bN_if, bN_01, i1_01, i0_01, if_true, if_false, Bool.false_eq_true, false_and, and_false, and_true, true_and, and_self, Bool.or_false, Bool.false_or, Bool.or_true, Bool.true_or, Bool.false_and, Bool.and_false, decide_true, decide_false, L0, L1, L2, L3, L4, L5, L6, L7, L8, L9, L10, L11, L12, L13, L14, L15, L16, L17, L18, L19, L20, L21, L22, L23, L24, L25, L27, L33, L39, L40, L45, L48, L57, L60, L72, L90, L97, L98, L99, L100, L121, L122, L242, L255, L256, L580, L600, L1000, L1584, L1000000, Ln1, iN_add, iN_and, iN_or, iN_nd, iN_shl, iN_shr, iN_cl, iN_in, iN_mul, k193 w, r193_1 w, r193_2 w, r193_3 w, r193_4 w, r193_5 w, r193_6 w, r193_7 w, r193_8 w, r193_18 w, r193_19 w, r193_32 w, r193_33 w, r193_34 w, r193_36 w, r193_38 w, r193_39 w, r193_40 w, r193_42 w, r193_45 w, r193_46 w, r193_47 w, r193_48 w, r193_49 w, r193_50 w, t181 w hm (s := 0) (by omega) c, rg_iN, hi, a1, a2, f1]
  refine ⟨h', rfl, F.tr f2.1, fun j hj => ?_, H.fm f2, f3⟩
  rw [f2.2 j (Or.inr hj)]
  simp (disch := omega) only [si_ne, si_nk, si_eq]
section ML
variable {h : mH} {q : LQ} {s : LSt}
theorem t219 (H : MoS h q) (W : QW q) (C : MLS h s) (S : SW q s) {c : Nat} (hc : c < 8) : f219 h 193 (iN c) = some (bN (cR q s c)) := by
  have w := H.1
  have hd := S.done W
  have h9 := W.2.2.1 c hc
  have h5 := W.2.2.2.1 c hc
  have hl := S.1 (q 2 c) (by omega)
  have h12 := S.2.2.2.2
  obtain ⟨c1, c2, c3, c4, c5, c6, c7, c8⟩ := C
  have e := c1 (q 2 c) (by omega)
  unfold f219 f219_58 f219_59 cR
  simp (disch := omega) only [gT, nbeq, Option.isSome_some, Option.getD_some, Bool.and_true, Bool.true_and, Bool.and_self, mX_some, bS, bN_if, bN_01, i1_01, i0_01, if_true, if_false, Bool.false_eq_true, false_and, and_false, and_true, true_and, and_self, Bool.or_false, Bool.false_or, Bool.or_true, Bool.true_or, Bool.false_and, Bool.and_false, decide_true, decide_false, L0, L1, L2, L3, L4, L5, L6, L7, L8, L9, L10, L11, L12, L13, L14, L15, L16, L17, L18, L19, L20, L21, L22, L23, L24, L25, L27, L33, L39, L40, L45, L48, L57, L60, L72, L90, L97, L98, L99, L100, L121, L122, L242, L255, L256, L580, L600, L1000, L1584, L1000000, Ln1, iN_add, iN_and, iN_or, iN_nd, iN_shl, iN_shr, iN_cl, iN_in, iN_mul, k193 w, r193_1 w, r193_2 w, r193_3 w, r193_4 w, r193_5 w, r193_6 w, r193_7 w, r193_8 w, r193_18 w, r193_19 w, r193_32 w, r193_33 w, r193_34 w, r193_36 w, r193_38 w, r193_39 w, r193_40 w, r193_42 w, r193_45 w, r193_46 w, r193_47 w, r193_48 w, r193_49 w, r193_50 w, k204 w, c4, c5, c6, c7, t220 H W, t206 H, fl1, fl2, ilt_d, e]
  cases mayB q (sRd s ||| sSk s) c with
  | false => simp only [gT, nbeq, Option.isSome_some, Option.getD_some, Bool.and_true, Bool.true_and, Bool.and_self, mX_some, bS, bN_if, bN_01, i1_01, i0_01, if_true, if_false, Bool.false_eq_true, false_and, and_false, and_true, true_and, and_self, Bool.or_false, Bool.false_or, Bool.or_true, Bool.true_or, Bool.false_and, Bool.and_false, decide_true, decide_false]; rfl
  | true =>
    simp only [gT, nbeq, Option.isSome_some, Option.getD_some, Bool.and_true, Bool.true_and, Bool.and_self, mX_some, bS, bN_if, bN_01, i1_01, i0_01, if_true, if_false, Bool.false_eq_true, false_and, and_false, and_true, true_and, and_self, Bool.or_false, Bool.false_or, Bool.or_true, Bool.true_or, Bool.false_and, Bool.and_false, decide_true, decide_false]
    by_cases d1 : sLf s < q 1 c
    · rw [if_pos d1, decide_eq_false (by omega)]; simp only [gT, nbeq, Option.isSome_some, Option.getD_some, Bool.and_true, Bool.true_and, Bool.and_self, mX_some, bS, bN_if, bN_01, i1_01, i0_01, if_true, if_false, Bool.false_eq_true, false_and, and_false, and_true, true_and, and_self, Bool.or_false, Bool.false_or, Bool.or_true, Bool.true_or, Bool.false_and, Bool.and_false, decide_true, decide_false]; rfl
    · rw [if_neg d1, decide_eq_true (by omega)]
      by_cases d2 : sLk s (q 2 c) ≤ 0
      · simp (disch := omega) only [gT, nbeq, Option.isSome_some, Option.getD_some, Bool.and_true, Bool.true_and, Bool.and_self, mX_some, bS, bN_if, bN_01, i1_01, i0_01, if_true, if_false, Bool.false_eq_true, false_and, and_false, and_true, true_and, and_self, Bool.or_false, Bool.false_or, Bool.or_true, Bool.true_or, Bool.false_and, Bool.and_false, decide_true, decide_false, ile_p]; rw [decide_eq_false (by omega)]; simp only [gT, nbeq, Option.isSome_some, Option.getD_some, Bool.and_true, Bool.true_and, Bool.and_self, mX_some, bS, bN_if, bN_01, i1_01, i0_01, if_true, if_false, Bool.false_eq_true, false_and, and_false, and_true, true_and, and_self, Bool.or_false, Bool.false_or, Bool.or_true, Bool.true_or, Bool.false_and, Bool.and_false, decide_true, decide_false]; rfl
      · simp (disch := omega) only [gT, nbeq, Option.isSome_some, Option.getD_some, Bool.and_true, Bool.true_and, Bool.and_self, mX_some, bS, bN_if, bN_01, i1_01, i0_01, if_true, if_false, Bool.false_eq_true, false_and, and_false, and_true, true_and, and_self, Bool.or_false, Bool.false_or, Bool.or_true, Bool.true_or, Bool.false_and, Bool.and_false, decide_true, decide_false, ile_n]; rw [decide_eq_true (by omega)]
        cases sCd s <;> simp only [gT, nbeq, Option.isSome_some, Option.getD_some, Bool.and_true, Bool.true_and, Bool.and_self, mX_some, bS, bN_if, bN_01, i1_01, i0_01, if_true, if_false, Bool.false_eq_true, false_and, and_false, and_true, true_and, and_self, Bool.or_false, Bool.false_or, Bool.or_true, Bool.true_or, Bool.false_and, Bool.and_false, decide_true, decide_false, Bool.not_true, Bool.not_false] <;> rfl
theorem t222 (H : MoS h q) (W : QW q) (C : MLS h s) (S : SW q s) {c : Nat} (hc : c < q 0 0) (hr : cR q s c = true) : ∃ h', f222 h 193 (iN c) = some ((), h') ∧ FM h h' ∧ MLS h' (sRead q s c) ∧ SW q (sRead q s c) := by
  have hn := W.1.1
  have h9 := W.2.2.1 c (by omega)
  have h5 := W.2.2.2.1 c (by omega)
  have hl := S.1 (q 2 c) (by omega)
  obtain ⟨c1, c2, c3, c4, c5, c6, c7, c8⟩ := id C
  have e := c1 (q 2 c) (by omega)
  have hcr : q 1 c ≤ sLf s ∧ 0 < sLk s (q 2 c) := by
    unfold cR at hr
    simp only [Bool.and_eq_true, decide_eq_true_eq] at hr
    exact ⟨hr.1.1.2, hr.1.2⟩
  have F1 : FM h (mSI h 193 26 (iN (sRd s ||| 1 <<< c))) := FM.rfl.si (by decide) (Or.inr (by omega))
  have F2 : FM h (mSI (mSI h 193 26 (iN (sRd s ||| 1 <<< c))) 193 28 (iN (sLf s - q 1 c))) := F1.si (by decide) (Or.inr (by omega))
  have w := H.1
  unfold f222 f222_28
  simp (disch := omega) only [gT, nbeq, Option.isSome_some, Option.getD_some, Bool.and_true, Bool.true_and, Bool.and_self, mX_some, bS, bN_if, bN_01, i1_01, i0_01, if_true, if_false, Bool.false_eq_true, false_and, and_false, and_true, true_and, and_self, Bool.or_false, Bool.false_or, Bool.or_true, Bool.true_or, Bool.false_and, Bool.and_false, decide_true, decide_false, L0, L1, L2, L3, L4, L5, L6, L7, L8, L9, L10, L11, L12, L13, L14, L15, L16, L17, L18, L19, L20, L21, L22, L23, L24, L25, L27, L33, L39, L40, L45, L48, L57, L60, L72, L90, L97, L98, L99, L100, L121, L122, L242, L255, L256, L580, L600, L1000, L1584, L1000000, Ln1, iN_add, iN_and, iN_or, iN_nd, iN_shl, iN_shr, iN_cl, iN_in, iN_mul, k193 w, r193_1 w, r193_2 w, r193_3 w, r193_4 w, r193_5 w, r193_6 w, r193_7 w, r193_8 w, r193_18 w, r193_19 w, r193_32 w, r193_33 w, r193_34 w, r193_36 w, r193_38 w, r193_39 w, r193_40 w, r193_42 w, r193_45 w, r193_46 w, r193_47 w, r193_48 w, r193_49 w, r193_50 w, k204 w, c4, c6, t206 (H.fm F1), t206 (H.fm F2), fl1, fl2, mK_SI, mR_SI, si_ne, si_nk, si_eq, iN_sub, e]
  refine ⟨_, rfl, F2.si (by decide) (Or.inl (by decide)), ⟨?_, ?_, ?_, ?_, ?_, ?_, ?_, ?_⟩, ⟨?_, S.2.1, or_lt S.2.2.1 (sh1_lt hc), S.2.2.2.1, ?_⟩⟩
  · intro t ht
    show _ = iN (ud (sLk s) (q 2 c) (sLk s (q 2 c) - 1) t)
    by_cases et : t = q 2 c
    · subst et; simp (disch := omega) only [si_ne, si_nk, si_eq, ud_eq]
    · simp (disch := omega) only [si_ne, si_nk, si_eq, ud_ne]; exact c1 t ht
  · intro k hk
    simp (disch := omega) only [si_ne, si_nk, si_eq]; exact c2 k hk
  · simp (disch := omega) only [si_ne, si_nk, si_eq]; exact c3
  · simp (disch := omega) only [si_ne, si_nk, si_eq]; rfl
  · simp (disch := omega) only [si_ne, si_nk, si_eq]; exact c5
  · simp (disch := omega) only [si_ne, si_nk, si_eq]; rfl
  · simp (disch := omega) only [si_ne, si_nk, si_eq]; exact c7
  · simp (disch := omega) only [si_ne, si_nk, si_eq]; exact c8
  · intro t ht
    show ud (sLk s) (q 2 c) (sLk s (q 2 c) - 1) t ≤ 9
    unfold ud; split
    · omega
    · exact S.1 t ht
  · show sLf s - q 1 c ≤ 12
    have := S.2.2.2.2; omega
theorem t217 (H : MoS h q) (W : QW q) (C : MLS h s) (S : SW q s) {c : Nat} (hc : c < 8) : ∃ h', f217 h 193 (iN c) = some (bN (decide (c < q 0 0) && cR q s c), h') ∧ FM h h' ∧ MLS h' (if (decide (c < q 0 0) && cR q s c) = true then sRead q s c else s) ∧ SW q (if (decide (c < q 0 0) && cR q s c) = true then sRead q s c else s) := by
  have w := H.1
  unfold f217 f217_16
  simp (disch := omega) only [gT, nbeq, Option.isSome_some, Option.getD_some, Bool.and_true, Bool.true_and, Bool.and_self, mX_some, bS, bN_if, bN_01, i1_01, i0_01, if_true, if_false, Bool.false_eq_true, false_and, and_false, and_true, true_and, and_self, Bool.or_false, Bool.false_or, Bool.or_true, Bool.true_or, Bool.false_and, Bool.and_false, decide_true, decide_false, L0, L1, L2, L3, L4, L5, L6, L7, L8, L9, L10, L11, L12, L13, L14, L15, L16, L17, L18, L19, L20, L21, L22, L23, L24, L25, L27, L33, L39, L40, L45, L48, L57, L60, L72, L90, L97, L98, L99, L100, L121, L122, L242, L255, L256, L580, L600, L1000, L1584, L1000000, Ln1, iN_add, iN_and, iN_or, iN_nd, iN_shl, iN_shr, iN_cl, iN_in, iN_mul, k193 w, r193_1 w, r193_2 w, r193_3 w, r193_4 w, r193_5 w, r193_6 w, r193_7 w, r193_8 w, r193_18 w, r193_19 w, r193_32 w, r193_33 w, r193_34 w, r193_36 w, r193_38 w, r193_39 w, r193_40 w, r193_42 w, r193_45 w, r193_46 w, r193_47 w, r193_48 w, r193_49 w, r193_50 w, t218 H W, rg_iN, t219 H W C S hc]
  by_cases hcn : c < q 0 0
  · cases hr : cR q s c with
    | false => simp only [gT, nbeq, Option.isSome_some, Option.getD_some, Bool.and_true, Bool.true_and, Bool.and_self, mX_some, bS, bN_if, bN_01, i1_01, i0_01, if_true, if_false, Bool.false_eq_true, false_and, and_false, and_true, true_and, and_self, Bool.or_false, Bool.false_or, Bool.or_true, Bool.true_or, Bool.false_and, Bool.and_false, decide_true, decide_false, hcn]; exact ⟨_, rfl, FM.rfl, C, S⟩
    | true =>
      obtain ⟨h', f1, f2⟩ := t222 H W C S hcn hr
      simp only [gT, nbeq, Option.isSome_some, Option.getD_some, Bool.and_true, Bool.true_and, Bool.and_self, mX_some, bS, bN_if, bN_01, i1_01, i0_01, if_true, if_false, Bool.false_eq_true, false_and, and_false, and_true, true_and, and_self, Bool.or_false, Bool.false_or, Bool.or_true, Bool.true_or, Bool.false_and, Bool.and_false, decide_true, decide_false, hcn, f1]; exact ⟨_, rfl, f2⟩
  · simp only [gT, nbeq, Option.isSome_some, Option.getD_some, Bool.and_true, Bool.true_and, Bool.and_self, mX_some, bS, bN_if, bN_01, i1_01, i0_01, if_true, if_false, Bool.false_eq_true, false_and, and_false, and_true, true_and, and_self, Bool.or_false, Bool.false_or, Bool.or_true, Bool.true_or, Bool.false_and, Bool.and_false, decide_true, decide_false, hcn]; exact ⟨_, rfl, FM.rfl, C, S⟩
theorem t223 (H : MoS h q) (W : QW q) (C : MLS h s) (S : SW q s) {c : Nat} (hc : c < 8) : ∃ h', f223 h 193 (iN c) = some (bN (decide (c < q 0 0) && mayB q (sRd s ||| sSk s) c), h') ∧ FM h h' ∧ MLS h' (if (decide (c < q 0 0) && mayB q (sRd s ||| sSk s) c) = true then sSkip s c else s) ∧ SW q (if (decide (c < q 0 0) && mayB q (sRd s ||| sSk s) c) = true then sSkip s c else s) := by
  have w := H.1
  have hd := S.done W
  obtain ⟨c1, c2, c3, c4, c5, c6, c7, c8⟩ := id C
  unfold f223 f223_25
  simp (disch := omega) only [gT, nbeq, Option.isSome_some, Option.getD_some, Bool.and_true, Bool.true_and, Bool.and_self, mX_some, bS, bN_if, bN_01, i1_01, i0_01, if_true, if_false, Bool.false_eq_true, false_and, and_false, and_true, true_and, and_self, Bool.or_false, Bool.false_or, Bool.or_true, Bool.true_or, Bool.false_and, Bool.and_false, decide_true, decide_false, L0, L1, L2, L3, L4, L5, L6, L7, L8, L9, L10, L11, L12, L13, L14, L15, L16, L17, L18, L19, L20, L21, L22, L23, L24, L25, L27, L33, L39, L40, L45, L48, L57, L60, L72, L90, L97, L98, L99, L100, L121, L122, L242, L255, L256, L580, L600, L1000, L1584, L1000000, Ln1, iN_add, iN_and, iN_or, iN_nd, iN_shl, iN_shr, iN_cl, iN_in, iN_mul, k193 w, r193_1 w, r193_2 w, r193_3 w, r193_4 w, r193_5 w, r193_6 w, r193_7 w, r193_8 w, r193_18 w, r193_19 w, r193_32 w, r193_33 w, r193_34 w, r193_36 w, r193_38 w, r193_39 w, r193_40 w, r193_42 w, r193_45 w, r193_46 w, r193_47 w, r193_48 w, r193_49 w, r193_50 w, t218 H W, rg_iN, c4, c5, t220 H W]
  by_cases hcn : c < q 0 0
  · cases hr : mayB q (sRd s ||| sSk s) c with
    | false => simp only [gT, nbeq, Option.isSome_some, Option.getD_some, Bool.and_true, Bool.true_and, Bool.and_self, mX_some, bS, bN_if, bN_01, i1_01, i0_01, if_true, if_false, Bool.false_eq_true, false_and, and_false, and_true, true_and, and_self, Bool.or_false, Bool.false_or, Bool.or_true, Bool.true_or, Bool.false_and, Bool.and_false, decide_true, decide_false, hcn]; exact ⟨_, rfl, FM.rfl, C, S⟩
    | true =>
      simp only [gT, nbeq, Option.isSome_some, Option.getD_some, Bool.and_true, Bool.true_and, Bool.and_self, mX_some, bS, bN_if, bN_01, i1_01, i0_01, if_true, if_false, Bool.false_eq_true, false_and, and_false, and_true, true_and, and_self, Bool.or_false, Bool.false_or, Bool.or_true, Bool.true_or, Bool.false_and, Bool.and_false, decide_true, decide_false, hcn]
      refine ⟨_, rfl, FM.rfl.si (by decide) (Or.inr (by omega)), ⟨?_, ?_, ?_, ?_, ?_, ?_, ?_, ?_⟩, ⟨S.1, S.2.1, S.2.2.1, or_lt S.2.2.2.1 (sh1_lt hcn), S.2.2.2.2⟩⟩
      · intro t ht
        simp (disch := omega) only [si_ne, si_nk, si_eq]; exact c1 t ht
      · intro k hk
        simp (disch := omega) only [si_ne, si_nk, si_eq]; exact c2 k hk
      · simp (disch := omega) only [si_ne, si_nk, si_eq]; exact c3
      · simp (disch := omega) only [si_ne, si_nk, si_eq]; exact c4
      · simp (disch := omega) only [si_ne, si_nk, si_eq]; rfl
      · simp (disch := omega) only [si_ne, si_nk, si_eq]; exact c6
      · simp (disch := omega) only [si_ne, si_nk, si_eq]; exact c7
      · simp (disch := omega) only [si_ne, si_nk, si_eq]; exact c8
  · simp only [gT, nbeq, Option.isSome_some, Option.getD_some, Bool.and_true, Bool.true_and, Bool.and_self, mX_some, bS, bN_if, bN_01, i1_01, i0_01, if_true, if_false, Bool.false_eq_true, false_and, and_false, and_true, true_and, and_self, Bool.or_false, Bool.false_or, Bool.or_true, Bool.true_or, Bool.false_and, Bool.and_false, decide_true, decide_false, hcn]; exact ⟨_, rfl, FM.rfl, C, S⟩
theorem t224 (H : MoS h q) (C : MLS h s) (S : SW q s) {t : Nat} (ht : t < 6) : ∃ h', f224 h 193 (iN t) = some ((), h') ∧ FM h h' ∧ MLS h' (sPie s t) ∧ SW q (sPie s t) := by
  have w := H.1
  obtain ⟨c1, c2, c3, c4, c5, c6, c7, c8⟩ := id C
  have e := c1 t ht
  have h9 := S.1 t ht
  unfold f224
  simp (disch := omega) only [gT, nbeq, Option.isSome_some, Option.getD_some, Bool.and_true, Bool.true_and, Bool.and_self, mX_some, bS, bN_if, bN_01, i1_01, i0_01, if_true, if_false, Bool.false_eq_true, false_and, and_false, and_true, true_and, and_self, Bool.or_false, Bool.false_or, Bool.or_true, Bool.true_or, Bool.false_and, Bool.and_false, decide_true, decide_false, L0, L1, L2, L3, L4, L5, L6, L7, L8, L9, L10, L11, L12, L13, L14, L15, L16, L17, L18, L19, L20, L21, L22, L23, L24, L25, L27, L33, L39, L40, L45, L48, L57, L60, L72, L90, L97, L98, L99, L100, L121, L122, L242, L255, L256, L580, L600, L1000, L1584, L1000000, Ln1, iN_add, iN_and, iN_or, iN_nd, iN_shl, iN_shr, iN_cl, iN_in, iN_mul, k193 w, r193_1 w, r193_2 w, r193_3 w, r193_4 w, r193_5 w, r193_6 w, r193_7 w, r193_8 w, r193_18 w, r193_19 w, r193_32 w, r193_33 w, r193_34 w, r193_36 w, r193_38 w, r193_39 w, r193_40 w, r193_42 w, r193_45 w, r193_46 w, r193_47 w, r193_48 w, r193_49 w, r193_50 w, k204 w, e, t195]
  refine ⟨_, rfl, FM.rfl.si (by decide) (Or.inl (by decide)), ⟨?_, ?_, ?_, ?_, ?_, ?_, ?_, ?_⟩, ⟨?_, S.2.1, S.2.2.1, S.2.2.2.1, S.2.2.2.2⟩⟩
  · intro j hj
    show _ = iN (ud (sLk s) t (min 9 (sLk s t + 2)) j)
    by_cases et : j = t
    · subst et; simp (disch := omega) only [si_ne, si_nk, si_eq, ud_eq]
    · simp (disch := omega) only [si_ne, si_nk, si_eq, ud_ne]; exact c1 j hj
  · intro k hk
    simp (disch := omega) only [si_ne, si_nk, si_eq]; exact c2 k hk
  · simp (disch := omega) only [si_ne, si_nk, si_eq]; exact c3
  · simp (disch := omega) only [si_ne, si_nk, si_eq]; exact c4
  · simp (disch := omega) only [si_ne, si_nk, si_eq]; exact c5
  · simp (disch := omega) only [si_ne, si_nk, si_eq]; exact c6
  · simp (disch := omega) only [si_ne, si_nk, si_eq]; exact c7
  · simp (disch := omega) only [si_ne, si_nk, si_eq]; exact c8
  · intro j hj
    show ud (sLk s) t (min 9 (sLk s t + 2)) j ≤ 9
    unfold ud; split
    · omega
    · exact S.1 j hj
theorem t225 (H : MoS h q) (W : QW q) (C : MLS h s) (S : SW q s) {c p : Nat} (hc : c < 8) (hp : p < 6) : ∃ h', f225 h 193 (iN c) (iN p) = some (bN (tlB q s c p), h') ∧ FM h h' ∧ MLS h' (if tlB q s c p = true then sTell s c p else s) ∧ SW q (if tlB q s c p = true then sTell s c p else s) := by
  have w := H.1
  have hr := S.rd8 W
  obtain ⟨c1, c2, c3, c4, c5, c6, c7, c8⟩ := id C
  unfold f225 f225_35 tlB
  simp (disch := omega) only [gT, nbeq, Option.isSome_some, Option.getD_some, Bool.and_true, Bool.true_and, Bool.and_self, mX_some, bS, bN_if, bN_01, i1_01, i0_01, if_true, if_false, Bool.false_eq_true, false_and, and_false, and_true, true_and, and_self, Bool.or_false, Bool.false_or, Bool.or_true, Bool.true_or, Bool.false_and, Bool.and_false, decide_true, decide_false, L0, L1, L2, L3, L4, L5, L6, L7, L8, L9, L10, L11, L12, L13, L14, L15, L16, L17, L18, L19, L20, L21, L22, L23, L24, L25, L27, L33, L39, L40, L45, L48, L57, L60, L72, L90, L97, L98, L99, L100, L121, L122, L242, L255, L256, L580, L600, L1000, L1584, L1000000, Ln1, iN_add, iN_and, iN_or, iN_nd, iN_shl, iN_shr, iN_cl, iN_in, iN_mul, k193 w, r193_1 w, r193_2 w, r193_3 w, r193_4 w, r193_5 w, r193_6 w, r193_7 w, r193_8 w, r193_18 w, r193_19 w, r193_32 w, r193_33 w, r193_34 w, r193_36 w, r193_38 w, r193_39 w, r193_40 w, r193_42 w, r193_45 w, r193_46 w, r193_47 w, r193_48 w, r193_49 w, r193_50 w, k205 w, t218 H W, t226 H W, rg_iN, c4, c7, t221]
  have no : ∃ h', some (iN 0, h) = some (bN false, h') ∧ FM h h' ∧ MLS h' (if false = true then sTell s c p else s) ∧ SW q (if false = true then sTell s c p else s) := ⟨_, rfl, FM.rfl, C, S⟩
  by_cases hcn : c < q 0 0
  · by_cases hpm : p < q 0 1
    · cases hb : (sRd s).testBit c with
      | false => simp only [hcn, hpm, gT, nbeq, Option.isSome_some, Option.getD_some, Bool.and_true, Bool.true_and, Bool.and_self, mX_some, bS, bN_if, bN_01, i1_01, i0_01, if_true, if_false, Bool.false_eq_true, false_and, and_false, and_true, true_and, and_self, Bool.or_false, Bool.false_or, Bool.or_true, Bool.true_or, Bool.false_and, Bool.and_false, decide_true, decide_false]; exact no
      | true =>
        cases hcd : sCd s with
        | true => simp only [hcn, hpm, gT, nbeq, Option.isSome_some, Option.getD_some, Bool.and_true, Bool.true_and, Bool.and_self, mX_some, bS, bN_if, bN_01, i1_01, i0_01, if_true, if_false, Bool.false_eq_true, false_and, and_false, and_true, true_and, and_self, Bool.or_false, Bool.false_or, Bool.or_true, Bool.true_or, Bool.false_and, Bool.and_false, decide_true, decide_false, bN_t, Bool.not_true]; exact no
        | false =>
          simp (disch := omega) only [hcn, hpm, gT, nbeq, Option.isSome_some, Option.getD_some, Bool.and_true, Bool.true_and, Bool.and_self, mX_some, bS, bN_if, bN_01, i1_01, i0_01, if_true, if_false, Bool.false_eq_true, false_and, and_false, and_true, true_and, and_self, Bool.or_false, Bool.false_or, Bool.or_true, Bool.true_or, Bool.false_and, Bool.and_false, decide_true, decide_false, bN_f, Bool.not_false, ieq_n]
          refine ⟨_, rfl, FM.rfl.si (by decide) (Or.inl (by decide)), ⟨?_, ?_, ?_, ?_, ?_, ?_, ?_, ?_⟩, ⟨S.1, ?_, S.2.2⟩⟩
          · intro j hj
            simp (disch := omega) only [si_ne, si_nk, si_eq]; exact c1 j hj
          · intro k hk
            show _ = zN (ud (sKn s) (8 * p + c) (some 0) k)
            by_cases ek : k = 8 * p + c
            · subst ek; simp (disch := omega) only [si_ne, si_nk, si_eq, ud_eq]; rfl
            · rw [ud_ne _ _ ek]; simp (disch := omega) only [si_ne, si_nk, si_eq]; exact c2 k hk
          · simp (disch := omega) only [si_ne, si_nk, si_eq]; exact c3
          · simp (disch := omega) only [si_ne, si_nk, si_eq]; exact c4
          · simp (disch := omega) only [si_ne, si_nk, si_eq]; exact c5
          · simp (disch := omega) only [si_ne, si_nk, si_eq]; exact c6
          · simp (disch := omega) only [si_ne, si_nk, si_eq]; exact c7
          · simp (disch := omega) only [si_ne, si_nk, si_eq]; exact c8
          · intro k hk v hv
            change ud (sKn s) (8 * p + c) (some 0) k = some v at hv
            unfold ud at hv
            split at hv
            next e =>
              cases hv
              have hm := W.2.2.2.2.2.2.1 p hpm
              have ek : k / 8 = p := by omega
              rw [ek]; exact ⟨by omega, hpm⟩
            next => exact S.2.1 k hk v hv
    · simp only [hcn, hpm, gT, nbeq, Option.isSome_some, Option.getD_some, Bool.and_true, Bool.true_and, Bool.and_self, mX_some, bS, bN_if, bN_01, i1_01, i0_01, if_true, if_false, Bool.false_eq_true, false_and, and_false, and_true, true_and, and_self, Bool.or_false, Bool.false_or, Bool.or_true, Bool.true_or, Bool.false_and, Bool.and_false, decide_true, decide_false]; exact no
  · simp only [hcn, gT, nbeq, Option.isSome_some, Option.getD_some, Bool.and_true, Bool.true_and, Bool.and_self, mX_some, bS, bN_if, bN_01, i1_01, i0_01, if_true, if_false, Bool.false_eq_true, false_and, and_false, and_true, true_and, and_self, Bool.or_false, Bool.false_or, Bool.or_true, Bool.true_or, Bool.false_and, Bool.and_false, decide_true, decide_false]; exact no
end ML
