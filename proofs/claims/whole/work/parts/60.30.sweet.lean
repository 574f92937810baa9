/-! sweet: PIES first -/
section MB
variable {h : mH} {n m : Nat} {q : LQ} {D : Nat → AZ} {P : Nat → Nat}
theorem t207k (H : MoS h q) (W : QW q) : ∃ h', f207 h 193 = some ((), h') ∧ Fr pV h h' := by
  have w := H.1
  have hl := W.1.2.2
  unfold f207
  have H1 : MoS (mSI (mSI h 193 26 (iN 0)) 193 27 (iN 0)) q := H.fm ((FM.rfl.si (by decide) (Or.inr (by omega))).si (by decide) (Or.inr (by omega)))
  simp (disch := omega) only [gT, nbeq, Option.isSome_some, Option.getD_some, Bool.and_true, Bool.true_and, Bool.and_self, mX_some, bS, bN_if, bN_01, i1_01, i0_01, if_true, if_false, Bool.false_eq_true, false_and, and_false, and_true, true_and, and_self, Bool.or_false, Bool.false_or, Bool.or_true, Bool.true_or, Bool.false_and, Bool.and_false, decide_true, decide_false, L0, L1, L2, L3, L4, L5, L6, L7, L8, L9, L10, L11, L12, L13, L14, L15, L16, L17, L18, L19, L20, L21, L22, L23, L24, L25, L27, L33, L39, L40, L45, L48, L57, L60, L72, L90, L97, L98, L99, L100, L121, L122, L242, L255, L256, L580, L600, L1000, L1584, L1000000, Ln1, iN_add, iN_and, iN_or, iN_nd, iN_shl, iN_shr, iN_cl, iN_in, iN_mul, k193 w, r193_1 w, r193_2 w, r193_3 w, r193_4 w, r193_5 w, r193_6 w, r193_7 w, r193_8 w, r193_18 w, r193_19 w, r193_32 w, r193_33 w, r193_34 w, r193_36 w, r193_38 w, r193_39 w, r193_40 w, r193_42 w, r193_45 w, r193_46 w, r193_47 w, r193_48 w, r193_49 w, r193_50 w, t206 H1, fl0]
  generalize hg : mSI (mSI (mSI (mSI (mSI (mSI h 193 26 (iN 0)) 193 27 (iN 0)) 193 28 (iN (q 0 2))) 193 29 (iN 0)) 193 30 (iN 0)) 193 31 (iN 0) = g
  have F : FM h g := by
    rw [← hg]
    exact (((((FM.rfl.si (by decide) (Or.inr (by omega))).si (by decide) (Or.inr (by omega))).si (by decide) (Or.inr (by omega))).si (by decide) (Or.inr (by omega))).si (by decide) (Or.inr (by omega))).si (by decide) (Or.inr (by omega))
  have G : Fr pV h g := by
    rw [← hg]
    exact (((((Fr.rfl.si (by decide)).si (by decide)).si (by decide)).si (by decide)).si (by decide)).si (by decide)
  have := lp_inv (body := f207_36 193) (P := fun i z => z.1 = iN i ∧ FM g z.2 ∧ Fr pV g z.2) (Q := fun r => Fr pV g r.2) 6 (fun i z hi hP => by
    obtain ⟨h1, h2, h3⟩ := hP
    have H2 := (H.fm F).fm h2
    have w2 := H2.1
    refine Or.inl ⟨(iN (i + 1), mSI z.2 204 i (iN (q 4 i))), ?_, rfl, h2.si (by decide) (Or.inl (by decide)), h3.si (by decide)⟩
    unfold f207_36
    rw [h1]
    simp (disch := omega) only [gT, nbeq, Option.isSome_some, Option.getD_some, Bool.and_true, Bool.true_and, Bool.and_self, mX_some, bS, bN_if, bN_01, i1_01, i0_01, if_true, if_false, Bool.false_eq_true, false_and, and_false, and_true, true_and, and_self, Bool.or_false, Bool.false_or, Bool.or_true, Bool.true_or, Bool.false_and, Bool.and_false, decide_true, decide_false, L0, L1, L2, L3, L4, L5, L6, L7, L8, L9, L10, L11, L12, L13, L14, L15, L16, L17, L18, L19, L20, L21, L22, L23, L24, L25, L27, L33, L39, L40, L45, L48, L57, L60, L72, L90, L97, L98, L99, L100, L121, L122, L242, L255, L256, L580, L600, L1000, L1584, L1000000, Ln1, iN_add, iN_and, iN_or, iN_nd, iN_shl, iN_shr, iN_cl, iN_in, iN_mul, k193 w2, r193_1 w2, r193_2 w2, r193_3 w2, r193_4 w2, r193_5 w2, r193_6 w2, r193_7 w2, r193_8 w2, r193_18 w2, r193_19 w2, r193_32 w2, r193_33 w2, r193_34 w2, r193_36 w2, r193_38 w2, r193_39 w2, r193_40 w2, r193_42 w2, r193_45 w2, r193_46 w2, r193_47 w2, r193_48 w2, r193_49 w2, r193_50 w2, k204 w2, ile_n, t206 H2, fl4]) (fun z hP => by
    obtain ⟨h1, h2, h3⟩ := hP
    have := lp_inv (body := f207_64 193) (P := fun i y => y.1 = iN i ∧ Fr pV g y.2) (Q := fun r => Fr pV g r.2) 48 (fun i y hi hP => by
      obtain ⟨y1, y2⟩ := hP
      have w2 := (H.fm F).1.fr y2
      refine Or.inl ⟨(iN (i + 1), mSI y.2 205 i jN), ?_, rfl, y2.si (by decide)⟩
      unfold f207_64
      rw [y1]
      simp (disch := omega) only [gT, nbeq, Option.isSome_some, Option.getD_some, Bool.and_true, Bool.true_and, Bool.and_self, mX_some, bS, bN_if, bN_01, i1_01, i0_01, if_true, if_false, Bool.false_eq_true, false_and, and_false, and_true, true_and, and_self, Bool.or_false, Bool.false_or, Bool.or_true, Bool.true_or, Bool.false_and, Bool.and_false, decide_true, decide_false, L0, L1, L2, L3, L4, L5, L6, L7, L8, L9, L10, L11, L12, L13, L14, L15, L16, L17, L18, L19, L20, L21, L22, L23, L24, L25, L27, L33, L39, L40, L45, L48, L57, L60, L72, L90, L97, L98, L99, L100, L121, L122, L242, L255, L256, L580, L600, L1000, L1584, L1000000, Ln1, iN_add, iN_and, iN_or, iN_nd, iN_shl, iN_shr, iN_cl, iN_in, iN_mul, k193 w2, r193_1 w2, r193_2 w2, r193_3 w2, r193_4 w2, r193_5 w2, r193_6 w2, r193_7 w2, r193_8 w2, r193_18 w2, r193_19 w2, r193_32 w2, r193_33 w2, r193_34 w2, r193_36 w2, r193_38 w2, r193_39 w2, r193_40 w2, r193_42 w2, r193_45 w2, r193_46 w2, r193_47 w2, r193_48 w2, r193_49 w2, r193_50 w2, k205 w2, ile_n]) (fun y hP => by
      obtain ⟨y1, y2⟩ := hP
      refine ⟨((), y.2), ?_, y2⟩
      unfold f207_64
      rw [y1]
      simp (disch := omega) only [gT, nbeq, Option.isSome_some, Option.getD_some, Bool.and_true, Bool.true_and, Bool.and_self, mX_some, bS, bN_if, bN_01, i1_01, i0_01, if_true, if_false, Bool.false_eq_true, false_and, and_false, and_true, true_and, and_self, Bool.or_false, Bool.false_or, Bool.or_true, Bool.true_or, Bool.false_and, Bool.and_false, decide_true, decide_false, L0, L1, L2, L3, L4, L5, L6, L7, L8, L9, L10, L11, L12, L13, L14, L15, L16, L17, L18, L19, L20, L21, L22, L23, L24, L25, L27, L33, L39, L40, L45, L48, L57, L60, L72, L90, L97, L98, L99, L100, L121, L122, L242, L255, L256, L580, L600, L1000, L1584, L1000000, Ln1, iN_add, iN_and, iN_or, iN_nd, iN_shl, iN_shr, iN_cl, iN_in, iN_mul, ile_p]) (by omega) (s := (iN 0, z.2)) ⟨rfl, h3⟩
    obtain ⟨r, r1, r2⟩ := this
    refine ⟨r, ?_, r2⟩
    unfold f207_36
    rw [h1]
    simp (disch := omega) only [gT, nbeq, Option.isSome_some, Option.getD_some, Bool.and_true, Bool.true_and, Bool.and_self, mX_some, bS, bN_if, bN_01, i1_01, i0_01, if_true, if_false, Bool.false_eq_true, false_and, and_false, and_true, true_and, and_self, Bool.or_false, Bool.false_or, Bool.or_true, Bool.true_or, Bool.false_and, Bool.and_false, decide_true, decide_false, L0, L1, L2, L3, L4, L5, L6, L7, L8, L9, L10, L11, L12, L13, L14, L15, L16, L17, L18, L19, L20, L21, L22, L23, L24, L25, L27, L33, L39, L40, L45, L48, L57, L60, L72, L90, L97, L98, L99, L100, L121, L122, L242, L255, L256, L580, L600, L1000, L1584, L1000000, Ln1, iN_add, iN_and, iN_or, iN_nd, iN_shl, iN_shr, iN_cl, iN_in, iN_mul, ile_p, r1]) (by omega) (s := (iN 0, g)) ⟨rfl, FM.rfl, Fr.rfl⟩
  obtain ⟨⟨⟨⟩, h'⟩, r1, r2⟩ := this
  exact ⟨h', r1, G.tr r2⟩
theorem t224k {s : LSt} (H : MoS h q) (C : MLS h s) (S : SW q s) {t : Nat} (ht : t < 6) {h' : mH} (e0 : f224 h 193 (iN t) = some ((), h')) : Fr pV h h' := by
  have w := H.1
  obtain ⟨c1, c2, c3, c4, c5, c6, c7, c8⟩ := id C
  have e := c1 t ht
  have h9 := S.1 t ht
  unfold f224 at e0
  simp (disch := omega) only [gT, nbeq, Option.isSome_some, Option.getD_some, Bool.and_true, Bool.true_and, Bool.and_self, mX_some, bS, bN_if, bN_01, i1_01, i0_01, if_true, if_false, Bool.false_eq_true, false_and, and_false, and_true, true_and, and_self, Bool.or_false, Bool.false_or, Bool.or_true, Bool.true_or, Bool.false_and, Bool.and_false, decide_true, decide_false, L0, L1, L2, L3, L4, L5, L6, L7, L8, L9, L10, L11, L12, L13, L14, L15, L16, L17, L18, L19, L20, L21, L22, L23, L24, L25, L27, L33, L39, L40, L45, L48, L57, L60, L72, L90, L97, L98, L99, L100, L121, L122, L242, L255, L256, L580, L600, L1000, L1584, L1000000, Ln1, iN_add, iN_and, iN_or, iN_nd, iN_shl, iN_shr, iN_cl, iN_in, iN_mul, k193 w, r193_1 w, r193_2 w, r193_3 w, r193_4 w, r193_5 w, r193_6 w, r193_7 w, r193_8 w, r193_18 w, r193_19 w, r193_32 w, r193_33 w, r193_34 w, r193_36 w, r193_38 w, r193_39 w, r193_40 w, r193_42 w, r193_45 w, r193_46 w, r193_47 w, r193_48 w, r193_49 w, r193_50 w, k204 w, e, t195] at e0
  have e1 := congrArg (fun z => (z.getD ((), h)).2) e0
  simp only [Option.getD_some] at e1
  rw [← e1]
  exact Fr.rfl.si (by decide)
theorem t239 (H : MoS h q) (W : QW q) (hm : m ≤ 4) (hp : ∀ i, i < m → P i < 6 ∧ mI h 208 i = iN (P i)) (A : aD q P m D) (hn : n < 1000) : ∃ h', f239 h 193 (iN m) (iN n) = some ((), h') ∧ Fr pV h h' ∧ MB h' q (D n) := by
  obtain ⟨D0, Ds⟩ := A
  have w := H.1
  obtain ⟨h1, b1, b2, b3⟩ := t207 H W
  obtain ⟨h1', b1', b4⟩ := t207k H W
  have e1 : h1' = h1 := by
    have := congrArg (fun z => (z.getD ((), h)).2) (b1'.symm.trans b1)
    exact this
  rw [e1] at b4
  unfold f239
  simp only [gT, nbeq, Option.isSome_some, Option.getD_some, Bool.and_true, Bool.true_and, Bool.and_self, mX_some, bS, bN_if, bN_01, i1_01, i0_01, if_true, if_false, Bool.false_eq_true, false_and, and_false, and_true, true_and, and_self, Bool.or_false, Bool.false_or, Bool.or_true, Bool.true_or, Bool.false_and, Bool.and_false, decide_true, decide_false, k193 w, r193_1 w, r193_2 w, r193_3 w, r193_4 w, r193_5 w, r193_6 w, r193_7 w, r193_8 w, r193_18 w, r193_19 w, r193_32 w, r193_33 w, r193_34 w, r193_36 w, r193_38 w, r193_39 w, r193_40 w, r193_42 w, r193_45 w, r193_46 w, r193_47 w, r193_48 w, r193_49 w, r193_50 w, b1]
  have := lp_inv (body := f239_6 193 (iN m) (iN n)) (P := fun i z => z.1 = iN i ∧ FM h1 z.2 ∧ Fr pV h1 z.2 ∧ MLS z.2 (sPs q P i) ∧ SW q (sPs q P i)) (Q := fun r => Fr pV h r.2 ∧ MB r.2 q (D n)) m (fun i z hi hP => by
    obtain ⟨u1, u3⟩ := z
    obtain ⟨z1, z2, z3, z4, z5⟩ := hP
    have z1 : u1 = iN i := z1
    have z2 : FM h1 u3 := z2
    have z3 : Fr pV h1 u3 := z3
    have z4 : MLS u3 (sPs q P i) := z4
    subst z1
    have H2 := (H.fm b2).fm z2
    have w2 := H2.1
    have e := hp i hi
    have e2 : mI u3 208 i = iN (P i) := (z3.i (by decide) i).trans ((b4.i (by decide) i).trans e.2)
    obtain ⟨h2, c1, c2, c3, c4⟩ := t224 H2 z4 z5 e.1
    have c5 := t224k H2 z4 z5 e.1 c1
    left
    refine ⟨(iN (i + 1), h2), ?_, rfl, z2.tr c2, z3.tr c5, c3, c4⟩
    unfold f239_6
    simp (disch := omega) only [gT, nbeq, Option.isSome_some, Option.getD_some, Bool.and_true, Bool.true_and, Bool.and_self, mX_some, bS, bN_if, bN_01, i1_01, i0_01, if_true, if_false, Bool.false_eq_true, false_and, and_false, and_true, true_and, and_self, Bool.or_false, Bool.false_or, Bool.or_true, Bool.true_or, Bool.false_and, Bool.and_false, decide_true, decide_false, L0, L1, L2, L3, L4, L5, L6, L7, L8, L9, L10, L11, L12, L13, L14, L15, L16, L17, L18, L19, L20, L21, L22, L23, L24, L25, L27, L33, L39, L40, L45, L48, L57, L60, L72, L90, L97, L98, L99, L100, L121, L122, L242, L255, L256, L580, L600, L1000, L1584, L1000000, Ln1, iN_add, iN_and, iN_or, iN_nd, iN_shl, iN_shr, iN_cl, iN_in, iN_mul, k193 w2, r193_1 w2, r193_2 w2, r193_3 w2, r193_4 w2, r193_5 w2, r193_6 w2, r193_7 w2, r193_8 w2, r193_18 w2, r193_19 w2, r193_32 w2, r193_33 w2, r193_34 w2, r193_36 w2, r193_38 w2, r193_39 w2, r193_40 w2, r193_42 w2, r193_45 w2, r193_46 w2, r193_47 w2, r193_48 w2, r193_49 w2, r193_50 w2, k208 w2, ile_n, e2, c1]) (fun z hP => by
    obtain ⟨u1, u3⟩ := z
    obtain ⟨z1, z2, z3, z4, z5⟩ := hP
    have z1 : u1 = iN m := z1
    have z2 : FM h1 u3 := z2
    have z3 : Fr pV h1 u3 := z3
    have z4 : MLS u3 (sPs q P m) := z4
    subst z1
    have H2 := (H.fm b2).fm z2
    have w2 := H2.1
    obtain ⟨h2, c1, c2, c3⟩ := t234 (n := n) (D := D) H2 W z4 z5 (by rw [D0]) (by rw [D0]; exact (sPs_f q P m).2.1) (by rw [D0]) Ds hn
    refine ⟨((), h2), ?_, (b4.tr z3).tr c2, c3⟩
    unfold f239_6
    simp (disch := omega) only [gT, nbeq, Option.isSome_some, Option.getD_some, Bool.and_true, Bool.true_and, Bool.and_self, mX_some, bS, bN_if, bN_01, i1_01, i0_01, if_true, if_false, Bool.false_eq_true, false_and, and_false, and_true, true_and, and_self, Bool.or_false, Bool.false_or, Bool.or_true, Bool.true_or, Bool.false_and, Bool.and_false, decide_true, decide_false, L0, L1, L2, L3, L4, L5, L6, L7, L8, L9, L10, L11, L12, L13, L14, L15, L16, L17, L18, L19, L20, L21, L22, L23, L24, L25, L27, L33, L39, L40, L45, L48, L57, L60, L72, L90, L97, L98, L99, L100, L121, L122, L242, L255, L256, L580, L600, L1000, L1584, L1000000, Ln1, iN_add, iN_and, iN_or, iN_nd, iN_shl, iN_shr, iN_cl, iN_in, iN_mul, k193 w2, r193_1 w2, r193_2 w2, r193_3 w2, r193_4 w2, r193_5 w2, r193_6 w2, r193_7 w2, r193_8 w2, r193_18 w2, r193_19 w2, r193_32 w2, r193_33 w2, r193_34 w2, r193_36 w2, r193_38 w2, r193_39 w2, r193_40 w2, r193_42 w2, r193_45 w2, r193_46 w2, r193_47 w2, r193_48 w2, r193_49 w2, r193_50 w2, ile_p, c1]) (by omega) (s := (iN 0, h1)) ⟨rfl, FM.rfl, Fr.rfl, b3, SW0 W⟩
  obtain ⟨⟨⟨⟩, h'⟩, r1, r2, r3⟩ := this
  exact ⟨h', r1, r2, r3⟩
end MB
section PB
variable {h : mH}
theorem c_sweet (R : Rel h) (x1 x2 x3 : Int32) : ∃ v h1, f143 h 0 x1 x2 x3 = some (v, h1) ∧ FQ h h1 ∧ ∀ h0, FQ h h0 → ∃ h2, f281 h0 193 x1 x2 x3 = some (v, h2) ∧ FQ h0 h2 := by
  have w := R.1
  unfold f143 f143_34 f144
  simp only [gT, nbeq, Option.isSome_some, Option.getD_some, Bool.and_true, Bool.true_and, Bool.and_self, mX_some, bS, bN_if, bN_01, i1_01, i0_01, if_true, if_false, Bool.false_eq_true, false_and, and_false, and_true, true_and, and_self, Bool.or_false, Bool.false_or, Bool.or_true, Bool.true_or, Bool.false_and, Bool.and_false, decide_true, decide_false, k0 w, r0_0 w, r0_1 w, r0_2 w, r0_3 w, r0_4 w, r0_5 w, r0_6 w, r0_7 w, r0_8 w, k1 w, r1_0 w, r1_1 w, r1_2 w, r1_3 w, r1_4 w]
  rcases R.pick x1 with ⟨e1, e2⟩ | ⟨i, q, hi, rfl, W, H, e1, e2⟩
  · simp only [gT, nbeq, Option.isSome_some, Option.getD_some, Bool.and_true, Bool.true_and, Bool.and_self, mX_some, bS, bN_if, bN_01, i1_01, i0_01, if_true, if_false, Bool.false_eq_true, false_and, and_false, and_true, true_and, and_self, Bool.or_false, Bool.false_or, Bool.or_true, Bool.true_or, Bool.false_and, Bool.and_false, decide_true, decide_false, L0, L1, L2, L3, L4, L5, L6, L7, L8, L9, L10, L11, L12, L13, L14, L15, L16, L17, L18, L19, L20, L21, L22, L23, L24, L25, L27, L33, L39, L40, L45, L48, L57, L60, L72, L90, L97, L98, L99, L100, L121, L122, L242, L255, L256, L580, L600, L1000, L1584, L1000000, Ln1, iN_add, iN_and, iN_or, iN_nd, iN_shl, iN_shr, iN_cl, iN_in, iN_mul, e1]
    refine ⟨_, _, rfl, FQ.rfl, fun h0 F => ?_⟩
    have w0 := R.1.q F
    unfold f281 f281_32
    simp (disch := omega) only [gT, nbeq, Option.isSome_some, Option.getD_some, Bool.and_true, Bool.true_and, Bool.and_self, mX_some, bS, bN_if, bN_01, i1_01, i0_01, if_true, if_false, Bool.false_eq_true, false_and, and_false, and_true, true_and, and_self, Bool.or_false, Bool.false_or, Bool.or_true, Bool.true_or, Bool.false_and, Bool.and_false, decide_true, decide_false, L0, L1, L2, L3, L4, L5, L6, L7, L8, L9, L10, L11, L12, L13, L14, L15, L16, L17, L18, L19, L20, L21, L22, L23, L24, L25, L27, L33, L39, L40, L45, L48, L57, L60, L72, L90, L97, L98, L99, L100, L121, L122, L242, L255, L256, L580, L600, L1000, L1584, L1000000, Ln1, iN_add, iN_and, iN_or, iN_nd, iN_shl, iN_shr, iN_cl, iN_in, iN_mul, k193 w0, r193_1 w0, r193_2 w0, r193_3 w0, r193_4 w0, r193_5 w0, r193_6 w0, r193_7 w0, r193_8 w0, r193_18 w0, r193_19 w0, r193_32 w0, r193_33 w0, r193_34 w0, r193_36 w0, r193_38 w0, r193_39 w0, r193_40 w0, r193_42 w0, r193_45 w0, r193_46 w0, r193_47 w0, r193_48 w0, r193_49 w0, r193_50 w0, t179r, e2 _ F.co]
    cases rg x2 (5 + 1) <;> simp only [gT, nbeq, Option.isSome_some, Option.getD_some, Bool.and_true, Bool.true_and, Bool.and_self, mX_some, bS, bN_if, bN_01, i1_01, i0_01, if_true, if_false, Bool.false_eq_true, false_and, and_false, and_true, true_and, and_self, Bool.or_false, Bool.false_or, Bool.or_true, Bool.true_or, Bool.false_and, Bool.and_false, decide_true, decide_false]
    · exact ⟨_, rfl, FQ.c0⟩
    · cases rg x3 (20 + 1) <;> simp only [gT, nbeq, Option.isSome_some, Option.getD_some, Bool.and_true, Bool.true_and, Bool.and_self, mX_some, bS, bN_if, bN_01, i1_01, i0_01, if_true, if_false, Bool.false_eq_true, false_and, and_false, and_true, true_and, and_self, Bool.or_false, Bool.false_or, Bool.or_true, Bool.true_or, Bool.false_and, Bool.and_false, decide_true, decide_false] <;> exact ⟨_, rfl, FQ.c0⟩
  · have hn := W.1.1
    simp (disch := omega) only [gT, nbeq, Option.isSome_some, Option.getD_some, Bool.and_true, Bool.true_and, Bool.and_self, mX_some, bS, bN_if, bN_01, i1_01, i0_01, if_true, if_false, Bool.false_eq_true, false_and, and_false, and_true, true_and, and_self, Bool.or_false, Bool.false_or, Bool.or_true, Bool.true_or, Bool.false_and, Bool.and_false, decide_true, decide_false, L0, L1, L2, L3, L4, L5, L6, L7, L8, L9, L10, L11, L12, L13, L14, L15, L16, L17, L18, L19, L20, L21, L22, L23, L24, L25, L27, L33, L39, L40, L45, L48, L57, L60, L72, L90, L97, L98, L99, L100, L121, L122, L242, L255, L256, L580, L600, L1000, L1584, L1000000, Ln1, iN_add, iN_and, iN_or, iN_nd, iN_shl, iN_shr, iN_cl, iN_in, iN_mul, k0 w, r0_0 w, r0_1 w, r0_2 w, r0_3 w, r0_4 w, r0_5 w, r0_6 w, r0_7 w, r0_8 w, k66 w, r66_0 w, r66_1 w, r66_2 w, r66_4 w, e1, t17r]
    cases hr2 : rg x2 (5 + 1) with
    | false =>
      simp only [gT, nbeq, Option.isSome_some, Option.getD_some, Bool.and_true, Bool.true_and, Bool.and_self, mX_some, bS, bN_if, bN_01, i1_01, i0_01, if_true, if_false, Bool.false_eq_true, false_and, and_false, and_true, true_and, and_self, Bool.or_false, Bool.false_or, Bool.or_true, Bool.true_or, Bool.false_and, Bool.and_false, decide_true, decide_false]
      refine ⟨_, _, rfl, FQ.rfl, fun h0 F => ?_⟩
      have w0 := R.1.q F
      unfold f281 f281_32
      simp (disch := omega) only [gT, nbeq, Option.isSome_some, Option.getD_some, Bool.and_true, Bool.true_and, Bool.and_self, mX_some, bS, bN_if, bN_01, i1_01, i0_01, if_true, if_false, Bool.false_eq_true, false_and, and_false, and_true, true_and, and_self, Bool.or_false, Bool.false_or, Bool.or_true, Bool.true_or, Bool.false_and, Bool.and_false, decide_true, decide_false, L0, L1, L2, L3, L4, L5, L6, L7, L8, L9, L10, L11, L12, L13, L14, L15, L16, L17, L18, L19, L20, L21, L22, L23, L24, L25, L27, L33, L39, L40, L45, L48, L57, L60, L72, L90, L97, L98, L99, L100, L121, L122, L242, L255, L256, L580, L600, L1000, L1584, L1000000, Ln1, iN_add, iN_and, iN_or, iN_nd, iN_shl, iN_shr, iN_cl, iN_in, iN_mul, k193 w0, r193_1 w0, r193_2 w0, r193_3 w0, r193_4 w0, r193_5 w0, r193_6 w0, r193_7 w0, r193_8 w0, r193_18 w0, r193_19 w0, r193_32 w0, r193_33 w0, r193_34 w0, r193_36 w0, r193_38 w0, r193_39 w0, r193_40 w0, r193_42 w0, r193_45 w0, r193_46 w0, r193_47 w0, r193_48 w0, r193_49 w0, r193_50 w0, t179r, hr2]
      exact ⟨_, rfl, FQ.c0⟩
    | true =>
      obtain ⟨t, ht, rfl, _⟩ := rg_t hr2
      simp only [gT, nbeq, Option.isSome_some, Option.getD_some, Bool.and_true, Bool.true_and, Bool.and_self, mX_some, bS, bN_if, bN_01, i1_01, i0_01, if_true, if_false, Bool.false_eq_true, false_and, and_false, and_true, true_and, and_self, Bool.or_false, Bool.false_or, Bool.or_true, Bool.true_or, Bool.false_and, Bool.and_false, decide_true, decide_false]
      cases hr : rg x3 (20 + 1) with
      | false =>
        simp only [gT, nbeq, Option.isSome_some, Option.getD_some, Bool.and_true, Bool.true_and, Bool.and_self, mX_some, bS, bN_if, bN_01, i1_01, i0_01, if_true, if_false, Bool.false_eq_true, false_and, and_false, and_true, true_and, and_self, Bool.or_false, Bool.false_or, Bool.or_true, Bool.true_or, Bool.false_and, Bool.and_false, decide_true, decide_false]
        refine ⟨_, _, rfl, FQ.rfl, fun h0 F => ?_⟩
        have w0 := R.1.q F
        unfold f281 f281_32
        simp (disch := omega) only [gT, nbeq, Option.isSome_some, Option.getD_some, Bool.and_true, Bool.true_and, Bool.and_self, mX_some, bS, bN_if, bN_01, i1_01, i0_01, if_true, if_false, Bool.false_eq_true, false_and, and_false, and_true, true_and, and_self, Bool.or_false, Bool.false_or, Bool.or_true, Bool.true_or, Bool.false_and, Bool.and_false, decide_true, decide_false, L0, L1, L2, L3, L4, L5, L6, L7, L8, L9, L10, L11, L12, L13, L14, L15, L16, L17, L18, L19, L20, L21, L22, L23, L24, L25, L27, L33, L39, L40, L45, L48, L57, L60, L72, L90, L97, L98, L99, L100, L121, L122, L242, L255, L256, L580, L600, L1000, L1584, L1000000, Ln1, iN_add, iN_and, iN_or, iN_nd, iN_shl, iN_shr, iN_cl, iN_in, iN_mul, k193 w0, r193_1 w0, r193_2 w0, r193_3 w0, r193_4 w0, r193_5 w0, r193_6 w0, r193_7 w0, r193_8 w0, r193_18 w0, r193_19 w0, r193_32 w0, r193_33 w0, r193_34 w0, r193_36 w0, r193_38 w0, r193_39 w0, r193_40 w0, r193_42 w0, r193_45 w0, r193_46 w0, r193_47 w0, r193_48 w0, r193_49 w0, r193_50 w0, t179r, hr, hr2]
        exact ⟨_, rfl, FQ.c0⟩
      | true =>
        obtain ⟨d, hd, rfl, _⟩ := rg_t hr
        obtain ⟨D, A⟩ := aD_ex q (fun _ => 0) 0
        obtain ⟨E, B⟩ := aD_ex q (fun _ => t) 1
        obtain ⟨h1, a1, a2, a3, _⟩ := t84 (n := d) (m := 0) w H W (by omega) (by omega) (fun i hi => by omega) A (by omega)
        have w1 := a3.1
        have x2 : Fr (fun b => Nat.beq b 68) h1 (mSI h1 68 0 (iN t)) := Fr.rfl.si (by decide)
        have w2 := w1.fr x2
        have H2 : LibS (mSI h1 68 0 (iN t)) (7 + 14 * i) q := (a3.2.2.1).st (fun j hj => ⟨x2.k _, fun k _ => x2.r _ k, fun k => by simp (disch := omega) only [si_ne, si_nk, si_eq]⟩)
        obtain ⟨h3, b1, b2, b3, _⟩ := t84 (n := d) (m := 1) (P := fun _ => t) w2 H2 W (by omega) (by omega) (fun j hj => ⟨by omega, by rw [show j = 0 by omega]; simp (disch := omega) only [si_ne, si_nk, si_eq]⟩) B (by omega)
        have w3 := b3.1
        have a5 := a3.2.2.2.2.1
        have b5 := b3.2.2.2.2.1
        have q2 : FQ h1 (mSI h1 68 0 (iN t)) := (x2.mono (P' := pC) (fun b hb => by rw [Nat.eq_of_beq_eq_true hb]; decide)).qC
        simp (disch := omega) only [gT, nbeq, Option.isSome_some, Option.getD_some, Bool.and_true, Bool.true_and, Bool.and_self, mX_some, bS, bN_if, bN_01, i1_01, i0_01, if_true, if_false, Bool.false_eq_true, false_and, and_false, and_true, true_and, and_self, Bool.or_false, Bool.false_or, Bool.or_true, Bool.true_or, Bool.false_and, Bool.and_false, decide_true, decide_false, L0, L1, L2, L3, L4, L5, L6, L7, L8, L9, L10, L11, L12, L13, L14, L15, L16, L17, L18, L19, L20, L21, L22, L23, L24, L25, L27, L33, L39, L40, L45, L48, L57, L60, L72, L90, L97, L98, L99, L100, L121, L122, L242, L255, L256, L580, L600, L1000, L1584, L1000000, Ln1, iN_add, iN_and, iN_or, iN_nd, iN_shl, iN_shr, iN_cl, iN_in, iN_mul, k66 w1, r66_0 w1, r66_1 w1, r66_2 w1, r66_4 w1, k68 w1, k66 w3, r66_0 w3, r66_1 w3, r66_2 w3, r66_4 w3, a1, a5, b1, b5]
        refine ⟨_, h3, rfl, (a2.q.tr q2).tr b2.q, fun h0 F => ?_⟩
        have w0 := R.1.q F
        obtain ⟨h', g1, g2, g3, g4, g5⟩ := e2 _ F.co
        have w4 := g4.1
        have A' := A
        obtain ⟨D0, Ds⟩ := A'
        obtain ⟨h5, c1, c2, M⟩ := t234 (n := d) (D := D) g4 W g5 (SW0 W) (by rw [D0]; rfl) (by rw [D0]; rfl) (by rw [D0]) Ds (by omega)
        have w5 := M.1.1
        have m1 := M.2.2.2.1
        have x3 : Fr (fun b => Nat.beq b 208) h5 (mSI h5 208 0 (iN t)) := Fr.rfl.si (by decide)
        have M5 : MoS (mSI h5 208 0 (iN t)) q := by
          obtain ⟨v, h1, h2, s, h3, h4, h5⟩ := M.1
          exact ⟨v.fr x3, (x3.i (by decide) _).trans h1, (x3.i (by decide) _).trans h2, s, h3, (x3.i (by decide) _).trans h4, fun i hi => (x3.i (by decide) _).trans (h5 i hi)⟩
        obtain ⟨h6, k1, k2, N⟩ := t239 (n := d) (m := 1) (P := fun _ => t) M5 W (by omega) (fun j hj => ⟨by omega, by rw [show j = 0 by omega]; simp (disch := omega) only [si_ne, si_nk, si_eq]⟩) B (by omega)
        have w6 := N.1.1
        have m2 := N.2.2.2.1
        refine ⟨h6, ?_, ((FQ.c0.tr g2.qM).tr (c2.mono pV_M).qM).tr ((x3.mono (P' := pM) (fun b hb => by rw [Nat.eq_of_beq_eq_true hb]; decide)).qM.tr (k2.mono pV_M).qM)⟩
        unfold f281
        simp (disch := omega) only [gT, nbeq, Option.isSome_some, Option.getD_some, Bool.and_true, Bool.true_and, Bool.and_self, mX_some, bS, bN_if, bN_01, i1_01, i0_01, if_true, if_false, Bool.false_eq_true, false_and, and_false, and_true, true_and, and_self, Bool.or_false, Bool.false_or, Bool.or_true, Bool.true_or, Bool.false_and, Bool.and_false, decide_true, decide_false, L0, L1, L2, L3, L4, L5, L6, L7, L8, L9, L10, L11, L12, L13, L14, L15, L16, L17, L18, L19, L20, L21, L22, L23, L24, L25, L27, L33, L39, L40, L45, L48, L57, L60, L72, L90, L97, L98, L99, L100, L121, L122, L242, L255, L256, L580, L600, L1000, L1584, L1000000, Ln1, iN_add, iN_and, iN_or, iN_nd, iN_shl, iN_shr, iN_cl, iN_in, iN_mul, k193 w0, r193_1 w0, r193_2 w0, r193_3 w0, r193_4 w0, r193_5 w0, r193_6 w0, r193_7 w0, r193_8 w0, r193_18 w0, r193_19 w0, r193_32 w0, r193_33 w0, r193_34 w0, r193_36 w0, r193_38 w0, r193_39 w0, r193_40 w0, r193_42 w0, r193_45 w0, r193_46 w0, r193_47 w0, r193_48 w0, r193_49 w0, r193_50 w0, k193 w4, r193_1 w4, r193_2 w4, r193_3 w4, r193_4 w4, r193_5 w4, r193_6 w4, r193_7 w4, r193_8 w4, r193_18 w4, r193_19 w4, r193_32 w4, r193_33 w4, r193_34 w4, r193_36 w4, r193_38 w4, r193_39 w4, r193_40 w4, r193_42 w4, r193_45 w4, r193_46 w4, r193_47 w4, r193_48 w4, r193_49 w4, r193_50 w4, k193 w5, r193_1 w5, r193_2 w5, r193_3 w5, r193_4 w5, r193_5 w5, r193_6 w5, r193_7 w5, r193_8 w5, r193_18 w5, r193_19 w5, r193_32 w5, r193_33 w5, r193_34 w5, r193_36 w5, r193_38 w5, r193_39 w5, r193_40 w5, r193_42 w5, r193_45 w5, r193_46 w5, r193_47 w5, r193_48 w5, r193_49 w5, r193_50 w5, k208 w5, k193 w6, r193_1 w6, r193_2 w6, r193_3 w6, r193_4 w6, r193_5 w6, r193_6 w6, r193_7 w6, r193_8 w6, r193_18 w6, r193_19 w6, r193_32 w6, r193_33 w6, r193_34 w6, r193_36 w6, r193_38 w6, r193_39 w6, r193_40 w6, r193_42 w6, r193_45 w6, r193_46 w6, r193_47 w6, r193_48 w6, r193_49 w6, r193_50 w6, t179r, g1, hr, hr2, c1, m1, k1, m2]
        rfl
end PB
