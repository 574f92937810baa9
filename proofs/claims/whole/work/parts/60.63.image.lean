/-! copies of all that is told -/
theorem LibE.fr {h g g' : mH} {a b : Nat} {P : Nat → Bool} (E : LibE h g b a) (x : Fr P g g') (p : ∀ i, i < 7 → P (a + i) = false) : LibE h g' b a := by
  refine ⟨⟨(x.i (p 0 (by decide)) 6).trans E.1.1, (x.i (p 0 (by decide)) 7).trans E.1.2.1, (x.i (p 0 (by decide)) 8).trans E.1.2.2⟩, fun i hi j hj => ?_⟩
  have z := p (1 + i) (by omega)
  rw [← Nat.add_assoc] at z
  exact (x.i z j).trans (E.2 i hi j hj)
theorem YrE.fr {h g g' : mH} {a b : Nat} {P : Nat → Bool} (E : YrE h g b a) (x : Fr P g g') (p : ∀ i, i < 4 → P (a + i) = false) : YrE h g' b a := by
  refine ⟨(x.i (p 0 (by decide)) 3).trans E.1, fun i hi j hj => ?_⟩
  have z := p (1 + i) (by omega)
  rw [← Nat.add_assoc] at z
  exact (x.i z j).trans (E.2 i hi j hj)
theorem LgE.fr {h g g' : mH} {a b : Nat} {P : Nat → Bool} (E : LgE h g b a) (x : Fr P g g') (p : ∀ i, i < 3 → P (a + i) = false) : LgE h g' b a := by
  refine ⟨(x.i (p 0 (by decide)) 2).trans E.1, fun i hi j hj => ?_⟩
  have z := p (1 + i) (by omega)
  rw [← Nat.add_assoc] at z
  exact (x.i z j).trans (E.2 i hi j hj)
theorem LibE.src {h g g' : mH} {a b : Nat} {P : Nat → Bool} (E : LibE g g' b a) (x : Fr P h g) (p : ∀ i, i < 7 → P (b + i) = false) : LibE h g' b a := by
  refine ⟨⟨E.1.1.trans (x.i (p 0 (by decide)) 6), E.1.2.1.trans (x.i (p 0 (by decide)) 7), E.1.2.2.trans (x.i (p 0 (by decide)) 8)⟩, fun i hi j hj => ?_⟩
  have z := p (1 + i) (by omega)
  rw [← Nat.add_assoc] at z
  exact (E.2 i hi j hj).trans (x.i z j)
theorem YrE.src {h g g' : mH} {a b : Nat} {P : Nat → Bool} (E : YrE g g' b a) (x : Fr P h g) (p : ∀ i, i < 4 → P (b + i) = false) : YrE h g' b a := by
  refine ⟨E.1.trans (x.i (p 0 (by decide)) 3), fun i hi j hj => ?_⟩
  have z := p (1 + i) (by omega)
  rw [← Nat.add_assoc] at z
  exact (E.2 i hi j hj).trans (x.i z j)
theorem LgE.src {h g g' : mH} {a b : Nat} {P : Nat → Bool} (E : LgE g g' b a) (x : Fr P h g) (p : ∀ i, i < 3 → P (b + i) = false) : LgE h g' b a := by
  refine ⟨E.1.trans (x.i (p 0 (by decide)) 2), fun i hi j hj => ?_⟩
  have z := p (1 + i) (by omega)
  rw [← Nat.add_assoc] at z
  exact (E.2 i hi j hj).trans (x.i z j)
theorem LibE.st {h h' : mH} {a : Nat} (x : ∀ i, i < 7 → ∀ j, mI h' (a + i) j = mI h (a + i) j) : LibE h h' a a := ⟨⟨x 0 (by decide) 6, x 0 (by decide) 7, x 0 (by decide) 8⟩, fun i hi j _ => by
  have z := x (1 + i) (by omega) j
  rw [← Nat.add_assoc] at z
  exact z⟩
theorem YrE.st {h h' : mH} {a : Nat} (x : ∀ i, i < 4 → ∀ j, mI h' (a + i) j = mI h (a + i) j) : YrE h h' a a := ⟨x 0 (by decide) 3, fun i hi j _ => by
  have z := x (1 + i) (by omega) j
  rw [← Nat.add_assoc] at z
  exact z⟩
theorem LgE.st {h h' : mH} {a : Nat} (x : ∀ i, i < 3 → ∀ j, mI h' (a + i) j = mI h (a + i) j) : LgE h h' a a := ⟨x 0 (by decide) 2, fun i hi j _ => by
  have z := x (1 + i) (by omega) j
  rw [← Nat.add_assoc] at z
  exact z⟩
theorem ToldK.fr {h h' : mH} {T : Nat} {P : Nat → Bool} (K : ToldK h T) (x : Fr P h h') : ToldK h' T := by
  obtain ⟨⟨a1, a2, a3⟩, ⟨b0, b1, b2, b3, b4⟩, ⟨c3, c4, c5⟩, d⟩ := K
  refine ⟨⟨(x.k _).trans a1, (x.k _).trans a2, (x.k _).trans a3⟩, ⟨(x.r _ _).trans b0, (x.r _ _).trans b1, (x.r _ _).trans b2, (x.r _ _).trans b3, (x.r _ _).trans b4⟩, ⟨(x.k _).trans c3, (x.k _).trans c4, (x.k _).trans c5⟩, fun i hi => ?_⟩
  obtain ⟨d1, d2, d3, d4, d5, d6⟩ := d i hi
  exact ⟨(x.r _ _).trans d1, (x.r _ _).trans d2, (x.r _ _).trans d3, d4.fr x, d5.fr x, d6.fr x⟩
/-- one Told as the other -/
def CpT (h h' : mH) (S T : Nat) : Prop := (mI h' T 5 = mI h S 5 ∧ mI h' T 6 = mI h S 6 ∧ mI h' T 7 = mI h S 7) ∧ (∀ j, j < 600 → mI h' (T + 1) j = mI h (S + 1) j) ∧ (∀ j, j < 3 → mI h' (T + 2) j = mI h (S + 2) j) ∧ ∀ i, i < 2 → LibE h h' (S + 6 + 14 * i) (T + 6 + 14 * i) ∧ YrE h h' (S + 13 + 14 * i) (T + 13 + 14 * i) ∧ LgE h h' (S + 17 + 14 * i) (T + 17 + 14 * i)
section C3
variable {h : mH} {S T : Nat}
theorem t173 (A : ToldK h T) (B : ToldK h S) (d : T + 34 ≤ S ∨ S + 34 ≤ T) : ∃ h', f173 h T S = some ((), h') ∧ Fr (pRg T 34) h h' ∧ CpT h h' S T := by
  have F1 : Fr (pRg T 34) h (mCp (mCp h (S + 1) 0 (T + 1) 0 600) (S + 2) 0 (T + 2) 0 3) := (Fr.rfl.cp (pRg_t (by omega) (by omega))).cp (pRg_t (by omega) (by omega))
  obtain ⟨⟨a1, a2, a3⟩, ⟨b0, b1, b2, b3, b4⟩, ⟨c3, c4, c5⟩, dA⟩ := id A
  obtain ⟨⟨a1', a2', a3'⟩, ⟨b0', b1', b2', b3', b4'⟩, ⟨c3', c4', c5'⟩, dB⟩ := id B
  unfold f173 f173_30
  simp (disch := omega) only [gT, nbeq, Option.isSome_some, Option.getD_some, Bool.and_true, Bool.true_and, Bool.and_self, mX_some, bS, bN_if, bN_01, i1_01, i0_01, if_true, if_false, Bool.false_eq_true, false_and, and_false, and_true, true_and, and_self, Bool.or_false, Bool.false_or, Bool.or_true, Bool.true_or, Bool.false_and, Bool.and_false, decide_true, decide_false, L0, L1, L2, L3, L4, L5, L6, L7, L8, L9, L10, L11, L12, L13, L14, L15, L16, L17, L18, L19, L20, L21, L22, L23, L24, L25, L27, L33, L39, L40, L45, L48, L57, L60, L72, L90, L97, L98, L99, L100, L121, L122, L242, L255, L256, L580, L600, L1000, L1584, L1000000, Ln1, iN_add, iN_and, iN_or, iN_nd, iN_shl, iN_shr, iN_cl, iN_in, iN_mul, a1, a2, a3, b0, b1, a1', a2', a3', b0', b1', dnl, nble]
  have pS : ∀ x, S ≤ x → x < S + 34 → pRg T 34 x = false := fun x h1 h2 => pRg_f (by omega)
  have := lp_inv (body := f173_32 T S) (P := fun i z => z.1 = iN i ∧ Fr (pRg T 34) h z.2 ∧ (∀ j, j < 600 → mI z.2 (T + 1) j = mI h (S + 1) j) ∧ (∀ j, j < 3 → mI z.2 (T + 2) j = mI h (S + 2) j) ∧ ∀ k, k < i → LibE h z.2 (S + 6 + 14 * k) (T + 6 + 14 * k) ∧ YrE h z.2 (S + 13 + 14 * k) (T + 13 + 14 * k) ∧ LgE h z.2 (S + 17 + 14 * k) (T + 17 + 14 * k)) (Q := fun r => Fr (pRg T 34) h r.2 ∧ CpT h r.2 S T) 2 (fun i z hi hP => by
    obtain ⟨z1, z2, z3, z4, z5⟩ := hP
    have A2 := A.fr z2
    have B2 := B.fr z2
    obtain ⟨⟨e1, e2, e3⟩, ⟨g0, g1, g2, g3, g4⟩, ⟨i3, i4, i5⟩, dA2⟩ := id A2
    obtain ⟨⟨e1', e2', e3'⟩, ⟨g0', g1', g2', g3', g4'⟩, ⟨i3', i4', i5'⟩, dB2⟩ := id B2
    obtain ⟨m1, m2, m3, m4, m5, m6⟩ := dA2 i hi
    obtain ⟨m1', m2', m3', m4', m5', m6'⟩ := dB2 i hi
    obtain ⟨u1, v1, v2, v3⟩ := t48 m4 m4' (by omega)
    have A3 := A2.fr v2
    have B3 := B2.fr v2
    obtain ⟨⟨e1b, _, _⟩, ⟨_, _, _, g3b, _⟩, ⟨_, i4b, _⟩, dA3⟩ := id A3
    obtain ⟨⟨e1b', _, _⟩, ⟨_, _, _, g3b', _⟩, ⟨_, i4b', _⟩, dB3⟩ := id B3
    obtain ⟨_, n2, _, _, n5, _⟩ := dA3 i hi
    obtain ⟨_, n2', _, _, n5', _⟩ := dB3 i hi
    obtain ⟨u2, w1, w2, w3⟩ := t49 n5 n5' (by omega)
    have A4 := A3.fr w2
    have B4 := B3.fr w2
    obtain ⟨⟨e1c, _, _⟩, ⟨_, _, _, _, g4c⟩, ⟨_, _, i5c⟩, dA4⟩ := id A4
    obtain ⟨⟨e1c', _, _⟩, ⟨_, _, _, _, g4c'⟩, ⟨_, _, i5c'⟩, dB4⟩ := id B4
    obtain ⟨_, _, o3, _, _, o6⟩ := dA4 i hi
    obtain ⟨_, _, o3', _, _, o6'⟩ := dB4 i hi
    obtain ⟨u3, x1, x2, x3⟩ := t50 o6 o6' (by omega)
    have sub7 : ∀ x, pRg (T + 6 + 14 * i) 7 x = true → pRg T 34 x = true := fun x hx => by
      by_cases c : T + 6 + 14 * i ≤ x ∧ x < T + 6 + 14 * i + 7
      · exact pRg_t (by omega) (by omega)
      · rw [pRg_f (by omega)] at hx; cases hx
    have sub4 : ∀ x, pRg (T + 13 + 14 * i) 4 x = true → pRg T 34 x = true := fun x hx => by
      by_cases c : T + 13 + 14 * i ≤ x ∧ x < T + 13 + 14 * i + 4
      · exact pRg_t (by omega) (by omega)
      · rw [pRg_f (by omega)] at hx; cases hx
    have sub3 : ∀ x, pRg (T + 17 + 14 * i) 3 x = true → pRg T 34 x = true := fun x hx => by
      by_cases c : T + 17 + 14 * i ≤ x ∧ x < T + 17 + 14 * i + 3
      · exact pRg_t (by omega) (by omega)
      · rw [pRg_f (by omega)] at hx; cases hx
    have F2 := z2.tr (v2.mono sub7)
    have F3 := F2.tr (w2.mono sub4)
    have F4 := F3.tr (x2.mono sub3)
    refine Or.inl ⟨(iN (i + 1), u3), ?_, rfl, F4, fun j hj => ?_, fun j hj => ?_, fun k hk => ?_⟩
    · unfold f173_32
      rw [z1]
      simp (disch := omega) only [gT, nbeq, Option.isSome_some, Option.getD_some, Bool.and_true, Bool.true_and, Bool.and_self, mX_some, bS, bN_if, bN_01, i1_01, i0_01, if_true, if_false, Bool.false_eq_true, false_and, and_false, and_true, true_and, and_self, Bool.or_false, Bool.false_or, Bool.or_true, Bool.true_or, Bool.false_and, Bool.and_false, decide_true, decide_false, L0, L1, L2, L3, L4, L5, L6, L7, L8, L9, L10, L11, L12, L13, L14, L15, L16, L17, L18, L19, L20, L21, L22, L23, L24, L25, L27, L33, L39, L40, L45, L48, L57, L60, L72, L90, L97, L98, L99, L100, L121, L122, L242, L255, L256, L580, L600, L1000, L1584, L1000000, Ln1, iN_add, iN_and, iN_or, iN_nd, iN_shl, iN_shr, iN_cl, iN_in, iN_mul, ile_n, e1, e1', g2, g2', i3, i3', m1, m1', m4.1, v1, e1b, e1b', g3b, g3b', i4b, i4b', n2, n2', n5.1, w1, e1c, e1c', g4c, g4c', i5c, i5c', o3, o3', o6.1, x1]
    · rw [x2.i (pRg_f (by omega)), w2.i (pRg_f (by omega)), v2.i (pRg_f (by omega))]; exact z3 j hj
    · rw [x2.i (pRg_f (by omega)), w2.i (pRg_f (by omega)), v2.i (pRg_f (by omega))]; exact z4 j hj
    · by_cases e : k = i
      · subst e
        exact ⟨((v3.src z2 (fun j hj => pS _ (by omega) (by omega))).fr w2 (fun j hj => pRg_f (by omega))).fr x2 (fun j hj => pRg_f (by omega)), (w3.src F2 (fun j hj => pS _ (by omega) (by omega))).fr x2 (fun j hj => pRg_f (by omega)), x3.src F3 (fun j hj => pS _ (by omega) (by omega))⟩
      · obtain ⟨p1, p2, p3⟩ := z5 k (by omega)
        exact ⟨((p1.fr v2 (fun j hj => pRg_f (by omega))).fr w2 (fun j hj => pRg_f (by omega))).fr x2 (fun j hj => pRg_f (by omega)), ((p2.fr v2 (fun j hj => pRg_f (by omega))).fr w2 (fun j hj => pRg_f (by omega))).fr x2 (fun j hj => pRg_f (by omega)), ((p3.fr v2 (fun j hj => pRg_f (by omega))).fr w2 (fun j hj => pRg_f (by omega))).fr x2 (fun j hj => pRg_f (by omega))⟩) (fun z hP => by
    obtain ⟨z1, z2, z3, z4, z5⟩ := hP
    have A2 := A.fr z2
    have B2 := B.fr z2
    obtain ⟨⟨e1, e2, e3⟩, _⟩ := id A2
    obtain ⟨⟨e1', e2', e3'⟩, _⟩ := id B2
    have s0 : ∀ j, mI z.2 S j = mI h S j := fun j => z2.i (pS _ (by omega) (by omega)) j
    have G : ∀ x y w, Fr (pRg T 1) z.2 (mSI (mSI (mSI z.2 T 5 x) T 6 y) T 7 w) := fun x y w => ((Fr.rfl.si (pRg_t (by omega) (by omega))).si (pRg_t (by omega) (by omega))).si (pRg_t (by omega) (by omega))
    have G2 := G (mI h S 5) (mI h S 6) (mI h S 7)
    refine ⟨((), mSI (mSI (mSI z.2 T 5 (mI h S 5)) T 6 (mI h S 6)) T 7 (mI h S 7)), ?_, ((z2.si (pRg_t (by omega) (by omega))).si (pRg_t (by omega) (by omega))).si (pRg_t (by omega) (by omega)), ⟨?_, ?_, ?_⟩, fun j hj => (G2.i (pRg_f (by omega)) j).trans (z3 j hj), fun j hj => (G2.i (pRg_f (by omega)) j).trans (z4 j hj), fun k hk => ?_⟩
    · unfold f173_32 f173_112
      rw [z1]
      simp (disch := omega) only [gT, nbeq, Option.isSome_some, Option.getD_some, Bool.and_true, Bool.true_and, Bool.and_self, mX_some, bS, bN_if, bN_01, i1_01, i0_01, if_true, if_false, Bool.false_eq_true, false_and, and_false, and_true, true_and, and_self, Bool.or_false, Bool.false_or, Bool.or_true, Bool.true_or, Bool.false_and, Bool.and_false, decide_true, decide_false, L0, L1, L2, L3, L4, L5, L6, L7, L8, L9, L10, L11, L12, L13, L14, L15, L16, L17, L18, L19, L20, L21, L22, L23, L24, L25, L27, L33, L39, L40, L45, L48, L57, L60, L72, L90, L97, L98, L99, L100, L121, L122, L242, L255, L256, L580, L600, L1000, L1584, L1000000, Ln1, iN_add, iN_and, iN_or, iN_nd, iN_shl, iN_shr, iN_cl, iN_in, iN_mul, ile_p, e1, e1', s0, si_ne, si_nk, si_eq]
    · simp (disch := omega) only [si_ne, si_nk, si_eq]
    · simp (disch := omega) only [si_ne, si_nk, si_eq]
    · simp (disch := omega) only [si_ne, si_nk, si_eq]
    · obtain ⟨p1, p2, p3⟩ := z5 k hk
      exact ⟨p1.fr G2 (fun j hj => pRg_f (by omega)), p2.fr G2 (fun j hj => pRg_f (by omega)), p3.fr G2 (fun j hj => pRg_f (by omega))⟩) (by omega) (s := (iN 0, mCp (mCp h (S + 1) 0 (T + 1) 0 600) (S + 2) 0 (T + 2) 0 3)) ⟨rfl, F1, fun j hj => by simp (disch := omega) only [cp_ne, cp_eq], fun j hj => by simp (disch := omega) only [cp_ne, cp_eq], fun k hk => by omega⟩
  obtain ⟨⟨r, h'⟩, r1, r2, r3⟩ := this
  exact ⟨h', r1, r2, r3⟩
end C3
/-! the reference's -/
def RwC (h h' : mH) (c n s d : Nat) : Prop := (∀ i, i < n → mI h' c (n * d + i) = mI h c (n * s + i)) ∧ ∀ j, (j < n * d ∨ n * d + n ≤ j) → mI h' c j = mI h c j
theorem t300 {h : mH} {c n s d N : Nat} (K : mK h c = (100, N)) (hs : n * s + n ≤ N) (hd : n * d + n ≤ N) (hn : N < 5000) (dj : n * s + n ≤ n * d ∨ n * d + n ≤ n * s) : ∃ h', f300 h c (iN n) (iN s) (iN d) = some ((), h') ∧ Fr (fun b => Nat.beq b c) h h' ∧ RwC h h' c n s d := by
  unfold f300
  have := lp_inv (body := f300_3 c (iN n) (iN s) (iN d)) (P := fun k z => z.1 = iN k ∧ Fr (fun b => Nat.beq b c) h z.2 ∧ (∀ i, i < k → mI z.2 c (n * d + i) = mI h c (n * s + i)) ∧ ∀ j, (j < n * d ∨ n * d + n ≤ j) → mI z.2 c j = mI h c j) (Q := fun r => Fr (fun b => Nat.beq b c) h r.2 ∧ RwC h r.2 c n s d) n (fun k z hk hP => by
    obtain ⟨z1, z2, z3, z4⟩ := hP
    have K2 := (z2.k c).trans K
    have e := z4 (n * s + k) (by omega)
    refine Or.inl ⟨(iN (k + 1), mSI z.2 c (n * d + k) (mI h c (n * s + k))), ?_, rfl, z2.si (nbeq c), fun i hi => ?_, fun j hj => ?_⟩
    · unfold f300_3
      rw [z1]
      simp (disch := omega) only [gT, nbeq, Option.isSome_some, Option.getD_some, Bool.and_true, Bool.true_and, Bool.and_self, mX_some, bS, bN_if, bN_01, i1_01, i0_01, if_true, if_false, Bool.false_eq_true, false_and, and_false, and_true, true_and, and_self, Bool.or_false, Bool.false_or, Bool.or_true, Bool.true_or, Bool.false_and, Bool.and_false, decide_true, decide_false, L0, L1, L2, L3, L4, L5, L6, L7, L8, L9, L10, L11, L12, L13, L14, L15, L16, L17, L18, L19, L20, L21, L22, L23, L24, L25, L27, L33, L39, L40, L45, L48, L57, L60, L72, L90, L97, L98, L99, L100, L121, L122, L242, L255, L256, L580, L600, L1000, L1584, L1000000, Ln1, iN_add, iN_and, iN_or, iN_nd, iN_shl, iN_shr, iN_cl, iN_in, iN_mul, ile_n, K2, iN_in, iN_cl, e]
    · by_cases e2 : i = k
      · subst e2; simp (disch := omega) only [si_ne, si_nk, si_eq]
      · simp (disch := omega) only [si_ne, si_nk, si_eq]; exact z3 i (by omega)
    · simp (disch := omega) only [si_ne, si_nk, si_eq]; exact z4 j hj) (fun z hP => by
    obtain ⟨z1, z2, z3, z4⟩ := hP
    refine ⟨((), z.2), ?_, z2, z3, z4⟩
    unfold f300_3
    rw [z1]
    simp (disch := omega) only [gT, nbeq, Option.isSome_some, Option.getD_some, Bool.and_true, Bool.true_and, Bool.and_self, mX_some, bS, bN_if, bN_01, i1_01, i0_01, if_true, if_false, Bool.false_eq_true, false_and, and_false, and_true, true_and, and_self, Bool.or_false, Bool.false_or, Bool.or_true, Bool.true_or, Bool.false_and, Bool.and_false, decide_true, decide_false, L0, L1, L2, L3, L4, L5, L6, L7, L8, L9, L10, L11, L12, L13, L14, L15, L16, L17, L18, L19, L20, L21, L22, L23, L24, L25, L27, L33, L39, L40, L45, L48, L57, L60, L72, L90, L97, L98, L99, L100, L121, L122, L242, L255, L256, L580, L600, L1000, L1584, L1000000, Ln1, iN_add, iN_and, iN_or, iN_nd, iN_shl, iN_shr, iN_cl, iN_in, iN_mul, ile_p]) (by omega) (s := (iN 0, h)) ⟨rfl, Fr.rfl, fun i hi => by omega, fun j _ => rfl⟩
  obtain ⟨⟨r, h'⟩, r1, r2, r3⟩ := this
  exact ⟨h', r1, r2, r3⟩
def pI (b : Nat) : Bool := pRg 194 8 b
def ySx (x : Int32) : Int32 := (Int32.toInt8 x).toInt32
theorem ySx_y (b : Nat) : ySx (yN b) = yN b := by
  unfold ySx yN
  rw [Int8.toInt8_toInt32]
theorem RwC.to {h g g' : mH} {c n s d : Nat} {P : Nat → Bool} (R : RwC h g c n s d) (x : Fr P g g') (p : P c = false) : RwC h g' c n s d := ⟨fun i hi => (x.i p _).trans (R.1 i hi), fun j hj => (x.i p _).trans (R.2 j hj)⟩
theorem RwC.of {h g g' : mH} {c n s d : Nat} {P : Nat → Bool} (R : RwC g g' c n s d) (x : Fr P h g) (p : P c = false) : RwC h g' c n s d := ⟨fun i hi => (R.1 i hi).trans (x.i p _), fun j hj => (R.2 j hj).trans (x.i p _)⟩
/-- the reference's image d as its image s -/
def CpM (h h' : mH) (s d : Nat) : Prop := ((∀ i, i < 600 → mI h' 194 (600 * d + i) = ySx (mI h 194 (600 * s + i))) ∧ ∀ j, (j < 600 * d ∨ 600 * d + 600 ≤ j) → mI h' 194 j = mI h 194 j) ∧ RwC h h' 195 1 s d ∧ RwC h h' 196 1 s d ∧ RwC h h' 197 1 s d ∧ RwC h h' 198 3 s d ∧ RwC h h' 199 90 s d ∧ RwC h h' 200 242 s d ∧ RwC h h' 201 34 s d
theorem L34 : (34 : Int32) = iN 34 := by unfold iN; rfl
theorem L32 : (32 : Int32) = iN 32 := by unfold iN; rfl
theorem L59 : (59 : Int32) = iN 59 := by unfold iN; rfl
theorem L26 : (26 : Int32) = iN 26 := by unfold iN; rfl
theorem beqI {c : Nat} (h1 : 194 ≤ c) (h2 : c < 202) : ∀ b, (fun b => Nat.beq b c) b = true → pI b = true := by
  intro b hb
  have : b = c := Nat.eq_of_beq_eq_true hb
  rw [this]
  exact pRg_t h1 h2
theorem t299 {h : mH} {s d : Nat} (w : Wd h) (hs : s < 4) (hd : d < 4) (hne : s ≠ d) : ∃ h', f299 h 193 (iN s) (iN d) = some ((), h') ∧ Fr pI h h' ∧ CpM h h' s d := by
  unfold f299
  have := lp_inv (body := f299_2 193 (iN s) (iN d)) (P := fun k z => z.1 = iN k ∧ Fr (fun b => Nat.beq b 194) h z.2 ∧ (∀ i, i < k → mI z.2 194 (600 * d + i) = ySx (mI h 194 (600 * s + i))) ∧ ∀ j, (j < 600 * d ∨ 600 * d + 600 ≤ j) → mI z.2 194 j = mI h 194 j) (Q := fun r => Fr pI h r.2 ∧ CpM h r.2 s d) 600 (fun k z hk hP => by
    obtain ⟨z1, z2, z3, z4⟩ := hP
    have w2 := w.fr z2
    have e := z4 (600 * s + k) (by omega)
    refine Or.inl ⟨(iN (k + 1), mSI z.2 194 (600 * d + k) (ySx (mI h 194 (600 * s + k)))), ?_, rfl, z2.si (nbeq 194), fun i hi => ?_, fun j hj => ?_⟩
    · unfold f299_2 f299_33 ySx
      rw [z1]
      simp (disch := omega) only [gT, nbeq, Option.isSome_some, Option.getD_some, Bool.and_true, Bool.true_and, Bool.and_self, mX_some, bS, bN_if, bN_01, i1_01, i0_01, if_true, if_false, Bool.false_eq_true, false_and, and_false, and_true, true_and, and_self, Bool.or_false, Bool.false_or, Bool.or_true, Bool.true_or, Bool.false_and, Bool.and_false, decide_true, decide_false, L0, L1, L2, L3, L4, L5, L6, L7, L8, L9, L10, L11, L12, L13, L14, L15, L16, L17, L18, L19, L20, L21, L22, L23, L24, L25, L27, L33, L39, L40, L45, L48, L57, L60, L72, L90, L97, L98, L99, L100, L121, L122, L242, L255, L256, L580, L600, L1000, L1584, L1000000, Ln1, iN_add, iN_and, iN_or, iN_nd, iN_shl, iN_shr, iN_cl, iN_in, iN_mul, ile_n, k193 w2, r193_1 w2, r193_2 w2, r193_3 w2, r193_4 w2, r193_5 w2, r193_6 w2, r193_7 w2, r193_8 w2, r193_18 w2, r193_19 w2, r193_32 w2, r193_33 w2, r193_34 w2, r193_36 w2, r193_38 w2, r193_39 w2, r193_40 w2, r193_42 w2, r193_45 w2, r193_46 w2, r193_47 w2, r193_48 w2, r193_49 w2, r193_50 w2, k194 w2, iN_in, iN_cl, e]
    · by_cases e2 : i = k
      · subst e2; simp (disch := omega) only [si_ne, si_nk, si_eq]
      · simp (disch := omega) only [si_ne, si_nk, si_eq]; exact z3 i (by omega)
    · simp (disch := omega) only [si_ne, si_nk, si_eq]; exact z4 j hj) (fun z hP => by
    obtain ⟨z1, z2, z3, z4⟩ := hP
    have w2 := w.fr z2
    obtain ⟨g1, a1, b1, c1⟩ := t300 (n := 1) (s := s) (d := d) (k195 w2) (by omega) (by omega) (by omega) (by omega)
    have w3 := w2.fr b1
    obtain ⟨g2, a2, b2, c2⟩ := t300 (n := 1) (s := s) (d := d) (k196 w3) (by omega) (by omega) (by omega) (by omega)
    have w4 := w3.fr b2
    obtain ⟨g3, a3, b3, c3⟩ := t300 (n := 1) (s := s) (d := d) (k197 w4) (by omega) (by omega) (by omega) (by omega)
    have w5 := w4.fr b3
    obtain ⟨g4, a4, b4, c4⟩ := t300 (n := 3) (s := s) (d := d) (k198 w5) (by omega) (by omega) (by omega) (by omega)
    have w6 := w5.fr b4
    obtain ⟨g5, a5, b5, c5⟩ := t300 (n := 90) (s := s) (d := d) (k199 w6) (by omega) (by omega) (by omega) (by omega)
    have w7 := w6.fr b5
    obtain ⟨g6, a6, b6, c6⟩ := t300 (n := 242) (s := s) (d := d) (k200 w7) (by omega) (by omega) (by omega) (by omega)
    have w8 := w7.fr b6
    obtain ⟨g7, a7, b7, c7⟩ := t300 (n := 34) (s := s) (d := d) (k201 w8) (by omega) (by omega) (by omega) (by omega)
    refine ⟨((), g7), ?_, ((((((((z2.mono (beqI (by decide) (by decide))).tr (b1.mono (beqI (by decide) (by decide)))).tr (b2.mono (beqI (by decide) (by decide)))).tr (b3.mono (beqI (by decide) (by decide)))).tr (b4.mono (beqI (by decide) (by decide)))).tr (b5.mono (beqI (by decide) (by decide)))).tr (b6.mono (beqI (by decide) (by decide)))).tr (b7.mono (beqI (by decide) (by decide)))), ?_⟩
    · unfold f299_2
      rw [z1]
      simp (disch := omega) only [gT, nbeq, Option.isSome_some, Option.getD_some, Bool.and_true, Bool.true_and, Bool.and_self, mX_some, bS, bN_if, bN_01, i1_01, i0_01, if_true, if_false, Bool.false_eq_true, false_and, and_false, and_true, true_and, and_self, Bool.or_false, Bool.false_or, Bool.or_true, Bool.true_or, Bool.false_and, Bool.and_false, decide_true, decide_false, L0, L1, L2, L3, L4, L5, L6, L7, L8, L9, L10, L11, L12, L13, L14, L15, L16, L17, L18, L19, L20, L21, L22, L23, L24, L25, L27, L33, L39, L40, L45, L48, L57, L60, L72, L90, L97, L98, L99, L100, L121, L122, L242, L255, L256, L580, L600, L1000, L1584, L1000000, Ln1, iN_add, iN_and, iN_or, iN_nd, iN_shl, iN_shr, iN_cl, iN_in, iN_mul, L34, ile_p, k193 w2, r193_1 w2, r193_2 w2, r193_3 w2, r193_4 w2, r193_5 w2, r193_6 w2, r193_7 w2, r193_8 w2, r193_18 w2, r193_19 w2, r193_32 w2, r193_33 w2, r193_34 w2, r193_36 w2, r193_38 w2, r193_39 w2, r193_40 w2, r193_42 w2, r193_45 w2, r193_46 w2, r193_47 w2, r193_48 w2, r193_49 w2, r193_50 w2, k193 w3, r193_1 w3, r193_2 w3, r193_3 w3, r193_4 w3, r193_5 w3, r193_6 w3, r193_7 w3, r193_8 w3, r193_18 w3, r193_19 w3, r193_32 w3, r193_33 w3, r193_34 w3, r193_36 w3, r193_38 w3, r193_39 w3, r193_40 w3, r193_42 w3, r193_45 w3, r193_46 w3, r193_47 w3, r193_48 w3, r193_49 w3, r193_50 w3, k193 w4, r193_1 w4, r193_2 w4, r193_3 w4, r193_4 w4, r193_5 w4, r193_6 w4, r193_7 w4, r193_8 w4, r193_18 w4, r193_19 w4, r193_32 w4, r193_33 w4, r193_34 w4, r193_36 w4, r193_38 w4, r193_39 w4, r193_40 w4, r193_42 w4, r193_45 w4, r193_46 w4, r193_47 w4, r193_48 w4, r193_49 w4, r193_50 w4, k193 w5, r193_1 w5, r193_2 w5, r193_3 w5, r193_4 w5, r193_5 w5, r193_6 w5, r193_7 w5, r193_8 w5, r193_18 w5, r193_19 w5, r193_32 w5, r193_33 w5, r193_34 w5, r193_36 w5, r193_38 w5, r193_39 w5, r193_40 w5, r193_42 w5, r193_45 w5, r193_46 w5, r193_47 w5, r193_48 w5, r193_49 w5, r193_50 w5, k193 w6, r193_1 w6, r193_2 w6, r193_3 w6, r193_4 w6, r193_5 w6, r193_6 w6, r193_7 w6, r193_8 w6, r193_18 w6, r193_19 w6, r193_32 w6, r193_33 w6, r193_34 w6, r193_36 w6, r193_38 w6, r193_39 w6, r193_40 w6, r193_42 w6, r193_45 w6, r193_46 w6, r193_47 w6, r193_48 w6, r193_49 w6, r193_50 w6, k193 w7, r193_1 w7, r193_2 w7, r193_3 w7, r193_4 w7, r193_5 w7, r193_6 w7, r193_7 w7, r193_8 w7, r193_18 w7, r193_19 w7, r193_32 w7, r193_33 w7, r193_34 w7, r193_36 w7, r193_38 w7, r193_39 w7, r193_40 w7, r193_42 w7, r193_45 w7, r193_46 w7, r193_47 w7, r193_48 w7, r193_49 w7, r193_50 w7, k193 w8, r193_1 w8, r193_2 w8, r193_3 w8, r193_4 w8, r193_5 w8, r193_6 w8, r193_7 w8, r193_8 w8, r193_18 w8, r193_19 w8, r193_32 w8, r193_33 w8, r193_34 w8, r193_36 w8, r193_38 w8, r193_39 w8, r193_40 w8, r193_42 w8, r193_45 w8, r193_46 w8, r193_47 w8, r193_48 w8, r193_49 w8, r193_50 w8, a1, a2, a3, a4, a5, a6, a7]
    · have t4 : ∀ j, mI g7 194 j = mI z.2 194 j := fun j => by rw [b7.i rfl, b6.i rfl, b5.i rfl, b4.i rfl, b3.i rfl, b2.i rfl, b1.i rfl]
      exact ⟨⟨fun i hi => (t4 _).trans (z3 i hi), fun j hj => (t4 j).trans (z4 j hj)⟩,
        (((((((c1.of z2 rfl).to b2 rfl).to b3 rfl).to b4 rfl).to b5 rfl).to b6 rfl).to b7 rfl),
        ((((((c2.of b1 rfl).of z2 rfl).to b3 rfl).to b4 rfl).to b5 rfl).to b6 rfl).to b7 rfl,
        ((((((c3.of b2 rfl).of b1 rfl).of z2 rfl).to b4 rfl).to b5 rfl).to b6 rfl).to b7 rfl,
        ((((((c4.of b3 rfl).of b2 rfl).of b1 rfl).of z2 rfl).to b5 rfl).to b6 rfl).to b7 rfl,
        ((((((c5.of b4 rfl).of b3 rfl).of b2 rfl).of b1 rfl).of z2 rfl).to b6 rfl).to b7 rfl,
        ((((((c6.of b5 rfl).of b4 rfl).of b3 rfl).of b2 rfl).of b1 rfl).of z2 rfl).to b7 rfl,
        (((((c7.of b6 rfl).of b5 rfl).of b4 rfl).of b3 rfl).of b2 rfl).of b1 rfl |>.of z2 rfl⟩) (by omega) (s := (iN 0, h)) ⟨rfl, Fr.rfl, fun i hi => by omega, fun j _ => rfl⟩
  obtain ⟨⟨r, h'⟩, r1, r2, r3⟩ := this
  exact ⟨h', r1, r2, r3⟩
