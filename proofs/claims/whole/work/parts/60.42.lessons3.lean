/-! lessons: the reference's, the call -/
theorem fr214 {h h' : mH} (x : Fr (fun b => Nat.beq b 214) h h') : FQ h h' := (x.mono (P' := pM) (fun b hb => by rw [Nat.eq_of_beq_eq_true hb]; decide)).qM
theorem fr215 {h h' : mH} (x : Fr (fun b => Nat.beq b 215) h h') : FQ h h' := (x.mono (P' := pM) (fun b hb => by rw [Nat.eq_of_beq_eq_true hb]; decide)).qM
theorem MoS.f14 {h h' : mH} {q : LQ} (H : MoS h q) (x : Fr (fun b => Nat.beq b 214) h h') : MoS h' q := by
  obtain ⟨v, h1, h2, s, h3, h4, h5⟩ := H
  exact ⟨v.fr x, (x.i (by decide) _).trans h1, (x.i (by decide) _).trans h2, s, h3, (x.i (by decide) _).trans h4, fun i hi => (x.i (by decide) _).trans (h5 i hi)⟩
theorem MoS.f15 {h h' : mH} {q : LQ} (H : MoS h q) (x : Fr (fun b => Nat.beq b 215) h h') : MoS h' q := by
  obtain ⟨v, h1, h2, s, h3, h4, h5⟩ := H
  exact ⟨v.fr x, (x.i (by decide) _).trans h1, (x.i (by decide) _).trans h2, s, h3, (x.i (by decide) _).trans h4, fun i hi => (x.i (by decide) _).trans (h5 i hi)⟩
section LT
variable {h : mH} {q : LQ} {m : Nat} {B : Nat → Option Nat × Nat}
theorem t277c {P : Nat → Nat} {C : Nat} {o : Option Nat} {l3 : Int32} (w : Wd h) (hm : m ≤ 4) (hC : C ≤ 72) (ho : ∀ v, o = some v → v ≤ 72) (hp : ∀ i, i < m → mI h 214 i = iN (P i)) : ∃ g, Fr (fun b => Nat.beq b 215) h g ∧ (lbt o C = true → ∀ i, i < m → mI g 215 i = iN (P i)) ∧ (lbt o C = false → g = h) ∧ ∀ y, f277_124 g 193 (iN m) l3 (lN9 o) (iN C) = some y → mLoop (f277_91 193 (iN m) l3 (lN9 o) (iN C)) mFuel (iN 0, h) = some y := by
  cases eb : lbt o C with
  | false =>
    refine ⟨h, Fr.rfl, fun e => (by cases e), fun _ => rfl, fun y ey => ?_⟩
    refine lp_run (body := f277_91 193 (iN m) l3 (lN9 o) (iN C)) (fun _ => (iN 0, h)) 0 (fun i hi => by omega) ?_ (by omega)
    unfold f277_91
    rw [lN9_le hC ho, eb]
    by_cases d0 : m ≤ 0
    · simp (disch := omega) only [gT, nbeq, Option.isSome_some, Option.getD_some, Bool.and_true, Bool.true_and, Bool.and_self, mX_some, bS, bN_if, bN_01, i1_01, i0_01, if_true, if_false, Bool.false_eq_true, false_and, and_false, and_true, true_and, and_self, Bool.or_false, Bool.false_or, Bool.or_true, Bool.true_or, Bool.false_and, Bool.and_false, decide_true, decide_false, L0, L1, L2, L3, L4, L5, L6, L7, L8, L9, L10, L11, L12, L13, L14, L15, L16, L17, L18, L19, L20, L21, L22, L23, L24, L25, L27, L33, L39, L40, L45, L48, L57, L60, L72, L90, L97, L98, L99, L100, L121, L122, L242, L255, L256, L580, L600, L1000, L1584, L1000000, Ln1, iN_add, iN_and, iN_or, iN_nd, iN_shl, iN_shr, iN_cl, iN_in, iN_mul, ile_p, ey]
    · simp (disch := omega) only [gT, nbeq, Option.isSome_some, Option.getD_some, Bool.and_true, Bool.true_and, Bool.and_self, mX_some, bS, bN_if, bN_01, i1_01, i0_01, if_true, if_false, Bool.false_eq_true, false_and, and_false, and_true, true_and, and_self, Bool.or_false, Bool.false_or, Bool.or_true, Bool.true_or, Bool.false_and, Bool.and_false, decide_true, decide_false, L0, L1, L2, L3, L4, L5, L6, L7, L8, L9, L10, L11, L12, L13, L14, L15, L16, L17, L18, L19, L20, L21, L22, L23, L24, L25, L27, L33, L39, L40, L45, L48, L57, L60, L72, L90, L97, L98, L99, L100, L121, L122, L242, L255, L256, L580, L600, L1000, L1584, L1000000, Ln1, iN_add, iN_and, iN_or, iN_nd, iN_shl, iN_shr, iN_cl, iN_in, iN_mul, ile_n, ey]
  | true =>
    obtain ⟨G, G0, Gs⟩ := up_ex (fun i (g : mH) => mSI g 215 i (iN (P i))) h
    have gf : ∀ i, Fr (fun b => Nat.beq b 215) h (G i) ∧ ∀ j, j < i → mI (G i) 215 j = iN (P j) := by
      intro i
      induction i with
      | zero => rw [G0]; exact ⟨Fr.rfl, fun j hj => by omega⟩
      | succ i ih =>
        rw [Gs]
        refine ⟨ih.1.si (by decide), fun j hj => ?_⟩
        by_cases e : j = i
        · subst e; simp (disch := omega) only [si_ne, si_nk, si_eq]
        · simp (disch := omega) only [si_ne, si_nk, si_eq]; exact ih.2 j (by omega)
    refine ⟨G m, (gf m).1, fun _ => (gf m).2, fun e => (by cases e), fun y ey => ?_⟩
    have := lp_run (body := f277_91 193 (iN m) l3 (lN9 o) (iN C)) (fun i => (iN i, G i)) m (r := y) (fun i hi => by
      have w2 := w.fr (gf i).1
      have e2 : mI (G i) 214 i = iN (P i) := ((gf i).1.i (by decide) _).trans (hp i hi)
      unfold f277_91
      rw [lN9_le hC ho, eb]
      simp (disch := omega) only [gT, nbeq, Option.isSome_some, Option.getD_some, Bool.and_true, Bool.true_and, Bool.and_self, mX_some, bS, bN_if, bN_01, i1_01, i0_01, if_true, if_false, Bool.false_eq_true, false_and, and_false, and_true, true_and, and_self, Bool.or_false, Bool.false_or, Bool.or_true, Bool.true_or, Bool.false_and, Bool.and_false, decide_true, decide_false, L0, L1, L2, L3, L4, L5, L6, L7, L8, L9, L10, L11, L12, L13, L14, L15, L16, L17, L18, L19, L20, L21, L22, L23, L24, L25, L27, L33, L39, L40, L45, L48, L57, L60, L72, L90, L97, L98, L99, L100, L121, L122, L242, L255, L256, L580, L600, L1000, L1584, L1000000, Ln1, iN_add, iN_and, iN_or, iN_nd, iN_shl, iN_shr, iN_cl, iN_in, iN_mul, k193 w2, r193_1 w2, r193_2 w2, r193_3 w2, r193_4 w2, r193_5 w2, r193_6 w2, r193_7 w2, r193_8 w2, r193_18 w2, r193_19 w2, r193_32 w2, r193_33 w2, r193_34 w2, r193_36 w2, r193_38 w2, r193_39 w2, r193_40 w2, r193_42 w2, r193_45 w2, r193_46 w2, r193_47 w2, r193_48 w2, r193_49 w2, r193_50 w2, k214 w2, k215 w2, ile_n, e2, Gs]) (by
      unfold f277_91
      simp (disch := omega) only [gT, nbeq, Option.isSome_some, Option.getD_some, Bool.and_true, Bool.true_and, Bool.and_self, mX_some, bS, bN_if, bN_01, i1_01, i0_01, if_true, if_false, Bool.false_eq_true, false_and, and_false, and_true, true_and, and_self, Bool.or_false, Bool.false_or, Bool.or_true, Bool.true_or, Bool.false_and, Bool.and_false, decide_true, decide_false, L0, L1, L2, L3, L4, L5, L6, L7, L8, L9, L10, L11, L12, L13, L14, L15, L16, L17, L18, L19, L20, L21, L22, L23, L24, L25, L27, L33, L39, L40, L45, L48, L57, L60, L72, L90, L97, L98, L99, L100, L121, L122, L242, L255, L256, L580, L600, L1000, L1584, L1000000, Ln1, iN_add, iN_and, iN_or, iN_nd, iN_shl, iN_shr, iN_cl, iN_in, iN_mul, ile_p, ey]) (by omega)
    rw [G0] at this
    exact this
theorem t277l {x3 : Int32} (H : MoS h q) (W : QW q) (h1 : 1 ≤ m) (hm : m ≤ 4) (B0 : B 0 = (none, 0)) (Bs : ∀ k, B (k + 1) = bsl (lC q m) k (B k)) (hx : x3 = jN ∨ rg x3 m = true) (hp : ∀ i, i < m → mI h 214 i = iN 0) (he : mI h 214 m = iN (q 0 0)) : ∃ r, mLoop (f277_76 193 (iN m) x3) mFuel (iN 1000000, iN 1, h) = some r ∧ FQ h r.2 ∧ r.1 = (if x3 = jN then zN (B (eR m (q 0 0))).1 else iN (eP m (q 0 0) (B (eR m (q 0 0))).2 (Int32.toNatClampNeg x3))) := by
  have hn := W.1.1
  obtain ⟨hR, p5, p0, pe⟩ := e_ok h1 hm hn
  have hs1 := bsl_some Bs hR.1
  refine lp_inv (body := f277_76 193 (iN m) x3) (P := fun k z => FQ h z.2.2 ∧ MoS z.2.2 q ∧ mI z.2.2 214 m = iN (q 0 0) ∧ z.1 = lN9 (B k).1 ∧ (∀ v, (B k).1 = some v → v ≤ 72) ∧ (∀ i, i < m → (B k).1.isSome = true → mI z.2.2 215 i = iN (eP m (q 0 0) (B k).2 i)) ∧ ((z.2.1 = iN 1 ∧ k < eR m (q 0 0) ∧ ∀ i, i < m → mI z.2.2 214 i = iN (eP m (q 0 0) k i)) ∨ (z.2.1 = iN 0 ∧ k = eR m (q 0 0)))) (Q := fun r => FQ h r.2 ∧ r.1 = (if x3 = jN then zN (B (eR m (q 0 0))).1 else iN (eP m (q 0 0) (B (eR m (q 0 0))).2 (Int32.toNatClampNeg x3)))) (eR m (q 0 0)) (fun k z hk hP => ?_) (fun z hP => ?_) (by omega) (s := (iN 1000000, iN 1, h)) ⟨FQ.rfl, H, he, (by rw [B0]; rfl), (fun v hv => by rw [B0] at hv; cases hv), (fun i hi hs => by rw [B0] at hs; cases hs), Or.inl ⟨rfl, by omega, fun i hi => (hp i hi).trans (by rw [p0 i hi])⟩⟩
  · obtain ⟨u1, u2, u3⟩ := z
    obtain ⟨F, H2, z7, z0, y1, y2, ⟨z1, z3, z4⟩ | ⟨z1, z2⟩⟩ := hP
    · have e0 : u1 = lN9 (B k).1 := z0
      have e1 : u2 = iN 1 := z1
      subst e0
      subst e1
      have F : FQ h u3 := F
      have H2 : MoS u3 q := H2
      have v7 : mI u3 214 m = iN (q 0 0) := z7
      have v4 : ∀ i, i < m → mI u3 214 i = iN (eP m (q 0 0) k i) := z4
      have v2 : ∀ i, i < m → (B k).1.isSome = true → mI u3 215 i = iN (eP m (q 0 0) (B k).2 i) := y2
      have w2 := H2.1
      have p6 := p5 k z3
      have b1 : f278 u3 193 (iN m) = some (iN (lC q m k)) := t278 H2 W h1 hm p6 v4 v7
      have b5 : lC q m k ≤ 72 := mst_b W p6
      obtain ⟨g, g1, g2, g3, g4⟩ := t277c (l3 := x3) (o := (B k).1) w2 hm b5 y1 v4
      have Hg := H2.f15 g1
      have w4 := Hg.1
      have n6 : ∀ i, i < m → mI g 214 i = iN (eP m (q 0 0) k i) := fun i hi => (g1.i (by decide) i).trans (v4 i hi)
      have n9 : mI g 214 m = iN (q 0 0) := (g1.i (by decide) _).trans v7
      have ebs : (B (k + 1)).1 = if lbt (B k).1 (lC q m k) = true then some (lC q m k) else (B k).1 := by
        rw [Bs]; unfold bsl
        cases lbt (B k).1 (lC q m k) <;> rfl
      have n7 : ∀ i, i < m → (B (k + 1)).1.isSome = true → mI g 215 i = iN (eP m (q 0 0) (B (k + 1)).2 i) := by
        rw [Bs]; unfold bsl
        cases eb : lbt (B k).1 (lC q m k) with
        | true => exact fun i hi _ => g2 eb i hi
        | false => rw [g3 eb]; exact v2
      have n8 : ∀ v, (B (k + 1)).1 = some v → v ≤ 72 := by
        intro v hv
        rw [ebs] at hv
        split at hv
        · have : lC q m k = v := Option.some.inj hv
          omega
        · exact y1 v hv
      have e195 := t195z (h := g) (o := (B k).1) (x := lC q m k) b5 y1
      rw [← ebs] at e195
      left
      rcases t279 (e := q 0 0) w4 Hg.n h1 hm hn (fun i hi => ⟨by have := p6 i hi; omega, n6 i hi⟩) with ⟨c0, c1⟩ | ⟨a, h2, c0, c1, c2, c4, c3⟩
      · have ek : ¬ k + 1 < eR m (q 0 0) := fun hlt => by
          obtain ⟨a, ea, _⟩ := e_s h1 hm hn hlt
          rw [ea] at c0; cases c0
        refine ⟨(lN9 (B (k + 1)).1, iN 0, g), ?_, F.tr (fr215 g1), Hg, n9, rfl, n8, n7, Or.inr ⟨rfl, by omega⟩⟩
        have e6 := g4 (.inl (lN9 (B (k + 1)).1, iN 0, g)) (by
          unfold f277_124
          simp (disch := omega) only [gT, nbeq, Option.isSome_some, Option.getD_some, Bool.and_true, Bool.true_and, Bool.and_self, mX_some, bS, bN_if, bN_01, i1_01, i0_01, if_true, if_false, Bool.false_eq_true, false_and, and_false, and_true, true_and, and_self, Bool.or_false, Bool.false_or, Bool.or_true, Bool.true_or, Bool.false_and, Bool.and_false, decide_true, decide_false, L0, L1, L2, L3, L4, L5, L6, L7, L8, L9, L10, L11, L12, L13, L14, L15, L16, L17, L18, L19, L20, L21, L22, L23, L24, L25, L27, L33, L39, L40, L45, L48, L57, L60, L72, L90, L97, L98, L99, L100, L121, L122, L242, L255, L256, L580, L600, L1000, L1584, L1000000, Ln1, iN_add, iN_and, iN_or, iN_nd, iN_shl, iN_shr, iN_cl, iN_in, iN_mul, k193 w4, r193_1 w4, r193_2 w4, r193_3 w4, r193_4 w4, r193_5 w4, r193_6 w4, r193_7 w4, r193_8 w4, r193_18 w4, r193_19 w4, r193_32 w4, r193_33 w4, r193_34 w4, r193_36 w4, r193_38 w4, r193_39 w4, r193_40 w4, r193_42 w4, r193_45 w4, r193_46 w4, r193_47 w4, r193_48 w4, r193_49 w4, r193_50 w4, e195, c1, bN_f])
        unfold f277_76
        simp (disch := omega) only [gT, nbeq, Option.isSome_some, Option.getD_some, Bool.and_true, Bool.true_and, Bool.and_self, mX_some, bS, bN_if, bN_01, i1_01, i0_01, if_true, if_false, Bool.false_eq_true, false_and, and_false, and_true, true_and, and_self, Bool.or_false, Bool.false_or, Bool.or_true, Bool.true_or, Bool.false_and, Bool.and_false, decide_true, decide_false, L0, L1, L2, L3, L4, L5, L6, L7, L8, L9, L10, L11, L12, L13, L14, L15, L16, L17, L18, L19, L20, L21, L22, L23, L24, L25, L27, L33, L39, L40, L45, L48, L57, L60, L72, L90, L97, L98, L99, L100, L121, L122, L242, L255, L256, L580, L600, L1000, L1584, L1000000, Ln1, iN_add, iN_and, iN_or, iN_nd, iN_shl, iN_shr, iN_cl, iN_in, iN_mul, k193 w2, r193_1 w2, r193_2 w2, r193_3 w2, r193_4 w2, r193_5 w2, r193_6 w2, r193_7 w2, r193_8 w2, r193_18 w2, r193_19 w2, r193_32 w2, r193_33 w2, r193_34 w2, r193_36 w2, r193_38 w2, r193_39 w2, r193_40 w2, r193_42 w2, r193_45 w2, r193_46 w2, r193_47 w2, r193_48 w2, r193_49 w2, r193_50 w2, ieq_n, b1, e6]
      · have ek : k + 1 < eR m (q 0 0) := by
          refine Decidable.byContradiction (fun hn2 => ?_)
          rw [show eR m (q 0 0) - 1 = k by omega, c0] at pe
          cases pe
        obtain ⟨a', ea, en⟩ := e_s h1 hm hn ek
        have : a = a' := Option.some.inj (c0.symm.trans ea)
        subst this
        refine ⟨(lN9 (B (k + 1)).1, iN 1, h2), ?_, F.tr ((fr215 g1).tr (fr214 c2)), Hg.f14 c2, (c4 m (Nat.le_refl _)).trans n9, rfl, n8, fun i hi hs => (c2.i (by decide) i).trans (n7 i hi hs), Or.inl ⟨rfl, ek, fun i hi => (c3 i hi).trans (by rw [en i hi])⟩⟩
        have e6 := g4 (.inl (lN9 (B (k + 1)).1, iN 1, h2)) (by
          unfold f277_124
          simp (disch := omega) only [gT, nbeq, Option.isSome_some, Option.getD_some, Bool.and_true, Bool.true_and, Bool.and_self, mX_some, bS, bN_if, bN_01, i1_01, i0_01, if_true, if_false, Bool.false_eq_true, false_and, and_false, and_true, true_and, and_self, Bool.or_false, Bool.false_or, Bool.or_true, Bool.true_or, Bool.false_and, Bool.and_false, decide_true, decide_false, L0, L1, L2, L3, L4, L5, L6, L7, L8, L9, L10, L11, L12, L13, L14, L15, L16, L17, L18, L19, L20, L21, L22, L23, L24, L25, L27, L33, L39, L40, L45, L48, L57, L60, L72, L90, L97, L98, L99, L100, L121, L122, L242, L255, L256, L580, L600, L1000, L1584, L1000000, Ln1, iN_add, iN_and, iN_or, iN_nd, iN_shl, iN_shr, iN_cl, iN_in, iN_mul, k193 w4, r193_1 w4, r193_2 w4, r193_3 w4, r193_4 w4, r193_5 w4, r193_6 w4, r193_7 w4, r193_8 w4, r193_18 w4, r193_19 w4, r193_32 w4, r193_33 w4, r193_34 w4, r193_36 w4, r193_38 w4, r193_39 w4, r193_40 w4, r193_42 w4, r193_45 w4, r193_46 w4, r193_47 w4, r193_48 w4, r193_49 w4, r193_50 w4, e195, c1, bN_t])
        unfold f277_76
        simp (disch := omega) only [gT, nbeq, Option.isSome_some, Option.getD_some, Bool.and_true, Bool.true_and, Bool.and_self, mX_some, bS, bN_if, bN_01, i1_01, i0_01, if_true, if_false, Bool.false_eq_true, false_and, and_false, and_true, true_and, and_self, Bool.or_false, Bool.false_or, Bool.or_true, Bool.true_or, Bool.false_and, Bool.and_false, decide_true, decide_false, L0, L1, L2, L3, L4, L5, L6, L7, L8, L9, L10, L11, L12, L13, L14, L15, L16, L17, L18, L19, L20, L21, L22, L23, L24, L25, L27, L33, L39, L40, L45, L48, L57, L60, L72, L90, L97, L98, L99, L100, L121, L122, L242, L255, L256, L580, L600, L1000, L1584, L1000000, Ln1, iN_add, iN_and, iN_or, iN_nd, iN_shl, iN_shr, iN_cl, iN_in, iN_mul, k193 w2, r193_1 w2, r193_2 w2, r193_3 w2, r193_4 w2, r193_5 w2, r193_6 w2, r193_7 w2, r193_8 w2, r193_18 w2, r193_19 w2, r193_32 w2, r193_33 w2, r193_34 w2, r193_36 w2, r193_38 w2, r193_39 w2, r193_40 w2, r193_42 w2, r193_45 w2, r193_46 w2, r193_47 w2, r193_48 w2, r193_49 w2, r193_50 w2, ieq_n, b1, e6]
    · omega
  · obtain ⟨u1, u2, u3⟩ := z
    obtain ⟨F, H2, z7, z0, y1, y2, ⟨z1, z3, z4⟩ | ⟨z1, z2⟩⟩ := hP
    · omega
    · have e0 : u1 = lN9 (B (eR m (q 0 0))).1 := z0
      have e1 : u2 = iN 0 := z1
      subst e0
      subst e1
      have v2 : ∀ i, i < m → (B (eR m (q 0 0))).1.isSome = true → mI u3 215 i = iN (eP m (q 0 0) (B (eR m (q 0 0))).2 i) := y2
      have H2 : MoS u3 q := H2
      have w2 := H2.1
      have ez : lN9 (B (eR m (q 0 0))).1 = zN (B (eR m (q 0 0))).1 := by
        generalize (B (eR m (q 0 0))).1 = o at hs1
        cases o with
        | none => cases hs1
        | some y => rfl
      refine ⟨(if x3 = jN then zN (B (eR m (q 0 0))).1 else iN (eP m (q 0 0) (B (eR m (q 0 0))).2 (Int32.toNatClampNeg x3)), u3), ?_, F, rfl⟩
      unfold f277_76 f277_159
      simp only [gT, nbeq, Option.isSome_some, Option.getD_some, Bool.and_true, Bool.true_and, Bool.and_self, mX_some, bS, bN_if, bN_01, i1_01, i0_01, if_true, if_false, Bool.false_eq_true, false_and, and_false, and_true, true_and, and_self, Bool.or_false, Bool.false_or, Bool.or_true, Bool.true_or, Bool.false_and, Bool.and_false, decide_true, decide_false, L0, L1, L2, L3, L4, L5, L6, L7, L8, L9, L10, L11, L12, L13, L14, L15, L16, L17, L18, L19, L20, L21, L22, L23, L24, L25, L27, L33, L39, L40, L45, L48, L57, L60, L72, L90, L97, L98, L99, L100, L121, L122, L242, L255, L256, L580, L600, L1000, L1584, L1000000, Ln1, iN_add, iN_and, iN_or, iN_nd, iN_shl, iN_shr, iN_cl, iN_in, iN_mul, ez]
      by_cases ex : x3 = jN
      · simp only [ex, if_true, gT, nbeq, Option.isSome_some, Option.getD_some, Bool.and_true, Bool.true_and, Bool.and_self, mX_some, bS, bN_if, bN_01, i1_01, i0_01, if_true, if_false, Bool.false_eq_true, false_and, and_false, and_true, true_and, and_self, Bool.or_false, Bool.false_or, Bool.or_true, Bool.true_or, Bool.false_and, Bool.and_false, decide_true, decide_false]
      · rcases hx with hx | hx
        · exact absurd hx ex
        · obtain ⟨a, ha, rfl, hla⟩ := rg_t hx
          simp (disch := omega) only [ex, if_false, gT, nbeq, Option.isSome_some, Option.getD_some, Bool.and_true, Bool.true_and, Bool.and_self, mX_some, bS, bN_if, bN_01, i1_01, i0_01, if_true, if_false, Bool.false_eq_true, false_and, and_false, and_true, true_and, and_self, Bool.or_false, Bool.false_or, Bool.or_true, Bool.true_or, Bool.false_and, Bool.and_false, decide_true, decide_false, L0, L1, L2, L3, L4, L5, L6, L7, L8, L9, L10, L11, L12, L13, L14, L15, L16, L17, L18, L19, L20, L21, L22, L23, L24, L25, L27, L33, L39, L40, L45, L48, L57, L60, L72, L90, L97, L98, L99, L100, L121, L122, L242, L255, L256, L580, L600, L1000, L1584, L1000000, Ln1, iN_add, iN_and, iN_or, iN_nd, iN_shl, iN_shr, iN_cl, iN_in, iN_mul, k193 w2, r193_1 w2, r193_2 w2, r193_3 w2, r193_4 w2, r193_5 w2, r193_6 w2, r193_7 w2, r193_8 w2, r193_18 w2, r193_19 w2, r193_32 w2, r193_33 w2, r193_34 w2, r193_36 w2, r193_38 w2, r193_39 w2, r193_40 w2, r193_42 w2, r193_45 w2, r193_46 w2, r193_47 w2, r193_48 w2, r193_49 w2, r193_50 w2, k215 w2, v2 a ha hs1]
theorem t277s {x3 : Int32} (H : MoS h q) (W : QW q) (h1 : 1 ≤ m) (hm : m ≤ 4) (B0 : B 0 = (none, 0)) (Bs : ∀ k, B (k + 1) = bsl (lC q m) k (B k)) (hx : x3 = jN ∨ rg x3 m = true) : ∃ r, mLoop (f277_38 193 (iN m) x3) mFuel (iN 0, h) = some r ∧ FQ h r.2 ∧ r.1 = (if x3 = jN then zN (B (eR m (q 0 0))).1 else iN (eP m (q 0 0) (B (eR m (q 0 0))).2 (Int32.toNatClampNeg x3))) := by
  have hn := W.1.1
  refine lp_inv (body := f277_38 193 (iN m) x3) (P := fun i z => z.1 = iN i ∧ Fr (fun b => Nat.beq b 214) h z.2 ∧ ∀ j, j < i → mI z.2 214 j = iN 0) (Q := fun r => FQ h r.2 ∧ r.1 = (if x3 = jN then zN (B (eR m (q 0 0))).1 else iN (eP m (q 0 0) (B (eR m (q 0 0))).2 (Int32.toNatClampNeg x3)))) m (fun i z hi hP => ?_) (fun z hP => ?_) (by omega) (s := (iN 0, h)) ⟨rfl, Fr.rfl, fun j hj => by omega⟩
  · obtain ⟨u1, u3⟩ := z
    obtain ⟨z1, z2, z3⟩ := hP
    have e1 : u1 = iN i := z1
    subst e1
    have v2 : Fr (fun b => Nat.beq b 214) h u3 := z2
    have w2 := H.1.fr v2
    left
    refine ⟨(iN (i + 1), mSI u3 214 i (iN 0)), ?_, rfl, v2.si (by decide), fun j hj => ?_⟩
    · unfold f277_38
      simp (disch := omega) only [gT, nbeq, Option.isSome_some, Option.getD_some, Bool.and_true, Bool.true_and, Bool.and_self, mX_some, bS, bN_if, bN_01, i1_01, i0_01, if_true, if_false, Bool.false_eq_true, false_and, and_false, and_true, true_and, and_self, Bool.or_false, Bool.false_or, Bool.or_true, Bool.true_or, Bool.false_and, Bool.and_false, decide_true, decide_false, L0, L1, L2, L3, L4, L5, L6, L7, L8, L9, L10, L11, L12, L13, L14, L15, L16, L17, L18, L19, L20, L21, L22, L23, L24, L25, L27, L33, L39, L40, L45, L48, L57, L60, L72, L90, L97, L98, L99, L100, L121, L122, L242, L255, L256, L580, L600, L1000, L1584, L1000000, Ln1, iN_add, iN_and, iN_or, iN_nd, iN_shl, iN_shr, iN_cl, iN_in, iN_mul, k193 w2, r193_1 w2, r193_2 w2, r193_3 w2, r193_4 w2, r193_5 w2, r193_6 w2, r193_7 w2, r193_8 w2, r193_18 w2, r193_19 w2, r193_32 w2, r193_33 w2, r193_34 w2, r193_36 w2, r193_38 w2, r193_39 w2, r193_40 w2, r193_42 w2, r193_45 w2, r193_46 w2, r193_47 w2, r193_48 w2, r193_49 w2, r193_50 w2, k214 w2, ile_n]
    · by_cases e : j = i
      · subst e; simp (disch := omega) only [si_ne, si_nk, si_eq]
      · simp (disch := omega) only [si_ne, si_nk, si_eq]; exact z3 j (by omega)
  · obtain ⟨u1, u3⟩ := z
    obtain ⟨z1, z2, z3⟩ := hP
    have e1 : u1 = iN m := z1
    subst e1
    have v2 : Fr (fun b => Nat.beq b 214) h u3 := z2
    have v3 : ∀ j, j < m → mI u3 214 j = iN 0 := z3
    have H2 := H.f14 v2
    have w2 := H2.1
    have x3' : Fr (fun b => Nat.beq b 214) u3 (mSI u3 214 m (iN (q 0 0))) := Fr.rfl.si (by decide)
    obtain ⟨r, r1, r2, r3⟩ := t277l (x3 := x3) (H2.f14 x3') W h1 hm B0 Bs hx (fun i hi => by simp (disch := omega) only [si_ne, si_nk, si_eq]; exact v3 i hi) (by simp (disch := omega) only [si_ne, si_nk, si_eq])
    refine ⟨r, ?_, (fr214 (v2.tr x3')).tr r2, r3⟩
    unfold f277_38
    simp (disch := omega) only [gT, nbeq, Option.isSome_some, Option.getD_some, Bool.and_true, Bool.true_and, Bool.and_self, mX_some, bS, bN_if, bN_01, i1_01, i0_01, if_true, if_false, Bool.false_eq_true, false_and, and_false, and_true, true_and, and_self, Bool.or_false, Bool.false_or, Bool.or_true, Bool.true_or, Bool.false_and, Bool.and_false, decide_true, decide_false, L0, L1, L2, L3, L4, L5, L6, L7, L8, L9, L10, L11, L12, L13, L14, L15, L16, L17, L18, L19, L20, L21, L22, L23, L24, L25, L27, L33, L39, L40, L45, L48, L57, L60, L72, L90, L97, L98, L99, L100, L121, L122, L242, L255, L256, L580, L600, L1000, L1584, L1000000, Ln1, iN_add, iN_and, iN_or, iN_nd, iN_shl, iN_shr, iN_cl, iN_in, iN_mul, k193 w2, r193_1 w2, r193_2 w2, r193_3 w2, r193_4 w2, r193_5 w2, r193_6 w2, r193_7 w2, r193_8 w2, r193_18 w2, r193_19 w2, r193_32 w2, r193_33 w2, r193_34 w2, r193_36 w2, r193_38 w2, r193_39 w2, r193_40 w2, r193_42 w2, r193_45 w2, r193_46 w2, r193_47 w2, r193_48 w2, r193_49 w2, r193_50 w2, k214 w2, ile_p, H2.n, r1]
theorem t17w {x : Int32} : f17 h x (iN 1) (iN 4) = some (bN (decide (1 ≤ x.toInt ∧ x.toInt ≤ 4))) := by
  rw [t17]; congr 2
  rw [← Bool.decide_and]
  apply decide_eq_decide.2
  rw [Int32.le_iff_toInt_le, Int32.le_iff_toInt_le, iN_toInt (by omega), iN_toInt (by omega)]
  omega
theorem t179w {x : Int32} : f179 h x (iN 1) (iN 4) = some (bN (decide (1 ≤ x.toInt ∧ x.toInt ≤ 4))) := t17w (h := h)
end LT
section PB
variable {h : mH}
theorem c_lessons (R : Rel h) (x1 x2 x3 : Int32) : ∃ v h1, f137 h 0 x1 x2 x3 = some (v, h1) ∧ FQ h h1 ∧ ∀ h0, FQ h h0 → ∃ h2, f277 h0 193 x1 x2 x3 = some (v, h2) ∧ FQ h0 h2 := by
  have w := R.1
  unfold f137 f137_24 f137_70
  simp only [gT, nbeq, Option.isSome_some, Option.getD_some, Bool.and_true, Bool.true_and, Bool.and_self, mX_some, bS, bN_if, bN_01, i1_01, i0_01, if_true, if_false, Bool.false_eq_true, false_and, and_false, and_true, true_and, and_self, Bool.or_false, Bool.false_or, Bool.or_true, Bool.true_or, Bool.false_and, Bool.and_false, decide_true, decide_false, k0 w, r0_0 w, r0_1 w, r0_2 w, r0_3 w, r0_4 w, r0_5 w, r0_6 w, r0_7 w, r0_8 w, k1 w, r1_0 w, r1_1 w, r1_2 w, r1_3 w, r1_4 w]
  rcases R.pick x1 with ⟨e1, e2⟩ | ⟨i, q, hi, rfl, W, H, e1, e2⟩
  · simp only [gT, nbeq, Option.isSome_some, Option.getD_some, Bool.and_true, Bool.true_and, Bool.and_self, mX_some, bS, bN_if, bN_01, i1_01, i0_01, if_true, if_false, Bool.false_eq_true, false_and, and_false, and_true, true_and, and_self, Bool.or_false, Bool.false_or, Bool.or_true, Bool.true_or, Bool.false_and, Bool.and_false, decide_true, decide_false, L0, L1, L2, L3, L4, L5, L6, L7, L8, L9, L10, L11, L12, L13, L14, L15, L16, L17, L18, L19, L20, L21, L22, L23, L24, L25, L27, L33, L39, L40, L45, L48, L57, L60, L72, L90, L97, L98, L99, L100, L121, L122, L242, L255, L256, L580, L600, L1000, L1584, L1000000, Ln1, iN_add, iN_and, iN_or, iN_nd, iN_shl, iN_shr, iN_cl, iN_in, iN_mul, e1]
    refine ⟨_, _, rfl, FQ.rfl, fun h0 F => ?_⟩
    have w0 := R.1.q F
    unfold f277 f277_33
    simp (disch := omega) only [gT, nbeq, Option.isSome_some, Option.getD_some, Bool.and_true, Bool.true_and, Bool.and_self, mX_some, bS, bN_if, bN_01, i1_01, i0_01, if_true, if_false, Bool.false_eq_true, false_and, and_false, and_true, true_and, and_self, Bool.or_false, Bool.false_or, Bool.or_true, Bool.true_or, Bool.false_and, Bool.and_false, decide_true, decide_false, L0, L1, L2, L3, L4, L5, L6, L7, L8, L9, L10, L11, L12, L13, L14, L15, L16, L17, L18, L19, L20, L21, L22, L23, L24, L25, L27, L33, L39, L40, L45, L48, L57, L60, L72, L90, L97, L98, L99, L100, L121, L122, L242, L255, L256, L580, L600, L1000, L1584, L1000000, Ln1, iN_add, iN_and, iN_or, iN_nd, iN_shl, iN_shr, iN_cl, iN_in, iN_mul, k193 w0, r193_1 w0, r193_2 w0, r193_3 w0, r193_4 w0, r193_5 w0, r193_6 w0, r193_7 w0, r193_8 w0, r193_18 w0, r193_19 w0, r193_32 w0, r193_33 w0, r193_34 w0, r193_36 w0, r193_38 w0, r193_39 w0, r193_40 w0, r193_42 w0, r193_45 w0, r193_46 w0, r193_47 w0, r193_48 w0, r193_49 w0, r193_50 w0, t179w, e2 _ F.co]
    cases decide (1 ≤ x2.toInt ∧ x2.toInt ≤ 4) <;> simp only [gT, nbeq, Option.isSome_some, Option.getD_some, Bool.and_true, Bool.true_and, Bool.and_self, mX_some, bS, bN_if, bN_01, i1_01, i0_01, if_true, if_false, Bool.false_eq_true, false_and, and_false, and_true, true_and, and_self, Bool.or_false, Bool.false_or, Bool.or_true, Bool.true_or, Bool.false_and, Bool.and_false, decide_true, decide_false] <;> exact ⟨_, rfl, FQ.c0⟩
  · have hn := W.1.1
    simp (disch := omega) only [gT, nbeq, Option.isSome_some, Option.getD_some, Bool.and_true, Bool.true_and, Bool.and_self, mX_some, bS, bN_if, bN_01, i1_01, i0_01, if_true, if_false, Bool.false_eq_true, false_and, and_false, and_true, true_and, and_self, Bool.or_false, Bool.false_or, Bool.or_true, Bool.true_or, Bool.false_and, Bool.and_false, decide_true, decide_false, L0, L1, L2, L3, L4, L5, L6, L7, L8, L9, L10, L11, L12, L13, L14, L15, L16, L17, L18, L19, L20, L21, L22, L23, L24, L25, L27, L33, L39, L40, L45, L48, L57, L60, L72, L90, L97, L98, L99, L100, L121, L122, L242, L255, L256, L580, L600, L1000, L1584, L1000000, Ln1, iN_add, iN_and, iN_or, iN_nd, iN_shl, iN_shr, iN_cl, iN_in, iN_mul, k0 w, r0_0 w, r0_1 w, r0_2 w, r0_3 w, r0_4 w, r0_5 w, r0_6 w, r0_7 w, r0_8 w, k85 w, r85_0 w, r85_1 w, e1, t17w]
    cases hr : decide (1 ≤ x2.toInt ∧ x2.toInt ≤ 4) with
    | false =>
      simp only [gT, nbeq, Option.isSome_some, Option.getD_some, Bool.and_true, Bool.true_and, Bool.and_self, mX_some, bS, bN_if, bN_01, i1_01, i0_01, if_true, if_false, Bool.false_eq_true, false_and, and_false, and_true, true_and, and_self, Bool.or_false, Bool.false_or, Bool.or_true, Bool.true_or, Bool.false_and, Bool.and_false, decide_true, decide_false]
      refine ⟨_, _, rfl, FQ.rfl, fun h0 F => ?_⟩
      have w0 := R.1.q F
      unfold f277 f277_33
      simp (disch := omega) only [gT, nbeq, Option.isSome_some, Option.getD_some, Bool.and_true, Bool.true_and, Bool.and_self, mX_some, bS, bN_if, bN_01, i1_01, i0_01, if_true, if_false, Bool.false_eq_true, false_and, and_false, and_true, true_and, and_self, Bool.or_false, Bool.false_or, Bool.or_true, Bool.true_or, Bool.false_and, Bool.and_false, decide_true, decide_false, L0, L1, L2, L3, L4, L5, L6, L7, L8, L9, L10, L11, L12, L13, L14, L15, L16, L17, L18, L19, L20, L21, L22, L23, L24, L25, L27, L33, L39, L40, L45, L48, L57, L60, L72, L90, L97, L98, L99, L100, L121, L122, L242, L255, L256, L580, L600, L1000, L1584, L1000000, Ln1, iN_add, iN_and, iN_or, iN_nd, iN_shl, iN_shr, iN_cl, iN_in, iN_mul, k193 w0, r193_1 w0, r193_2 w0, r193_3 w0, r193_4 w0, r193_5 w0, r193_6 w0, r193_7 w0, r193_8 w0, r193_18 w0, r193_19 w0, r193_32 w0, r193_33 w0, r193_34 w0, r193_36 w0, r193_38 w0, r193_39 w0, r193_40 w0, r193_42 w0, r193_45 w0, r193_46 w0, r193_47 w0, r193_48 w0, r193_49 w0, r193_50 w0, t179w, hr]
      exact ⟨_, rfl, FQ.c0⟩
    | true =>
      have hr2 := of_decide_eq_true hr
      obtain ⟨m, rfl, h1, hm⟩ : ∃ m, x2 = iN m ∧ 1 ≤ m ∧ m ≤ 4 := by
        refine ⟨x2.toInt.toNat, Int32.toInt.inj ?_, by omega, by omega⟩
        rw [iN_toInt (by omega)]; omega
      obtain ⟨B, B0, Bs⟩ := up_ex (bsl (lC q m)) (none, 0)
      obtain ⟨h1', a1, a2, a4⟩ := t138 (m := m) w H W (by omega) h1 hm B0 Bs
      have w1 := w.q a2
      obtain ⟨hR, _⟩ := e_ok h1 hm hn
      have hs1 := bsl_some Bs hR.1
      simp (disch := omega) only [gT, nbeq, Option.isSome_some, Option.getD_some, Bool.and_true, Bool.true_and, Bool.and_self, mX_some, bS, bN_if, bN_01, i1_01, i0_01, if_true, if_false, Bool.false_eq_true, false_and, and_false, and_true, true_and, and_self, Bool.or_false, Bool.false_or, Bool.or_true, Bool.true_or, Bool.false_and, Bool.and_false, decide_true, decide_false, L0, L1, L2, L3, L4, L5, L6, L7, L8, L9, L10, L11, L12, L13, L14, L15, L16, L17, L18, L19, L20, L21, L22, L23, L24, L25, L27, L33, L39, L40, L45, L48, L57, L60, L72, L90, L97, L98, L99, L100, L121, L122, L242, L255, L256, L580, L600, L1000, L1584, L1000000, Ln1, iN_add, iN_and, iN_or, iN_nd, iN_shl, iN_shr, iN_cl, iN_in, iN_mul, a1, iN_p, t17p]
      have no : ∀ h0, FQ h h0 → x3 ≠ jN → rg x3 m = false → ∃ h2, f277 h0 193 (iN i) (iN m) x3 = some (jN, h2) ∧ FQ h0 h2 := fun h0 F n1 n2 => by
        have w0 := R.1.q F
        obtain ⟨h', g1, g2, g3, g4, g5⟩ := e2 _ F.co
        have w2 := g4.1
        unfold f277 f277_33
        simp (disch := omega) only [gT, nbeq, Option.isSome_some, Option.getD_some, Bool.and_true, Bool.true_and, Bool.and_self, mX_some, bS, bN_if, bN_01, i1_01, i0_01, if_true, if_false, Bool.false_eq_true, false_and, and_false, and_true, true_and, and_self, Bool.or_false, Bool.false_or, Bool.or_true, Bool.true_or, Bool.false_and, Bool.and_false, decide_true, decide_false, L0, L1, L2, L3, L4, L5, L6, L7, L8, L9, L10, L11, L12, L13, L14, L15, L16, L17, L18, L19, L20, L21, L22, L23, L24, L25, L27, L33, L39, L40, L45, L48, L57, L60, L72, L90, L97, L98, L99, L100, L121, L122, L242, L255, L256, L580, L600, L1000, L1584, L1000000, Ln1, iN_add, iN_and, iN_or, iN_nd, iN_shl, iN_shr, iN_cl, iN_in, iN_mul, k193 w0, r193_1 w0, r193_2 w0, r193_3 w0, r193_4 w0, r193_5 w0, r193_6 w0, r193_7 w0, r193_8 w0, r193_18 w0, r193_19 w0, r193_32 w0, r193_33 w0, r193_34 w0, r193_36 w0, r193_38 w0, r193_39 w0, r193_40 w0, r193_42 w0, r193_45 w0, r193_46 w0, r193_47 w0, r193_48 w0, r193_49 w0, r193_50 w0, k193 w2, r193_1 w2, r193_2 w2, r193_3 w2, r193_4 w2, r193_5 w2, r193_6 w2, r193_7 w2, r193_8 w2, r193_18 w2, r193_19 w2, r193_32 w2, r193_33 w2, r193_34 w2, r193_36 w2, r193_38 w2, r193_39 w2, r193_40 w2, r193_42 w2, r193_45 w2, r193_46 w2, r193_47 w2, r193_48 w2, r193_49 w2, r193_50 w2, t179w, g1, hr, iN_p, t17jp, n1, n2]
        exact ⟨_, rfl, FQ.c0.tr g2.qM⟩
      have yes : ∀ h0, FQ h h0 → x3 = jN ∨ rg x3 m = true → ∃ h2, f277 h0 193 (iN i) (iN m) x3 = some (if x3 = jN then zN (B (eR m (q 0 0))).1 else iN (eP m (q 0 0) (B (eR m (q 0 0))).2 (Int32.toNatClampNeg x3)), h2) ∧ FQ h0 h2 := fun h0 F hx => by
        have w0 := R.1.q F
        obtain ⟨h', g1, g2, g3, g4, g5⟩ := e2 _ F.co
        have w2 := g4.1
        obtain ⟨⟨r, h4⟩, k1, k2, k3⟩ := t277s (m := m) (x3 := x3) g4 W h1 hm B0 Bs hx
        have er : r = (if x3 = jN then zN (B (eR m (q 0 0))).1 else iN (eP m (q 0 0) (B (eR m (q 0 0))).2 (Int32.toNatClampNeg x3))) := k3
        rw [← er]
        have hx' : (decide (x3 = jN) || rg x3 m) = true := by
          rcases hx with hx | hx
          · rw [decide_eq_true hx]; rfl
          · rw [hx, Bool.or_true]
        refine ⟨h4, ?_, (FQ.c0.tr g2.qM).tr k2⟩
        unfold f277
        simp (disch := omega) only [gT, nbeq, Option.isSome_some, Option.getD_some, Bool.and_true, Bool.true_and, Bool.and_self, mX_some, bS, bN_if, bN_01, i1_01, i0_01, if_true, if_false, Bool.false_eq_true, false_and, and_false, and_true, true_and, and_self, Bool.or_false, Bool.false_or, Bool.or_true, Bool.true_or, Bool.false_and, Bool.and_false, decide_true, decide_false, L0, L1, L2, L3, L4, L5, L6, L7, L8, L9, L10, L11, L12, L13, L14, L15, L16, L17, L18, L19, L20, L21, L22, L23, L24, L25, L27, L33, L39, L40, L45, L48, L57, L60, L72, L90, L97, L98, L99, L100, L121, L122, L242, L255, L256, L580, L600, L1000, L1584, L1000000, Ln1, iN_add, iN_and, iN_or, iN_nd, iN_shl, iN_shr, iN_cl, iN_in, iN_mul, k193 w0, r193_1 w0, r193_2 w0, r193_3 w0, r193_4 w0, r193_5 w0, r193_6 w0, r193_7 w0, r193_8 w0, r193_18 w0, r193_19 w0, r193_32 w0, r193_33 w0, r193_34 w0, r193_36 w0, r193_38 w0, r193_39 w0, r193_40 w0, r193_42 w0, r193_45 w0, r193_46 w0, r193_47 w0, r193_48 w0, r193_49 w0, r193_50 w0, k193 w2, r193_1 w2, r193_2 w2, r193_3 w2, r193_4 w2, r193_5 w2, r193_6 w2, r193_7 w2, r193_8 w2, r193_18 w2, r193_19 w2, r193_32 w2, r193_33 w2, r193_34 w2, r193_36 w2, r193_38 w2, r193_39 w2, r193_40 w2, r193_42 w2, r193_45 w2, r193_46 w2, r193_47 w2, r193_48 w2, r193_49 w2, r193_50 w2, t179w, g1, hr, iN_p, t17jp, hx', k1]
      by_cases ex : x3 = jN
      · subst ex
        simp only [jj_p]
        refine ⟨_, h1', rfl, a2, fun h0 F => ?_⟩
        have := yes h0 F (Or.inl rfl)
        rw [if_pos rfl] at this
        exact this
      · simp only [ex, if_false]
        cases hg : rg x3 m with
        | false =>
          simp only [gT, nbeq, Option.isSome_some, Option.getD_some, Bool.and_true, Bool.true_and, Bool.and_self, mX_some, bS, bN_if, bN_01, i1_01, i0_01, if_true, if_false, Bool.false_eq_true, false_and, and_false, and_true, true_and, and_self, Bool.or_false, Bool.false_or, Bool.or_true, Bool.true_or, Bool.false_and, Bool.and_false, decide_true, decide_false]
          exact ⟨_, h1', rfl, a2, fun h0 F => no h0 F ex hg⟩
        | true =>
          have := fun h0 F => yes h0 F (Or.inr hg)
          simp only [ex, if_false] at this
          obtain ⟨a, ha, rfl, hla⟩ := rg_t hg
          simp (disch := omega) only [gT, nbeq, Option.isSome_some, Option.getD_some, Bool.and_true, Bool.true_and, Bool.and_self, mX_some, bS, bN_if, bN_01, i1_01, i0_01, if_true, if_false, Bool.false_eq_true, false_and, and_false, and_true, true_and, and_self, Bool.or_false, Bool.false_or, Bool.or_true, Bool.true_or, Bool.false_and, Bool.and_false, decide_true, decide_false, L0, L1, L2, L3, L4, L5, L6, L7, L8, L9, L10, L11, L12, L13, L14, L15, L16, L17, L18, L19, L20, L21, L22, L23, L24, L25, L27, L33, L39, L40, L45, L48, L57, L60, L72, L90, L97, L98, L99, L100, L121, L122, L242, L255, L256, L580, L600, L1000, L1584, L1000000, Ln1, iN_add, iN_and, iN_or, iN_nd, iN_shl, iN_shr, iN_cl, iN_in, iN_mul, k0 w1, r0_0 w1, r0_1 w1, r0_2 w1, r0_3 w1, r0_4 w1, r0_5 w1, r0_6 w1, r0_7 w1, r0_8 w1, k85 w1, r85_0 w1, r85_1 w1, k86 w1, a4 a ha hs1]
          simp (disch := omega) only [iN_cl] at this
          exact ⟨_, h1', rfl, a2, this⟩
end PB
