/-! feast: the reference's, the call -/
theorem t196z {h : mH} {o : Option Nat} {x : Nat} (hx : x < 2147483648) (ho : ∀ v, o = some v → v < 2147483648) : f196 h (zN o) (iN x) = some (zN (if bet o x = true then some x else o)) := by
  cases o with
  | none =>
    unfold f196 f196_10
    simp (disch := omega) only [zN_none, jile, gT, nbeq, Option.isSome_some, Option.getD_some, Bool.and_true, Bool.true_and, Bool.and_self, mX_some, bS, bN_if, bN_01, i1_01, i0_01, if_true, if_false, Bool.false_eq_true, false_and, and_false, and_true, true_and, and_self, Bool.or_false, Bool.false_or, Bool.or_true, Bool.true_or, Bool.false_and, Bool.and_false, decide_true, decide_false, bet, zN_some]
  | some y =>
    have hy := ho y rfl
    rw [zN_some, t196 hy hx]
    unfold bet
    by_cases d : y < x
    · rw [if_pos (decide_eq_true d), zN_some, Nat.max_eq_right (by omega)]
    · rw [if_neg (by rw [decide_eq_true_eq]; exact d), zN_some, Nat.max_eq_left (by omega)]
theorem MoS.f9 {h h' : mH} {q : LQ} (H : MoS h q) (x : Fr (fun b => Nat.beq b 209) h h') : MoS h' q := by
  obtain ⟨v, h1, h2, s, h3, h4, h5⟩ := H
  exact ⟨v.fr x, (x.i (by decide) _).trans h1, (x.i (by decide) _).trans h2, s, h3, (x.i (by decide) _).trans h4, fun i hi => (x.i (by decide) _).trans (h5 i hi)⟩
section FT
variable {h : mH} {q : LQ} {Df : (Nat → Nat) → Nat → Nat → AZ} {d m : Nat} {B : Nat → Option Nat × Nat}
theorem t280c {P : Nat → Nat} {C : Nat} {o : Option Nat} {l2 l4 : Int32} (w : Wd h) (hm : m ≤ 4) (hC : C ≤ 8) (ho : ∀ v, o = some v → v ≤ 8) (e37 : mI h 193 37 = iN C) (hp : ∀ i, i < m → mI h 208 i = iN (P i)) : ∃ g, Fr (fun b => Nat.beq b 209) h g ∧ (bet o C = true → ∀ i, i < m → mI g 209 i = iN (P i)) ∧ (bet o C = false → g = h) ∧ ∀ y, f280_106 g 193 l2 (iN m) l4 (zN o) = some y → mLoop (f280_71 193 l2 (iN m) l4 (zN o)) mFuel (iN 0, h) = some y := by
  have ho' : ∀ v, o = some v → v < 2147483648 := fun v hv => by have := ho v hv; omega
  cases eb : bet o C with
  | false =>
    refine ⟨h, Fr.rfl, fun e => (by cases e), fun _ => rfl, fun y ey => ?_⟩
    refine lp_run (body := f280_71 193 l2 (iN m) l4 (zN o)) (fun _ => (iN 0, h)) 0 (fun i hi => by omega) ?_ (by omega)
    unfold f280_71
    by_cases d0 : m ≤ 0
    · simp (disch := omega) only [gT, nbeq, Option.isSome_some, Option.getD_some, Bool.and_true, Bool.true_and, Bool.and_self, mX_some, bS, bN_if, bN_01, i1_01, i0_01, if_true, if_false, Bool.false_eq_true, false_and, and_false, and_true, true_and, and_self, Bool.or_false, Bool.false_or, Bool.or_true, Bool.true_or, Bool.false_and, Bool.and_false, decide_true, decide_false, L0, L1, L2, L3, L4, L5, L6, L7, L8, L9, L10, L11, L12, L13, L14, L15, L16, L17, L18, L19, L20, L21, L22, L23, L24, L25, L27, L33, L39, L40, L45, L48, L57, L60, L72, L90, L97, L98, L99, L100, L121, L122, L242, L255, L256, L580, L600, L1000, L1584, L1000000, Ln1, iN_add, iN_and, iN_or, iN_nd, iN_shl, iN_shr, iN_cl, iN_in, iN_mul, ile_p, ey]
    · simp (disch := omega) only [gT, nbeq, Option.isSome_some, Option.getD_some, Bool.and_true, Bool.true_and, Bool.and_self, mX_some, bS, bN_if, bN_01, i1_01, i0_01, if_true, if_false, Bool.false_eq_true, false_and, and_false, and_true, true_and, and_self, Bool.or_false, Bool.false_or, Bool.or_true, Bool.true_or, Bool.false_and, Bool.and_false, decide_true, decide_false, L0, L1, L2, L3, L4, L5, L6, L7, L8, L9, L10, L11, L12, L13, L14, L15, L16, L17, L18, L19, L20, L21, L22, L23, L24, L25, L27, L33, L39, L40, L45, L48, L57, L60, L72, L90, L97, L98, L99, L100, L121, L122, L242, L255, L256, L580, L600, L1000, L1584, L1000000, Ln1, iN_add, iN_and, iN_or, iN_nd, iN_shl, iN_shr, iN_cl, iN_in, iN_mul, k193 w, r193_1 w, r193_2 w, r193_3 w, r193_4 w, r193_5 w, r193_6 w, r193_7 w, r193_8 w, r193_18 w, r193_19 w, r193_32 w, r193_33 w, r193_34 w, r193_36 w, r193_38 w, r193_39 w, r193_40 w, r193_42 w, r193_45 w, r193_46 w, r193_47 w, r193_48 w, r193_49 w, r193_50 w, ile_n, e37]
      rw [bet_le (by omega) ho', eb]
      simp only [gT, nbeq, Option.isSome_some, Option.getD_some, Bool.and_true, Bool.true_and, Bool.and_self, mX_some, bS, bN_if, bN_01, i1_01, i0_01, if_true, if_false, Bool.false_eq_true, false_and, and_false, and_true, true_and, and_self, Bool.or_false, Bool.false_or, Bool.or_true, Bool.true_or, Bool.false_and, Bool.and_false, decide_true, decide_false, ey]
  | true =>
    obtain ⟨G, G0, Gs⟩ := up_ex (fun i (g : mH) => mSI g 209 i (iN (P i))) h
    have gf : ∀ i, Fr (fun b => Nat.beq b 209) h (G i) ∧ ∀ j, j < i → mI (G i) 209 j = iN (P j) := by
      intro i
      induction i with
      | zero => rw [G0]; exact ⟨Fr.rfl, fun j hj => by omega⟩
      | succ i ih =>
        rw [Gs]
        refine ⟨ih.1.si (by decide), fun j hj => ?_⟩
        by_cases e : j = i
        · subst e; simp (disch := omega) only [si_ne, si_nk, si_eq]
        · simp (disch := omega) only [si_ne, si_nk, si_eq]; exact ih.2 j (by omega)
    refine ⟨G m, (gf m).1, fun _ => (gf m).2, fun e => (by cases e), fun y ey => ?_⟩
    have := lp_run (body := f280_71 193 l2 (iN m) l4 (zN o)) (fun i => (iN i, G i)) m (r := y) (fun i hi => by
      have w2 := w.fr (gf i).1
      have e1 : mI (G i) 193 37 = iN C := ((gf i).1.i (by decide) _).trans e37
      have e2 : mI (G i) 208 i = iN (P i) := ((gf i).1.i (by decide) _).trans (hp i hi)
      unfold f280_71
      simp (disch := omega) only [gT, nbeq, Option.isSome_some, Option.getD_some, Bool.and_true, Bool.true_and, Bool.and_self, mX_some, bS, bN_if, bN_01, i1_01, i0_01, if_true, if_false, Bool.false_eq_true, false_and, and_false, and_true, true_and, and_self, Bool.or_false, Bool.false_or, Bool.or_true, Bool.true_or, Bool.false_and, Bool.and_false, decide_true, decide_false, L0, L1, L2, L3, L4, L5, L6, L7, L8, L9, L10, L11, L12, L13, L14, L15, L16, L17, L18, L19, L20, L21, L22, L23, L24, L25, L27, L33, L39, L40, L45, L48, L57, L60, L72, L90, L97, L98, L99, L100, L121, L122, L242, L255, L256, L580, L600, L1000, L1584, L1000000, Ln1, iN_add, iN_and, iN_or, iN_nd, iN_shl, iN_shr, iN_cl, iN_in, iN_mul, k193 w2, r193_1 w2, r193_2 w2, r193_3 w2, r193_4 w2, r193_5 w2, r193_6 w2, r193_7 w2, r193_8 w2, r193_18 w2, r193_19 w2, r193_32 w2, r193_33 w2, r193_34 w2, r193_36 w2, r193_38 w2, r193_39 w2, r193_40 w2, r193_42 w2, r193_45 w2, r193_46 w2, r193_47 w2, r193_48 w2, r193_49 w2, r193_50 w2, k208 w2, k209 w2, ile_n, e1, e2]
      rw [bet_le (by omega) ho', eb, Gs]
      rfl) (by
      unfold f280_71
      simp (disch := omega) only [gT, nbeq, Option.isSome_some, Option.getD_some, Bool.and_true, Bool.true_and, Bool.and_self, mX_some, bS, bN_if, bN_01, i1_01, i0_01, if_true, if_false, Bool.false_eq_true, false_and, and_false, and_true, true_and, and_self, Bool.or_false, Bool.false_or, Bool.or_true, Bool.true_or, Bool.false_and, Bool.and_false, decide_true, decide_false, L0, L1, L2, L3, L4, L5, L6, L7, L8, L9, L10, L11, L12, L13, L14, L15, L16, L17, L18, L19, L20, L21, L22, L23, L24, L25, L27, L33, L39, L40, L45, L48, L57, L60, L72, L90, L97, L98, L99, L100, L121, L122, L242, L255, L256, L580, L600, L1000, L1584, L1000000, Ln1, iN_add, iN_and, iN_or, iN_nd, iN_shl, iN_shr, iN_cl, iN_in, iN_mul, ile_p, ey]) (by omega)
    rw [G0] at this
    exact this
theorem t280l {x4 : Int32} (H : MoS h q) (W : QW q) (hD : ∀ P m, aD q P m (Df P m)) (hd : d ≤ 20) (hm : m ≤ 4) (B0 : B 0 = (none, 0)) (Bs : ∀ k, B (k + 1) = bst (fC Df d m) k (B k)) (hx : x4 = jN ∨ rg x4 m = true) (hp : ∀ i, i < m → mI h 208 i = iN 0) : ∃ r, mLoop (f280_57 193 (iN d) (iN m) x4) mFuel (jN, iN 1, h) = some r ∧ FQ h r.2 ∧ r.1 = (if x4 = jN then zN (B (pR m)).1 else iN (pP m (B (pR m)).2 (Int32.toNatClampNeg x4))) := by
  have hR := pR_b m (by omega)
  have hs1 : (B (pR m)).1.isSome = true := by
    obtain ⟨r, hr⟩ : ∃ r, pR m = r + 1 := ⟨pR m - 1, by omega⟩
    rw [hr, Bs]
    unfold bst
    cases e : bet (B r).1 (fC Df d m r) with
    | true => rfl
    | false =>
      simp only [Bool.false_eq_true, if_false]
      generalize (B r).1 = o at e
      cases o with
      | none => cases e
      | some y => rfl
  refine lp_inv (body := f280_57 193 (iN d) (iN m) x4) (P := fun k z => FQ h z.2.2 ∧ MoS z.2.2 q ∧ z.1 = zN (B k).1 ∧ (∀ v, (B k).1 = some v → v ≤ 8) ∧ (∀ i, i < m → (B k).1.isSome = true → mI z.2.2 209 i = iN (pP m (B k).2 i)) ∧ ((z.2.1 = iN 1 ∧ k < pR m ∧ ∀ i, i < m → mI z.2.2 208 i = iN (pP m k i)) ∨ (z.2.1 = iN 0 ∧ k = pR m))) (Q := fun r => FQ h r.2 ∧ r.1 = (if x4 = jN then zN (B (pR m)).1 else iN (pP m (B (pR m)).2 (Int32.toNatClampNeg x4)))) (pR m) (fun k z hk hP => ?_) (fun z hP => ?_) (by omega) (s := (jN, iN 1, h)) ⟨FQ.rfl, H, (by rw [B0]; rfl), (fun v hv => by rw [B0] at hv; cases hv), (fun i hi hs => by rw [B0] at hs; cases hs), Or.inl ⟨rfl, by omega, fun i hi => (hp i hi).trans (by rw [pP_0 m (by omega) i (by omega)])⟩⟩
  · obtain ⟨u1, u2, u3⟩ := z
    obtain ⟨F, H2, z0, y1, y2, ⟨z1, z3, z4⟩ | ⟨z1, z2⟩⟩ := hP
    · have z0 : u1 = zN (B k).1 := z0
      have z1 : u2 = iN 1 := z1
      have F : FQ h u3 := F
      have H2 : MoS u3 q := H2
      have z4 : ∀ i, i < m → mI u3 208 i = iN (pP m k i) := z4
      have y2 : ∀ i, i < m → (B k).1.isSome = true → mI u3 209 i = iN (pP m (B k).2 i) := y2
      subst z0 z1
      have w2 := H2.1
      have p5 := pP_5 m (by omega) k z3
      obtain ⟨h1, b1, b2, b3⟩ := t239 (n := d) H2 W hm (fun i hi => ⟨p5 i (by omega), z4 i hi⟩) (hD (pP m k) m) (by omega)
      have w3 := b3.1.1
      have q2 : FQ u3 h1 := (b2.mono pV_M).qM
      have b4 : mI h1 193 37 = iN (fC Df d m k) := b3.2.2.2.1
      have b5 : fC Df d m k ≤ 8 := by
        have := b3.2.2.2.2.2
        have := pc_le (sRd (Df (pP m k) m d).1)
        have e : (Df (pP m k) m d).2.1 = fC Df d m k := rfl
        omega
      have b6 : ∀ i, i < m → mI h1 208 i = iN (pP m k i) := fun i hi => (b2.i (by decide) i).trans (z4 i hi)
      have b7 : ∀ i, i < m → (B k).1.isSome = true → mI h1 209 i = iN (pP m (B k).2 i) := fun i hi hs => (b2.i (by decide) i).trans (y2 i hi hs)
      obtain ⟨g, g1, g2, g3, g4⟩ := t280c (l2 := iN d) (l4 := x4) (o := (B k).1) w3 hm b5 y1 b4 b6
      have Hg := b3.1.f9 g1
      have w4 := Hg.1
      have n4 : mI g 193 37 = iN (fC Df d m k) := (g1.i (by decide) _).trans b4
      have n6 : ∀ i, i < m → mI g 208 i = iN (pP m k i) := fun i hi => (g1.i (by decide) i).trans (b6 i hi)
      have ebs : (B (k + 1)).1 = if bet (B k).1 (fC Df d m k) = true then some (fC Df d m k) else (B k).1 := by
        rw [Bs]; unfold bst
        cases bet (B k).1 (fC Df d m k) <;> rfl
      have n7 : ∀ i, i < m → (B (k + 1)).1.isSome = true → mI g 209 i = iN (pP m (B (k + 1)).2 i) := by
        rw [Bs]; unfold bst
        cases eb : bet (B k).1 (fC Df d m k) with
        | true => exact fun i hi _ => g2 eb i hi
        | false => rw [g3 eb]; exact b7
      have n8 : ∀ v, (B (k + 1)).1 = some v → v ≤ 8 := by
        intro v hv
        rw [ebs] at hv
        split at hv
        · have : fC Df d m k = v := Option.some.inj hv
          omega
        · exact y1 v hv
      have e196 := t196z (h := g) (o := (B k).1) (x := fC Df d m k) (by omega) (fun v hv => by have := y1 v hv; omega)
      rw [← ebs] at e196
      left
      rcases t240 w4 hm (fun i hi => ⟨p5 i (by omega), n6 i hi⟩) with ⟨c0, c1⟩ | ⟨a, h2, c0, c1, c2, c3⟩
      · have ek : ¬ k + 1 < pR m := fun hlt => by
          obtain ⟨a, ea, _⟩ := pP_s (by omega) hlt
          rw [ea] at c0; cases c0
        refine ⟨(zN (B (k + 1)).1, iN 0, g), ?_, F.tr (q2.tr (fr209 g1)), Hg, rfl, n8, n7, Or.inr ⟨rfl, by omega⟩⟩
        have e6 := g4 (.inl (zN (B (k + 1)).1, iN 0, g)) (by
          unfold f280_106
          simp (disch := omega) only [gT, nbeq, Option.isSome_some, Option.getD_some, Bool.and_true, Bool.true_and, Bool.and_self, mX_some, bS, bN_if, bN_01, i1_01, i0_01, if_true, if_false, Bool.false_eq_true, false_and, and_false, and_true, true_and, and_self, Bool.or_false, Bool.false_or, Bool.or_true, Bool.true_or, Bool.false_and, Bool.and_false, decide_true, decide_false, L0, L1, L2, L3, L4, L5, L6, L7, L8, L9, L10, L11, L12, L13, L14, L15, L16, L17, L18, L19, L20, L21, L22, L23, L24, L25, L27, L33, L39, L40, L45, L48, L57, L60, L72, L90, L97, L98, L99, L100, L121, L122, L242, L255, L256, L580, L600, L1000, L1584, L1000000, Ln1, iN_add, iN_and, iN_or, iN_nd, iN_shl, iN_shr, iN_cl, iN_in, iN_mul, k193 w4, r193_1 w4, r193_2 w4, r193_3 w4, r193_4 w4, r193_5 w4, r193_6 w4, r193_7 w4, r193_8 w4, r193_18 w4, r193_19 w4, r193_32 w4, r193_33 w4, r193_34 w4, r193_36 w4, r193_38 w4, r193_39 w4, r193_40 w4, r193_42 w4, r193_45 w4, r193_46 w4, r193_47 w4, r193_48 w4, r193_49 w4, r193_50 w4, n4, e196, c1, bN_f])
        unfold f280_57
        simp (disch := omega) only [gT, nbeq, Option.isSome_some, Option.getD_some, Bool.and_true, Bool.true_and, Bool.and_self, mX_some, bS, bN_if, bN_01, i1_01, i0_01, if_true, if_false, Bool.false_eq_true, false_and, and_false, and_true, true_and, and_self, Bool.or_false, Bool.false_or, Bool.or_true, Bool.true_or, Bool.false_and, Bool.and_false, decide_true, decide_false, L0, L1, L2, L3, L4, L5, L6, L7, L8, L9, L10, L11, L12, L13, L14, L15, L16, L17, L18, L19, L20, L21, L22, L23, L24, L25, L27, L33, L39, L40, L45, L48, L57, L60, L72, L90, L97, L98, L99, L100, L121, L122, L242, L255, L256, L580, L600, L1000, L1584, L1000000, Ln1, iN_add, iN_and, iN_or, iN_nd, iN_shl, iN_shr, iN_cl, iN_in, iN_mul, k193 w2, r193_1 w2, r193_2 w2, r193_3 w2, r193_4 w2, r193_5 w2, r193_6 w2, r193_7 w2, r193_8 w2, r193_18 w2, r193_19 w2, r193_32 w2, r193_33 w2, r193_34 w2, r193_36 w2, r193_38 w2, r193_39 w2, r193_40 w2, r193_42 w2, r193_45 w2, r193_46 w2, r193_47 w2, r193_48 w2, r193_49 w2, r193_50 w2, ieq_n, b1, e6]
      · have ek : k + 1 < pR m := by
          refine Decidable.byContradiction (fun hn => ?_)
          have := pP_e m (by omega)
          rw [show pR m - 1 = k by omega, c0] at this
          cases this
        obtain ⟨a', ea, en⟩ := pP_s (by omega) ek
        have : a = a' := Option.some.inj (c0.symm.trans ea)
        subst this
        refine ⟨(zN (B (k + 1)).1, iN 1, h2), ?_, F.tr (q2.tr ((fr209 g1).tr (fr208 c2))), Hg.f8 c2, rfl, n8, fun i hi hs => (c2.i (by decide) i).trans (n7 i hi hs), Or.inl ⟨rfl, ek, fun i hi => (c3 i hi).trans (by rw [en i hi])⟩⟩
        have e6 := g4 (.inl (zN (B (k + 1)).1, iN 1, h2)) (by
          unfold f280_106
          simp (disch := omega) only [gT, nbeq, Option.isSome_some, Option.getD_some, Bool.and_true, Bool.true_and, Bool.and_self, mX_some, bS, bN_if, bN_01, i1_01, i0_01, if_true, if_false, Bool.false_eq_true, false_and, and_false, and_true, true_and, and_self, Bool.or_false, Bool.false_or, Bool.or_true, Bool.true_or, Bool.false_and, Bool.and_false, decide_true, decide_false, L0, L1, L2, L3, L4, L5, L6, L7, L8, L9, L10, L11, L12, L13, L14, L15, L16, L17, L18, L19, L20, L21, L22, L23, L24, L25, L27, L33, L39, L40, L45, L48, L57, L60, L72, L90, L97, L98, L99, L100, L121, L122, L242, L255, L256, L580, L600, L1000, L1584, L1000000, Ln1, iN_add, iN_and, iN_or, iN_nd, iN_shl, iN_shr, iN_cl, iN_in, iN_mul, k193 w4, r193_1 w4, r193_2 w4, r193_3 w4, r193_4 w4, r193_5 w4, r193_6 w4, r193_7 w4, r193_8 w4, r193_18 w4, r193_19 w4, r193_32 w4, r193_33 w4, r193_34 w4, r193_36 w4, r193_38 w4, r193_39 w4, r193_40 w4, r193_42 w4, r193_45 w4, r193_46 w4, r193_47 w4, r193_48 w4, r193_49 w4, r193_50 w4, n4, e196, c1, bN_t])
        unfold f280_57
        simp (disch := omega) only [gT, nbeq, Option.isSome_some, Option.getD_some, Bool.and_true, Bool.true_and, Bool.and_self, mX_some, bS, bN_if, bN_01, i1_01, i0_01, if_true, if_false, Bool.false_eq_true, false_and, and_false, and_true, true_and, and_self, Bool.or_false, Bool.false_or, Bool.or_true, Bool.true_or, Bool.false_and, Bool.and_false, decide_true, decide_false, L0, L1, L2, L3, L4, L5, L6, L7, L8, L9, L10, L11, L12, L13, L14, L15, L16, L17, L18, L19, L20, L21, L22, L23, L24, L25, L27, L33, L39, L40, L45, L48, L57, L60, L72, L90, L97, L98, L99, L100, L121, L122, L242, L255, L256, L580, L600, L1000, L1584, L1000000, Ln1, iN_add, iN_and, iN_or, iN_nd, iN_shl, iN_shr, iN_cl, iN_in, iN_mul, k193 w2, r193_1 w2, r193_2 w2, r193_3 w2, r193_4 w2, r193_5 w2, r193_6 w2, r193_7 w2, r193_8 w2, r193_18 w2, r193_19 w2, r193_32 w2, r193_33 w2, r193_34 w2, r193_36 w2, r193_38 w2, r193_39 w2, r193_40 w2, r193_42 w2, r193_45 w2, r193_46 w2, r193_47 w2, r193_48 w2, r193_49 w2, r193_50 w2, ieq_n, b1, e6]
    · omega
  · obtain ⟨u1, u2, u3⟩ := z
    obtain ⟨F, H2, z0, y1, y2, ⟨z1, z3, z4⟩ | ⟨z1, z2⟩⟩ := hP
    · omega
    · have z0 : u1 = zN (B (pR m)).1 := z0
      have z1 : u2 = iN 0 := z1
      have y2 : ∀ i, i < m → (B (pR m)).1.isSome = true → mI u3 209 i = iN (pP m (B (pR m)).2 i) := y2
      have H2 : MoS u3 q := H2
      subst z0 z1
      have w2 := H2.1
      refine ⟨(if x4 = jN then zN (B (pR m)).1 else iN (pP m (B (pR m)).2 (Int32.toNatClampNeg x4)), u3), ?_, F, rfl⟩
      unfold f280_57 f280_145
      simp only [gT, nbeq, Option.isSome_some, Option.getD_some, Bool.and_true, Bool.true_and, Bool.and_self, mX_some, bS, bN_if, bN_01, i1_01, i0_01, if_true, if_false, Bool.false_eq_true, false_and, and_false, and_true, true_and, and_self, Bool.or_false, Bool.false_or, Bool.or_true, Bool.true_or, Bool.false_and, Bool.and_false, decide_true, decide_false, L0, L1, L2, L3, L4, L5, L6, L7, L8, L9, L10, L11, L12, L13, L14, L15, L16, L17, L18, L19, L20, L21, L22, L23, L24, L25, L27, L33, L39, L40, L45, L48, L57, L60, L72, L90, L97, L98, L99, L100, L121, L122, L242, L255, L256, L580, L600, L1000, L1584, L1000000, Ln1, iN_add, iN_and, iN_or, iN_nd, iN_shl, iN_shr, iN_cl, iN_in, iN_mul]
      by_cases ex : x4 = jN
      · simp only [ex, if_true, gT, nbeq, Option.isSome_some, Option.getD_some, Bool.and_true, Bool.true_and, Bool.and_self, mX_some, bS, bN_if, bN_01, i1_01, i0_01, if_true, if_false, Bool.false_eq_true, false_and, and_false, and_true, true_and, and_self, Bool.or_false, Bool.false_or, Bool.or_true, Bool.true_or, Bool.false_and, Bool.and_false, decide_true, decide_false]
      · rcases hx with hx | hx
        · exact absurd hx ex
        · obtain ⟨a, ha, rfl, hla⟩ := rg_t hx
          simp (disch := omega) only [ex, if_false, gT, nbeq, Option.isSome_some, Option.getD_some, Bool.and_true, Bool.true_and, Bool.and_self, mX_some, bS, bN_if, bN_01, i1_01, i0_01, if_true, if_false, Bool.false_eq_true, false_and, and_false, and_true, true_and, and_self, Bool.or_false, Bool.false_or, Bool.or_true, Bool.true_or, Bool.false_and, Bool.and_false, decide_true, decide_false, L0, L1, L2, L3, L4, L5, L6, L7, L8, L9, L10, L11, L12, L13, L14, L15, L16, L17, L18, L19, L20, L21, L22, L23, L24, L25, L27, L33, L39, L40, L45, L48, L57, L60, L72, L90, L97, L98, L99, L100, L121, L122, L242, L255, L256, L580, L600, L1000, L1584, L1000000, Ln1, iN_add, iN_and, iN_or, iN_nd, iN_shl, iN_shr, iN_cl, iN_in, iN_mul, k193 w2, r193_1 w2, r193_2 w2, r193_3 w2, r193_4 w2, r193_5 w2, r193_6 w2, r193_7 w2, r193_8 w2, r193_18 w2, r193_19 w2, r193_32 w2, r193_33 w2, r193_34 w2, r193_36 w2, r193_38 w2, r193_39 w2, r193_40 w2, r193_42 w2, r193_45 w2, r193_46 w2, r193_47 w2, r193_48 w2, r193_49 w2, r193_50 w2, k209 w2, y2 a ha hs1]
theorem t17jp {x : Int32} {n : Nat} (hn : n < 2147483648) : f179 h x jN (pN n) = some (bN (decide (x = jN) || rg x n)) := by
  rw [t179]; congr 2
  unfold rg
  rw [← Bool.decide_and, ← Bool.decide_or]
  apply decide_eq_decide.2
  have hp : (pN n).toInt = (n : Int) - 1 := by
    cases n with
    | zero => rw [pN_z, jN_toInt]; rfl
    | succ n => rw [pN_s, iN_toInt (by omega)]; omega
  rw [Int32.le_iff_toInt_le, Int32.le_iff_toInt_le, hp, jN_toInt, ← Int32.toInt_inj, jN_toInt]
  omega
end FT
section PB
variable {h : mH}
theorem c_feast (R : Rel h) (x1 x2 x3 x4 : Int32) : ∃ v h1, f141 h 0 x1 x2 x3 x4 = some (v, h1) ∧ FQ h h1 ∧ ∀ h0, FQ h h0 → ∃ h2, f280 h0 193 x1 x2 x3 x4 = some (v, h2) ∧ FQ h0 h2 := by
  have w := R.1
  unfold f141 f141_34 f141_84
  simp only [gT, nbeq, Option.isSome_some, Option.getD_some, Bool.and_true, Bool.true_and, Bool.and_self, mX_some, bS, bN_if, bN_01, i1_01, i0_01, if_true, if_false, Bool.false_eq_true, false_and, and_false, and_true, true_and, and_self, Bool.or_false, Bool.false_or, Bool.or_true, Bool.true_or, Bool.false_and, Bool.and_false, decide_true, decide_false, k0 w, r0_0 w, r0_1 w, r0_2 w, r0_3 w, r0_4 w, r0_5 w, r0_6 w, r0_7 w, r0_8 w, k1 w, r1_0 w, r1_1 w, r1_2 w, r1_3 w, r1_4 w]
  rcases R.pick x1 with ⟨e1, e2⟩ | ⟨i, q, hi, rfl, W, H, e1, e2⟩
  · simp only [gT, nbeq, Option.isSome_some, Option.getD_some, Bool.and_true, Bool.true_and, Bool.and_self, mX_some, bS, bN_if, bN_01, i1_01, i0_01, if_true, if_false, Bool.false_eq_true, false_and, and_false, and_true, true_and, and_self, Bool.or_false, Bool.false_or, Bool.or_true, Bool.true_or, Bool.false_and, Bool.and_false, decide_true, decide_false, L0, L1, L2, L3, L4, L5, L6, L7, L8, L9, L10, L11, L12, L13, L14, L15, L16, L17, L18, L19, L20, L21, L22, L23, L24, L25, L27, L33, L39, L40, L45, L48, L57, L60, L72, L90, L97, L98, L99, L100, L121, L122, L242, L255, L256, L580, L600, L1000, L1584, L1000000, Ln1, iN_add, iN_and, iN_or, iN_nd, iN_shl, iN_shr, iN_cl, iN_in, iN_mul, e1]
    refine ⟨_, _, rfl, FQ.rfl, fun h0 F => ?_⟩
    have w0 := R.1.q F
    unfold f280 f280_44
    simp (disch := omega) only [gT, nbeq, Option.isSome_some, Option.getD_some, Bool.and_true, Bool.true_and, Bool.and_self, mX_some, bS, bN_if, bN_01, i1_01, i0_01, if_true, if_false, Bool.false_eq_true, false_and, and_false, and_true, true_and, and_self, Bool.or_false, Bool.false_or, Bool.or_true, Bool.true_or, Bool.false_and, Bool.and_false, decide_true, decide_false, L0, L1, L2, L3, L4, L5, L6, L7, L8, L9, L10, L11, L12, L13, L14, L15, L16, L17, L18, L19, L20, L21, L22, L23, L24, L25, L27, L33, L39, L40, L45, L48, L57, L60, L72, L90, L97, L98, L99, L100, L121, L122, L242, L255, L256, L580, L600, L1000, L1584, L1000000, Ln1, iN_add, iN_and, iN_or, iN_nd, iN_shl, iN_shr, iN_cl, iN_in, iN_mul, k193 w0, r193_1 w0, r193_2 w0, r193_3 w0, r193_4 w0, r193_5 w0, r193_6 w0, r193_7 w0, r193_8 w0, r193_18 w0, r193_19 w0, r193_32 w0, r193_33 w0, r193_34 w0, r193_36 w0, r193_38 w0, r193_39 w0, r193_40 w0, r193_42 w0, r193_45 w0, r193_46 w0, r193_47 w0, r193_48 w0, r193_49 w0, r193_50 w0, t179r, e2 _ F.co]
    cases rg x2 (20 + 1) <;> simp only [gT, nbeq, Option.isSome_some, Option.getD_some, Bool.and_true, Bool.true_and, Bool.and_self, mX_some, bS, bN_if, bN_01, i1_01, i0_01, if_true, if_false, Bool.false_eq_true, false_and, and_false, and_true, true_and, and_self, Bool.or_false, Bool.false_or, Bool.or_true, Bool.true_or, Bool.false_and, Bool.and_false, decide_true, decide_false]
    · exact ⟨_, rfl, FQ.c0⟩
    · cases rg x3 (3 + 1) <;> simp only [gT, nbeq, Option.isSome_some, Option.getD_some, Bool.and_true, Bool.true_and, Bool.and_self, mX_some, bS, bN_if, bN_01, i1_01, i0_01, if_true, if_false, Bool.false_eq_true, false_and, and_false, and_true, true_and, and_self, Bool.or_false, Bool.false_or, Bool.or_true, Bool.true_or, Bool.false_and, Bool.and_false, decide_true, decide_false] <;> exact ⟨_, rfl, FQ.c0⟩
  · have hn := W.1.1
    simp (disch := omega) only [gT, nbeq, Option.isSome_some, Option.getD_some, Bool.and_true, Bool.true_and, Bool.and_self, mX_some, bS, bN_if, bN_01, i1_01, i0_01, if_true, if_false, Bool.false_eq_true, false_and, and_false, and_true, true_and, and_self, Bool.or_false, Bool.false_or, Bool.or_true, Bool.true_or, Bool.false_and, Bool.and_false, decide_true, decide_false, L0, L1, L2, L3, L4, L5, L6, L7, L8, L9, L10, L11, L12, L13, L14, L15, L16, L17, L18, L19, L20, L21, L22, L23, L24, L25, L27, L33, L39, L40, L45, L48, L57, L60, L72, L90, L97, L98, L99, L100, L121, L122, L242, L255, L256, L580, L600, L1000, L1584, L1000000, Ln1, iN_add, iN_and, iN_or, iN_nd, iN_shl, iN_shr, iN_cl, iN_in, iN_mul, k0 w, r0_0 w, r0_1 w, r0_2 w, r0_3 w, r0_4 w, r0_5 w, r0_6 w, r0_7 w, r0_8 w, k66 w, r66_0 w, r66_1 w, r66_2 w, r66_4 w, e1, t17r]
    cases hr2 : rg x2 (20 + 1) with
    | false =>
      simp only [gT, nbeq, Option.isSome_some, Option.getD_some, Bool.and_true, Bool.true_and, Bool.and_self, mX_some, bS, bN_if, bN_01, i1_01, i0_01, if_true, if_false, Bool.false_eq_true, false_and, and_false, and_true, true_and, and_self, Bool.or_false, Bool.false_or, Bool.or_true, Bool.true_or, Bool.false_and, Bool.and_false, decide_true, decide_false]
      refine ⟨_, _, rfl, FQ.rfl, fun h0 F => ?_⟩
      have w0 := R.1.q F
      unfold f280 f280_44
      simp (disch := omega) only [gT, nbeq, Option.isSome_some, Option.getD_some, Bool.and_true, Bool.true_and, Bool.and_self, mX_some, bS, bN_if, bN_01, i1_01, i0_01, if_true, if_false, Bool.false_eq_true, false_and, and_false, and_true, true_and, and_self, Bool.or_false, Bool.false_or, Bool.or_true, Bool.true_or, Bool.false_and, Bool.and_false, decide_true, decide_false, L0, L1, L2, L3, L4, L5, L6, L7, L8, L9, L10, L11, L12, L13, L14, L15, L16, L17, L18, L19, L20, L21, L22, L23, L24, L25, L27, L33, L39, L40, L45, L48, L57, L60, L72, L90, L97, L98, L99, L100, L121, L122, L242, L255, L256, L580, L600, L1000, L1584, L1000000, Ln1, iN_add, iN_and, iN_or, iN_nd, iN_shl, iN_shr, iN_cl, iN_in, iN_mul, k193 w0, r193_1 w0, r193_2 w0, r193_3 w0, r193_4 w0, r193_5 w0, r193_6 w0, r193_7 w0, r193_8 w0, r193_18 w0, r193_19 w0, r193_32 w0, r193_33 w0, r193_34 w0, r193_36 w0, r193_38 w0, r193_39 w0, r193_40 w0, r193_42 w0, r193_45 w0, r193_46 w0, r193_47 w0, r193_48 w0, r193_49 w0, r193_50 w0, t179r, hr2]
      exact ⟨_, rfl, FQ.c0⟩
    | true =>
      obtain ⟨d, hd, rfl, _⟩ := rg_t hr2
      simp only [gT, nbeq, Option.isSome_some, Option.getD_some, Bool.and_true, Bool.true_and, Bool.and_self, mX_some, bS, bN_if, bN_01, i1_01, i0_01, if_true, if_false, Bool.false_eq_true, false_and, and_false, and_true, true_and, and_self, Bool.or_false, Bool.false_or, Bool.or_true, Bool.true_or, Bool.false_and, Bool.and_false, decide_true, decide_false]
      cases hr : rg x3 (3 + 1) with
      | false =>
        simp only [gT, nbeq, Option.isSome_some, Option.getD_some, Bool.and_true, Bool.true_and, Bool.and_self, mX_some, bS, bN_if, bN_01, i1_01, i0_01, if_true, if_false, Bool.false_eq_true, false_and, and_false, and_true, true_and, and_self, Bool.or_false, Bool.false_or, Bool.or_true, Bool.true_or, Bool.false_and, Bool.and_false, decide_true, decide_false]
        refine ⟨_, _, rfl, FQ.rfl, fun h0 F => ?_⟩
        have w0 := R.1.q F
        unfold f280 f280_44
        simp (disch := omega) only [gT, nbeq, Option.isSome_some, Option.getD_some, Bool.and_true, Bool.true_and, Bool.and_self, mX_some, bS, bN_if, bN_01, i1_01, i0_01, if_true, if_false, Bool.false_eq_true, false_and, and_false, and_true, true_and, and_self, Bool.or_false, Bool.false_or, Bool.or_true, Bool.true_or, Bool.false_and, Bool.and_false, decide_true, decide_false, L0, L1, L2, L3, L4, L5, L6, L7, L8, L9, L10, L11, L12, L13, L14, L15, L16, L17, L18, L19, L20, L21, L22, L23, L24, L25, L27, L33, L39, L40, L45, L48, L57, L60, L72, L90, L97, L98, L99, L100, L121, L122, L242, L255, L256, L580, L600, L1000, L1584, L1000000, Ln1, iN_add, iN_and, iN_or, iN_nd, iN_shl, iN_shr, iN_cl, iN_in, iN_mul, k193 w0, r193_1 w0, r193_2 w0, r193_3 w0, r193_4 w0, r193_5 w0, r193_6 w0, r193_7 w0, r193_8 w0, r193_18 w0, r193_19 w0, r193_32 w0, r193_33 w0, r193_34 w0, r193_36 w0, r193_38 w0, r193_39 w0, r193_40 w0, r193_42 w0, r193_45 w0, r193_46 w0, r193_47 w0, r193_48 w0, r193_49 w0, r193_50 w0, t179r, hr, hr2]
        exact ⟨_, rfl, FQ.c0⟩
      | true =>
        obtain ⟨m, hm, rfl, _⟩ := rg_t hr
        obtain ⟨Df, hD⟩ := Df_ex q
        obtain ⟨B, B0, Bs⟩ := up_ex (bst (fC Df d m)) (none, 0)
        obtain ⟨h1, a1, a2, a3, a4⟩ := t142 (d := d) (m := m) w H W (by omega) hD (by omega) (by omega) B0 Bs
        have w1 := w.q a2
        have hR := pR_b m (by omega)
        have hs1 : (B (pR m)).1.isSome = true := by
          obtain ⟨r, hr⟩ : ∃ r, pR m = r + 1 := ⟨pR m - 1, by omega⟩
          rw [hr, Bs]
          unfold bst
          cases e : bet (B r).1 (fC Df d m r) with
          | true => rfl
          | false =>
            simp only [Bool.false_eq_true, if_false]
            generalize (B r).1 = o at e
            cases o with
            | none => cases e
            | some y => rfl
        simp (disch := omega) only [gT, nbeq, Option.isSome_some, Option.getD_some, Bool.and_true, Bool.true_and, Bool.and_self, mX_some, bS, bN_if, bN_01, i1_01, i0_01, if_true, if_false, Bool.false_eq_true, false_and, and_false, and_true, true_and, and_self, Bool.or_false, Bool.false_or, Bool.or_true, Bool.true_or, Bool.false_and, Bool.and_false, decide_true, decide_false, L0, L1, L2, L3, L4, L5, L6, L7, L8, L9, L10, L11, L12, L13, L14, L15, L16, L17, L18, L19, L20, L21, L22, L23, L24, L25, L27, L33, L39, L40, L45, L48, L57, L60, L72, L90, L97, L98, L99, L100, L121, L122, L242, L255, L256, L580, L600, L1000, L1584, L1000000, Ln1, iN_add, iN_and, iN_or, iN_nd, iN_shl, iN_shr, iN_cl, iN_in, iN_mul, a1, iN_p, t17p]
        have no : ∀ h0, FQ h h0 → x4 ≠ jN → rg x4 m = false → ∃ h2, f280 h0 193 (iN i) (iN d) (iN m) x4 = some (jN, h2) ∧ FQ h0 h2 := fun h0 F n1 n2 => by
          have w0 := R.1.q F
          obtain ⟨h', g1, g2, g3, g4, g5⟩ := e2 _ F.co
          have w2 := g4.1
          unfold f280 f280_44
          simp (disch := omega) only [gT, nbeq, Option.isSome_some, Option.getD_some, Bool.and_true, Bool.true_and, Bool.and_self, mX_some, bS, bN_if, bN_01, i1_01, i0_01, if_true, if_false, Bool.false_eq_true, false_and, and_false, and_true, true_and, and_self, Bool.or_false, Bool.false_or, Bool.or_true, Bool.true_or, Bool.false_and, Bool.and_false, decide_true, decide_false, L0, L1, L2, L3, L4, L5, L6, L7, L8, L9, L10, L11, L12, L13, L14, L15, L16, L17, L18, L19, L20, L21, L22, L23, L24, L25, L27, L33, L39, L40, L45, L48, L57, L60, L72, L90, L97, L98, L99, L100, L121, L122, L242, L255, L256, L580, L600, L1000, L1584, L1000000, Ln1, iN_add, iN_and, iN_or, iN_nd, iN_shl, iN_shr, iN_cl, iN_in, iN_mul, k193 w0, r193_1 w0, r193_2 w0, r193_3 w0, r193_4 w0, r193_5 w0, r193_6 w0, r193_7 w0, r193_8 w0, r193_18 w0, r193_19 w0, r193_32 w0, r193_33 w0, r193_34 w0, r193_36 w0, r193_38 w0, r193_39 w0, r193_40 w0, r193_42 w0, r193_45 w0, r193_46 w0, r193_47 w0, r193_48 w0, r193_49 w0, r193_50 w0, k193 w2, r193_1 w2, r193_2 w2, r193_3 w2, r193_4 w2, r193_5 w2, r193_6 w2, r193_7 w2, r193_8 w2, r193_18 w2, r193_19 w2, r193_32 w2, r193_33 w2, r193_34 w2, r193_36 w2, r193_38 w2, r193_39 w2, r193_40 w2, r193_42 w2, r193_45 w2, r193_46 w2, r193_47 w2, r193_48 w2, r193_49 w2, r193_50 w2, t179r, g1, hr, hr2, iN_p, t17jp, n1, n2]
          exact ⟨_, rfl, FQ.c0.tr g2.qM⟩
        have yes : ∀ h0, FQ h h0 → x4 = jN ∨ rg x4 m = true → ∃ h2, f280 h0 193 (iN i) (iN d) (iN m) x4 = some (if x4 = jN then zN (B (pR m)).1 else iN (pP m (B (pR m)).2 (Int32.toNatClampNeg x4)), h2) ∧ FQ h0 h2 := fun h0 F hx => by
          have w0 := R.1.q F
          obtain ⟨h', g1, g2, g3, g4, g5⟩ := e2 _ F.co
          have w2 := g4.1
          obtain ⟨h3, c1, c2, c3⟩ := t238 (m := m) w2 (by omega)
          obtain ⟨⟨r, h4⟩, k1, k2, k3⟩ := t280l (d := d) (m := m) (x4 := x4) (g4.f8 c2) W hD (by omega) (by omega) B0 Bs hx c3
          have er : r = (if x4 = jN then zN (B (pR m)).1 else iN (pP m (B (pR m)).2 (Int32.toNatClampNeg x4))) := k3
          rw [← er]
          have hx' : (decide (x4 = jN) || rg x4 m) = true := by
            rcases hx with hx | hx
            · rw [decide_eq_true hx]; rfl
            · rw [hx, Bool.or_true]
          refine ⟨h4, ?_, (FQ.c0.tr g2.qM).tr ((fr208 c2).tr k2)⟩
          unfold f280
          simp (disch := omega) only [gT, nbeq, Option.isSome_some, Option.getD_some, Bool.and_true, Bool.true_and, Bool.and_self, mX_some, bS, bN_if, bN_01, i1_01, i0_01, if_true, if_false, Bool.false_eq_true, false_and, and_false, and_true, true_and, and_self, Bool.or_false, Bool.false_or, Bool.or_true, Bool.true_or, Bool.false_and, Bool.and_false, decide_true, decide_false, L0, L1, L2, L3, L4, L5, L6, L7, L8, L9, L10, L11, L12, L13, L14, L15, L16, L17, L18, L19, L20, L21, L22, L23, L24, L25, L27, L33, L39, L40, L45, L48, L57, L60, L72, L90, L97, L98, L99, L100, L121, L122, L242, L255, L256, L580, L600, L1000, L1584, L1000000, Ln1, iN_add, iN_and, iN_or, iN_nd, iN_shl, iN_shr, iN_cl, iN_in, iN_mul, k193 w0, r193_1 w0, r193_2 w0, r193_3 w0, r193_4 w0, r193_5 w0, r193_6 w0, r193_7 w0, r193_8 w0, r193_18 w0, r193_19 w0, r193_32 w0, r193_33 w0, r193_34 w0, r193_36 w0, r193_38 w0, r193_39 w0, r193_40 w0, r193_42 w0, r193_45 w0, r193_46 w0, r193_47 w0, r193_48 w0, r193_49 w0, r193_50 w0, k193 w2, r193_1 w2, r193_2 w2, r193_3 w2, r193_4 w2, r193_5 w2, r193_6 w2, r193_7 w2, r193_8 w2, r193_18 w2, r193_19 w2, r193_32 w2, r193_33 w2, r193_34 w2, r193_36 w2, r193_38 w2, r193_39 w2, r193_40 w2, r193_42 w2, r193_45 w2, r193_46 w2, r193_47 w2, r193_48 w2, r193_49 w2, r193_50 w2, t179r, g1, hr, hr2, iN_p, t17jp, hx', c1, k1]
        by_cases ex : x4 = jN
        · subst ex
          simp only [jj_p]
          refine ⟨_, h1, rfl, a2, fun h0 F => ?_⟩
          have := yes h0 F (Or.inl rfl)
          rw [if_pos rfl] at this
          exact this
        · simp only [ex, if_false]
          cases hg : rg x4 m with
          | false =>
            simp only [gT, nbeq, Option.isSome_some, Option.getD_some, Bool.and_true, Bool.true_and, Bool.and_self, mX_some, bS, bN_if, bN_01, i1_01, i0_01, if_true, if_false, Bool.false_eq_true, false_and, and_false, and_true, true_and, and_self, Bool.or_false, Bool.false_or, Bool.or_true, Bool.true_or, Bool.false_and, Bool.and_false, decide_true, decide_false]
            exact ⟨_, h1, rfl, a2, fun h0 F => no h0 F ex hg⟩
          | true =>
            have := fun h0 F => yes h0 F (Or.inr hg)
            simp only [ex, if_false] at this
            obtain ⟨a, ha, rfl, hla⟩ := rg_t hg
            simp (disch := omega) only [gT, nbeq, Option.isSome_some, Option.getD_some, Bool.and_true, Bool.true_and, Bool.and_self, mX_some, bS, bN_if, bN_01, i1_01, i0_01, if_true, if_false, Bool.false_eq_true, false_and, and_false, and_true, true_and, and_self, Bool.or_false, Bool.false_or, Bool.or_true, Bool.true_or, Bool.false_and, Bool.and_false, decide_true, decide_false, L0, L1, L2, L3, L4, L5, L6, L7, L8, L9, L10, L11, L12, L13, L14, L15, L16, L17, L18, L19, L20, L21, L22, L23, L24, L25, L27, L33, L39, L40, L45, L48, L57, L60, L72, L90, L97, L98, L99, L100, L121, L122, L242, L255, L256, L580, L600, L1000, L1584, L1000000, Ln1, iN_add, iN_and, iN_or, iN_nd, iN_shl, iN_shr, iN_cl, iN_in, iN_mul, k0 w1, r0_0 w1, r0_1 w1, r0_2 w1, r0_3 w1, r0_4 w1, r0_5 w1, r0_6 w1, r0_7 w1, r0_8 w1, k66 w1, r66_0 w1, r66_1 w1, r66_2 w1, r66_4 w1, k69 w1, a4 a ha hs1]
            simp (disch := omega) only [iN_cl] at this
            exact ⟨_, h1, rfl, a2, this⟩
end PB
