/-! bait: the reference's, the call -/
section BT
variable {h : mH} {q : LQ} {Df : (Nat → Nat) → Nat → Nat → AZ} {d c m : Nat}
theorem t237 (H : MoS h q) (W : QW q) (hD : ∀ P m, aD q P m (Df P m)) (hd : d ≤ 20) (hc : c < 8) (hm : m ≤ 4) : ∃ h', f237 h 193 (iN c) (iN d) (iN m) = some (bN (bM Df d c m), h') ∧ FQ h h' ∧ MoS h' q ∧ ∀ k, fz (bZ Df d c m) (pR m) 0 = some k → ∀ i, i < m → mI h' 208 i = iN (pP m k i) := by
  have hR := pR_b m (by omega)
  have w := H.1
  obtain ⟨h0, a1, a2, a3⟩ := t238 w hm
  have F0 := fr208 a2
  have H0 := H.f8 a2
  unfold f237
  simp only [gT, nbeq, Option.isSome_some, Option.getD_some, Bool.and_true, Bool.true_and, Bool.and_self, mX_some, bS, bN_if, bN_01, i1_01, i0_01, if_true, if_false, Bool.false_eq_true, false_and, and_false, and_true, true_and, and_self, Bool.or_false, Bool.false_or, Bool.or_true, Bool.true_or, Bool.false_and, Bool.and_false, decide_true, decide_false, L0, L1, L2, L3, L4, L5, L6, L7, L8, L9, L10, L11, L12, L13, L14, L15, L16, L17, L18, L19, L20, L21, L22, L23, L24, L25, L27, L33, L39, L40, L45, L48, L57, L60, L72, L90, L97, L98, L99, L100, L121, L122, L242, L255, L256, L580, L600, L1000, L1584, L1000000, Ln1, iN_add, iN_and, iN_or, iN_nd, iN_shl, iN_shr, iN_cl, iN_in, iN_mul, k193 w, r193_1 w, r193_2 w, r193_3 w, r193_4 w, r193_5 w, r193_6 w, r193_7 w, r193_8 w, r193_18 w, r193_19 w, r193_32 w, r193_33 w, r193_34 w, r193_36 w, r193_38 w, r193_39 w, r193_40 w, r193_42 w, r193_45 w, r193_46 w, r193_47 w, r193_48 w, r193_49 w, r193_50 w, a1]
  have := lp_run2 (body := f237_8 193 (iN c) (iN d) (iN m)) (R := fun k (x : Bool) z => FQ h z.2 ∧ MoS z.2 q ∧ ((x = true ∧ z.1 = iN 1 ∧ k < pR m ∧ ∀ i, i < m → mI z.2 208 i = iN (pP m k i)) ∨ (x = false ∧ z.1 = iN 0))) (Q := fun (o : Option Nat) r => r.1 = bN o.isSome ∧ FQ h r.2 ∧ MoS r.2 q ∧ ∀ k, o = some k → ∀ i, i < m → mI r.2 208 i = iN (pP m k i)) (go := fun n k x => if x = true then fz (bZ Df d c m) n k else none) (pR m) (fun n k x z hk hP => by
    obtain ⟨u1, u3⟩ := z
    obtain ⟨F, H2, ⟨rfl, z1, z3, z4⟩ | ⟨rfl, z1⟩⟩ := hP
    · have z1 : u1 = iN 1 := z1
      have F : FQ h u3 := F
      have H2 : MoS u3 q := H2
      have z4 : ∀ i, i < m → mI u3 208 i = iN (pP m k i) := z4
      subst z1
      have w2 := H2.1
      have p5 := pP_5 m (by omega) k z3
      obtain ⟨h1, b1, b2, b3⟩ := t239 (n := d) H2 W hm (fun i hi => ⟨p5 i (by omega), z4 i hi⟩) (hD (pP m k) m) (by omega)
      have w3 := b3.1.1
      obtain ⟨b4, b5⟩ := b3.r1 W
      have q2 : FQ u3 h1 := (b2.mono pV_M).qM
      have b6 : ∀ i, i < m → mI h1 208 i = iN (pP m k i) := fun i hi => (b2.i (by decide) i).trans (z4 i hi)
      cases ez : bZ Df d c m k with
      | true =>
        right
        have ef : fz (bZ Df d c m) (n + 1) k = some k := by
          unfold fz
          rw [if_pos ez]
        refine ⟨(iN 1, h1), ?_, ?_, F.tr q2, b3.1, fun j hj => ?_⟩
        · unfold f237_8
          unfold bZ at ez
          simp (disch := omega) only [gT, nbeq, Option.isSome_some, Option.getD_some, Bool.and_true, Bool.true_and, Bool.and_self, mX_some, bS, bN_if, bN_01, i1_01, i0_01, if_true, if_false, Bool.false_eq_true, false_and, and_false, and_true, true_and, and_self, Bool.or_false, Bool.false_or, Bool.or_true, Bool.true_or, Bool.false_and, Bool.and_false, decide_true, decide_false, L0, L1, L2, L3, L4, L5, L6, L7, L8, L9, L10, L11, L12, L13, L14, L15, L16, L17, L18, L19, L20, L21, L22, L23, L24, L25, L27, L33, L39, L40, L45, L48, L57, L60, L72, L90, L97, L98, L99, L100, L121, L122, L242, L255, L256, L580, L600, L1000, L1584, L1000000, Ln1, iN_add, iN_and, iN_or, iN_nd, iN_shl, iN_shr, iN_cl, iN_in, iN_mul, k193 w2, r193_1 w2, r193_2 w2, r193_3 w2, r193_4 w2, r193_5 w2, r193_6 w2, r193_7 w2, r193_8 w2, r193_18 w2, r193_19 w2, r193_32 w2, r193_33 w2, r193_34 w2, r193_36 w2, r193_38 w2, r193_39 w2, r193_40 w2, r193_42 w2, r193_45 w2, r193_46 w2, r193_47 w2, r193_48 w2, r193_49 w2, r193_50 w2, k193 w3, r193_1 w3, r193_2 w3, r193_3 w3, r193_4 w3, r193_5 w3, r193_6 w3, r193_7 w3, r193_8 w3, r193_18 w3, r193_19 w3, r193_32 w3, r193_33 w3, r193_34 w3, r193_36 w3, r193_38 w3, r193_39 w3, r193_40 w3, r193_42 w3, r193_45 w3, r193_46 w3, r193_47 w3, r193_48 w3, r193_49 w3, r193_50 w3, ieq_n, b1, b4, t221, ez]
        · show iN 1 = bN (fz (bZ Df d c m) (n + 1) k).isSome
          rw [ef]; rfl
        · have hj : fz (bZ Df d c m) (n + 1) k = some j := hj
          rw [ef] at hj
          have : k = j := Option.some.inj hj
          subst this
          exact b6
      | false =>
        left
        have ef : fz (bZ Df d c m) (n + 1) k = fz (bZ Df d c m) n (k + 1) := by
          show (if bZ Df d c m k = true then some k else fz (bZ Df d c m) n (k + 1)) = _
          rw [ez]; rfl
        have b7 : ∀ i, i < m → pP m k i < 6 ∧ mI h1 208 i = iN (pP m k i) := fun i hi => ⟨p5 i (by omega), b6 i hi⟩
        rcases t240 w3 hm b7 with ⟨c0, c1⟩ | ⟨a, h2, c0, c1, c2, c3⟩
        · have ek : ¬ k + 1 < pR m := fun hlt => by
            obtain ⟨a, ea, _⟩ := pP_s (by omega) hlt
            rw [ea] at c0; cases c0
          refine ⟨(iN 0, h1), false, ?_, ⟨F.tr q2, b3.1, Or.inr ⟨rfl, rfl⟩⟩, ?_⟩
          · unfold f237_8
            unfold bZ at ez
            simp (disch := omega) only [gT, nbeq, Option.isSome_some, Option.getD_some, Bool.and_true, Bool.true_and, Bool.and_self, mX_some, bS, bN_if, bN_01, i1_01, i0_01, if_true, if_false, Bool.false_eq_true, false_and, and_false, and_true, true_and, and_self, Bool.or_false, Bool.false_or, Bool.or_true, Bool.true_or, Bool.false_and, Bool.and_false, decide_true, decide_false, L0, L1, L2, L3, L4, L5, L6, L7, L8, L9, L10, L11, L12, L13, L14, L15, L16, L17, L18, L19, L20, L21, L22, L23, L24, L25, L27, L33, L39, L40, L45, L48, L57, L60, L72, L90, L97, L98, L99, L100, L121, L122, L242, L255, L256, L580, L600, L1000, L1584, L1000000, Ln1, iN_add, iN_and, iN_or, iN_nd, iN_shl, iN_shr, iN_cl, iN_in, iN_mul, k193 w2, r193_1 w2, r193_2 w2, r193_3 w2, r193_4 w2, r193_5 w2, r193_6 w2, r193_7 w2, r193_8 w2, r193_18 w2, r193_19 w2, r193_32 w2, r193_33 w2, r193_34 w2, r193_36 w2, r193_38 w2, r193_39 w2, r193_40 w2, r193_42 w2, r193_45 w2, r193_46 w2, r193_47 w2, r193_48 w2, r193_49 w2, r193_50 w2, k193 w3, r193_1 w3, r193_2 w3, r193_3 w3, r193_4 w3, r193_5 w3, r193_6 w3, r193_7 w3, r193_8 w3, r193_18 w3, r193_19 w3, r193_32 w3, r193_33 w3, r193_34 w3, r193_36 w3, r193_38 w3, r193_39 w3, r193_40 w3, r193_42 w3, r193_45 w3, r193_46 w3, r193_47 w3, r193_48 w3, r193_49 w3, r193_50 w3, ieq_n, b1, b4, t221, ez, c1, bN_f]
          · show fz (bZ Df d c m) (n + 1) k = none
            rw [ef, show n = 0 by omega]; rfl
        · have ek : k + 1 < pR m := by
            refine Decidable.byContradiction (fun hn => ?_)
            have := pP_e m (by omega)
            rw [show pR m - 1 = k by omega, c0] at this
            cases this
          obtain ⟨a', ea, en⟩ := pP_s (by omega) ek
          have : a = a' := Option.some.inj (c0.symm.trans ea)
          subst this
          refine ⟨(iN 1, h2), true, ?_, ⟨F.tr (q2.tr (fr208 c2)), b3.1.f8 c2, Or.inl ⟨rfl, rfl, ek, fun i hi => (c3 i hi).trans (by rw [en i hi])⟩⟩, ef⟩
          unfold f237_8
          unfold bZ at ez
          simp (disch := omega) only [gT, nbeq, Option.isSome_some, Option.getD_some, Bool.and_true, Bool.true_and, Bool.and_self, mX_some, bS, bN_if, bN_01, i1_01, i0_01, if_true, if_false, Bool.false_eq_true, false_and, and_false, and_true, true_and, and_self, Bool.or_false, Bool.false_or, Bool.or_true, Bool.true_or, Bool.false_and, Bool.and_false, decide_true, decide_false, L0, L1, L2, L3, L4, L5, L6, L7, L8, L9, L10, L11, L12, L13, L14, L15, L16, L17, L18, L19, L20, L21, L22, L23, L24, L25, L27, L33, L39, L40, L45, L48, L57, L60, L72, L90, L97, L98, L99, L100, L121, L122, L242, L255, L256, L580, L600, L1000, L1584, L1000000, Ln1, iN_add, iN_and, iN_or, iN_nd, iN_shl, iN_shr, iN_cl, iN_in, iN_mul, k193 w2, r193_1 w2, r193_2 w2, r193_3 w2, r193_4 w2, r193_5 w2, r193_6 w2, r193_7 w2, r193_8 w2, r193_18 w2, r193_19 w2, r193_32 w2, r193_33 w2, r193_34 w2, r193_36 w2, r193_38 w2, r193_39 w2, r193_40 w2, r193_42 w2, r193_45 w2, r193_46 w2, r193_47 w2, r193_48 w2, r193_49 w2, r193_50 w2, k193 w3, r193_1 w3, r193_2 w3, r193_3 w3, r193_4 w3, r193_5 w3, r193_6 w3, r193_7 w3, r193_8 w3, r193_18 w3, r193_19 w3, r193_32 w3, r193_33 w3, r193_34 w3, r193_36 w3, r193_38 w3, r193_39 w3, r193_40 w3, r193_42 w3, r193_45 w3, r193_46 w3, r193_47 w3, r193_48 w3, r193_49 w3, r193_50 w3, ieq_n, b1, b4, t221, ez, c1, bN_t]
    · have z1 : u1 = iN 0 := z1
      subst z1
      right
      refine ⟨(iN 0, u3), ?_, rfl, F, H2, fun j hj => by cases hj⟩
      unfold f237_8
      simp only [gT, nbeq, Option.isSome_some, Option.getD_some, Bool.and_true, Bool.true_and, Bool.and_self, mX_some, bS, bN_if, bN_01, i1_01, i0_01, if_true, if_false, Bool.false_eq_true, false_and, and_false, and_true, true_and, and_self, Bool.or_false, Bool.false_or, Bool.or_true, Bool.true_or, Bool.false_and, Bool.and_false, decide_true, decide_false, L0, L1, L2, L3, L4, L5, L6, L7, L8, L9, L10, L11, L12, L13, L14, L15, L16, L17, L18, L19, L20, L21, L22, L23, L24, L25, L27, L33, L39, L40, L45, L48, L57, L60, L72, L90, L97, L98, L99, L100, L121, L122, L242, L255, L256, L580, L600, L1000, L1584, L1000000, Ln1, iN_add, iN_and, iN_or, iN_nd, iN_shl, iN_shr, iN_cl, iN_in, iN_mul]) (fun x z hP => by
    obtain ⟨u1, u3⟩ := z
    obtain ⟨F, H2, ⟨rfl, z1, z3, z4⟩ | ⟨rfl, z1⟩⟩ := hP
    · omega
    · have z1 : u1 = iN 0 := z1
      subst z1
      refine ⟨(iN 0, u3), ?_, rfl, F, H2, fun j hj => by cases hj⟩
      unfold f237_8
      simp only [gT, nbeq, Option.isSome_some, Option.getD_some, Bool.and_true, Bool.true_and, Bool.and_self, mX_some, bS, bN_if, bN_01, i1_01, i0_01, if_true, if_false, Bool.false_eq_true, false_and, and_false, and_true, true_and, and_self, Bool.or_false, Bool.false_or, Bool.or_true, Bool.true_or, Bool.false_and, Bool.and_false, decide_true, decide_false, L0, L1, L2, L3, L4, L5, L6, L7, L8, L9, L10, L11, L12, L13, L14, L15, L16, L17, L18, L19, L20, L21, L22, L23, L24, L25, L27, L33, L39, L40, L45, L48, L57, L60, L72, L90, L97, L98, L99, L100, L121, L122, L242, L255, L256, L580, L600, L1000, L1584, L1000000, Ln1, iN_add, iN_and, iN_or, iN_nd, iN_shl, iN_shr, iN_cl, iN_in, iN_mul]) (by omega) (x0 := true) (s := (iN 1, h0)) ⟨F0, H0, Or.inl ⟨rfl, rfl, by omega, fun i hi => (a3 i hi).trans (by rw [pP_0 m (by omega) i (by omega)])⟩⟩
  obtain ⟨⟨r, h'⟩, r1, r2, r3, r4, r5⟩ := this
  have r2' : r = bN (bM Df d c m) := r2
  rw [r2'] at r1
  exact ⟨h', r1, r3, r4, r5⟩
theorem t236l {x4 : Int32} (H : MoS h q) (W : QW q) (hD : ∀ P m, aD q P m (Df P m)) (hd : d ≤ 20) (hc : c < 8) : ∃ r, mLoop (f236_36 193 (iN c) (iN d) x4) mFuel (iN 0, h) = some r ∧ FQ h r.2 ∧ (fz (bM Df d c) 5 0 = none → r.1 = jN) ∧ ∀ m, fz (bM Df d c) 5 0 = some m → ∃ k, fz (bZ Df d c m) (pR m) 0 = some k ∧ r.1 = cAt m (pP m k) x4 :=
  lp_run2 (body := f236_36 193 (iN c) (iN d) x4) (R := fun k (_ : Unit) z => z.1 = iN k ∧ FQ h z.2 ∧ MoS z.2 q) (Q := fun (o : Option Nat) r => FQ h r.2 ∧ (o = none → r.1 = jN) ∧ ∀ m, o = some m → ∃ k, fz (bZ Df d c m) (pR m) 0 = some k ∧ r.1 = cAt m (pP m k) x4) (go := fun n k _ => fz (bM Df d c) n k) 5 (fun n k x z hk hP => by
    obtain ⟨u1, u3⟩ := z
    obtain ⟨z1, F, H2⟩ := hP
    have z1 : u1 = iN k := z1
    have F : FQ h u3 := F
    have H2 : MoS u3 q := H2
    subst z1
    have w2 := H2.1
    obtain ⟨h2, b1, b2, b3, b4⟩ := t237 (m := k) H2 W hD hd hc (by omega)
    have w3 := b3.1
    cases em : bM Df d c k with
    | false =>
      left
      refine ⟨(iN (k + 1), h2), (), ?_, ⟨rfl, F.tr b2, b3⟩, ?_⟩
      · unfold f236_36
        simp (disch := omega) only [gT, nbeq, Option.isSome_some, Option.getD_some, Bool.and_true, Bool.true_and, Bool.and_self, mX_some, bS, bN_if, bN_01, i1_01, i0_01, if_true, if_false, Bool.false_eq_true, false_and, and_false, and_true, true_and, and_self, Bool.or_false, Bool.false_or, Bool.or_true, Bool.true_or, Bool.false_and, Bool.and_false, decide_true, decide_false, L0, L1, L2, L3, L4, L5, L6, L7, L8, L9, L10, L11, L12, L13, L14, L15, L16, L17, L18, L19, L20, L21, L22, L23, L24, L25, L27, L33, L39, L40, L45, L48, L57, L60, L72, L90, L97, L98, L99, L100, L121, L122, L242, L255, L256, L580, L600, L1000, L1584, L1000000, Ln1, iN_add, iN_and, iN_or, iN_nd, iN_shl, iN_shr, iN_cl, iN_in, iN_mul, k193 w2, r193_1 w2, r193_2 w2, r193_3 w2, r193_4 w2, r193_5 w2, r193_6 w2, r193_7 w2, r193_8 w2, r193_18 w2, r193_19 w2, r193_32 w2, r193_33 w2, r193_34 w2, r193_36 w2, r193_38 w2, r193_39 w2, r193_40 w2, r193_42 w2, r193_45 w2, r193_46 w2, r193_47 w2, r193_48 w2, r193_49 w2, r193_50 w2, ilt_n, b1, em]
      · show (if bM Df d c k = true then some k else fz (bM Df d c) n (k + 1)) = _
        rw [em]; rfl
    | true =>
      right
      have e : fz (bM Df d c) (n + 1) k = some k := by
        show (if bM Df d c k = true then some k else fz (bM Df d c) n (k + 1)) = _
        rw [if_pos em]
      obtain ⟨j, ej⟩ : ∃ j, fz (bZ Df d c k) (pR k) 0 = some j := by
        unfold bM at em
        exact Option.isSome_iff_exists.1 em
      have b5 := b4 j ej
      refine ⟨(cAt k (pP k j) x4, h2), ?_, F.tr b2, fun ho => ?_, fun m hm => ?_⟩
      · unfold f236_36 f236_59 f236_104 cAt
        simp (disch := omega) only [gT, nbeq, Option.isSome_some, Option.getD_some, Bool.and_true, Bool.true_and, Bool.and_self, mX_some, bS, bN_if, bN_01, i1_01, i0_01, if_true, if_false, Bool.false_eq_true, false_and, and_false, and_true, true_and, and_self, Bool.or_false, Bool.false_or, Bool.or_true, Bool.true_or, Bool.false_and, Bool.and_false, decide_true, decide_false, L0, L1, L2, L3, L4, L5, L6, L7, L8, L9, L10, L11, L12, L13, L14, L15, L16, L17, L18, L19, L20, L21, L22, L23, L24, L25, L27, L33, L39, L40, L45, L48, L57, L60, L72, L90, L97, L98, L99, L100, L121, L122, L242, L255, L256, L580, L600, L1000, L1584, L1000000, Ln1, iN_add, iN_and, iN_or, iN_nd, iN_shl, iN_shr, iN_cl, iN_in, iN_mul, k193 w2, r193_1 w2, r193_2 w2, r193_3 w2, r193_4 w2, r193_5 w2, r193_6 w2, r193_7 w2, r193_8 w2, r193_18 w2, r193_19 w2, r193_32 w2, r193_33 w2, r193_34 w2, r193_36 w2, r193_38 w2, r193_39 w2, r193_40 w2, r193_42 w2, r193_45 w2, r193_46 w2, r193_47 w2, r193_48 w2, r193_49 w2, r193_50 w2, k193 w3, r193_1 w3, r193_2 w3, r193_3 w3, r193_4 w3, r193_5 w3, r193_6 w3, r193_7 w3, r193_8 w3, r193_18 w3, r193_19 w3, r193_32 w3, r193_33 w3, r193_34 w3, r193_36 w3, r193_38 w3, r193_39 w3, r193_40 w3, r193_42 w3, r193_45 w3, r193_46 w3, r193_47 w3, r193_48 w3, r193_49 w3, r193_50 w3, k208 w3, ilt_n, ile_p, b1, em, iN_p, t179p]
        by_cases ex : x4 = jN
        · simp only [ex, if_true, gT, nbeq, Option.isSome_some, Option.getD_some, Bool.and_true, Bool.true_and, Bool.and_self, mX_some, bS, bN_if, bN_01, i1_01, i0_01, if_true, if_false, Bool.false_eq_true, false_and, and_false, and_true, true_and, and_self, Bool.or_false, Bool.false_or, Bool.or_true, Bool.true_or, Bool.false_and, Bool.and_false, decide_true, decide_false]
        · simp only [ex, if_false, gT, nbeq, Option.isSome_some, Option.getD_some, Bool.and_true, Bool.true_and, Bool.and_self, mX_some, bS, bN_if, bN_01, i1_01, i0_01, if_true, if_false, Bool.false_eq_true, false_and, and_false, and_true, true_and, and_self, Bool.or_false, Bool.false_or, Bool.or_true, Bool.true_or, Bool.false_and, Bool.and_false, decide_true, decide_false]
          cases hg : rg x4 k with
          | false => simp only [gT, nbeq, Option.isSome_some, Option.getD_some, Bool.and_true, Bool.true_and, Bool.and_self, mX_some, bS, bN_if, bN_01, i1_01, i0_01, if_true, if_false, Bool.false_eq_true, false_and, and_false, and_true, true_and, and_self, Bool.or_false, Bool.false_or, Bool.or_true, Bool.true_or, Bool.false_and, Bool.and_false, decide_true, decide_false]
          | true =>
            obtain ⟨a, ha, rfl, hla⟩ := rg_t hg
            simp (disch := omega) only [gT, nbeq, Option.isSome_some, Option.getD_some, Bool.and_true, Bool.true_and, Bool.and_self, mX_some, bS, bN_if, bN_01, i1_01, i0_01, if_true, if_false, Bool.false_eq_true, false_and, and_false, and_true, true_and, and_self, Bool.or_false, Bool.false_or, Bool.or_true, Bool.true_or, Bool.false_and, Bool.and_false, decide_true, decide_false, L0, L1, L2, L3, L4, L5, L6, L7, L8, L9, L10, L11, L12, L13, L14, L15, L16, L17, L18, L19, L20, L21, L22, L23, L24, L25, L27, L33, L39, L40, L45, L48, L57, L60, L72, L90, L97, L98, L99, L100, L121, L122, L242, L255, L256, L580, L600, L1000, L1584, L1000000, Ln1, iN_add, iN_and, iN_or, iN_nd, iN_shl, iN_shr, iN_cl, iN_in, iN_mul, b5 a ha]
      · have ho : fz (bM Df d c) (n + 1) k = none := ho
        rw [e] at ho; cases ho
      · have hm : fz (bM Df d c) (n + 1) k = some m := hm
        rw [e] at hm
        have : k = m := Option.some.inj hm
        subst this
        exact ⟨j, ej, rfl⟩) (fun x z hP => by
    obtain ⟨u1, u3⟩ := z
    obtain ⟨z1, F, H2⟩ := hP
    have z1 : u1 = iN 5 := z1
    subst z1
    refine ⟨(jN, u3), ?_, F, fun _ => rfl, fun m hm => by cases hm⟩
    unfold f236_36 f236_59 f236_104
    simp (disch := omega) only [gT, nbeq, Option.isSome_some, Option.getD_some, Bool.and_true, Bool.true_and, Bool.and_self, mX_some, bS, bN_if, bN_01, i1_01, i0_01, if_true, if_false, Bool.false_eq_true, false_and, and_false, and_true, true_and, and_self, Bool.or_false, Bool.false_or, Bool.or_true, Bool.true_or, Bool.false_and, Bool.and_false, decide_true, decide_false, L0, L1, L2, L3, L4, L5, L6, L7, L8, L9, L10, L11, L12, L13, L14, L15, L16, L17, L18, L19, L20, L21, L22, L23, L24, L25, L27, L33, L39, L40, L45, L48, L57, L60, L72, L90, L97, L98, L99, L100, L121, L122, L242, L255, L256, L580, L600, L1000, L1584, L1000000, Ln1, iN_add, iN_and, iN_or, iN_nd, iN_shl, iN_shr, iN_cl, iN_in, iN_mul, ilt_p, ile_n]) (by omega) (x0 := ()) (s := (iN 0, h)) ⟨rfl, FQ.rfl, H⟩
end BT
section PB
variable {h : mH}
theorem c_bait (R : Rel h) (x1 x2 x3 x4 : Int32) : ∃ v h1, f89 h 0 x1 x2 x3 x4 = some (v, h1) ∧ FQ h h1 ∧ ∀ h0, FQ h h0 → ∃ h2, f236 h0 193 x1 x2 x3 x4 = some (v, h2) ∧ FQ h0 h2 := by
  have w := R.1
  unfold f89 f89_34 f89_73
  simp only [gT, nbeq, Option.isSome_some, Option.getD_some, Bool.and_true, Bool.true_and, Bool.and_self, mX_some, bS, bN_if, bN_01, i1_01, i0_01, if_true, if_false, Bool.false_eq_true, false_and, and_false, and_true, true_and, and_self, Bool.or_false, Bool.false_or, Bool.or_true, Bool.true_or, Bool.false_and, Bool.and_false, decide_true, decide_false, k0 w, r0_0 w, r0_1 w, r0_2 w, r0_3 w, r0_4 w, r0_5 w, r0_6 w, r0_7 w, r0_8 w, k1 w, r1_0 w, r1_1 w, r1_2 w, r1_3 w, r1_4 w]
  rcases R.pick x1 with ⟨e1, e2⟩ | ⟨i, q, hi, rfl, W, H, e1, e2⟩
  · simp only [gT, nbeq, Option.isSome_some, Option.getD_some, Bool.and_true, Bool.true_and, Bool.and_self, mX_some, bS, bN_if, bN_01, i1_01, i0_01, if_true, if_false, Bool.false_eq_true, false_and, and_false, and_true, true_and, and_self, Bool.or_false, Bool.false_or, Bool.or_true, Bool.true_or, Bool.false_and, Bool.and_false, decide_true, decide_false, L0, L1, L2, L3, L4, L5, L6, L7, L8, L9, L10, L11, L12, L13, L14, L15, L16, L17, L18, L19, L20, L21, L22, L23, L24, L25, L27, L33, L39, L40, L45, L48, L57, L60, L72, L90, L97, L98, L99, L100, L121, L122, L242, L255, L256, L580, L600, L1000, L1584, L1000000, Ln1, iN_add, iN_and, iN_or, iN_nd, iN_shl, iN_shr, iN_cl, iN_in, iN_mul, e1]
    refine ⟨_, _, rfl, FQ.rfl, fun h0 F => ?_⟩
    have w0 := R.1.q F
    unfold f236 f236_31
    simp (disch := omega) only [gT, nbeq, Option.isSome_some, Option.getD_some, Bool.and_true, Bool.true_and, Bool.and_self, mX_some, bS, bN_if, bN_01, i1_01, i0_01, if_true, if_false, Bool.false_eq_true, false_and, and_false, and_true, true_and, and_self, Bool.or_false, Bool.false_or, Bool.or_true, Bool.true_or, Bool.false_and, Bool.and_false, decide_true, decide_false, L0, L1, L2, L3, L4, L5, L6, L7, L8, L9, L10, L11, L12, L13, L14, L15, L16, L17, L18, L19, L20, L21, L22, L23, L24, L25, L27, L33, L39, L40, L45, L48, L57, L60, L72, L90, L97, L98, L99, L100, L121, L122, L242, L255, L256, L580, L600, L1000, L1584, L1000000, Ln1, iN_add, iN_and, iN_or, iN_nd, iN_shl, iN_shr, iN_cl, iN_in, iN_mul, k193 w0, r193_1 w0, r193_2 w0, r193_3 w0, r193_4 w0, r193_5 w0, r193_6 w0, r193_7 w0, r193_8 w0, r193_18 w0, r193_19 w0, r193_32 w0, r193_33 w0, r193_34 w0, r193_36 w0, r193_38 w0, r193_39 w0, r193_40 w0, r193_42 w0, r193_45 w0, r193_46 w0, r193_47 w0, r193_48 w0, r193_49 w0, r193_50 w0, t179r, e2 _ F.co]
    cases rg x3 (20 + 1) <;> simp only [gT, nbeq, Option.isSome_some, Option.getD_some, Bool.and_true, Bool.true_and, Bool.and_self, mX_some, bS, bN_if, bN_01, i1_01, i0_01, if_true, if_false, Bool.false_eq_true, false_and, and_false, and_true, true_and, and_self, Bool.or_false, Bool.false_or, Bool.or_true, Bool.true_or, Bool.false_and, Bool.and_false, decide_true, decide_false] <;> exact ⟨_, rfl, FQ.c0⟩
  · have hn := W.1.1
    simp (disch := omega) only [gT, nbeq, Option.isSome_some, Option.getD_some, Bool.and_true, Bool.true_and, Bool.and_self, mX_some, bS, bN_if, bN_01, i1_01, i0_01, if_true, if_false, Bool.false_eq_true, false_and, and_false, and_true, true_and, and_self, Bool.or_false, Bool.false_or, Bool.or_true, Bool.true_or, Bool.false_and, Bool.and_false, decide_true, decide_false, L0, L1, L2, L3, L4, L5, L6, L7, L8, L9, L10, L11, L12, L13, L14, L15, L16, L17, L18, L19, L20, L21, L22, L23, L24, L25, L27, L33, L39, L40, L45, L48, L57, L60, L72, L90, L97, L98, L99, L100, L121, L122, L242, L255, L256, L580, L600, L1000, L1584, L1000000, Ln1, iN_add, iN_and, iN_or, iN_nd, iN_shl, iN_shr, iN_cl, iN_in, iN_mul, k0 w, r0_0 w, r0_1 w, r0_2 w, r0_3 w, r0_4 w, r0_5 w, r0_6 w, r0_7 w, r0_8 w, k66 w, r66_0 w, r66_1 w, r66_2 w, r66_4 w, e1, t17r, H.k, t56 H W]
    cases hr2 : rg x2 (q 0 0) with
    | false =>
      simp only [gT, nbeq, Option.isSome_some, Option.getD_some, Bool.and_true, Bool.true_and, Bool.and_self, mX_some, bS, bN_if, bN_01, i1_01, i0_01, if_true, if_false, Bool.false_eq_true, false_and, and_false, and_true, true_and, and_self, Bool.or_false, Bool.false_or, Bool.or_true, Bool.true_or, Bool.false_and, Bool.and_false, decide_true, decide_false]
      refine ⟨_, _, rfl, FQ.rfl, fun h0 F => ?_⟩
      have w0 := R.1.q F
      obtain ⟨h', g1, g2, g3, g4, g5⟩ := e2 _ F.co
      have w2 := g4.1
      unfold f236 f236_31
      simp (disch := omega) only [gT, nbeq, Option.isSome_some, Option.getD_some, Bool.and_true, Bool.true_and, Bool.and_self, mX_some, bS, bN_if, bN_01, i1_01, i0_01, if_true, if_false, Bool.false_eq_true, false_and, and_false, and_true, true_and, and_self, Bool.or_false, Bool.false_or, Bool.or_true, Bool.true_or, Bool.false_and, Bool.and_false, decide_true, decide_false, L0, L1, L2, L3, L4, L5, L6, L7, L8, L9, L10, L11, L12, L13, L14, L15, L16, L17, L18, L19, L20, L21, L22, L23, L24, L25, L27, L33, L39, L40, L45, L48, L57, L60, L72, L90, L97, L98, L99, L100, L121, L122, L242, L255, L256, L580, L600, L1000, L1584, L1000000, Ln1, iN_add, iN_and, iN_or, iN_nd, iN_shl, iN_shr, iN_cl, iN_in, iN_mul, k193 w0, r193_1 w0, r193_2 w0, r193_3 w0, r193_4 w0, r193_5 w0, r193_6 w0, r193_7 w0, r193_8 w0, r193_18 w0, r193_19 w0, r193_32 w0, r193_33 w0, r193_34 w0, r193_36 w0, r193_38 w0, r193_39 w0, r193_40 w0, r193_42 w0, r193_45 w0, r193_46 w0, r193_47 w0, r193_48 w0, r193_49 w0, r193_50 w0, k193 w2, r193_1 w2, r193_2 w2, r193_3 w2, r193_4 w2, r193_5 w2, r193_6 w2, r193_7 w2, r193_8 w2, r193_18 w2, r193_19 w2, r193_32 w2, r193_33 w2, r193_34 w2, r193_36 w2, r193_38 w2, r193_39 w2, r193_40 w2, r193_42 w2, r193_45 w2, r193_46 w2, r193_47 w2, r193_48 w2, r193_49 w2, r193_50 w2, t179r, g1, t218 g4 W, hr2]
      cases rg x3 (20 + 1) <;> simp only [gT, nbeq, Option.isSome_some, Option.getD_some, Bool.and_true, Bool.true_and, Bool.and_self, mX_some, bS, bN_if, bN_01, i1_01, i0_01, if_true, if_false, Bool.false_eq_true, false_and, and_false, and_true, true_and, and_self, Bool.or_false, Bool.false_or, Bool.or_true, Bool.true_or, Bool.false_and, Bool.and_false, decide_true, decide_false]
      · exact ⟨_, rfl, FQ.c0⟩
      · exact ⟨_, rfl, FQ.c0.tr g2.qM⟩
    | true =>
      obtain ⟨c, hc, rfl, _⟩ := rg_t hr2
      simp only [gT, nbeq, Option.isSome_some, Option.getD_some, Bool.and_true, Bool.true_and, Bool.and_self, mX_some, bS, bN_if, bN_01, i1_01, i0_01, if_true, if_false, Bool.false_eq_true, false_and, and_false, and_true, true_and, and_self, Bool.or_false, Bool.false_or, Bool.or_true, Bool.true_or, Bool.false_and, Bool.and_false, decide_true, decide_false]
      cases hr : rg x3 (20 + 1) with
      | false =>
        simp only [gT, nbeq, Option.isSome_some, Option.getD_some, Bool.and_true, Bool.true_and, Bool.and_self, mX_some, bS, bN_if, bN_01, i1_01, i0_01, if_true, if_false, Bool.false_eq_true, false_and, and_false, and_true, true_and, and_self, Bool.or_false, Bool.false_or, Bool.or_true, Bool.true_or, Bool.false_and, Bool.and_false, decide_true, decide_false]
        refine ⟨_, _, rfl, FQ.rfl, fun h0 F => ?_⟩
        have w0 := R.1.q F
        unfold f236 f236_31
        simp (disch := omega) only [gT, nbeq, Option.isSome_some, Option.getD_some, Bool.and_true, Bool.true_and, Bool.and_self, mX_some, bS, bN_if, bN_01, i1_01, i0_01, if_true, if_false, Bool.false_eq_true, false_and, and_false, and_true, true_and, and_self, Bool.or_false, Bool.false_or, Bool.or_true, Bool.true_or, Bool.false_and, Bool.and_false, decide_true, decide_false, L0, L1, L2, L3, L4, L5, L6, L7, L8, L9, L10, L11, L12, L13, L14, L15, L16, L17, L18, L19, L20, L21, L22, L23, L24, L25, L27, L33, L39, L40, L45, L48, L57, L60, L72, L90, L97, L98, L99, L100, L121, L122, L242, L255, L256, L580, L600, L1000, L1584, L1000000, Ln1, iN_add, iN_and, iN_or, iN_nd, iN_shl, iN_shr, iN_cl, iN_in, iN_mul, k193 w0, r193_1 w0, r193_2 w0, r193_3 w0, r193_4 w0, r193_5 w0, r193_6 w0, r193_7 w0, r193_8 w0, r193_18 w0, r193_19 w0, r193_32 w0, r193_33 w0, r193_34 w0, r193_36 w0, r193_38 w0, r193_39 w0, r193_40 w0, r193_42 w0, r193_45 w0, r193_46 w0, r193_47 w0, r193_48 w0, r193_49 w0, r193_50 w0, t179r, hr]
        exact ⟨_, rfl, FQ.c0⟩
      | true =>
        obtain ⟨d, hd, rfl, _⟩ := rg_t hr
        obtain ⟨Df, hD⟩ := Df_ex q
        obtain ⟨h1, a1, a2, a3⟩ := t90 (d := d) (c := c) w H W (by omega) hD (by omega) (by omega)
        have w1 := w.q a2
        have ref : ∀ (v : Int32) h0, FQ h h0 → (∀ r : Int32, ((fz (bM Df d c) 5 0 = none → r = jN) ∧ ∀ m, fz (bM Df d c) 5 0 = some m → ∃ k, fz (bZ Df d c m) (pR m) 0 = some k ∧ r = cAt m (pP m k) x4) → r = v) → ∃ h2, f236 h0 193 (iN i) (iN c) (iN d) x4 = some (v, h2) ∧ FQ h0 h2 := fun v h0 F hv => by
          have w0 := R.1.q F
          obtain ⟨h', g1, g2, g3, g4, g5⟩ := e2 _ F.co
          have w2 := g4.1
          obtain ⟨⟨r, h3⟩, c1, c2, c3⟩ := t236l (d := d) (c := c) (x4 := x4) g4 W hD (by omega) (by omega)
          have er : r = v := hv r c3
          subst er
          refine ⟨h3, ?_, (FQ.c0.tr g2.qM).tr c2⟩
          unfold f236
          simp (disch := omega) only [gT, nbeq, Option.isSome_some, Option.getD_some, Bool.and_true, Bool.true_and, Bool.and_self, mX_some, bS, bN_if, bN_01, i1_01, i0_01, if_true, if_false, Bool.false_eq_true, false_and, and_false, and_true, true_and, and_self, Bool.or_false, Bool.false_or, Bool.or_true, Bool.true_or, Bool.false_and, Bool.and_false, decide_true, decide_false, L0, L1, L2, L3, L4, L5, L6, L7, L8, L9, L10, L11, L12, L13, L14, L15, L16, L17, L18, L19, L20, L21, L22, L23, L24, L25, L27, L33, L39, L40, L45, L48, L57, L60, L72, L90, L97, L98, L99, L100, L121, L122, L242, L255, L256, L580, L600, L1000, L1584, L1000000, Ln1, iN_add, iN_and, iN_or, iN_nd, iN_shl, iN_shr, iN_cl, iN_in, iN_mul, k193 w0, r193_1 w0, r193_2 w0, r193_3 w0, r193_4 w0, r193_5 w0, r193_6 w0, r193_7 w0, r193_8 w0, r193_18 w0, r193_19 w0, r193_32 w0, r193_33 w0, r193_34 w0, r193_36 w0, r193_38 w0, r193_39 w0, r193_40 w0, r193_42 w0, r193_45 w0, r193_46 w0, r193_47 w0, r193_48 w0, r193_49 w0, r193_50 w0, k193 w2, r193_1 w2, r193_2 w2, r193_3 w2, r193_4 w2, r193_5 w2, r193_6 w2, r193_7 w2, r193_8 w2, r193_18 w2, r193_19 w2, r193_32 w2, r193_33 w2, r193_34 w2, r193_36 w2, r193_38 w2, r193_39 w2, r193_40 w2, r193_42 w2, r193_45 w2, r193_46 w2, r193_47 w2, r193_48 w2, r193_49 w2, r193_50 w2, t179r, g1, hr, t218 g4 W, hr2, c1]
        simp only [gT, nbeq, Option.isSome_some, Option.getD_some, Bool.and_true, Bool.true_and, Bool.and_self, mX_some, bS, bN_if, bN_01, i1_01, i0_01, if_true, if_false, Bool.false_eq_true, false_and, and_false, and_true, true_and, and_self, Bool.or_false, Bool.false_or, Bool.or_true, Bool.true_or, Bool.false_and, Bool.and_false, decide_true, decide_false, a1]
        cases eo : fz (bM Df d c) 5 0 with
        | none =>
          simp only [zN_none, jj_p]
          refine ⟨jN, h1, rfl, a2, fun h0 F => ref jN h0 F (fun r hr => hr.1 eo)⟩
        | some m =>
          obtain ⟨hm, k, ek, ep⟩ := a3 m eo
          have ev := t88 (r := pP m k) (k68 w1) (by omega) hm ep x4
          simp (disch := omega) only [zN_some, ij_n, gT, nbeq, Option.isSome_some, Option.getD_some, Bool.and_true, Bool.true_and, Bool.and_self, mX_some, bS, bN_if, bN_01, i1_01, i0_01, if_true, if_false, Bool.false_eq_true, false_and, and_false, and_true, true_and, and_self, Bool.or_false, Bool.false_or, Bool.or_true, Bool.true_or, Bool.false_and, Bool.and_false, decide_true, decide_false, k0 w1, r0_0 w1, r0_1 w1, r0_2 w1, r0_3 w1, r0_4 w1, r0_5 w1, r0_6 w1, r0_7 w1, r0_8 w1, k66 w1, r66_0 w1, r66_1 w1, r66_2 w1, r66_4 w1, ev]
          refine ⟨_, h1, rfl, a2, fun h0 F => ref _ h0 F (fun r hr => ?_)⟩
          obtain ⟨k', ek', er⟩ := hr.2 m eo
          have : k' = k := Option.some.inj (ek'.symm.trans ek)
          rw [er, this]
end PB
