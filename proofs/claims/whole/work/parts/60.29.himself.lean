/-! himself: the call -/
def FZ (h h' : mH) : Prop := h'.1 = h.1 ∧ (∀ b j, sp b j = false → mR h' b j = mR h b j) ∧ ∀ b, pZ b = false → ∀ j, mI h' b j = mI h b j
theorem FZ.rfl {h : mH} : FZ h h := ⟨Eq.refl _, fun _ _ _ => Eq.refl _, fun _ _ _ => Eq.refl _⟩
theorem FZ.tr {h h' h2 : mH} (x : FZ h h') (y : FZ h' h2) : FZ h h2 := ⟨y.1.trans x.1, fun a j p => (y.2.1 a j p).trans (x.2.1 a j p), fun a p j => (y.2.2 a p j).trans (x.2.2 a p j)⟩
theorem Fr.z {h h' : mH} (x : Fr pZ h h') : FZ h h' := ⟨x.1, fun a j _ => x.r a j, fun a p j => x.i p j⟩
theorem FB.z {la : Nat} {h h' : mH} (x : FB 70 la h h') : FZ h h' := ⟨x.1, fun a j hs => x.2.1 a j (fun e => by rw [e.1, e.2] at hs; exact absurd hs (by decide)), fun a p j => x.2.2.2 a (by cases e : pL 70 a with
  | false => rfl
  | true => rw [pZ_L a e] at p; cases p) j⟩
theorem FZ.q {h h' : mH} (x : FZ h h') : FQ h h' := ⟨x.1, x.2.1, fun a p _ j => x.2.2 a (by cases e : pZ a with
  | false => rfl
  | true => rw [pZ_C a e] at p; cases p) j⟩
/-- the first m of the PIES at the start -/
def sPs (q : LQ) (P : Nat → Nat) (m : Nat) : LSt := up (fun i s => sPie s (P i)) m (s0 q)
theorem sPs_f (q : LQ) (P : Nat → Nat) (m : Nat) : sLf (sPs q P m) = q 0 2 ∧ sCd (sPs q P m) = false ∧ sSk (sPs q P m) = 0 ∧ sRd (sPs q P m) = 0 := by
  unfold sPs
  exact up_inv (f := fun i s => sPie s (P i)) (I := fun _ s => sLf s = q 0 2 ∧ sCd s = false ∧ sSk s = 0 ∧ sRd s = 0) (n := m) (fun k s _ hs => hs) ⟨rfl, rfl, rfl, rfl⟩ m (Nat.le_refl _)
theorem co_pm (q : LQ) (P : Nat → Nat) (m : Nat) : co (sPs q P m) = co (mor q (sPs q P m)) := by
  obtain ⟨h1, h2, h3, h4⟩ := sPs_f q P m
  show (sLk (sPs q P m), sRd (sPs q P m), sSk (sPs q P m), sLf (sPs q P m), sCd (sPs q P m)) = (sLk (sPs q P m), sRd (sPs q P m), sSk (sPs q P m), q 0 2, false)
  rw [h1, h2]
def aD (q : LQ) (P : Nat → Nat) (m : Nat) (D : Nat → AZ) : Prop := D 0 = (sPs q P m, 0, fun _ => 0) ∧ ∀ i, D (i + 1) = dgo q 8 (amor q (D i))
theorem aD_ex (q : LQ) (P : Nat → Nat) (m : Nat) : ∃ D, aD q P m D := itr_ex (fun x => dgo q 8 (amor q x)) (sPs q P m, 0, fun _ => 0)
section AL
variable {h : mH} {la n m : Nat} {q : LQ} {D : Nat → AZ} {P : Nat → Nat}
theorem t84 (w : Wd h) (H : LibS h la q) (W : QW q) (p : la + 7 ≤ 66) (hm : m ≤ 4) (hp : ∀ i, i < m → P i < 6 ∧ mI h 68 i = iN (P i)) (A : aD q P m D) (hn : n < 1000) : ∃ h', f84 h 66 la (iN n) (iN m) = some ((), h') ∧ FZ h h' ∧ AL h' la q (amor q (D n)) ∧ ∃ T, mI h' 66 5 = iN T ∧ lastD D n T := by
  obtain ⟨D0, Ds⟩ := A
  obtain ⟨h1, b1, b2, b3, _⟩ := t63 w.l70 H (by omega)
  have Lf := b2.lf w.l70
  have w1 : Wd h1 := w.q b2.z.q
  have H1 : LibS h1 la q := H.st (fun i hi => b2.st (pL_n (by omega) (by omega) (by omega)) (by omega))
  unfold f84
  simp only [gT, nbeq, Option.isSome_some, Option.getD_some, Bool.and_true, Bool.true_and, Bool.and_self, mX_some, bS, bN_if, bN_01, i1_01, i0_01, if_true, if_false, Bool.false_eq_true, false_and, and_false, and_true, true_and, and_self, Bool.or_false, Bool.false_or, Bool.or_true, Bool.true_or, Bool.false_and, Bool.and_false, decide_true, decide_false, k66 w, r66_0 w, r66_1 w, r66_2 w, r66_4 w, k70 w, r70_0 w, r70_2 w, b1]
  have := lp_inv (body := f84_11 66 la (iN n) (iN m)) (P := fun i z => z.1 = iN i ∧ Fr pZ h1 z.2 ∧ CLS z.2 70 (sPs q P i) ∧ SW q (sPs q P i)) (Q := fun r => FZ h r.2 ∧ AL r.2 la q (amor q (D n)) ∧ ∃ T, mI r.2 66 5 = iN T ∧ lastD D n T) m (fun i z hi hP => by
    obtain ⟨u1, u3⟩ := z
    obtain ⟨z1, z3, z4, z5⟩ := hP
    have z1 : u1 = iN i := z1
    have z3 : Fr pZ h1 u3 := z3
    have z4 : CLS u3 70 (sPs q P i) := z4
    subst z1
    have w2 := w1.fr z3
    have e := hp i hi
    have e2 : mI u3 68 i = iN (P i) := (z3.i (by decide) i).trans ((b2.2.2.2 68 (by decide) i).trans e.2)
    obtain ⟨h2, c1, c2, c3, c4, c5⟩ := t73 (t := P i) (LfS.fr Lf z3) z4 z5 e.1
    left
    refine ⟨(iN (i + 1), h2), ?_, rfl, z3.tr (c2.mono pZ_L), c3, c4⟩
    unfold f84_11
    simp (disch := omega) only [gT, nbeq, Option.isSome_some, Option.getD_some, Bool.and_true, Bool.true_and, Bool.and_self, mX_some, bS, bN_if, bN_01, i1_01, i0_01, if_true, if_false, Bool.false_eq_true, false_and, and_false, and_true, true_and, and_self, Bool.or_false, Bool.false_or, Bool.or_true, Bool.true_or, Bool.false_and, Bool.and_false, decide_true, decide_false, L0, L1, L2, L3, L4, L5, L6, L7, L8, L9, L10, L11, L12, L13, L14, L15, L16, L17, L18, L19, L20, L21, L22, L23, L24, L25, L27, L33, L39, L40, L45, L48, L57, L60, L72, L90, L97, L98, L99, L100, L121, L122, L242, L255, L256, L580, L600, L1000, L1584, L1000000, Ln1, iN_add, iN_and, iN_or, iN_nd, iN_shl, iN_shr, iN_cl, iN_in, iN_mul, k66 w2, r66_0 w2, r66_1 w2, r66_2 w2, r66_4 w2, k68 w2, k70 w2, r70_0 w2, r70_2 w2, ile_n, e2, c1]) (fun z hP => by
    obtain ⟨u1, u3⟩ := z
    obtain ⟨z1, z3, z4, z5⟩ := hP
    have z1 : u1 = iN m := z1
    have z3 : Fr pZ h1 u3 := z3
    have z4 : CLS u3 70 (sPs q P m) := z4
    subst z1
    obtain ⟨h2, c1, c2, c3, c4⟩ := t84_44 (n := n) (D := D) (w1.fr z3) (LfS.fr Lf z3) (H1.fr z3 (fun i hi => pZ_n _ (by omega))) W p z4 z5 (by rw [D0]; exact co_pm q P m) (by rw [D0]) Ds hn
    refine ⟨((), h2), ?_, b2.z.tr (z3.z.tr c2.z), c3, c4⟩
    unfold f84_11
    simp (disch := omega) only [gT, nbeq, Option.isSome_some, Option.getD_some, Bool.and_true, Bool.true_and, Bool.and_self, mX_some, bS, bN_if, bN_01, i1_01, i0_01, if_true, if_false, Bool.false_eq_true, false_and, and_false, and_true, true_and, and_self, Bool.or_false, Bool.false_or, Bool.or_true, Bool.true_or, Bool.false_and, Bool.and_false, decide_true, decide_false, L0, L1, L2, L3, L4, L5, L6, L7, L8, L9, L10, L11, L12, L13, L14, L15, L16, L17, L18, L19, L20, L21, L22, L23, L24, L25, L27, L33, L39, L40, L45, L48, L57, L60, L72, L90, L97, L98, L99, L100, L121, L122, L242, L255, L256, L580, L600, L1000, L1584, L1000000, Ln1, iN_add, iN_and, iN_or, iN_nd, iN_shl, iN_shr, iN_cl, iN_in, iN_mul, ile_p, c1]) (by omega) (s := (iN 0, h1)) ⟨rfl, Fr.rfl, b3, SW0 W⟩
  obtain ⟨⟨⟨⟩, h'⟩, r1, r2, r3, r4⟩ := this
  exact ⟨h', r1, r2, r3, r4⟩
end AL
/-- the many, or the one at a place -/
def cAt (m : Nat) (r : Nat → Nat) (x : Int32) : Int32 := if x = jN then iN m else if rg x m = true then iN (r (Int32.toNatClampNeg x)) else jN
theorem t88 {h : mH} {a m : Nat} {r : Nat → Nat} {n : Nat} (k : mK h a = (100, n)) (hn : n < 1000) (hm : m ≤ n) (hr : ∀ j, j < m → mI h a j = iN (r j)) (x : Int32) : f88 h a (iN m) x = some (cAt m r x) := by
  unfold f88 f88_28 f88_29 cAt
  simp only [gT, nbeq, Option.isSome_some, Option.getD_some, Bool.and_true, Bool.true_and, Bool.and_self, mX_some, bS, bN_if, bN_01, i1_01, i0_01, if_true, if_false, Bool.false_eq_true, false_and, and_false, and_true, true_and, and_self, Bool.or_false, Bool.false_or, Bool.or_true, Bool.true_or, Bool.false_and, Bool.and_false, decide_true, decide_false, L0, L1, L2, L3, L4, L5, L6, L7, L8, L9, L10, L11, L12, L13, L14, L15, L16, L17, L18, L19, L20, L21, L22, L23, L24, L25, L27, L33, L39, L40, L45, L48, L57, L60, L72, L90, L97, L98, L99, L100, L121, L122, L242, L255, L256, L580, L600, L1000, L1584, L1000000, Ln1, iN_add, iN_and, iN_or, iN_nd, iN_shl, iN_shr, iN_cl, iN_in, iN_mul, k]
  by_cases e : x = jN
  · rw [if_pos e, if_pos e]
  · rw [if_neg e, if_neg e]
    cases hg : rg x m with
    | true =>
      obtain ⟨c, hc, rfl, hl⟩ := rg_t hg
      have ei : Int32.ofNat n = iN n := rfl
      simp (disch := omega) only [gT, nbeq, Option.isSome_some, Option.getD_some, Bool.and_true, Bool.true_and, Bool.and_self, mX_some, bS, bN_if, bN_01, i1_01, i0_01, if_true, if_false, Bool.false_eq_true, false_and, and_false, and_true, true_and, and_self, Bool.or_false, Bool.false_or, Bool.or_true, Bool.true_or, Bool.false_and, Bool.and_false, decide_true, decide_false, L0, L1, L2, L3, L4, L5, L6, L7, L8, L9, L10, L11, L12, L13, L14, L15, L16, L17, L18, L19, L20, L21, L22, L23, L24, L25, L27, L33, L39, L40, L45, L48, L57, L60, L72, L90, L97, L98, L99, L100, L121, L122, L242, L255, L256, L580, L600, L1000, L1584, L1000000, Ln1, iN_add, iN_and, iN_or, iN_nd, iN_shl, iN_shr, iN_cl, iN_in, iN_mul, ei, ilt_n, ile_n, hr c hc]
    | false =>
      by_cases d : x < iN 0
      · simp only [d, if_true, gT, nbeq, Option.isSome_some, Option.getD_some, Bool.and_true, Bool.true_and, Bool.and_self, mX_some, bS, bN_if, bN_01, i1_01, i0_01, if_true, if_false, Bool.false_eq_true, false_and, and_false, and_true, true_and, and_self, Bool.or_false, Bool.false_or, Bool.or_true, Bool.true_or, Bool.false_and, Bool.and_false, decide_true, decide_false]
      · rw [if_neg d, if_pos]
        · rfl
        · unfold rg at hg
          rw [decide_eq_false_iff_not] at hg
          rw [Int32.lt_iff_toInt_lt, z_toInt'] at d
          rw [Int32.le_iff_toInt_le, iN_toInt (by omega)]
          omega
section PB
variable {h : mH}
theorem c_himself (R : Rel h) (x1 x2 x3 : Int32) : ∃ v h1, f83 h 0 x1 x2 x3 = some (v, h1) ∧ FQ h h1 ∧ ∀ h0, FQ h h0 → ∃ h2, f233 h0 193 x1 x2 x3 = some (v, h2) ∧ FQ h0 h2 := by
  have w := R.1
  unfold f83 f83_25
  simp only [gT, nbeq, Option.isSome_some, Option.getD_some, Bool.and_true, Bool.true_and, Bool.and_self, mX_some, bS, bN_if, bN_01, i1_01, i0_01, if_true, if_false, Bool.false_eq_true, false_and, and_false, and_true, true_and, and_self, Bool.or_false, Bool.false_or, Bool.or_true, Bool.true_or, Bool.false_and, Bool.and_false, decide_true, decide_false, k0 w, r0_0 w, r0_1 w, r0_2 w, r0_3 w, r0_4 w, r0_5 w, r0_6 w, r0_7 w, r0_8 w, k1 w, r1_0 w, r1_1 w, r1_2 w, r1_3 w, r1_4 w]
  rcases R.pick x1 with ⟨e1, e2⟩ | ⟨i, q, hi, rfl, W, H, e1, e2⟩
  · simp only [gT, nbeq, Option.isSome_some, Option.getD_some, Bool.and_true, Bool.true_and, Bool.and_self, mX_some, bS, bN_if, bN_01, i1_01, i0_01, if_true, if_false, Bool.false_eq_true, false_and, and_false, and_true, true_and, and_self, Bool.or_false, Bool.false_or, Bool.or_true, Bool.true_or, Bool.false_and, Bool.and_false, decide_true, decide_false, L0, L1, L2, L3, L4, L5, L6, L7, L8, L9, L10, L11, L12, L13, L14, L15, L16, L17, L18, L19, L20, L21, L22, L23, L24, L25, L27, L33, L39, L40, L45, L48, L57, L60, L72, L90, L97, L98, L99, L100, L121, L122, L242, L255, L256, L580, L600, L1000, L1584, L1000000, Ln1, iN_add, iN_and, iN_or, iN_nd, iN_shl, iN_shr, iN_cl, iN_in, iN_mul, e1]
    refine ⟨_, _, rfl, FQ.rfl, fun h0 F => ?_⟩
    have w0 := R.1.q F
    unfold f233 f233_23
    simp (disch := omega) only [gT, nbeq, Option.isSome_some, Option.getD_some, Bool.and_true, Bool.true_and, Bool.and_self, mX_some, bS, bN_if, bN_01, i1_01, i0_01, if_true, if_false, Bool.false_eq_true, false_and, and_false, and_true, true_and, and_self, Bool.or_false, Bool.false_or, Bool.or_true, Bool.true_or, Bool.false_and, Bool.and_false, decide_true, decide_false, L0, L1, L2, L3, L4, L5, L6, L7, L8, L9, L10, L11, L12, L13, L14, L15, L16, L17, L18, L19, L20, L21, L22, L23, L24, L25, L27, L33, L39, L40, L45, L48, L57, L60, L72, L90, L97, L98, L99, L100, L121, L122, L242, L255, L256, L580, L600, L1000, L1584, L1000000, Ln1, iN_add, iN_and, iN_or, iN_nd, iN_shl, iN_shr, iN_cl, iN_in, iN_mul, k193 w0, r193_1 w0, r193_2 w0, r193_3 w0, r193_4 w0, r193_5 w0, r193_6 w0, r193_7 w0, r193_8 w0, r193_18 w0, r193_19 w0, r193_32 w0, r193_33 w0, r193_34 w0, r193_36 w0, r193_38 w0, r193_39 w0, r193_40 w0, r193_42 w0, r193_45 w0, r193_46 w0, r193_47 w0, r193_48 w0, r193_49 w0, r193_50 w0, t179r, e2 _ F.co]
    cases rg x2 (20 + 1) <;> simp only [gT, nbeq, Option.isSome_some, Option.getD_some, Bool.and_true, Bool.true_and, Bool.and_self, mX_some, bS, bN_if, bN_01, i1_01, i0_01, if_true, if_false, Bool.false_eq_true, false_and, and_false, and_true, true_and, and_self, Bool.or_false, Bool.false_or, Bool.or_true, Bool.true_or, Bool.false_and, Bool.and_false, decide_true, decide_false] <;> exact ⟨_, rfl, FQ.c0⟩
  · have hn := W.1.1
    simp (disch := omega) only [gT, nbeq, Option.isSome_some, Option.getD_some, Bool.and_true, Bool.true_and, Bool.and_self, mX_some, bS, bN_if, bN_01, i1_01, i0_01, if_true, if_false, Bool.false_eq_true, false_and, and_false, and_true, true_and, and_self, Bool.or_false, Bool.false_or, Bool.or_true, Bool.true_or, Bool.false_and, Bool.and_false, decide_true, decide_false, L0, L1, L2, L3, L4, L5, L6, L7, L8, L9, L10, L11, L12, L13, L14, L15, L16, L17, L18, L19, L20, L21, L22, L23, L24, L25, L27, L33, L39, L40, L45, L48, L57, L60, L72, L90, L97, L98, L99, L100, L121, L122, L242, L255, L256, L580, L600, L1000, L1584, L1000000, Ln1, iN_add, iN_and, iN_or, iN_nd, iN_shl, iN_shr, iN_cl, iN_in, iN_mul, k0 w, r0_0 w, r0_1 w, r0_2 w, r0_3 w, r0_4 w, r0_5 w, r0_6 w, r0_7 w, r0_8 w, k66 w, r66_0 w, r66_1 w, r66_2 w, r66_4 w, e1, t17r]
    cases hr : rg x2 (20 + 1) with
    | false =>
      simp only [gT, nbeq, Option.isSome_some, Option.getD_some, Bool.and_true, Bool.true_and, Bool.and_self, mX_some, bS, bN_if, bN_01, i1_01, i0_01, if_true, if_false, Bool.false_eq_true, false_and, and_false, and_true, true_and, and_self, Bool.or_false, Bool.false_or, Bool.or_true, Bool.true_or, Bool.false_and, Bool.and_false, decide_true, decide_false]
      refine ⟨_, _, rfl, FQ.rfl, fun h0 F => ?_⟩
      have w0 := R.1.q F
      unfold f233 f233_23
      simp (disch := omega) only [gT, nbeq, Option.isSome_some, Option.getD_some, Bool.and_true, Bool.true_and, Bool.and_self, mX_some, bS, bN_if, bN_01, i1_01, i0_01, if_true, if_false, Bool.false_eq_true, false_and, and_false, and_true, true_and, and_self, Bool.or_false, Bool.false_or, Bool.or_true, Bool.true_or, Bool.false_and, Bool.and_false, decide_true, decide_false, L0, L1, L2, L3, L4, L5, L6, L7, L8, L9, L10, L11, L12, L13, L14, L15, L16, L17, L18, L19, L20, L21, L22, L23, L24, L25, L27, L33, L39, L40, L45, L48, L57, L60, L72, L90, L97, L98, L99, L100, L121, L122, L242, L255, L256, L580, L600, L1000, L1584, L1000000, Ln1, iN_add, iN_and, iN_or, iN_nd, iN_shl, iN_shr, iN_cl, iN_in, iN_mul, k193 w0, r193_1 w0, r193_2 w0, r193_3 w0, r193_4 w0, r193_5 w0, r193_6 w0, r193_7 w0, r193_8 w0, r193_18 w0, r193_19 w0, r193_32 w0, r193_33 w0, r193_34 w0, r193_36 w0, r193_38 w0, r193_39 w0, r193_40 w0, r193_42 w0, r193_45 w0, r193_46 w0, r193_47 w0, r193_48 w0, r193_49 w0, r193_50 w0, t179r, hr]
      exact ⟨_, rfl, FQ.c0⟩
    | true =>
      obtain ⟨d, hd, rfl, _⟩ := rg_t hr
      obtain ⟨D, A⟩ := aD_ex q (fun _ => 0) 0
      obtain ⟨h1, a1, a2, a3, a4⟩ := t84 (n := d) (m := 0) w H W (by omega) (by omega) (fun i hi => by omega) A (by omega)
      have w1 := a3.1
      have hl := pc_le (sRd (amor q (D d)).1)
      have a5 := a3.2.2.2.2.1
      have a6 := a3.2.2.2.2.2
      have ev := t88 (r := (D d).2.2) (k67 w1) (by omega) (by omega) a6.1 x3
      simp only [gT, nbeq, Option.isSome_some, Option.getD_some, Bool.and_true, Bool.true_and, Bool.and_self, mX_some, bS, bN_if, bN_01, i1_01, i0_01, if_true, if_false, Bool.false_eq_true, false_and, and_false, and_true, true_and, and_self, Bool.or_false, Bool.false_or, Bool.or_true, Bool.true_or, Bool.false_and, Bool.and_false, decide_true, decide_false, k0 w1, r0_0 w1, r0_1 w1, r0_2 w1, r0_3 w1, r0_4 w1, r0_5 w1, r0_6 w1, r0_7 w1, r0_8 w1, k66 w1, r66_0 w1, r66_1 w1, r66_2 w1, r66_4 w1, a1, a5, ev]
      refine ⟨_, h1, rfl, a2.q, fun h0 F => ?_⟩
      have w0 := R.1.q F
      obtain ⟨h', g1, g2, g3, g4, g5⟩ := e2 _ F.co
      have w2 := g4.1
      obtain ⟨D0, Ds⟩ := A
      obtain ⟨h2, c1, c2, M⟩ := t234 (n := d) (D := D) g4 W g5 (SW0 W) (by rw [D0]; rfl) (by rw [D0]; rfl) (by rw [D0]) Ds (by omega)
      have w3 := M.1.1
      have m1 := M.2.2.2.1
      have m2 := M.2.2.2.2.1
      refine ⟨h2, ?_, (FQ.c0.tr g2.qM).tr (c2.mono pV_M).qM⟩
      unfold f233 f233_66 cAt
      have e3 : (amor q (D d)).2.1 = (D d).2.1 := rfl
      have e4 : (amor q (D d)).2.2 = (D d).2.2 := rfl
      have hl2 : (D d).2.1 ≤ 8 := by have := a6.2; rw [e3] at this; omega
      simp (disch := omega) only [gT, nbeq, Option.isSome_some, Option.getD_some, Bool.and_true, Bool.true_and, Bool.and_self, mX_some, bS, bN_if, bN_01, i1_01, i0_01, if_true, if_false, Bool.false_eq_true, false_and, and_false, and_true, true_and, and_self, Bool.or_false, Bool.false_or, Bool.or_true, Bool.true_or, Bool.false_and, Bool.and_false, decide_true, decide_false, L0, L1, L2, L3, L4, L5, L6, L7, L8, L9, L10, L11, L12, L13, L14, L15, L16, L17, L18, L19, L20, L21, L22, L23, L24, L25, L27, L33, L39, L40, L45, L48, L57, L60, L72, L90, L97, L98, L99, L100, L121, L122, L242, L255, L256, L580, L600, L1000, L1584, L1000000, Ln1, iN_add, iN_and, iN_or, iN_nd, iN_shl, iN_shr, iN_cl, iN_in, iN_mul, k193 w0, r193_1 w0, r193_2 w0, r193_3 w0, r193_4 w0, r193_5 w0, r193_6 w0, r193_7 w0, r193_8 w0, r193_18 w0, r193_19 w0, r193_32 w0, r193_33 w0, r193_34 w0, r193_36 w0, r193_38 w0, r193_39 w0, r193_40 w0, r193_42 w0, r193_45 w0, r193_46 w0, r193_47 w0, r193_48 w0, r193_49 w0, r193_50 w0, k193 w2, r193_1 w2, r193_2 w2, r193_3 w2, r193_4 w2, r193_5 w2, r193_6 w2, r193_7 w2, r193_8 w2, r193_18 w2, r193_19 w2, r193_32 w2, r193_33 w2, r193_34 w2, r193_36 w2, r193_38 w2, r193_39 w2, r193_40 w2, r193_42 w2, r193_45 w2, r193_46 w2, r193_47 w2, r193_48 w2, r193_49 w2, r193_50 w2, k193 w3, r193_1 w3, r193_2 w3, r193_3 w3, r193_4 w3, r193_5 w3, r193_6 w3, r193_7 w3, r193_8 w3, r193_18 w3, r193_19 w3, r193_32 w3, r193_33 w3, r193_34 w3, r193_36 w3, r193_38 w3, r193_39 w3, r193_40 w3, r193_42 w3, r193_45 w3, r193_46 w3, r193_47 w3, r193_48 w3, r193_49 w3, r193_50 w3, k207 w3, t179r, g1, hr, c1, m1, iN_p, t179p, e3, e4]
      by_cases e : x3 = jN
      · simp only [e, if_true]
      · simp only [e, if_false]
        cases hg : rg x3 (D d).2.1 with
        | false => simp only [gT, nbeq, Option.isSome_some, Option.getD_some, Bool.and_true, Bool.true_and, Bool.and_self, mX_some, bS, bN_if, bN_01, i1_01, i0_01, if_true, if_false, Bool.false_eq_true, false_and, and_false, and_true, true_and, and_self, Bool.or_false, Bool.false_or, Bool.or_true, Bool.true_or, Bool.false_and, Bool.and_false, decide_true, decide_false]
        | true =>
          obtain ⟨c, hc, rfl, hlc⟩ := rg_t hg
          simp (disch := omega) only [gT, nbeq, Option.isSome_some, Option.getD_some, Bool.and_true, Bool.true_and, Bool.and_self, mX_some, bS, bN_if, bN_01, i1_01, i0_01, if_true, if_false, Bool.false_eq_true, false_and, and_false, and_true, true_and, and_self, Bool.or_false, Bool.false_or, Bool.or_true, Bool.true_or, Bool.false_and, Bool.and_false, decide_true, decide_false, L0, L1, L2, L3, L4, L5, L6, L7, L8, L9, L10, L11, L12, L13, L14, L15, L16, L17, L18, L19, L20, L21, L22, L23, L24, L25, L27, L33, L39, L40, L45, L48, L57, L60, L72, L90, L97, L98, L99, L100, L121, L122, L242, L255, L256, L580, L600, L1000, L1584, L1000000, Ln1, iN_add, iN_and, iN_or, iN_nd, iN_shl, iN_shr, iN_cl, iN_in, iN_mul, m2 c hc]
end PB
