/-! finish: the reference's -/
section FM1
variable {h : mH} {q : LQ} {D : Nat → AZ} {x : Int32}
theorem D_cd {P : Nat → Nat} {m : Nat} (A : aD q P m D) : ∀ i, sCd (D i).1 = false := by
  obtain ⟨D0, Ds⟩ := A
  intro i
  cases i with
  | zero => rw [D0]; exact (sPs_f q P m).2.1
  | succ i => rw [Ds, dgo_cd]; rfl
def fAns (q : LQ) (D : Nat → AZ) (x : Int32) : Int32 := if x = iN 0 then zN (fz (fAll q D) 100 0) else iN (nd (2 ^ q 0 0 - 1) (sRd (D 99).1))
theorem t273e (H : MoS h q) (W : QW q) (A : aD q (fun _ => 0) 0 D) {i : Nat} (hi : i ≤ 99) (hx : fAll q D i = true ∨ i = 99) (hj : ∀ j, j < i → fAll q D j = false) (e26 : mI h 193 26 = iN (sRd (D i).1)) : f273_40 h 193 x (iN i) (iN (2 ^ q 0 0 - 1)) = some (fAns q D x, h) := by
  have w := H.1
  have hn := W.1.1
  have h8 := pw_8 hn
  have hp := pw_pos (q 0 0)
  have S := (D_pc W A i).1
  have hr := S.rd8 W
  have e99 : fAll q D i = true → sRd (D 99).1 = sRd (D i).1 := fun e => by
    have g1 := (fAll_m W A i).2.1 e
    have g2 := D_mono A (99 - i) i
    rw [show i + (99 - i) = 99 by omega] at g2
    obtain ⟨g3, g4⟩ := fAll_m W A 99
    have g5 := g4.2 (by omega)
    unfold fAll at g5 e
    rw [decide_eq_true_eq] at g5 e
    rw [g5, e]
  unfold f273_40 f273_68 fAns
  by_cases ex : x = iN 0
  · simp only [ex, if_true, gT, nbeq, Option.isSome_some, Option.getD_some, Bool.and_true, Bool.true_and, Bool.and_self, mX_some, bS, bN_if, bN_01, i1_01, i0_01, if_true, if_false, Bool.false_eq_true, false_and, and_false, and_true, true_and, and_self, Bool.or_false, Bool.false_or, Bool.or_true, Bool.true_or, Bool.false_and, Bool.and_false, decide_true, decide_false, L0, L1, L2, L3, L4, L5, L6, L7, L8, L9, L10, L11, L12, L13, L14, L15, L16, L17, L18, L19, L20, L21, L22, L23, L24, L25, L27, L33, L39, L40, L45, L48, L57, L60, L72, L90, L97, L98, L99, L100, L121, L122, L242, L255, L256, L580, L600, L1000, L1584, L1000000, Ln1, iN_add, iN_and, iN_or, iN_nd, iN_shl, iN_shr, iN_cl, iN_in, iN_mul, k193 w, r193_1 w, r193_2 w, r193_3 w, r193_4 w, r193_5 w, r193_6 w, r193_7 w, r193_8 w, r193_18 w, r193_19 w, r193_32 w, r193_33 w, r193_34 w, r193_36 w, r193_38 w, r193_39 w, r193_40 w, r193_42 w, r193_45 w, r193_46 w, r193_47 w, r193_48 w, r193_49 w, r193_50 w, e26]
    cases ef : fAll q D i with
    | true =>
      have e1 : sRd (D i).1 = 2 ^ q 0 0 - 1 := of_decide_eq_true ef
      rw [ieq_p e1, fz_first ef 100 0 (Nat.zero_le _) (by omega) (fun j _ h2 => hj j h2)]
      rfl
    | false =>
      have e1 : ¬ sRd (D i).1 = 2 ^ q 0 0 - 1 := of_decide_eq_false ef
      have ei : i = 99 := by
        rcases hx with hx | hx
        · rw [ef] at hx; cases hx
        · exact hx
      rw [ieq_n (by omega) (by omega) e1, fz_none 100 0 (fun j _ h2 => by
        by_cases e : j = i
        · rw [e]; exact ef
        · exact hj j (by omega))]
      rfl
  · simp only [ex, if_false, gT, nbeq, Option.isSome_some, Option.getD_some, Bool.and_true, Bool.true_and, Bool.and_self, mX_some, bS, bN_if, bN_01, i1_01, i0_01, if_true, if_false, Bool.false_eq_true, false_and, and_false, and_true, true_and, and_self, Bool.or_false, Bool.false_or, Bool.or_true, Bool.true_or, Bool.false_and, Bool.and_false, decide_true, decide_false, L0, L1, L2, L3, L4, L5, L6, L7, L8, L9, L10, L11, L12, L13, L14, L15, L16, L17, L18, L19, L20, L21, L22, L23, L24, L25, L27, L33, L39, L40, L45, L48, L57, L60, L72, L90, L97, L98, L99, L100, L121, L122, L242, L255, L256, L580, L600, L1000, L1584, L1000000, Ln1, iN_add, iN_and, iN_or, iN_nd, iN_shl, iN_shr, iN_cl, iN_in, iN_mul, k193 w, r193_1 w, r193_2 w, r193_3 w, r193_4 w, r193_5 w, r193_6 w, r193_7 w, r193_8 w, r193_18 w, r193_19 w, r193_32 w, r193_33 w, r193_34 w, r193_36 w, r193_38 w, r193_39 w, r193_40 w, r193_42 w, r193_45 w, r193_46 w, r193_47 w, r193_48 w, r193_49 w, r193_50 w, e26]
    have er : sRd (D 99).1 = sRd (D i).1 := by
      rcases hx with hx | hx
      · exact e99 hx
      · rw [hx]
    rw [er]
theorem t273 (H : MoS h q) (W : QW q) (A : aD q (fun _ => 0) 0 D) : ∃ h', f273 h 193 x = some (fAns q D x, h') ∧ FQ h h' := by
  have w := H.1
  have hn := W.1.1
  have h8 := pw_8 hn
  have hp := pw_pos (q 0 0)
  obtain ⟨h1, b1, b2, b3⟩ := t207 H W
  have H1 := H.fm b2
  have w1 := H1.1
  have A' := A
  obtain ⟨D0, Ds⟩ := A'
  unfold f273
  simp (disch := omega) only [gT, nbeq, Option.isSome_some, Option.getD_some, Bool.and_true, Bool.true_and, Bool.and_self, mX_some, bS, bN_if, bN_01, i1_01, i0_01, if_true, if_false, Bool.false_eq_true, false_and, and_false, and_true, true_and, and_self, Bool.or_false, Bool.false_or, Bool.or_true, Bool.true_or, Bool.false_and, Bool.and_false, decide_true, decide_false, L0, L1, L2, L3, L4, L5, L6, L7, L8, L9, L10, L11, L12, L13, L14, L15, L16, L17, L18, L19, L20, L21, L22, L23, L24, L25, L27, L33, L39, L40, L45, L48, L57, L60, L72, L90, L97, L98, L99, L100, L121, L122, L242, L255, L256, L580, L600, L1000, L1584, L1000000, Ln1, iN_add, iN_and, iN_or, iN_nd, iN_shl, iN_shr, iN_cl, iN_in, iN_mul, k193 w, r193_1 w, r193_2 w, r193_3 w, r193_4 w, r193_5 w, r193_6 w, r193_7 w, r193_8 w, r193_18 w, r193_19 w, r193_32 w, r193_33 w, r193_34 w, r193_36 w, r193_38 w, r193_39 w, r193_40 w, r193_42 w, r193_45 w, r193_46 w, r193_47 w, r193_48 w, r193_49 w, r193_50 w, k193 w1, r193_1 w1, r193_2 w1, r193_3 w1, r193_4 w1, r193_5 w1, r193_6 w1, r193_7 w1, r193_8 w1, r193_18 w1, r193_19 w1, r193_32 w1, r193_33 w1, r193_34 w1, r193_36 w1, r193_38 w1, r193_39 w1, r193_40 w1, r193_42 w1, r193_45 w1, r193_46 w1, r193_47 w1, r193_48 w1, r193_49 w1, r193_50 w1, b1, H1.n, Nat.one_shiftLeft, iN_sub]
  have := lp_inv (body := f273_15 193 x (iN (2 ^ q 0 0 - 1))) (P := fun i z => z.1 = iN i ∧ FQ h z.2 ∧ MoS z.2 q ∧ (∃ s, MLS z.2 s ∧ SW q s ∧ co s = co (D i).1) ∧ ∀ j, j < i → fAll q D j = false) (Q := fun r => r.1 = fAns q D x ∧ FQ h r.2) 99 (fun i z hi hP => by
    obtain ⟨u1, u3⟩ := z
    obtain ⟨z1, z2, z3, ⟨s, C, S, E⟩, z5⟩ := hP
    have e1 : u1 = iN i := z1
    subst e1
    have v2 : FQ h u3 := z2
    have v3 : MoS u3 q := z3
    have C : MLS u3 s := C
    have w2 := v3.1
    have hr := S.rd8 W
    rw [co_rd E] at hr
    have e26 : mI u3 193 26 = iN (sRd (D i).1) := C.2.2.2.1.trans (by rw [co_rd E])
    cases ef : fAll q D i with
    | true =>
      right
      have e1 : sRd (D i).1 = 2 ^ q 0 0 - 1 := of_decide_eq_true ef
      have ee := t273e (x := x) v3 W A (i := i) (by omega) (Or.inl ef) z5 e26
      refine ⟨(fAns q D x, u3), ?_, rfl, v2⟩
      unfold f273_15
      simp (disch := omega) only [gT, nbeq, Option.isSome_some, Option.getD_some, Bool.and_true, Bool.true_and, Bool.and_self, mX_some, bS, bN_if, bN_01, i1_01, i0_01, if_true, if_false, Bool.false_eq_true, false_and, and_false, and_true, true_and, and_self, Bool.or_false, Bool.false_or, Bool.or_true, Bool.true_or, Bool.false_and, Bool.and_false, decide_true, decide_false, L0, L1, L2, L3, L4, L5, L6, L7, L8, L9, L10, L11, L12, L13, L14, L15, L16, L17, L18, L19, L20, L21, L22, L23, L24, L25, L27, L33, L39, L40, L45, L48, L57, L60, L72, L90, L97, L98, L99, L100, L121, L122, L242, L255, L256, L580, L600, L1000, L1584, L1000000, Ln1, iN_add, iN_and, iN_or, iN_nd, iN_shl, iN_shr, iN_cl, iN_in, iN_mul, k193 w2, r193_1 w2, r193_2 w2, r193_3 w2, r193_4 w2, r193_5 w2, r193_6 w2, r193_7 w2, r193_8 w2, r193_18 w2, r193_19 w2, r193_32 w2, r193_33 w2, r193_34 w2, r193_36 w2, r193_38 w2, r193_39 w2, r193_40 w2, r193_42 w2, r193_45 w2, r193_46 w2, r193_47 w2, r193_48 w2, r193_49 w2, r193_50 w2, e26, ieq_p, ee]
    | false =>
      left
      have e1 : ¬ sRd (D i).1 = 2 ^ q 0 0 - 1 := of_decide_eq_false ef
      obtain ⟨D', d0, ds⟩ := itr_ex (fun y => dgo q 8 (amor q y)) ((D i).1, 0, fun _ => 0)
      obtain ⟨h', c1, c2, c3⟩ := t234 (n := 1) (D := D') v3 W C S (by rw [d0]; exact E) (by rw [d0]; exact D_cd A i) (by rw [d0]) ds (by omega)
      have e2 : (D' 1).1 = (D (i + 1)).1 := by
        rw [show D' 1 = dgo q 8 (amor q (D' 0)) from ds 0, Ds i]
        refine dgo_st _ _ _ ?_
        rw [d0]; rfl
      obtain ⟨m1, ⟨s', m2, m3, m4⟩, _⟩ := c3
      rw [e2] at m4
      refine ⟨(iN (i + 1), h'), ?_, rfl, v2.tr (c2.mono pV_M).qM, m1, ⟨s', m2, m3, m4⟩, fun j hj => ?_⟩
      · unfold f273_15
        simp (disch := omega) only [gT, nbeq, Option.isSome_some, Option.getD_some, Bool.and_true, Bool.true_and, Bool.and_self, mX_some, bS, bN_if, bN_01, i1_01, i0_01, if_true, if_false, Bool.false_eq_true, false_and, and_false, and_true, true_and, and_self, Bool.or_false, Bool.false_or, Bool.or_true, Bool.true_or, Bool.false_and, Bool.and_false, decide_true, decide_false, L0, L1, L2, L3, L4, L5, L6, L7, L8, L9, L10, L11, L12, L13, L14, L15, L16, L17, L18, L19, L20, L21, L22, L23, L24, L25, L27, L33, L39, L40, L45, L48, L57, L60, L72, L90, L97, L98, L99, L100, L121, L122, L242, L255, L256, L580, L600, L1000, L1584, L1000000, Ln1, iN_add, iN_and, iN_or, iN_nd, iN_shl, iN_shr, iN_cl, iN_in, iN_mul, k193 w2, r193_1 w2, r193_2 w2, r193_3 w2, r193_4 w2, r193_5 w2, r193_6 w2, r193_7 w2, r193_8 w2, r193_18 w2, r193_19 w2, r193_32 w2, r193_33 w2, r193_34 w2, r193_36 w2, r193_38 w2, r193_39 w2, r193_40 w2, r193_42 w2, r193_45 w2, r193_46 w2, r193_47 w2, r193_48 w2, r193_49 w2, r193_50 w2, e26, ieq_n, ile_n, c1]
      · by_cases e : j = i
        · rw [e]; exact ef
        · exact z5 j (by omega)) (fun z hP => by
    obtain ⟨u1, u3⟩ := z
    obtain ⟨z1, z2, z3, ⟨s, C, S, E⟩, z5⟩ := hP
    have e1 : u1 = iN 99 := z1
    subst e1
    have v2 : FQ h u3 := z2
    have v3 : MoS u3 q := z3
    have C : MLS u3 s := C
    have w2 := v3.1
    have hr := S.rd8 W
    rw [co_rd E] at hr
    have e26 : mI u3 193 26 = iN (sRd (D 99).1) := C.2.2.2.1.trans (by rw [co_rd E])
    have ee := t273e (x := x) v3 W A (i := 99) (by omega) (Or.inr rfl) z5 e26
    refine ⟨(fAns q D x, u3), ?_, rfl, v2⟩
    unfold f273_15
    simp (disch := omega) only [gT, nbeq, Option.isSome_some, Option.getD_some, Bool.and_true, Bool.true_and, Bool.and_self, mX_some, bS, bN_if, bN_01, i1_01, i0_01, if_true, if_false, Bool.false_eq_true, false_and, and_false, and_true, true_and, and_self, Bool.or_false, Bool.false_or, Bool.or_true, Bool.true_or, Bool.false_and, Bool.and_false, decide_true, decide_false, L0, L1, L2, L3, L4, L5, L6, L7, L8, L9, L10, L11, L12, L13, L14, L15, L16, L17, L18, L19, L20, L21, L22, L23, L24, L25, L27, L33, L39, L40, L45, L48, L57, L60, L72, L90, L97, L98, L99, L100, L121, L122, L242, L255, L256, L580, L600, L1000, L1584, L1000000, Ln1, iN_add, iN_and, iN_or, iN_nd, iN_shl, iN_shr, iN_cl, iN_in, iN_mul, k193 w2, r193_1 w2, r193_2 w2, r193_3 w2, r193_4 w2, r193_5 w2, r193_6 w2, r193_7 w2, r193_8 w2, r193_18 w2, r193_19 w2, r193_32 w2, r193_33 w2, r193_34 w2, r193_36 w2, r193_38 w2, r193_39 w2, r193_40 w2, r193_42 w2, r193_45 w2, r193_46 w2, r193_47 w2, r193_48 w2, r193_49 w2, r193_50 w2, e26, ile_p, ee, ite_self]) (by omega) (s := (iN 0, h1)) ⟨rfl, b2.1.qM, H1, ⟨s0 q, b3, SW0 W, (by rw [D0]; rfl)⟩, fun j hj => by omega⟩
  obtain ⟨⟨r, h'⟩, r1, r2, r3⟩ := this
  have r2' : r = fAns q D x := r2
  rw [r2'] at r1
  exact ⟨h', r1, r3⟩
end FM1
