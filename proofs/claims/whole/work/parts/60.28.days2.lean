/-! HIMSELF: many days, class and reference -/
section AL
variable {h : mH} {la n : Nat} {q : LQ} {D : Nat → AZ}
theorem D_end (Ds : ∀ i, D (i + 1) = dgo q 8 (amor q (D i))) {k : Nat} (e : fav q (amor q (D k)).1 = none) : ∀ j, D (k + 1 + j) = amor q (D k) := by
  intro j
  induction j with
  | zero =>
    show D (k + 1) = _
    rw [Ds k, dgo_n e]
  | succ j ih =>
    show D (k + 1 + j + 1) = _
    rw [Ds, ih, amor2, dgo_n e]
/-- the last day on which he read -/
def lastD (D : Nat → AZ) (n T : Nat) : Prop := T ≤ n ∧ (∀ i, i < T → (D i).2.1 < (D (i + 1)).2.1) ∧ ∀ j, T ≤ j → j ≤ n → (D j).2.1 = (D T).2.1
theorem t84_44 (w : Wd h) (L : LfS h 70 la) (H : LibS h la q) (W : QW q) (p : la + 7 ≤ 66) {s : LSt} (C : CLS h 70 s) (S : SW q s) (E : co s = co (amor q (D 0)).1) (z0 : (D 0).2.1 = 0) (Ds : ∀ i, D (i + 1) = dgo q 8 (amor q (D i))) (hn : n < 1000) : ∃ h', f84_44 h 66 la (iN n) = some ((), h') ∧ Fr pZ h h' ∧ AL h' la q (amor q (D n)) ∧ ∃ T, mI h' 66 5 = iN T ∧ lastD D n T := by
  have x2 : Fr pZ h (mSI (mSI h 66 3 (iN 0)) 66 5 (iN 0)) := (Fr.rfl.si (by decide)).si (by decide)
  have A0 : AL (mSI (mSI h 66 3 (iN 0)) 66 5 (iN 0)) la q (amor q (D 0)) := by
    have ze : (amor q (D 0)).2.1 = 0 := z0
    refine ⟨w.fr x2, L.fr x2, H.fr x2 (fun i hi => pZ_n _ (by omega)), ⟨s, C.x (fun j hj => by simp (disch := omega) only [si_ne, si_nk, si_eq]) (fun j => by simp (disch := omega) only [si_ne, si_nk, si_eq]) (fun j => by simp (disch := omega) only [si_ne, si_nk, si_eq]), S, E⟩, ?_, fun j hj => by omega, by omega⟩
    rw [ze]
    simp (disch := omega) only [si_ne, si_nk, si_eq]
  unfold f84_44
  simp only [gT, nbeq, Option.isSome_some, Option.getD_some, Bool.and_true, Bool.true_and, Bool.and_self, mX_some, bS, bN_if, bN_01, i1_01, i0_01, if_true, if_false, Bool.false_eq_true, false_and, and_false, and_true, true_and, and_self, Bool.or_false, Bool.false_or, Bool.or_true, Bool.true_or, Bool.false_and, Bool.and_false, decide_true, decide_false, L0, L1, L2, L3, L4, L5, L6, L7, L8, L9, L10, L11, L12, L13, L14, L15, L16, L17, L18, L19, L20, L21, L22, L23, L24, L25, L27, L33, L39, L40, L45, L48, L57, L60, L72, L90, L97, L98, L99, L100, L121, L122, L242, L255, L256, L580, L600, L1000, L1584, L1000000, Ln1, iN_add, iN_and, iN_or, iN_nd, iN_shl, iN_shr, iN_cl, iN_in, iN_mul, k66 w, r66_0 w, r66_1 w, r66_2 w, r66_4 w]
  have := lp_inv (body := f84_60 66 la (iN n)) (P := fun i z => Fr pZ h z.2.2 ∧ ((z.1 = iN 1 ∧ z.2.1 = iN (i + 1) ∧ AL z.2.2 la q (amor q (D i)) ∧ mI z.2.2 66 5 = iN i ∧ ∀ k, k < i → (D k).2.1 < (D (k + 1)).2.1) ∨ (z.1 = iN 0 ∧ AL z.2.2 la q (amor q (D n)) ∧ ∃ T, mI z.2.2 66 5 = iN T ∧ lastD D n T))) (Q := fun r => Fr pZ h r.2 ∧ AL r.2 la q (amor q (D n)) ∧ ∃ T, mI r.2 66 5 = iN T ∧ lastD D n T) n (fun i z hi hP => by
    obtain ⟨u1, u2, u3⟩ := z
    obtain ⟨z4, ⟨z1, z2, z3, z5, z6⟩ | ⟨z1, z3, z5⟩⟩ := hP
    · have z1 : u1 = iN 1 := z1
      have z2 : u2 = iN (i + 1) := z2
      have z4 : Fr pZ h u3 := z4
      have z5 : mI u3 66 5 = iN i := z5
      have z3 : AL u3 la q (amor q (D i)) := z3
      subst z1 z2
      left
      obtain ⟨h1, b1, b2, b3, b4⟩ := t85 z3 W p
      rw [← Ds i] at b1 b3
      have w2 := z3.1
      have w3 := b3.1
      cases d : decide ((amor q (D i)).2.1 < (D (i + 1)).2.1) with
      | true =>
        refine ⟨(iN 1, iN (i + 1 + 1), mSI h1 66 5 (iN (i + 1))), ?_, (z4.tr b2).si (by decide), Or.inl ⟨rfl, rfl, ?_, ?_, fun k hk => ?_⟩⟩
        · unfold f84_60 f84_89
          simp (disch := omega) only [gT, nbeq, Option.isSome_some, Option.getD_some, Bool.and_true, Bool.true_and, Bool.and_self, mX_some, bS, bN_if, bN_01, i1_01, i0_01, if_true, if_false, Bool.false_eq_true, false_and, and_false, and_true, true_and, and_self, Bool.or_false, Bool.false_or, Bool.or_true, Bool.true_or, Bool.false_and, Bool.and_false, decide_true, decide_false, L0, L1, L2, L3, L4, L5, L6, L7, L8, L9, L10, L11, L12, L13, L14, L15, L16, L17, L18, L19, L20, L21, L22, L23, L24, L25, L27, L33, L39, L40, L45, L48, L57, L60, L72, L90, L97, L98, L99, L100, L121, L122, L242, L255, L256, L580, L600, L1000, L1584, L1000000, Ln1, iN_add, iN_and, iN_or, iN_nd, iN_shl, iN_shr, iN_cl, iN_in, iN_mul, k66 w2, r66_0 w2, r66_1 w2, r66_2 w2, r66_4 w2, k66 w3, r66_0 w3, r66_1 w3, r66_2 w3, r66_4 w3, ilt_n, ieq_n, b1, d, bN_t]
        · have x3 : Fr pZ h1 (mSI h1 66 5 (iN (i + 1))) := Fr.rfl.si (by decide)
          obtain ⟨c1, c2, c3, ⟨s', c4, c5, c6⟩, c7, c8, c9⟩ := b3
          refine ⟨c1.fr x3, c2.fr x3, c3.fr x3 (fun i hi => pZ_n _ (by omega)), ⟨s', c4.x (fun j hj => by simp (disch := omega) only [si_ne, si_nk, si_eq]) (fun j => by simp (disch := omega) only [si_ne, si_nk, si_eq]) (fun j => by simp (disch := omega) only [si_ne, si_nk, si_eq]), c5, c6⟩, ?_, fun j hj => ?_, c9⟩
          · simp (disch := omega) only [si_ne, si_nk, si_eq]; exact c7
          · simp (disch := omega) only [si_ne, si_nk, si_eq]; exact c8 j hj
        · simp (disch := omega) only [si_ne, si_nk, si_eq]
        · by_cases ek : k = i
          · rw [ek]; exact of_decide_eq_true d
          · exact z6 k (by omega)
      | false =>
        have hle : (D (i + 1)).2.1 ≤ (amor q (D i)).2.1 := Nat.le_of_not_lt (of_decide_eq_false d)
        have hf : fav q (amor q (D i)).1 = none := dgo_lt (n := 7) (by rw [Ds i] at hle; exact hle)
        have hD := D_end Ds hf
        have hDn : ∀ j, i + 1 ≤ j → D j = amor q (D i) := fun j hj => by
          have := hD (j - (i + 1))
          rw [show i + 1 + (j - (i + 1)) = j by omega] at this
          exact this
        refine ⟨(iN 0, iN (i + 1 + 1), h1), ?_, z4.tr b2, Or.inr ⟨rfl, ?_, i, b4.trans z5, by omega, z6, fun j h1 h2 => ?_⟩⟩
        · unfold f84_60 f84_89
          simp (disch := omega) only [gT, nbeq, Option.isSome_some, Option.getD_some, Bool.and_true, Bool.true_and, Bool.and_self, mX_some, bS, bN_if, bN_01, i1_01, i0_01, if_true, if_false, Bool.false_eq_true, false_and, and_false, and_true, true_and, and_self, Bool.or_false, Bool.false_or, Bool.or_true, Bool.true_or, Bool.false_and, Bool.and_false, decide_true, decide_false, L0, L1, L2, L3, L4, L5, L6, L7, L8, L9, L10, L11, L12, L13, L14, L15, L16, L17, L18, L19, L20, L21, L22, L23, L24, L25, L27, L33, L39, L40, L45, L48, L57, L60, L72, L90, L97, L98, L99, L100, L121, L122, L242, L255, L256, L580, L600, L1000, L1584, L1000000, Ln1, iN_add, iN_and, iN_or, iN_nd, iN_shl, iN_shr, iN_cl, iN_in, iN_mul, k66 w2, r66_0 w2, r66_1 w2, r66_2 w2, r66_4 w2, k66 w3, r66_0 w3, r66_1 w3, r66_2 w3, r66_4 w3, ilt_n, ieq_n, b1, d, bN_f]
        · rw [hDn n (by omega), ← hDn (i + 1) (by omega)]
          exact b3
        · by_cases ej : j = i
          · rw [ej]
          · rw [hDn j (by omega)]; rfl
    · have z1 : u1 = iN 0 := z1
      subst z1
      right
      refine ⟨((), u3), ?_, z4, z3, z5⟩
      unfold f84_60 f84_95
      simp only [gT, nbeq, Option.isSome_some, Option.getD_some, Bool.and_true, Bool.true_and, Bool.and_self, mX_some, bS, bN_if, bN_01, i1_01, i0_01, if_true, if_false, Bool.false_eq_true, false_and, and_false, and_true, true_and, and_self, Bool.or_false, Bool.false_or, Bool.or_true, Bool.true_or, Bool.false_and, Bool.and_false, decide_true, decide_false, L0, L1, L2, L3, L4, L5, L6, L7, L8, L9, L10, L11, L12, L13, L14, L15, L16, L17, L18, L19, L20, L21, L22, L23, L24, L25, L27, L33, L39, L40, L45, L48, L57, L60, L72, L90, L97, L98, L99, L100, L121, L122, L242, L255, L256, L580, L600, L1000, L1584, L1000000, Ln1, iN_add, iN_and, iN_or, iN_nd, iN_shl, iN_shr, iN_cl, iN_in, iN_mul]
      split <;> rfl) (fun z hP => by
    obtain ⟨u1, u2, u3⟩ := z
    obtain ⟨z4, ⟨z1, z2, z3, z5, z6⟩ | ⟨z1, z3, z5⟩⟩ := hP
    · have z2 : u2 = iN (n + 1) := z2
      subst z2
      refine ⟨((), u3), ?_, z4, z3, n, z5, Nat.le_refl _, z6, fun j h1 h2 => by rw [show j = n by omega]⟩
      unfold f84_60 f84_95
      simp (disch := omega) only [gT, nbeq, Option.isSome_some, Option.getD_some, Bool.and_true, Bool.true_and, Bool.and_self, mX_some, bS, bN_if, bN_01, i1_01, i0_01, if_true, if_false, Bool.false_eq_true, false_and, and_false, and_true, true_and, and_self, Bool.or_false, Bool.false_or, Bool.or_true, Bool.true_or, Bool.false_and, Bool.and_false, decide_true, decide_false, L0, L1, L2, L3, L4, L5, L6, L7, L8, L9, L10, L11, L12, L13, L14, L15, L16, L17, L18, L19, L20, L21, L22, L23, L24, L25, L27, L33, L39, L40, L45, L48, L57, L60, L72, L90, L97, L98, L99, L100, L121, L122, L242, L255, L256, L580, L600, L1000, L1584, L1000000, Ln1, iN_add, iN_and, iN_or, iN_nd, iN_shl, iN_shr, iN_cl, iN_in, iN_mul, ilt_p]
    · have z1 : u1 = iN 0 := z1
      subst z1
      refine ⟨((), u3), ?_, z4, z3, z5⟩
      unfold f84_60 f84_95
      simp only [gT, nbeq, Option.isSome_some, Option.getD_some, Bool.and_true, Bool.true_and, Bool.and_self, mX_some, bS, bN_if, bN_01, i1_01, i0_01, if_true, if_false, Bool.false_eq_true, false_and, and_false, and_true, true_and, and_self, Bool.or_false, Bool.false_or, Bool.or_true, Bool.true_or, Bool.false_and, Bool.and_false, decide_true, decide_false, L0, L1, L2, L3, L4, L5, L6, L7, L8, L9, L10, L11, L12, L13, L14, L15, L16, L17, L18, L19, L20, L21, L22, L23, L24, L25, L27, L33, L39, L40, L45, L48, L57, L60, L72, L90, L97, L98, L99, L100, L121, L122, L242, L255, L256, L580, L600, L1000, L1584, L1000000, Ln1, iN_add, iN_and, iN_or, iN_nd, iN_shl, iN_shr, iN_cl, iN_in, iN_mul]
      split <;> rfl) (by omega) (s := (iN 1, iN 1, mSI (mSI h 66 3 (iN 0)) 66 5 (iN 0))) ⟨x2, Or.inl ⟨rfl, rfl, A0, by simp (disch := omega) only [si_ne, si_nk, si_eq], fun k hk => by omega⟩⟩
  obtain ⟨⟨⟨⟩, h'⟩, r1, r2, r3, r4⟩ := this
  exact ⟨h', r1, r2, r3, r4⟩
end AL
/-- the reference stands at x -/
def MB (h : mH) (q : LQ) (x : AZ) : Prop := MoS h q ∧ (∃ s, MLS h s ∧ SW q s ∧ co s = co x.1) ∧ sCd x.1 = false ∧ mI h 193 37 = iN x.2.1 ∧ (∀ j, j < x.2.1 → mI h 207 j = iN (x.2.2 j)) ∧ x.2.1 ≤ pc (sRd x.1)
section MB
variable {h : mH} {n : Nat} {q : LQ} {x : AZ} {D : Nat → AZ}
theorem MoS.s7 {j : Nat} {v : Int32} (H : MoS h q) : MoS (mSI h 207 j v) q := by
  obtain ⟨w, h1, h2, s, h3, h4, h5⟩ := H
  refine ⟨w.fr (P := pM) (Fr.rfl.si (by decide)), ?_, ?_, s, h3, ?_, fun i hi => ?_⟩
  · simp (disch := omega) only [si_ne, si_nk, si_eq]; exact h1
  · simp (disch := omega) only [si_ne, si_nk, si_eq]; exact h2
  · simp (disch := omega) only [si_ne, si_nk, si_eq]; exact h4
  · simp (disch := omega) only [si_ne, si_nk, si_eq]; exact h5 i hi
theorem MLS.s7 {s : LSt} {j : Nat} {v : Int32} (C : MLS h s) : MLS (mSI h 207 j v) s := by
  obtain ⟨c1, c2, c3, c4, c5, c6, c7, c8⟩ := C
  refine ⟨fun t ht => ?_, fun k hk => ?_, ?_, ?_, ?_, ?_, ?_, ?_⟩
  all_goals simp (disch := omega) only [si_ne, si_nk, si_eq]
  · exact c1 t ht
  · exact c2 k hk
  · exact c3
  · exact c4
  · exact c5
  · exact c6
  · exact c7
  · exact c8
theorem MB.pc (A : MB h q x) (W : QW q) {c : Nat} (e : fav q x.1 = some c) : pc (sRd (aRd q x c).1) = pc (sRd x.1) + 1 ∧ pc (sRd x.1) < 8 := by
  obtain ⟨_, ⟨s, _, S, E⟩, _⟩ := A
  rw [← co_fav E] at e
  have := fav_pc W S e
  rw [co_rd (co_read (q := q) E c), co_rd E] at this
  exact this
theorem MB.fv (A : MB h q x) (W : QW q) : f235 h 193 = some (zN (fav q x.1)) := by
  obtain ⟨H, ⟨s, C, S, E⟩, _⟩ := A
  rw [← co_fav E]
  exact t235 H W C S
theorem t222k {s : LSt} (H : MoS h q) (W : QW q) (C : MLS h s) (S : SW q s) {c : Nat} (hc : c < q 0 0) {h' : mH} (e0 : f222 h 193 (iN c) = some ((), h')) {a : Nat} (n1 : a ≠ 193) (n2 : a ≠ 204) (j : Nat) : mI h' a j = mI h a j := by
  have hn := W.1.1
  have h9 := W.2.2.1 c (by omega)
  have h5 := W.2.2.2.1 c (by omega)
  obtain ⟨c1, c2, c3, c4, c5, c6, c7, c8⟩ := id C
  have w := H.1
  have F1 : FM h (mSI h 193 26 (iN (sRd s ||| 1 <<< c))) := FM.rfl.si (by decide) (Or.inr (by omega))
  have F2 : FM h (mSI (mSI h 193 26 (iN (sRd s ||| 1 <<< c))) 193 28 (iN (sLf s) - iN (q 1 c))) := F1.si (by decide) (Or.inr (by omega))
  unfold f222 f222_28 at e0
  simp (disch := omega) only [gT, nbeq, Option.isSome_some, Option.getD_some, Bool.and_true, Bool.true_and, Bool.and_self, mX_some, bS, bN_if, bN_01, i1_01, i0_01, if_true, if_false, Bool.false_eq_true, false_and, and_false, and_true, true_and, and_self, Bool.or_false, Bool.false_or, Bool.or_true, Bool.true_or, Bool.false_and, Bool.and_false, decide_true, decide_false, L0, L1, L2, L3, L4, L5, L6, L7, L8, L9, L10, L11, L12, L13, L14, L15, L16, L17, L18, L19, L20, L21, L22, L23, L24, L25, L27, L33, L39, L40, L45, L48, L57, L60, L72, L90, L97, L98, L99, L100, L121, L122, L242, L255, L256, L580, L600, L1000, L1584, L1000000, Ln1, iN_add, iN_and, iN_or, iN_nd, iN_shl, iN_shr, iN_cl, iN_in, iN_mul, k193 w, r193_1 w, r193_2 w, r193_3 w, r193_4 w, r193_5 w, r193_6 w, r193_7 w, r193_8 w, r193_18 w, r193_19 w, r193_32 w, r193_33 w, r193_34 w, r193_36 w, r193_38 w, r193_39 w, r193_40 w, r193_42 w, r193_45 w, r193_46 w, r193_47 w, r193_48 w, r193_49 w, r193_50 w, k204 w, c4, c6, t206 (H.fm F1), t206 (H.fm F2), fl1, fl2, mK_SI, mR_SI, si_ne, si_nk, si_eq] at e0
  have e1 := congrArg (fun z => (z.getD ((), h)).2) e0
  simp only [Option.getD_some] at e1
  rw [← e1]
  simp (disch := omega) only [si_ne, si_nk, si_eq]
def pV (b : Nat) : Bool := Nat.beq b 193 || Nat.beq b 204 || Nat.beq b 205 || Nat.beq b 207
theorem pV_M : ∀ b, pV b = true → pM b = true := by
  intro b hb
  unfold pV at hb
  simp only [Bool.or_eq_true] at hb
  rcases hb with ((hb | hb) | hb) | hb
  all_goals rw [Nat.eq_of_beq_eq_true hb]; decide
theorem pV_n {b : Nat} (h : pV b = false) : b ≠ 193 ∧ b ≠ 204 ∧ b ≠ 205 ∧ b ≠ 207 := by
  refine ⟨?_, ?_, ?_, ?_⟩
  all_goals
    intro e
    rw [e] at h
    exact absurd h (by decide)
theorem MB.rd (A : MB h q x) (W : QW q) {c : Nat} (e : fav q x.1 = some c) : ∃ h1, f222 h 193 (iN c) = some ((), h1) ∧ Fr pV h h1 ∧ mI h1 193 37 = iN x.2.1 ∧ MB (mSI (mSI h1 207 x.2.1 (iN c)) 193 37 (iN (x.2.1 + 1))) q (aRd q x c) := by
  obtain ⟨hq, h8⟩ := A.pc W e
  obtain ⟨H, ⟨s, C, S, E⟩, a0, a1, a2, a3⟩ := A
  rw [← co_fav E] at e
  have hn := W.1.1
  obtain ⟨hc, hr⟩ := fav_ok e
  obtain ⟨h1, b1, b2, b3, b4⟩ := t222 H W C S hc hr
  refine ⟨h1, b1, ⟨b2.1.1, b2.1.2.1, fun b hb j => t222k H W C S hc b1 (pV_n hb).1 (pV_n hb).2.1 j⟩, (b2.2 37 (by omega)).trans a1, ((H.fm b2).s7).sd (by omega), ⟨_, (b3.s7).sd (by omega), b4, co_read E c⟩, a0, ?_, fun j hj => ?_, ?_⟩
  · simp (disch := omega) only [si_ne, si_nk, si_eq]; rfl
  · have hj : j < x.2.1 + 1 := hj
    show _ = iN (ud x.2.2 x.2.1 c j)
    by_cases d : j = x.2.1
    · subst d; rw [ud_eq]; simp (disch := omega) only [si_ne, si_nk, si_eq]
    · rw [ud_ne _ _ d]; simp (disch := omega) only [si_ne, si_nk, si_eq]; exact (t222k H W C S hc b1 (by omega) (by omega) j).trans (a2 j (by omega))
  · have e3 : (aRd q x c).2.1 = x.2.1 + 1 := rfl
    rw [e3, hq]
    omega
theorem t234i {l1 : Int32} {d : Nat} (A : MB h q x) (W : QW q) : ∃ h', mLoop (f234_26 193 l1 (iN d)) mFuel (zN (fav q x.1), h) = some (.inl (iN (d + 1), h')) ∧ Fr pV h h' ∧ MB h' q (dgo q 8 x) := by
  have hn := W.1.1
  have := lp_run2 (body := f234_26 193 l1 (iN d)) (R := fun k (y : AZ) z => z.1 = zN (fav q y.1) ∧ MB z.2 q y ∧ Fr pV h z.2 ∧ k ≤ pc (sRd y.1)) (Q := fun y r => ∃ h', r = .inl (iN (d + 1), h') ∧ Fr pV h h' ∧ MB h' q y) (go := fun n _ y => dgo q n y) 8 (fun n k y z hk hR => by
    obtain ⟨u1, u3⟩ := z
    obtain ⟨z1, z3, z4, z5⟩ := hR
    have z1 : u1 = zN (fav q y.1) := z1
    have z3 : MB u3 q y := z3
    subst z1
    have w2 := z3.1.1
    cases e : fav q y.1 with
    | none =>
      right
      refine ⟨_, ?_, u3, rfl, z4, by rw [dgo_n e]; exact z3⟩
      unfold f234_26
      simp (disch := omega) only [gT, nbeq, Option.isSome_some, Option.getD_some, Bool.and_true, Bool.true_and, Bool.and_self, mX_some, bS, bN_if, bN_01, i1_01, i0_01, if_true, if_false, Bool.false_eq_true, false_and, and_false, and_true, true_and, and_self, Bool.or_false, Bool.false_or, Bool.or_true, Bool.true_or, Bool.false_and, Bool.and_false, decide_true, decide_false, L0, L1, L2, L3, L4, L5, L6, L7, L8, L9, L10, L11, L12, L13, L14, L15, L16, L17, L18, L19, L20, L21, L22, L23, L24, L25, L27, L33, L39, L40, L45, L48, L57, L60, L72, L90, L97, L98, L99, L100, L121, L122, L242, L255, L256, L580, L600, L1000, L1584, L1000000, Ln1, iN_add, iN_and, iN_or, iN_nd, iN_shl, iN_shr, iN_cl, iN_in, iN_mul, zN_none, jj_p]
    | some c =>
      left
      obtain ⟨hq, h8⟩ := z3.pc W e
      have hm := z3.2.2.2.2.2
      obtain ⟨hc, _⟩ := fav_ok e
      obtain ⟨h1, b1, b2, b4, b5⟩ := z3.rd W e
      have w3 := w2.fr b2
      refine ⟨(zN (fav q (aRd q y c).1), mSI (mSI h1 207 y.2.1 (iN c)) 193 37 (iN (y.2.1 + 1))), aRd q y c, ?_, ⟨rfl, b5, ((z4.tr b2).si (by decide)).si (by decide), by rw [hq]; omega⟩, dgo_s e n⟩
      unfold f234_26 f234_56
      simp (disch := omega) only [gT, nbeq, Option.isSome_some, Option.getD_some, Bool.and_true, Bool.true_and, Bool.and_self, mX_some, bS, bN_if, bN_01, i1_01, i0_01, if_true, if_false, Bool.false_eq_true, false_and, and_false, and_true, true_and, and_self, Bool.or_false, Bool.false_or, Bool.or_true, Bool.true_or, Bool.false_and, Bool.and_false, decide_true, decide_false, L0, L1, L2, L3, L4, L5, L6, L7, L8, L9, L10, L11, L12, L13, L14, L15, L16, L17, L18, L19, L20, L21, L22, L23, L24, L25, L27, L33, L39, L40, L45, L48, L57, L60, L72, L90, L97, L98, L99, L100, L121, L122, L242, L255, L256, L580, L600, L1000, L1584, L1000000, Ln1, iN_add, iN_and, iN_or, iN_nd, iN_shl, iN_shr, iN_cl, iN_in, iN_mul, k193 w2, r193_1 w2, r193_2 w2, r193_3 w2, r193_4 w2, r193_5 w2, r193_6 w2, r193_7 w2, r193_8 w2, r193_18 w2, r193_19 w2, r193_32 w2, r193_33 w2, r193_34 w2, r193_36 w2, r193_38 w2, r193_39 w2, r193_40 w2, r193_42 w2, r193_45 w2, r193_46 w2, r193_47 w2, r193_48 w2, r193_49 w2, r193_50 w2, k193 w3, r193_1 w3, r193_2 w3, r193_3 w3, r193_4 w3, r193_5 w3, r193_6 w3, r193_7 w3, r193_8 w3, r193_18 w3, r193_19 w3, r193_32 w3, r193_33 w3, r193_34 w3, r193_36 w3, r193_38 w3, r193_39 w3, r193_40 w3, r193_42 w3, r193_45 w3, r193_46 w3, r193_47 w3, r193_48 w3, r193_49 w3, r193_50 w3, k207 w3, zN_some, ij_n, b1, b4, si_ne, b5.fv W, k193 b5.1.1]) (fun y z hR => by
    obtain ⟨u1, u3⟩ := z
    obtain ⟨z1, z3, z4, z5⟩ := hR
    have z1 : u1 = zN (fav q y.1) := z1
    have z3 : MB u3 q y := z3
    subst z1
    cases e : fav q y.1 with
    | none =>
      refine ⟨_, ?_, u3, rfl, z4, z3⟩
      unfold f234_26
      simp (disch := omega) only [gT, nbeq, Option.isSome_some, Option.getD_some, Bool.and_true, Bool.true_and, Bool.and_self, mX_some, bS, bN_if, bN_01, i1_01, i0_01, if_true, if_false, Bool.false_eq_true, false_and, and_false, and_true, true_and, and_self, Bool.or_false, Bool.false_or, Bool.or_true, Bool.true_or, Bool.false_and, Bool.and_false, decide_true, decide_false, L0, L1, L2, L3, L4, L5, L6, L7, L8, L9, L10, L11, L12, L13, L14, L15, L16, L17, L18, L19, L20, L21, L22, L23, L24, L25, L27, L33, L39, L40, L45, L48, L57, L60, L72, L90, L97, L98, L99, L100, L121, L122, L242, L255, L256, L580, L600, L1000, L1584, L1000000, Ln1, iN_add, iN_and, iN_or, iN_nd, iN_shl, iN_shr, iN_cl, iN_in, iN_mul, zN_none, jj_p]
    | some c =>
      have := (z3.pc W e).2
      omega) (by omega) (x0 := x) (s := (zN (fav q x.1), h)) ⟨rfl, A, Fr.rfl, Nat.zero_le _⟩
  obtain ⟨r, r1, h', rfl, r2, r3⟩ := this
  exact ⟨h', r1, r2, r3⟩
theorem dgo_cd {q : LQ} : ∀ n (x : AZ), sCd (dgo q n x).1 = sCd x.1 := by
  intro n
  induction n with
  | zero => intro x; rfl
  | succ n ih =>
    intro x
    cases e : fav q x.1 with
    | none => rw [dgo_n e]
    | some c => rw [dgo_s e, ih]; rfl
theorem MB.mrn (A : MB h q x) (W : QW q) : MB (mSI h 193 28 (iN (q 0 2))) q (amor q x) := by
  obtain ⟨H, ⟨s, C, S, E⟩, a0, a1, a2, a3⟩ := A
  have h1 : sLk s = sLk x.1 := congrArg (fun z => z.1) E
  have h2 : sRd s = sRd x.1 := congrArg (fun z => z.2.1) E
  have h3 : sSk s = sSk x.1 := congrArg (fun z => z.2.2.1) E
  have h5 : sCd s = sCd x.1 := congrArg (fun z => z.2.2.2.2) E
  have hcd : sCd s = false := h5.trans a0
  refine ⟨H.sd (by omega), ⟨mor q s, ?_, ⟨S.1, S.2.1, S.2.2.1, S.2.2.2.1, W.1.2.2.2⟩, ?_⟩, rfl, ?_, fun j hj => ?_, a3⟩
  · obtain ⟨c1, c2, c3, c4, c5, c6, c7, c8⟩ := C
    rw [hcd] at c7
    refine ⟨fun t ht => ?_, fun k hk => ?_, ?_, ?_, ?_, ?_, ?_, ?_⟩
    all_goals simp (disch := omega) only [si_ne, si_nk, si_eq]
    · exact c1 t ht
    · exact c2 k hk
    · exact c3
    · exact c4
    · exact c5
    · rfl
    · exact c7
    · exact c8
  · show (sLk s, sRd s, sSk s, q 0 2, false) = (sLk x.1, sRd x.1, sSk x.1, q 0 2, false)
    rw [h1, h2, h3]
  · simp (disch := omega) only [si_ne, si_nk, si_eq]; exact a1
  · simp (disch := omega) only [si_ne, si_nk, si_eq]; exact a2 j hj
theorem t234 (H : MoS h q) (W : QW q) {s : LSt} (C : MLS h s) (S : SW q s) (E : co s = co (D 0).1) (Ec : sCd (D 0).1 = false) (z0 : (D 0).2.1 = 0) (Ds : ∀ i, D (i + 1) = dgo q 8 (amor q (D i))) (hn : n < 1000) : ∃ h', f234 h 193 (iN n) = some ((), h') ∧ Fr pV h h' ∧ MB h' q (D n) := by
  have w := H.1
  unfold f234
  simp only [gT, nbeq, Option.isSome_some, Option.getD_some, Bool.and_true, Bool.true_and, Bool.and_self, mX_some, bS, bN_if, bN_01, i1_01, i0_01, if_true, if_false, Bool.false_eq_true, false_and, and_false, and_true, true_and, and_self, Bool.or_false, Bool.false_or, Bool.or_true, Bool.true_or, Bool.false_and, Bool.and_false, decide_true, decide_false, L0, L1, L2, L3, L4, L5, L6, L7, L8, L9, L10, L11, L12, L13, L14, L15, L16, L17, L18, L19, L20, L21, L22, L23, L24, L25, L27, L33, L39, L40, L45, L48, L57, L60, L72, L90, L97, L98, L99, L100, L121, L122, L242, L255, L256, L580, L600, L1000, L1584, L1000000, Ln1, iN_add, iN_and, iN_or, iN_nd, iN_shl, iN_shr, iN_cl, iN_in, iN_mul, k193 w, r193_1 w, r193_2 w, r193_3 w, r193_4 w, r193_5 w, r193_6 w, r193_7 w, r193_8 w, r193_18 w, r193_19 w, r193_32 w, r193_33 w, r193_34 w, r193_36 w, r193_38 w, r193_39 w, r193_40 w, r193_42 w, r193_45 w, r193_46 w, r193_47 w, r193_48 w, r193_49 w, r193_50 w]
  have := lp_inv (body := f234_7 193 (iN n)) (P := fun i z => z.1 = iN i ∧ MB z.2 q (D i) ∧ Fr pV h z.2) (Q := fun r => Fr pV h r.2 ∧ MB r.2 q (D n)) n (fun i z hi hP => by
    obtain ⟨u1, u3⟩ := z
    obtain ⟨z1, z3, z4⟩ := hP
    have z1 : u1 = iN i := z1
    have z3 : MB u3 q (D i) := z3
    subst z1
    left
    have w2 := z3.1.1
    have M2 := z3.mrn W
    obtain ⟨h', b1, b2, b3⟩ := t234i (l1 := iN n) (d := i) M2 W
    rw [← Ds i] at b3
    refine ⟨(iN (i + 1), h'), ?_, rfl, b3, (z4.si (by decide)).tr b2⟩
    have e2 := t206 z3.1 (j := 2) (by omega)
    unfold f234_7
    simp (disch := omega) only [gT, nbeq, Option.isSome_some, Option.getD_some, Bool.and_true, Bool.true_and, Bool.and_self, mX_some, bS, bN_if, bN_01, i1_01, i0_01, if_true, if_false, Bool.false_eq_true, false_and, and_false, and_true, true_and, and_self, Bool.or_false, Bool.false_or, Bool.or_true, Bool.true_or, Bool.false_and, Bool.and_false, decide_true, decide_false, L0, L1, L2, L3, L4, L5, L6, L7, L8, L9, L10, L11, L12, L13, L14, L15, L16, L17, L18, L19, L20, L21, L22, L23, L24, L25, L27, L33, L39, L40, L45, L48, L57, L60, L72, L90, L97, L98, L99, L100, L121, L122, L242, L255, L256, L580, L600, L1000, L1584, L1000000, Ln1, iN_add, iN_and, iN_or, iN_nd, iN_shl, iN_shr, iN_cl, iN_in, iN_mul, k193 w2, r193_1 w2, r193_2 w2, r193_3 w2, r193_4 w2, r193_5 w2, r193_6 w2, r193_7 w2, r193_8 w2, r193_18 w2, r193_19 w2, r193_32 w2, r193_33 w2, r193_34 w2, r193_36 w2, r193_38 w2, r193_39 w2, r193_40 w2, r193_42 w2, r193_45 w2, r193_46 w2, r193_47 w2, r193_48 w2, r193_49 w2, r193_50 w2, ile_n, e2, fl0 (q := q) (k := 2) (by omega), M2.fv W, b1]) (fun z hP => by
    obtain ⟨u1, u3⟩ := z
    obtain ⟨z1, z3, z4⟩ := hP
    have z1 : u1 = iN n := z1
    subst z1
    refine ⟨((), u3), ?_, z4, z3⟩
    unfold f234_7
    simp (disch := omega) only [gT, nbeq, Option.isSome_some, Option.getD_some, Bool.and_true, Bool.true_and, Bool.and_self, mX_some, bS, bN_if, bN_01, i1_01, i0_01, if_true, if_false, Bool.false_eq_true, false_and, and_false, and_true, true_and, and_self, Bool.or_false, Bool.false_or, Bool.or_true, Bool.true_or, Bool.false_and, Bool.and_false, decide_true, decide_false, L0, L1, L2, L3, L4, L5, L6, L7, L8, L9, L10, L11, L12, L13, L14, L15, L16, L17, L18, L19, L20, L21, L22, L23, L24, L25, L27, L33, L39, L40, L45, L48, L57, L60, L72, L90, L97, L98, L99, L100, L121, L122, L242, L255, L256, L580, L600, L1000, L1584, L1000000, Ln1, iN_add, iN_and, iN_or, iN_nd, iN_shl, iN_shr, iN_cl, iN_in, iN_mul, ile_p]) (by omega) (s := (iN 0, mSI h 193 37 (iN 0))) ⟨rfl, ⟨H.sd (by omega), ⟨s, C.sd (by omega), S, E⟩, Ec, (by rw [z0]; simp (disch := omega) only [si_ne, si_nk, si_eq]), fun j hj => (by omega), by omega⟩, Fr.rfl.si (by decide)⟩
  obtain ⟨⟨⟨⟩, h'⟩, r1, r2, r3⟩ := this
  exact ⟨h', r1, r2, r3⟩
end MB
