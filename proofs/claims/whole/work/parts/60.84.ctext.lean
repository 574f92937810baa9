/-! text: the call (printed by gen_text2.py) -/
def pTt (x : Nat) : Bool := pTx x || Nat.beq x 195
theorem pTt_f {x : Nat} (h : x < 193 ∨ x = 194 ∨ (198 ≤ x ∧ x < 202) ∨ 204 ≤ x) : pTt x = false := by
  unfold pTt pTx pTl
  rw [nbq (show x ≠ 193 by omega), nbq (show x ≠ 202 by omega), nbq (show x ≠ 203 by omega), nbq (show x ≠ 196 by omega), nbq (show x ≠ 197 by omega), nbq (show x ≠ 195 by omega)]; rfl
/-- the FAULT of all lines -/
def fnl (len : Nat) : Nat ⊕ (CQ × FT) → FT
  | .inl x => some (1, x)
  | .inr y => ffn y.1 len y.2
def cldF (h : mH) : FT → Prop
  | none => mI h 1 6 = iN 0 ∧ mI h 1 7 = jN
  | some x => (x.1 < 5 ∧ x.1 ≠ 0 ∧ x.2 ≤ 600) ∧ mI h 1 6 = iN x.1 ∧ mI h 1 7 = iN x.2
theorem cld_B {h : mH} {f : FT} (C : cldF h f) (T : tldF h f) : RelB h 1 0 := by
  cases f with
  | none => exact ⟨⟨0, by omega, C.1, T.1⟩, none, fun p e => (by cases e), C.2, T.2⟩
  | some x => exact ⟨⟨x.1, C.1.1, C.2.1, T.1⟩, some x.2, fun p e => (by cases e; exact C.1.2.2), C.2.2, T.2⟩
theorem cld_e {h h' : mH} {f : FT} (C : cldF h f) (e6 : mI h' 1 6 = mI h 1 6) (e7 : mI h' 1 7 = mI h 1 7) : cldF h' f := by
  cases f with
  | none => exact ⟨e6.trans C.1, e7.trans C.2⟩
  | some x => exact ⟨C.1, e6.trans C.2.1, e7.trans C.2.2⟩
theorem tld_e {h h' : mH} {f : FT} (C : tldF h f) (e6 : mI h' 196 0 = mI h 196 0) (e7 : mI h' 197 0 = mI h 197 0) : tldF h' f := by
  cases f with
  | none => exact ⟨e6.trans C.1, e7.trans C.2⟩
  | some x => exact ⟨e6.trans C.1, e7.trans C.2⟩
theorem LibE.ap {h h' g : mH} {b a : Nat} (E : LibE h h' b a) (x : ∀ i, i < 7 → ∀ j, mI g (a + i) j = mI h' (a + i) j) : LibE h g b a := by
  obtain ⟨⟨e1, e2, e3⟩, e4⟩ := E
  refine ⟨⟨(x 0 (by decide) 6).trans e1, (x 0 (by decide) 7).trans e2, (x 0 (by decide) 8).trans e3⟩, fun i hi j hj => ?_⟩
  have z := x (1 + i) (by omega) j
  rw [← Nat.add_assoc] at z
  exact z.trans (e4 i hi j hj)
theorem YrE.ap {h h' g : mH} {b a : Nat} (E : YrE h h' b a) (x : ∀ i, i < 4 → ∀ j, mI g (a + i) j = mI h' (a + i) j) : YrE h g b a := by
  obtain ⟨e1, e4⟩ := E
  refine ⟨(x 0 (by decide) 3).trans e1, fun i hi j hj => ?_⟩
  have z := x (1 + i) (by omega) j
  rw [← Nat.add_assoc] at z
  exact z.trans (e4 i hi j hj)
theorem LgE.ap {h h' g : mH} {b a : Nat} (E : LgE h h' b a) (x : ∀ i, i < 3 → ∀ j, mI g (a + i) j = mI h' (a + i) j) : LgE h g b a := by
  obtain ⟨e1, e4⟩ := E
  refine ⟨(x 0 (by decide) 2).trans e1, fun i hi j hj => ?_⟩
  have z := x (1 + i) (by omega) j
  rw [← Nat.add_assoc] at z
  exact z.trans (e4 i hi j hj)
theorem ps_hi {a : Nat} (h : 218 ≤ a) : ps a = true := by
  unfold ps pC pM
  have e1 : Nat.blt a 91 = false := by
    cases e : Nat.blt a 91 with
    | false => rfl
    | true => have := Nat.le_of_ble_eq_true e; omega
  have e2 : Nat.blt a 217 = false := by
    cases e : Nat.blt a 217 with
    | false => rfl
    | true => have := Nat.le_of_ble_eq_true e; omega
  rw [e1, e2, nbq (show a ≠ 193 by omega), Bool.and_false, Bool.and_false]; rfl
section CT
variable {h : mH}
/-- the class's reading, told -/
theorem x18m {n s m pl : Nat} {b : Nat → Nat} {x2 : Int32} (R : Rel h) (a1 : mI h 1 5 = iN n) (hn : n ≤ 600) (hb : ∀ i, i < n → b i < 256 ∧ mI h 2 i = iN (b i)) (hs : s < 3) (hm : m ≤ 2) (e3 : mI h 3 s = iN m) (hpl : pl < 2) (hx : x2 = jN ∧ pl = m ∨ x2 = iN pl ∧ pl < m) : ∃ h3, Wd h3 ∧ (∀ a, ps a = true → a ≠ 1 → ∀ j, mI h3 a j = mI h a j) ∧ mI h3 1 5 = iN 0 ∧ cldF h3 (fnl n (prs b n s 600 0 cE none)) ∧ (∀ c f, prs b n s 600 0 cE none = .inr (c, f) → ffn c n f = none → CC h3 c none ∧ CWF c) ∧ f18 h 0 (iN s) x2 = if (fnl n (prs b n s 600 0 cE none)).isSome = true then some (jN, h3) else (f47 h3 1 (iN s) (iN pl) 37).bind (fun r => some (iN pl, r.2)) := by
  have w := R.1
  have F1 : Fr pTp h (mSI (mSI (mSI h 1 5 (iN 0)) 1 6 (iN 0)) 1 7 jN) := ((Fr.rfl.si (by decide)).si (by decide)).si (by decide)
  have w1 := w.fr F1
  have e18 := ((x18 (x2 := x2) R a1).1 s m hs rfl hm e3).1 pl hpl hx
  have hb1 : ∀ i, i < n → b i < 256 ∧ mI (mSI (mSI (mSI h 1 5 (iN 0)) 1 6 (iN 0)) 1 7 jN) 2 i = iN (b i) := fun i hi => ⟨(hb i hi).1, by simp (disch := omega) only [si_ne, si_nk, si_eq]; exact (hb i hi).2⟩
  obtain ⟨h2, c1, c2, c3⟩ := t19 hs w1 hn hb1
  have w2 := w1.q c2
  have e5 : mI h2 1 5 = iN 0 := (c2.i rfl 5).trans (by simp (disch := omega) only [si_ne, si_nk, si_eq])
  have F3 : Fr pTp h2 (mSI (mSI h2 1 6 (mI h2 37 3)) 1 7 (mI h2 37 4)) := (Fr.rfl.si (by decide)).si (by decide)
  have w3 := w2.fr F3
  generalize prs b n s 600 0 cE none = r at c3 ⊢
  have F : FCl h2 (fnl n r) ∧ ∀ k p, fnl n r = some (k, p) → k < 5 ∧ k ≠ 0 ∧ p ≤ 600 := by
    cases r with
    | inl x => exact ⟨⟨c3.2.1, c3.2.2⟩, fun k p e => by
        have e := Option.some.inj e
        have e3 : 1 = k := congrArg Prod.fst e
        have e4 : x = p := congrArg Prod.snd e
        subst e3; subst e4; exact ⟨by omega, by omega, c3.1⟩⟩
    | inr y => exact ⟨c3.1.2.2.2.2.2.2, fun k p e => by
        have := c3.2.1 k p e
        omega⟩
  obtain ⟨Fa, Fb⟩ := F
  refine ⟨mSI (mSI h2 1 6 (mI h2 37 3)) 1 7 (mI h2 37 4), w3, fun a p ha j => ?_, ?_, ?_, fun c f e1 e2 => ?_, ?_⟩
  · simp (disch := omega) only [si_ne, si_nk, si_eq]
    exact (c2.i p j).trans (by simp (disch := omega) only [si_ne, si_nk, si_eq])
  · simp (disch := omega) only [si_ne, si_nk, si_eq]; exact e5
  · cases hf : fnl n r with
    | none =>
      rw [hf] at Fa
      exact ⟨by simp (disch := omega) only [si_ne, si_nk, si_eq]; exact Fa.1, by simp only [si_ne, si_nk, si_eq]; exact Fa.2⟩
    | some x =>
      rw [hf] at Fa
      exact ⟨Fb x.1 x.2 hf, by simp (disch := omega) only [si_ne, si_nk, si_eq]; exact Fa.1, by simp only [si_ne, si_nk, si_eq]; exact Fa.2⟩
  · subst e1
    have c3 : CC h2 c (ffn c n f) ∧ FTW (ffn c n f) ∧ CWF c := c3
    rw [e2] at c3
    refine ⟨c3.1.fr F3 (fun i h1 h2 => pTp_f (by omega) (by omega)), c3.2.2⟩
  · rw [e18]
    simp (disch := omega) only [gT, nbeq, Option.isSome_some, Option.getD_some, Bool.and_true, Bool.true_and, Bool.and_self, mX_some, bS, bN_if, bN_01, i1_01, i0_01, if_true, if_false, Bool.false_eq_true, false_and, and_false, and_true, true_and, and_self, Bool.or_false, Bool.false_or, Bool.or_true, Bool.true_or, Bool.false_and, Bool.and_false, decide_true, decide_false, c1, k0 w2, r0_0 w2, r0_1 w2, r0_2 w2, r0_3 w2, r0_4 w2, r0_5 w2, r0_6 w2, r0_7 w2, r0_8 w2, k1 w2, r1_0 w2, r1_1 w2, r1_2 w2, r1_3 w2, r1_4 w2, k37 w2, r37_0 w2, r37_1 w2, r37_2 w2, r37_5 w2, r37_6 w2, r37_7 w2, si_ne, si_nk, si_eq]
    have g6 : mI (mSI (mSI h2 1 6 (mI h2 37 3)) 1 7 (mI h2 37 4)) 1 6 = mI h2 37 3 := by simp (disch := omega) only [si_ne, si_nk, si_eq]
    generalize mSI (mSI h2 1 6 (mI h2 37 3)) 1 7 (mI h2 37 4) = h3 at w3 g6
    unfold f18_144
    cases hf : fnl n r with
    | none =>
      rw [hf] at Fa
      have Fa1 := g6.trans Fa.1
      simp (disch := omega) only [gT, nbeq, Option.isSome_some, Option.getD_some, Bool.and_true, Bool.true_and, Bool.and_self, mX_some, bS, bN_if, bN_01, i1_01, i0_01, if_true, if_false, Bool.false_eq_true, false_and, and_false, and_true, true_and, and_self, Bool.or_false, Bool.false_or, Bool.or_true, Bool.true_or, Bool.false_and, Bool.and_false, decide_true, decide_false, L0, L1, L2, L3, L4, L5, L6, L7, L8, L9, L10, L11, L12, L13, L14, L15, L16, L17, L18, L19, L20, L21, L22, L23, L24, L25, L27, L33, L39, L40, L45, L48, L57, L60, L72, L90, L97, L98, L99, L100, L121, L122, L242, L255, L256, L580, L600, L1000, L1584, L1000000, Ln1, iN_add, iN_and, iN_or, iN_nd, iN_shl, iN_shr, iN_cl, iN_in, iN_mul, k0 w3, r0_0 w3, r0_1 w3, r0_2 w3, r0_3 w3, r0_4 w3, r0_5 w3, r0_6 w3, r0_7 w3, r0_8 w3, k1 w3, r1_0 w3, r1_1 w3, r1_2 w3, r1_3 w3, r1_4 w3, k37 w3, r37_0 w3, r37_1 w3, r37_2 w3, r37_5 w3, r37_6 w3, r37_7 w3, Fa1, ieq_p, Option.isSome_none]
      try rfl
    | some x =>
      rw [hf] at Fa
      have Fa1 := g6.trans Fa.1
      have hx := Fb x.1 x.2 hf
      simp (disch := omega) only [gT, nbeq, Option.isSome_some, Option.getD_some, Bool.and_true, Bool.true_and, Bool.and_self, mX_some, bS, bN_if, bN_01, i1_01, i0_01, if_true, if_false, Bool.false_eq_true, false_and, and_false, and_true, true_and, and_self, Bool.or_false, Bool.false_or, Bool.or_true, Bool.true_or, Bool.false_and, Bool.and_false, decide_true, decide_false, L0, L1, L2, L3, L4, L5, L6, L7, L8, L9, L10, L11, L12, L13, L14, L15, L16, L17, L18, L19, L20, L21, L22, L23, L24, L25, L27, L33, L39, L40, L45, L48, L57, L60, L72, L90, L97, L98, L99, L100, L121, L122, L242, L255, L256, L580, L600, L1000, L1584, L1000000, Ln1, iN_add, iN_and, iN_or, iN_nd, iN_shl, iN_shr, iN_cl, iN_in, iN_mul, k0 w3, r0_0 w3, r0_1 w3, r0_2 w3, r0_3 w3, r0_4 w3, r0_5 w3, r0_6 w3, r0_7 w3, r0_8 w3, k1 w3, r1_0 w3, r1_1 w3, r1_2 w3, r1_3 w3, r1_4 w3, k37 w3, r37_0 w3, r37_1 w3, r37_2 w3, r37_5 w3, r37_6 w3, r37_7 w3, Fa1, ieq_n, Option.isSome_some]
/-- the reference's reading -/
theorem x180m {n s m pl : Nat} {b : Nat → Nat} {x2 : Int32} (w : Wd h) (a1 : mI h 195 0 = iN n) (hn : n ≤ 600) (hb : ∀ i, i < n → b i < 256 ∧ mI h 194 i = yN (b i)) (hs : s < 3) (hm : m ≤ 2) (e8 : mI h 198 s = iN m) (hpl : pl < 2) (hx : x2 = jN ∧ pl = m ∨ x2 = iN pl ∧ pl < m) : ∃ g, Fr pTt h g ∧ mI g 195 0 = iN 0 ∧ tldF g (fnl n (prs b n s 600 0 cE none)) ∧ (∀ j, j ≠ 0 → mI g 195 j = mI h 195 j ∧ mI g 196 j = mI h 196 j ∧ mI g 197 j = mI h 197 j) ∧ (∀ c f, prs b n s 600 0 cE none = .inr (c, f) → ffn c n f = none → RCs s g c none) ∧ f180 h 193 (iN s) x2 = if (fnl n (prs b n s 600 0 cE none)).isSome = true then some (jN, g) else f180_100 g 193 (iN s) x2 (iN pl) := by
  obtain ⟨g, F1, ⟨y1, y2, y3, y4⟩, y5, y6, _⟩ := x180 (x1 := iN s) (x2 := x2) w a1
  have w1 := w.fr F1
  have e := (y6 s m hs rfl hm e8).1 pl hpl hx
  obtain ⟨ok, g', b1, ⟨b2, b3⟩, b4⟩ := t182 (b := b) hs w1 y1 hn (fun i hi => ⟨(hb i hi).1, (F1.i (by decide) i).trans (hb i hi).2⟩)
  have w2 := w1.fr b2
  have e8' : mI g' 198 s = iN m := (b2.i (by decide) s).trans ((F1.i (by decide) s).trans e8)
  refine ⟨g', (F1.mono (fun x hx => ?_)).tr (b2.mono (fun x hx => by unfold pTt; rw [hx]; rfl)), (b2.i (by decide) 0).trans y2, ?_, fun j hj => ⟨(b2.i (by decide) j).trans (y5 j hj).1, (b3 j hj).1.trans (y5 j hj).2.1, (b3 j hj).2.trans (y5 j hj).2.2⟩, fun c f e1 e2 => ?_, ?_⟩
  · simp only [Bool.or_eq_true] at hx
    rcases hx with ((hx | hx) | hx) | hx <;> (have hx := Nat.eq_of_beq_eq_true hx; rw [hx]; decide)
  · generalize prs b n s 600 0 cE none = r at b4 ⊢
    cases r with
    | inl x => exact b4.2
    | inr y => exact b4.2.1
  · rw [e1] at b4
    exact b4.2.2 e2
  · rw [e]
    generalize prs b n s 600 0 cE none = r at b4 ⊢
    have eo : ok = if (fnl n r).isSome = true then iN 0 else iN 1 := by
      cases r with
      | inl x => exact b4.1
      | inr y => exact b4.1
    unfold f180_75
    by_cases ef : (fnl n r).isSome = true
    · rw [if_pos ef] at eo ⊢
      subst eo
      simp (disch := omega) only [gT, nbeq, Option.isSome_some, Option.getD_some, Bool.and_true, Bool.true_and, Bool.and_self, mX_some, bS, bN_if, bN_01, i1_01, i0_01, if_true, if_false, Bool.false_eq_true, false_and, and_false, and_true, true_and, and_self, Bool.or_false, Bool.false_or, Bool.or_true, Bool.true_or, Bool.false_and, Bool.and_false, decide_true, decide_false, L0, L1, L2, L3, L4, L5, L6, L7, L8, L9, L10, L11, L12, L13, L14, L15, L16, L17, L18, L19, L20, L21, L22, L23, L24, L25, L27, L33, L39, L40, L45, L48, L57, L60, L72, L90, L97, L98, L99, L100, L121, L122, L242, L255, L256, L580, L600, L1000, L1584, L1000000, Ln1, iN_add, iN_and, iN_or, iN_nd, iN_shl, iN_shr, iN_cl, iN_in, iN_mul, k193 w1, b1, ieq_p]
    · rw [if_neg ef] at eo ⊢
      subst eo
      simp (disch := omega) only [gT, nbeq, Option.isSome_some, Option.getD_some, Bool.and_true, Bool.true_and, Bool.and_self, mX_some, bS, bN_if, bN_01, i1_01, i0_01, if_true, if_false, Bool.false_eq_true, false_and, and_false, and_true, true_and, and_self, Bool.or_false, Bool.false_or, Bool.or_true, Bool.true_or, Bool.false_and, Bool.and_false, decide_true, decide_false, L0, L1, L2, L3, L4, L5, L6, L7, L8, L9, L10, L11, L12, L13, L14, L15, L16, L17, L18, L19, L20, L21, L22, L23, L24, L25, L27, L33, L39, L40, L45, L48, L57, L60, L72, L90, L97, L98, L99, L100, L121, L122, L242, L255, L256, L580, L600, L1000, L1584, L1000000, Ln1, iN_add, iN_and, iN_or, iN_nd, iN_shl, iN_shr, iN_cl, iN_in, iN_mul, k193 w1, b1, ieq_n]
      rcases hx with ⟨rfl, rfl⟩ | ⟨rfl, hx⟩
      · simp (disch := omega) only [gT, nbeq, Option.isSome_some, Option.getD_some, Bool.and_true, Bool.true_and, Bool.and_self, mX_some, bS, bN_if, bN_01, i1_01, i0_01, if_true, if_false, Bool.false_eq_true, false_and, and_false, and_true, true_and, and_self, Bool.or_false, Bool.false_or, Bool.or_true, Bool.true_or, Bool.false_and, Bool.and_false, decide_true, decide_false, jj_p, k193 w2, r193_1 w2, r193_2 w2, r193_3 w2, r193_4 w2, r193_5 w2, r193_6 w2, r193_7 w2, r193_8 w2, r193_18 w2, r193_19 w2, r193_32 w2, r193_33 w2, r193_34 w2, r193_36 w2, r193_38 w2, r193_39 w2, r193_40 w2, r193_42 w2, r193_45 w2, r193_46 w2, r193_47 w2, r193_48 w2, r193_49 w2, r193_50 w2, k198 w2, iN_in, iN_cl, e8']
      · simp (disch := omega) only [ij_n]
/-- where nothing is kept -/
theorem Rel.aft {g : mH} (R : Rel h) (w : Wd g) (A1 : mI g 1 5 = iN 0) (A2 : mI g 195 0 = iN 0) (B : RelB g 1 0) (c : ∀ a, (3 ≤ a ∧ a < 37) ∨ (91 ≤ a ∧ a < 193) ∨ a = 194 ∨ (198 ≤ a ∧ a < 202) ∨ a = 217 → ∀ j, mI g a j = mI h a j) (m : ∀ j, j ≠ 0 → mI g 195 j = mI h 195 j ∧ mI g 196 j = mI h 196 j ∧ mI g 197 j = mI h 197 j) : Rel g := by
  obtain ⟨x, y, z⟩ := R.keep w (fun x h1 h2 j => c x (by omega) j) (fun x h1 h2 j => c x (by omega) j)
  exact R.tx w A1 A2 B x y z (fun x h1 h2 j => c x (by omega) j) (fun j => c 36 (by omega) j) (fun j => c 217 (by omega) j) (fun k hk => ⟨fun i hi => c 194 (by omega) _, (m _ (by omega)).1, (m _ (by omega)).2.1, (m _ (by omega)).2.2, fun i hi => c 198 (by omega) _, fun i hi => c 199 (by omega) _, fun i hi => c 200 (by omega) _, fun i hi => c 201 (by omega) _⟩)
theorem x_ok0 {h3 : mH} {n pl m : Nat} {b : Nat → Nat} {x2 : Int32} {c : CQ} {f : FT} (R : Rel h) (w3 : Wd h3) (q3 : ∀ a, ps a = true → a ≠ 1 → ∀ j, mI h3 a j = mI h a j) (A1 : mI h3 1 5 = iN 0) (cF : cldF h3 none) (hr : prs b n 0 600 0 cE none = .inr (c, f)) (hf : ffn c n f = none) (C : CC h3 c none) (V : CWF c) (a5 : mI h 195 0 = iN n) (hn : n ≤ 600) (hb : ∀ i, i < n → b i < 256 ∧ mI h 194 i = yN (b i)) (hm : m ≤ 2) (e3 : mI h 3 0 = iN m) (e8 : mI h 198 0 = iN m) (hpl : pl < 2) (hx : x2 = jN ∧ pl = m ∨ x2 = iN pl ∧ pl < m) : ∃ h4 h5, f47 h3 1 (iN 0) (iN pl) 37 = some ((), h4) ∧ f180 h4 193 (iN 0) x2 = some (iN pl, h5) ∧ Rel h5 ∧ Hi h3 h4 ∧ Hi h4 h5 := by
  have hpm : pl ≤ m := by rcases hx with h | h <;> omega
  obtain ⟨h', t1, t2, t3⟩ := t47_0 w3 hpl hm ((q3 3 rfl (by decide) 0).trans e3)
  have w' := w3.fr t2
  have F4 : Fr (fun x => Nat.beq x 3) h' (mSI h' 3 0 (iN (max m (pl + 1)))) := Fr.rfl.si rfl
  have w4 := w'.fr F4
  have e43 : ∀ k, k ≠ 0 → mI (mSI h' 3 0 (iN (max m (pl + 1)))) 3 k = mI h 3 k := fun k hk => by
    simp (disch := omega) only [si_ne, si_nk, si_eq]
    exact (t2.i (pRg_f (by omega)) k).trans (q3 3 rfl (by decide) k)
  have e4s : mI (mSI h' 3 0 (iN (max m (pl + 1)))) 3 0 = iN (max m (pl + 1)) := by simp only [si_ne, si_nk, si_eq]
  generalize mSI h' 3 0 (iN (max m (pl + 1))) = h4 at t1 F4 w4 e43 e4s
  have c4 : ∀ a, ps a = true → a ≠ 1 → a ≠ 3 → (a < 7 + 14 * pl ∨ 7 + 14 * pl + 7 ≤ a) → ∀ j, mI h4 a j = mI h a j := fun a p n1 n3 hr j => (F4.i (nbq n3) j).trans ((t2.i (pRg_f hr) j).trans (q3 a p n1 j))
  obtain ⟨g, u1, u2, u3, u4, u5, u6⟩ := x180m (b := b) w4 ((c4 195 rfl (by decide) (by decide) (by omega) 0).trans a5) hn (fun i hi => ⟨(hb i hi).1, (c4 194 rfl (by decide) (by decide) (by omega) i).trans (hb i hi).2⟩) (show 0 < 3 by decide) hm ((c4 198 rfl (by decide) (by decide) (by omega) 0).trans e8) hpl hx
  have wg := w4.fr u1
  have ef : fnl n (prs b n 0 600 0 cE none) = none := by rw [hr]; exact hf
  have u5 := u5 c f hr hf
  rw [ef] at u3 u6
  rw [if_neg (show ¬ (Option.isSome (none : FT) = true) by decide)] at u6
  obtain ⟨g5, v1, v2, v3, v4, v5, v6⟩ := x100_0 hm ((u1.i (pTt_f (by omega)) 0).trans ((c4 198 rfl (by decide) (by decide) (by omega) 0).trans e8)) hx hpl wg
  have w5 := wg.fr v2
  have pv : ∀ a, a ≠ 198 → a ≠ 199 → (Nat.beq a 198 || Nat.beq a 199) = false := fun a n1 n2 => by rw [nbq n1, nbq n2]; rfl
  refine ⟨h4, g5, t1, u6.trans v1, ?_, (Hi.fr t2 (fun a ha => pRg_f (by omega))).tr (Hi.fr F4 (fun a ha => nbq (by omega))), (Hi.fr u1 (fun a ha => pTt_f (by omega))).tr (Hi.fr v2 (fun a ha => pv a (by omega) (by omega)))⟩
  have cg : ∀ a, (3 < a ∧ a < 37 ∧ (a < 7 + 14 * pl ∨ 7 + 14 * pl + 7 ≤ a)) ∨ (91 ≤ a ∧ a < 193) ∨ a = 194 ∨ (199 ≤ a ∧ a < 202 ∧ a ≠ 199) ∨ a = 217 → ∀ j, mI g5 a j = mI h a j := fun a ha j => (v2.i (pv a (by omega) (by omega)) j).trans ((u1.i (pTt_f (by omega)) j).trans (c4 a (by
    rcases ha with h | h | h | h | h
    · exact ps_lo a (by omega)
    · exact ps_im a (by omega) (by omega)
    · rw [h]; decide
    · exact ps_mo a (by omega) (by omega)
    · rw [h]; decide) (by omega) (by omega) (by omega) j))
  have c3 : ∀ k, k ≠ 0 → mI g5 3 k = mI h 3 k := fun k hk => (v2.i (pv 3 (by omega) (by omega)) k).trans ((u1.i (pTt_f (by omega)) k).trans (e43 k hk))
  have c8 : ∀ k, k ≠ 0 → mI g5 198 k = mI h 198 k := fun k hk => (v4 k hk).trans ((u1.i (pTt_f (by omega)) k).trans (c4 198 rfl (by decide) (by decide) (by omega) k))
  have cC : ∀ j, (j < 45 * pl ∨ 45 * pl + 45 ≤ j) → mI g5 199 j = mI h 199 j := fun j hj => (v6 j hj).trans ((u1.i (pTt_f (by omega)) j).trans (c4 199 rfl (by decide) (by decide) (by omega) j))
  have m5 : ∀ j, j ≠ 0 → mI g5 195 j = mI h 195 j ∧ mI g5 196 j = mI h 196 j ∧ mI g5 197 j = mI h 197 j := fun j hj => ⟨(v2.i (pv _ (by omega) (by omega)) j).trans ((u4 j hj).1.trans (c4 195 rfl (by decide) (by decide) (by omega) j)), (v2.i (pv _ (by omega) (by omega)) j).trans ((u4 j hj).2.1.trans (c4 196 rfl (by decide) (by decide) (by omega) j)), (v2.i (pv _ (by omega) (by omega)) j).trans ((u4 j hj).2.2.trans (c4 197 rfl (by decide) (by decide) (by omega) j))⟩
  have e1 : ∀ j, mI g5 1 j = mI h3 1 j := fun j => (v2.i (pv _ (by omega) (by omega)) j).trans ((u1.i (pTt_f (by omega)) j).trans ((F4.i rfl j).trans (t2.i (pRg_f (by omega)) j)))
  have eE : ∀ i, i < 7 → ∀ j, mI g5 (7 + 14 * pl + i) j = mI h' (7 + 14 * pl + i) j := fun i hi j => (v2.i (pv _ (by omega) (by omega)) j).trans ((u1.i (pTt_f (by omega)) j).trans (F4.i (nbq (by omega)) j))
  have K := (tk1 w5).2.2.2
  obtain ⟨RA, RB, RL, RY, RG⟩ := R.2.1
  have eD := nt_none hf
  have eD := of_decide_eq_true eD.1
  have own : RelL g5 1 0 := by
    obtain ⟨m', d1, d2, d3, d4⟩ := RL
    have em : m' = m := by
      have z : iN m' = iN m := d2.symm.trans e3
      exact (iN_eq (by omega) (by omega)).1 z
    subst em
    refine ⟨max m' (pl + 1), by omega, (v2.i (pv 3 (by omega) (by omega)) 0).trans ((u1.i (pTt_f (by omega)) 0).trans e4s), v3, fun i hi => ?_⟩
    by_cases e : i = pl
    · subst e
      refine ⟨c.1, V.1.qw eD.2, C.2.1.cp (K i hpl).2.2.2.1 (t3.ap eE), fun j hj => ?_⟩
      have z := v5 j hj
      rw [u5.1 j hj] at z
      rw [Nat.mul_zero, Nat.zero_add]
      exact z
    · obtain ⟨q, g1, g2, g3⟩ := d4 i (by omega)
      exact ⟨q, g1, g2.cp (K i (by omega)).2.2.2.1 (LibE.st (fun j hj k => cg _ (by omega) k)), fun j hj => (cC _ (by omega)).trans (g3 j hj)⟩
  exact R.tx w5 ((e1 5).trans A1) ((v2.i (pv _ (by omega) (by omega)) 0).trans u2) (cld_B (cld_e cF (e1 6) (e1 7)) (tld_e u3 (v2.i (pv _ (by omega) (by omega)) 0) (v2.i (pv _ (by omega) (by omega)) 0))) (own) (RY.cp (fun i hi => (K i hi).2.2.2.2.1) (c3 1 (by decide)) (fun i hi => YrE.st (fun j hj k => cg _ (by omega) k)) (c8 1 (by decide)) (fun j _ => cg 200 (by omega) _)) (RG.cp (fun i hi => (K i hi).2.2.2.2.2) (c3 2 (by decide)) (fun i hi => LgE.st (fun j hj k => cg _ (by omega) k)) (c8 2 (by decide)) (fun j _ => cg 201 (by omega) _)) (fun x h1 h2 j => cg x (by omega) j) (fun j => cg 36 (by omega) j) (fun j => cg 217 (by omega) j) (fun k hk => ⟨fun i hi => cg 194 (by omega) _, (m5 _ (by omega)).1, (m5 _ (by omega)).2.1, (m5 _ (by omega)).2.2, fun i hi => c8 _ (by omega), fun i hi => cC _ (by omega), fun i hi => cg 200 (by omega) _, fun i hi => cg 201 (by omega) _⟩)
theorem x_ok1 {h3 : mH} {n pl m : Nat} {b : Nat → Nat} {x2 : Int32} {c : CQ} {f : FT} (R : Rel h) (w3 : Wd h3) (q3 : ∀ a, ps a = true → a ≠ 1 → ∀ j, mI h3 a j = mI h a j) (A1 : mI h3 1 5 = iN 0) (cF : cldF h3 none) (hr : prs b n 1 600 0 cE none = .inr (c, f)) (hf : ffn c n f = none) (C : CC h3 c none) (V : CWF c) (a5 : mI h 195 0 = iN n) (hn : n ≤ 600) (hb : ∀ i, i < n → b i < 256 ∧ mI h 194 i = yN (b i)) (hm : m ≤ 2) (e3 : mI h 3 1 = iN m) (e8 : mI h 198 1 = iN m) (hpl : pl < 2) (hx : x2 = jN ∧ pl = m ∨ x2 = iN pl ∧ pl < m) : ∃ h4 h5, f47 h3 1 (iN 1) (iN pl) 37 = some ((), h4) ∧ f180 h4 193 (iN 1) x2 = some (iN pl, h5) ∧ Rel h5 ∧ Hi h3 h4 ∧ Hi h4 h5 := by
  have hpm : pl ≤ m := by rcases hx with h | h <;> omega
  obtain ⟨h', t1, t2, t3⟩ := t47_1 w3 hpl hm ((q3 3 rfl (by decide) 1).trans e3)
  have w' := w3.fr t2
  have F4 : Fr (fun x => Nat.beq x 3) h' (mSI h' 3 1 (iN (max m (pl + 1)))) := Fr.rfl.si rfl
  have w4 := w'.fr F4
  have e43 : ∀ k, k ≠ 1 → mI (mSI h' 3 1 (iN (max m (pl + 1)))) 3 k = mI h 3 k := fun k hk => by
    simp (disch := omega) only [si_ne, si_nk, si_eq]
    exact (t2.i (pRg_f (by omega)) k).trans (q3 3 rfl (by decide) k)
  have e4s : mI (mSI h' 3 1 (iN (max m (pl + 1)))) 3 1 = iN (max m (pl + 1)) := by simp only [si_ne, si_nk, si_eq]
  generalize mSI h' 3 1 (iN (max m (pl + 1))) = h4 at t1 F4 w4 e43 e4s
  have c4 : ∀ a, ps a = true → a ≠ 1 → a ≠ 3 → (a < 14 + 14 * pl ∨ 14 + 14 * pl + 4 ≤ a) → ∀ j, mI h4 a j = mI h a j := fun a p n1 n3 hr j => (F4.i (nbq n3) j).trans ((t2.i (pRg_f hr) j).trans (q3 a p n1 j))
  obtain ⟨g, u1, u2, u3, u4, u5, u6⟩ := x180m (b := b) w4 ((c4 195 rfl (by decide) (by decide) (by omega) 0).trans a5) hn (fun i hi => ⟨(hb i hi).1, (c4 194 rfl (by decide) (by decide) (by omega) i).trans (hb i hi).2⟩) (show 1 < 3 by decide) hm ((c4 198 rfl (by decide) (by decide) (by omega) 1).trans e8) hpl hx
  have wg := w4.fr u1
  have ef : fnl n (prs b n 1 600 0 cE none) = none := by rw [hr]; exact hf
  have u5 := u5 c f hr hf
  rw [ef] at u3 u6
  rw [if_neg (show ¬ (Option.isSome (none : FT) = true) by decide)] at u6
  obtain ⟨g5, v1, v2, v3, v4, v5, v6⟩ := x100_1 hm ((u1.i (pTt_f (by omega)) 1).trans ((c4 198 rfl (by decide) (by decide) (by omega) 1).trans e8)) hx hpl wg
  have w5 := wg.fr v2
  have pv : ∀ a, a ≠ 198 → a ≠ 200 → (Nat.beq a 198 || Nat.beq a 200) = false := fun a n1 n2 => by rw [nbq n1, nbq n2]; rfl
  refine ⟨h4, g5, t1, u6.trans v1, ?_, (Hi.fr t2 (fun a ha => pRg_f (by omega))).tr (Hi.fr F4 (fun a ha => nbq (by omega))), (Hi.fr u1 (fun a ha => pTt_f (by omega))).tr (Hi.fr v2 (fun a ha => pv a (by omega) (by omega)))⟩
  have cg : ∀ a, (3 < a ∧ a < 37 ∧ (a < 14 + 14 * pl ∨ 14 + 14 * pl + 4 ≤ a)) ∨ (91 ≤ a ∧ a < 193) ∨ a = 194 ∨ (199 ≤ a ∧ a < 202 ∧ a ≠ 200) ∨ a = 217 → ∀ j, mI g5 a j = mI h a j := fun a ha j => (v2.i (pv a (by omega) (by omega)) j).trans ((u1.i (pTt_f (by omega)) j).trans (c4 a (by
    rcases ha with h | h | h | h | h
    · exact ps_lo a (by omega)
    · exact ps_im a (by omega) (by omega)
    · rw [h]; decide
    · exact ps_mo a (by omega) (by omega)
    · rw [h]; decide) (by omega) (by omega) (by omega) j))
  have c3 : ∀ k, k ≠ 1 → mI g5 3 k = mI h 3 k := fun k hk => (v2.i (pv 3 (by omega) (by omega)) k).trans ((u1.i (pTt_f (by omega)) k).trans (e43 k hk))
  have c8 : ∀ k, k ≠ 1 → mI g5 198 k = mI h 198 k := fun k hk => (v4 k hk).trans ((u1.i (pTt_f (by omega)) k).trans (c4 198 rfl (by decide) (by decide) (by omega) k))
  have cC : ∀ j, (j < 121 * pl ∨ 121 * pl + 121 ≤ j) → mI g5 200 j = mI h 200 j := fun j hj => (v6 j hj).trans ((u1.i (pTt_f (by omega)) j).trans (c4 200 rfl (by decide) (by decide) (by omega) j))
  have m5 : ∀ j, j ≠ 0 → mI g5 195 j = mI h 195 j ∧ mI g5 196 j = mI h 196 j ∧ mI g5 197 j = mI h 197 j := fun j hj => ⟨(v2.i (pv _ (by omega) (by omega)) j).trans ((u4 j hj).1.trans (c4 195 rfl (by decide) (by decide) (by omega) j)), (v2.i (pv _ (by omega) (by omega)) j).trans ((u4 j hj).2.1.trans (c4 196 rfl (by decide) (by decide) (by omega) j)), (v2.i (pv _ (by omega) (by omega)) j).trans ((u4 j hj).2.2.trans (c4 197 rfl (by decide) (by decide) (by omega) j))⟩
  have e1 : ∀ j, mI g5 1 j = mI h3 1 j := fun j => (v2.i (pv _ (by omega) (by omega)) j).trans ((u1.i (pTt_f (by omega)) j).trans ((F4.i rfl j).trans (t2.i (pRg_f (by omega)) j)))
  have eE : ∀ i, i < 4 → ∀ j, mI g5 (14 + 14 * pl + i) j = mI h' (14 + 14 * pl + i) j := fun i hi j => (v2.i (pv _ (by omega) (by omega)) j).trans ((u1.i (pTt_f (by omega)) j).trans (F4.i (nbq (by omega)) j))
  have K := (tk1 w5).2.2.2
  obtain ⟨RA, RB, RL, RY, RG⟩ := R.2.1
  have eD := nt_none hf
  have eD := of_decide_eq_true eD.1
  have own : RelY g5 1 0 := by
    obtain ⟨m', d1, d2, d3, d4⟩ := RY
    have em : m' = m := by
      have z : iN m' = iN m := d2.symm.trans e3
      exact (iN_eq (by omega) (by omega)).1 z
    subst em
    refine ⟨max m' (pl + 1), by omega, (v2.i (pv 3 (by omega) (by omega)) 1).trans ((u1.i (pTt_f (by omega)) 1).trans e4s), v3, fun i hi => ?_⟩
    by_cases e : i = pl
    · subst e
      refine ⟨c.2.2.1, V.2.2.2.1, C.2.2.1.cp V.2.2.2.1 (K i hpl).2.2.2.2.1 (t3.ap eE), ?_, fun k hk => ?_⟩
      · rw [Nat.mul_zero, Nat.zero_add]
        exact (v5 0 (by decide)).trans u5.1
      · have hy := V.2.2.2.1.1
        rw [Nat.mul_zero, Nat.zero_add]
        have z1 := v5 (1 + 3 * k) (by omega)
        have z2 := v5 (1 + 3 * k + 1) (by omega)
        have z3 := v5 (1 + 3 * k + 2) (by omega)
        simp only [← Nat.add_assoc] at z1 z2 z3
        have zz := u5.2 k hk
        exact ⟨z1.trans zz.1, z2.trans zz.2.1, z3.trans zz.2.2⟩
    · obtain ⟨q, g1, g2, g3⟩ := d4 i (by omega)
      have hy := g1.1
      exact ⟨q, g1, g2.cp g1 (K i (by omega)).2.2.2.2.1 (YrE.st (fun j hj k => cg _ (by omega) k)), (cC _ (by omega)).trans g3.1, fun k hk => ⟨(cC _ (by omega)).trans (g3.2 k hk).1, (cC _ (by omega)).trans (g3.2 k hk).2.1, (cC _ (by omega)).trans (g3.2 k hk).2.2⟩⟩
  exact R.tx w5 ((e1 5).trans A1) ((v2.i (pv _ (by omega) (by omega)) 0).trans u2) (cld_B (cld_e cF (e1 6) (e1 7)) (tld_e u3 (v2.i (pv _ (by omega) (by omega)) 0) (v2.i (pv _ (by omega) (by omega)) 0))) (RL.cp (fun i hi => (K i hi).2.2.2.1) (c3 0 (by decide)) (fun i hi => LibE.st (fun j hj k => cg _ (by omega) k)) (c8 0 (by decide)) (fun j _ => cg 199 (by omega) _)) (own) (RG.cp (fun i hi => (K i hi).2.2.2.2.2) (c3 2 (by decide)) (fun i hi => LgE.st (fun j hj k => cg _ (by omega) k)) (c8 2 (by decide)) (fun j _ => cg 201 (by omega) _)) (fun x h1 h2 j => cg x (by omega) j) (fun j => cg 36 (by omega) j) (fun j => cg 217 (by omega) j) (fun k hk => ⟨fun i hi => cg 194 (by omega) _, (m5 _ (by omega)).1, (m5 _ (by omega)).2.1, (m5 _ (by omega)).2.2, fun i hi => c8 _ (by omega), fun i hi => cg 199 (by omega) _, fun i hi => cC _ (by omega), fun i hi => cg 201 (by omega) _⟩)
theorem x_ok2 {h3 : mH} {n pl m : Nat} {b : Nat → Nat} {x2 : Int32} {c : CQ} {f : FT} (R : Rel h) (w3 : Wd h3) (q3 : ∀ a, ps a = true → a ≠ 1 → ∀ j, mI h3 a j = mI h a j) (A1 : mI h3 1 5 = iN 0) (cF : cldF h3 none) (hr : prs b n 2 600 0 cE none = .inr (c, f)) (hf : ffn c n f = none) (C : CC h3 c none) (V : CWF c) (a5 : mI h 195 0 = iN n) (hn : n ≤ 600) (hb : ∀ i, i < n → b i < 256 ∧ mI h 194 i = yN (b i)) (hm : m ≤ 2) (e3 : mI h 3 2 = iN m) (e8 : mI h 198 2 = iN m) (hpl : pl < 2) (hx : x2 = jN ∧ pl = m ∨ x2 = iN pl ∧ pl < m) : ∃ h4 h5, f47 h3 1 (iN 2) (iN pl) 37 = some ((), h4) ∧ f180 h4 193 (iN 2) x2 = some (iN pl, h5) ∧ Rel h5 ∧ Hi h3 h4 ∧ Hi h4 h5 := by
  have hpm : pl ≤ m := by rcases hx with h | h <;> omega
  obtain ⟨h', t1, t2, t3⟩ := t47_2 w3 hpl hm ((q3 3 rfl (by decide) 2).trans e3)
  have w' := w3.fr t2
  have F4 : Fr (fun x => Nat.beq x 3) h' (mSI h' 3 2 (iN (max m (pl + 1)))) := Fr.rfl.si rfl
  have w4 := w'.fr F4
  have e43 : ∀ k, k ≠ 2 → mI (mSI h' 3 2 (iN (max m (pl + 1)))) 3 k = mI h 3 k := fun k hk => by
    simp (disch := omega) only [si_ne, si_nk, si_eq]
    exact (t2.i (pRg_f (by omega)) k).trans (q3 3 rfl (by decide) k)
  have e4s : mI (mSI h' 3 2 (iN (max m (pl + 1)))) 3 2 = iN (max m (pl + 1)) := by simp only [si_ne, si_nk, si_eq]
  generalize mSI h' 3 2 (iN (max m (pl + 1))) = h4 at t1 F4 w4 e43 e4s
  have c4 : ∀ a, ps a = true → a ≠ 1 → a ≠ 3 → (a < 18 + 14 * pl ∨ 18 + 14 * pl + 3 ≤ a) → ∀ j, mI h4 a j = mI h a j := fun a p n1 n3 hr j => (F4.i (nbq n3) j).trans ((t2.i (pRg_f hr) j).trans (q3 a p n1 j))
  obtain ⟨g, u1, u2, u3, u4, u5, u6⟩ := x180m (b := b) w4 ((c4 195 rfl (by decide) (by decide) (by omega) 0).trans a5) hn (fun i hi => ⟨(hb i hi).1, (c4 194 rfl (by decide) (by decide) (by omega) i).trans (hb i hi).2⟩) (show 2 < 3 by decide) hm ((c4 198 rfl (by decide) (by decide) (by omega) 2).trans e8) hpl hx
  have wg := w4.fr u1
  have ef : fnl n (prs b n 2 600 0 cE none) = none := by rw [hr]; exact hf
  have u5 := u5 c f hr hf
  rw [ef] at u3 u6
  rw [if_neg (show ¬ (Option.isSome (none : FT) = true) by decide)] at u6
  obtain ⟨g5, v1, v2, v3, v4, v5, v6⟩ := x100_2 hm ((u1.i (pTt_f (by omega)) 2).trans ((c4 198 rfl (by decide) (by decide) (by omega) 2).trans e8)) hx hpl wg
  have w5 := wg.fr v2
  have pv : ∀ a, a ≠ 198 → a ≠ 201 → (Nat.beq a 198 || Nat.beq a 201) = false := fun a n1 n2 => by rw [nbq n1, nbq n2]; rfl
  refine ⟨h4, g5, t1, u6.trans v1, ?_, (Hi.fr t2 (fun a ha => pRg_f (by omega))).tr (Hi.fr F4 (fun a ha => nbq (by omega))), (Hi.fr u1 (fun a ha => pTt_f (by omega))).tr (Hi.fr v2 (fun a ha => pv a (by omega) (by omega)))⟩
  have cg : ∀ a, (3 < a ∧ a < 37 ∧ (a < 18 + 14 * pl ∨ 18 + 14 * pl + 3 ≤ a)) ∨ (91 ≤ a ∧ a < 193) ∨ a = 194 ∨ (199 ≤ a ∧ a < 202 ∧ a ≠ 201) ∨ a = 217 → ∀ j, mI g5 a j = mI h a j := fun a ha j => (v2.i (pv a (by omega) (by omega)) j).trans ((u1.i (pTt_f (by omega)) j).trans (c4 a (by
    rcases ha with h | h | h | h | h
    · exact ps_lo a (by omega)
    · exact ps_im a (by omega) (by omega)
    · rw [h]; decide
    · exact ps_mo a (by omega) (by omega)
    · rw [h]; decide) (by omega) (by omega) (by omega) j))
  have c3 : ∀ k, k ≠ 2 → mI g5 3 k = mI h 3 k := fun k hk => (v2.i (pv 3 (by omega) (by omega)) k).trans ((u1.i (pTt_f (by omega)) k).trans (e43 k hk))
  have c8 : ∀ k, k ≠ 2 → mI g5 198 k = mI h 198 k := fun k hk => (v4 k hk).trans ((u1.i (pTt_f (by omega)) k).trans (c4 198 rfl (by decide) (by decide) (by omega) k))
  have cC : ∀ j, (j < 17 * pl ∨ 17 * pl + 17 ≤ j) → mI g5 201 j = mI h 201 j := fun j hj => (v6 j hj).trans ((u1.i (pTt_f (by omega)) j).trans (c4 201 rfl (by decide) (by decide) (by omega) j))
  have m5 : ∀ j, j ≠ 0 → mI g5 195 j = mI h 195 j ∧ mI g5 196 j = mI h 196 j ∧ mI g5 197 j = mI h 197 j := fun j hj => ⟨(v2.i (pv _ (by omega) (by omega)) j).trans ((u4 j hj).1.trans (c4 195 rfl (by decide) (by decide) (by omega) j)), (v2.i (pv _ (by omega) (by omega)) j).trans ((u4 j hj).2.1.trans (c4 196 rfl (by decide) (by decide) (by omega) j)), (v2.i (pv _ (by omega) (by omega)) j).trans ((u4 j hj).2.2.trans (c4 197 rfl (by decide) (by decide) (by omega) j))⟩
  have e1 : ∀ j, mI g5 1 j = mI h3 1 j := fun j => (v2.i (pv _ (by omega) (by omega)) j).trans ((u1.i (pTt_f (by omega)) j).trans ((F4.i rfl j).trans (t2.i (pRg_f (by omega)) j)))
  have eE : ∀ i, i < 3 → ∀ j, mI g5 (18 + 14 * pl + i) j = mI h' (18 + 14 * pl + i) j := fun i hi j => (v2.i (pv _ (by omega) (by omega)) j).trans ((u1.i (pTt_f (by omega)) j).trans (F4.i (nbq (by omega)) j))
  have K := (tk1 w5).2.2.2
  obtain ⟨RA, RB, RL, RY, RG⟩ := R.2.1
  have eD := nt_none hf
  have eD := of_decide_eq_true eD.1
  have own : RelG g5 1 0 := by
    obtain ⟨m', d1, d2, d3, d4⟩ := RG
    have em : m' = m := by
      have z : iN m' = iN m := d2.symm.trans e3
      exact (iN_eq (by omega) (by omega)).1 z
    subst em
    refine ⟨max m' (pl + 1), by omega, (v2.i (pv 3 (by omega) (by omega)) 2).trans ((u1.i (pTt_f (by omega)) 2).trans e4s), v3, fun i hi => ?_⟩
    by_cases e : i = pl
    · subst e
      refine ⟨c.2.2.2, V.2.2.2.2, C.2.2.2.1.cp V.2.2.2.2 (K i hpl).2.2.2.2.2 (t3.ap eE), ?_, fun k hk => ?_⟩
      · rw [Nat.mul_zero, Nat.zero_add]
        exact (v5 0 (by decide)).trans u5.1
      · have hy := V.2.2.2.2.1
        rw [Nat.mul_zero, Nat.zero_add]
        have z1 := v5 (1 + 2 * k) (by omega)
        have z2 := v5 (1 + 2 * k + 1) (by omega)
        simp only [← Nat.add_assoc] at z1 z2
        have zz := u5.2 k hk
        exact ⟨z1.trans zz.1, z2.trans zz.2⟩
    · obtain ⟨q, g1, g2, g3⟩ := d4 i (by omega)
      have hy := g1.1
      exact ⟨q, g1, g2.cp g1 (K i (by omega)).2.2.2.2.2 (LgE.st (fun j hj k => cg _ (by omega) k)), (cC _ (by omega)).trans g3.1, fun k hk => ⟨(cC _ (by omega)).trans (g3.2 k hk).1, (cC _ (by omega)).trans (g3.2 k hk).2⟩⟩
  exact R.tx w5 ((e1 5).trans A1) ((v2.i (pv _ (by omega) (by omega)) 0).trans u2) (cld_B (cld_e cF (e1 6) (e1 7)) (tld_e u3 (v2.i (pv _ (by omega) (by omega)) 0) (v2.i (pv _ (by omega) (by omega)) 0))) (RL.cp (fun i hi => (K i hi).2.2.2.1) (c3 0 (by decide)) (fun i hi => LibE.st (fun j hj k => cg _ (by omega) k)) (c8 0 (by decide)) (fun j _ => cg 199 (by omega) _)) (RY.cp (fun i hi => (K i hi).2.2.2.2.1) (c3 1 (by decide)) (fun i hi => YrE.st (fun j hj k => cg _ (by omega) k)) (c8 1 (by decide)) (fun j _ => cg 200 (by omega) _)) (own) (fun x h1 h2 j => cg x (by omega) j) (fun j => cg 36 (by omega) j) (fun j => cg 217 (by omega) j) (fun k hk => ⟨fun i hi => cg 194 (by omega) _, (m5 _ (by omega)).1, (m5 _ (by omega)).2.1, (m5 _ (by omega)).2.2, fun i hi => c8 _ (by omega), fun i hi => cg 199 (by omega) _, fun i hi => cg 200 (by omega) _, fun i hi => cC _ (by omega)⟩)
theorem c_text (R : Rel h) (x1 x2 : Int32) : ∃ v h1 h2, f18 h 0 x1 x2 = some (v, h1) ∧ f180 h1 193 x1 x2 = some (v, h2) ∧ Rel h2 ∧ Hi h h1 ∧ Hi h1 h2 := by
  have w := R.1
  obtain ⟨n, b, hn, a1, a2, hb⟩ := R.tape
  -- refused
  have no : f18 h 0 x1 x2 = some (wN, mSI (mSI (mSI h 1 5 (iN 0)) 1 6 (iN 0)) 1 7 jN) → (∀ {h1 g : mH}, mI h1 198 0 = mI h 198 0 ∧ mI h1 198 1 = mI h 198 1 ∧ mI h1 198 2 = mI h 198 2 → (∀ s m, s < 3 → x1 = iN s → m ≤ 2 → mI h1 198 s = iN m → (x2 = jN ∧ m = 2 ∨ x2 ≠ jN ∧ rg x2 m = false) → f180 h1 193 x1 x2 = some (wN, g)) → (rg x1 3 = false → f180 h1 193 x1 x2 = some (wN, g)) → f180 h1 193 x1 x2 = some (wN, g)) → ∃ v h1 h2, f18 h 0 x1 x2 = some (v, h1) ∧ f180 h1 193 x1 x2 = some (v, h2) ∧ Rel h2 ∧ Hi h h1 ∧ Hi h1 h2 := fun e1 e2 => by
    have F1 : Fr pTp h (mSI (mSI (mSI h 1 5 (iN 0)) 1 6 (iN 0)) 1 7 jN) := ((Fr.rfl.si (by decide)).si (by decide)).si (by decide)
    have w1 := w.fr F1
    obtain ⟨g, G1, ⟨y1, y2, y3, y4⟩, y5, y6, y7⟩ := x180 (x1 := x1) (x2 := x2) w1 ((F1.i rfl 0).trans a2)
    have gG : ∀ a, a ≠ 193 → a ≠ 195 → a ≠ 196 → a ≠ 197 → (Nat.beq a 193 || Nat.beq a 195 || Nat.beq a 196 || Nat.beq a 197) = false := fun a n1 n2 n3 n4 => by rw [nbq n1, nbq n2, nbq n3, nbq n4]; rfl
    refine ⟨wN, _, g, e1, e2 ⟨F1.i rfl 0, F1.i rfl 1, F1.i rfl 2⟩ (fun s m h1 h2 h3 h4 h5 => (y6 s m h1 h2 h3 h4).2 h5) y7, ?_, Hi.fr F1 (fun a ha => pTp_f (by omega) (by omega)), Hi.fr G1 (fun a ha => gG a (by omega) (by omega) (by omega) (by omega))⟩
    refine R.aft (w1.fr G1) ((G1.i rfl 5).trans (by simp (disch := omega) only [si_ne, si_nk, si_eq])) y2 ⟨⟨0, by omega, (G1.i rfl 6).trans (by simp (disch := omega) only [si_ne, si_nk, si_eq]), y3⟩, none, fun p e => (by cases e), (G1.i rfl 7).trans (by simp only [si_ne, si_nk, si_eq]; rfl), y4⟩ (fun a ha j => (G1.i (gG a (by omega) (by omega) (by omega) (by omega)) j).trans (F1.i (pTp_f (by omega) (by omega)) j)) (fun j hj => ⟨(y5 j hj).1.trans (F1.i rfl j), (y5 j hj).2.1.trans (F1.i rfl j), (y5 j hj).2.2.trans (F1.i rfl j)⟩)
  cases hr : rg x1 3 with
  | false => exact no ((x18 R a1).2 hr) (fun _ _ k => k hr)
  | true =>
    obtain ⟨s, hs, rfl, _⟩ := rg_t hr
    obtain ⟨m, hm, e3, e8⟩ := R.many hs
    have e8x : ∀ {h1 : mH}, mI h1 198 0 = mI h 198 0 ∧ mI h1 198 1 = mI h 198 1 ∧ mI h1 198 2 = mI h 198 2 → mI h1 198 s = iN m := fun {h1} e => by
      have : s = 0 ∨ s = 1 ∨ s = 2 := by omega
      rcases this with rfl | rfl | rfl
      · exact e.1.trans e8
      · exact e.2.1.trans e8
      · exact e.2.2.trans e8
    by_cases hno : x2 = jN ∧ m = 2 ∨ x2 ≠ jN ∧ rg x2 m = false
    · exact no (((x18 R a1).1 s m hs rfl hm e3).2 hno) (fun e k _ => k s m hs rfl hm (e8x e) hno)
    · obtain ⟨pl, hpl, hx⟩ : ∃ pl, pl < 2 ∧ (x2 = jN ∧ pl = m ∨ x2 = iN pl ∧ pl < m) := by
        by_cases e : x2 = jN
        · exact ⟨m, by
            by_cases e2 : m = 2
            · exact absurd (Or.inl ⟨e, e2⟩) hno
            · omega, Or.inl ⟨e, rfl⟩⟩
        · cases e2 : rg x2 m with
          | false => exact absurd (Or.inr ⟨e, e2⟩) hno
          | true =>
            obtain ⟨pl, h2, rfl, _⟩ := rg_t e2
            exact ⟨pl, by omega, Or.inr ⟨rfl, h2⟩⟩
      obtain ⟨h3, w3, q3, A1, cF, cC, e18⟩ := x18m R a1 hn (fun i hi => ⟨(hb i hi).1, (hb i hi).2.1⟩) hs hm e3 hpl hx
      have H3 : Hi h h3 := ⟨w3.1.trans w.1.symm, fun a ha j => q3 a (ps_hi ha) (by omega) j⟩
      cases hf : fnl n (prs b n s 600 0 cE none) with
      | some x =>
        rw [hf, if_pos (show (Option.isSome (some x) = true) from rfl)] at e18
        obtain ⟨g, u1, u2, u3, u4, u5, u6⟩ := x180m (b := b) w3 ((q3 195 rfl (by decide) 0).trans a2) hn (fun i hi => ⟨(hb i hi).1, (q3 194 rfl (by decide) i).trans (hb i hi).2.2⟩) hs hm ((q3 198 rfl (by decide) s).trans e8) hpl hx
        rw [hf, if_pos (show (Option.isSome (some x) = true) from rfl)] at u6
        rw [hf] at u3 cF
        refine ⟨jN, h3, g, e18, u6, R.aft (w3.fr u1) ((u1.i (pTt_f (by omega)) 5).trans A1) u2 (cld_B (cld_e cF (u1.i (pTt_f (by omega)) 6) (u1.i (pTt_f (by omega)) 7)) u3) (fun a ha j => (u1.i (pTt_f (by omega)) j).trans (q3 a ?_ (by omega) j)) (fun j hj => ⟨(u4 j hj).1.trans (q3 195 rfl (by decide) j), (u4 j hj).2.1.trans (q3 196 rfl (by decide) j), (u4 j hj).2.2.trans (q3 197 rfl (by decide) j)⟩), H3, Hi.fr u1 (fun a ha => pTt_f (by omega))⟩
        rcases ha with h | h | h | h | h
        · exact ps_lo a (by omega)
        · exact ps_im a (by omega) (by omega)
        · rw [h]; decide
        · exact ps_mo a (by omega) (by omega)
        · rw [h]; decide
      | none =>
        rw [hf, if_neg (show ¬ (Option.isSome (none : FT) = true) by decide)] at e18
        rw [hf] at cF
        cases hr2 : prs b n s 600 0 cE none with
        | inl x => rw [hr2] at hf; cases hf
        | inr y =>
          obtain ⟨c, f⟩ := y
          rw [hr2] at hf
          have hf : ffn c n f = none := hf
          obtain ⟨C, V⟩ := cC c f hr2 hf
          have : ∃ h4 h5, f47 h3 1 (iN s) (iN pl) 37 = some ((), h4) ∧ f180 h4 193 (iN s) x2 = some (iN pl, h5) ∧ Rel h5 ∧ Hi h3 h4 ∧ Hi h4 h5 := by
            have : s = 0 ∨ s = 1 ∨ s = 2 := by omega
            rcases this with rfl | rfl | rfl
            · exact x_ok0 R w3 q3 A1 cF hr2 hf C V a2 hn (fun i hi => ⟨(hb i hi).1, (hb i hi).2.2⟩) hm e3 e8 hpl hx
            · exact x_ok1 R w3 q3 A1 cF hr2 hf C V a2 hn (fun i hi => ⟨(hb i hi).1, (hb i hi).2.2⟩) hm e3 e8 hpl hx
            · exact x_ok2 R w3 q3 A1 cF hr2 hf C V a2 hn (fun i hi => ⟨(hb i hi).1, (hb i hi).2.2⟩) hm e3 e8 hpl hx
          obtain ⟨h4, h5, z1, z2, z3, z4, z5⟩ := this
          refine ⟨iN pl, h4, h5, ?_, z2, z3, H3.tr z4, z5⟩
          rw [e18, z1]; rfl
end CT
