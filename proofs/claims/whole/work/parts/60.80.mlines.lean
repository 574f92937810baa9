/-! the reference's lines: all -/
def RCs : Nat → mH → CQ → FT → Prop
  | 0 => RC0
  | 1 => RC1
  | _ => RC2
theorem PLW_chk {k : Nat} {c : CQ} {s0 s1 s2 v1 v2 s : Nat} {f : FT} (P : PLW f s) (h0 : s0 < s) (h1 : s1 < s) (h2 : s2 < s) : PLW (chk k c s0 s1 s2 v1 v2 f) s := by
  unfold chk
  split
  · exact ((P.nt h0).nt h1).nt h2
  split
  · exact (P.nt h1).nt h2
  split
  · exact (P.nt h1).nt h2
  split
  · exact P.nt h1
  split
  · exact (P.nt h0).nt h1
  split
  · exact (P.nt h1).nt h2
  split
  · exact (P.nt h0).nt h1
  split
  · exact (P.nt h0).nt h1
  split
  · exact ((P.nt h0).nt h1).nt h2
  split
  · exact P.nt h0
  · exact (P.nt h0).nt h1
section LW
variable {b : Nat → Nat} {len p sort : Nat} {c : CQ} {f : FT}
theorem lnW_ok {y : Nat × CQ × FT} (hs : sort < 3) (hp : p ≤ len) (hne : tkK b len p ≠ 0) (P : PLW f (tkS b len p)) (V : CWF c) (h : lnW b len sort p c f = .inr y) : y.1 ≤ len ∧ tkE b len p ≤ y.1 ∧ PLW y.2.2 (tkS b len y.1) ∧ CWF y.2.1 := by
  have h1 := (tkE_ok (b := b) hp).2.1
  have l1 := tS_lt (b := b) hp hne
  unfold lnW at h
  cases hw : wF b len p sort with
  | none => rw [hw] at h; cases h
  | some k =>
    obtain ⟨hk, _⟩ := wF_k hs hw
    rw [hw] at h
    have h : lnN b len k p (tkE b len p) c f = .inr y := h
    unfold lnN at h
    by_cases e1 : nbk k = 0
    · rw [if_pos e1] at h
      have h := Sum.inr.inj h
      subst h
      exact ⟨h1, Nat.le_refl _, PLW_chk (P.mono (by show tkS b len p ≤ tkS b len (tkE b len p); omega)) l1 (by show 0 < tkS b len (tkE b len p); omega) (by show 0 < tkS b len (tkE b len p); omega), CWF_upf hk V⟩
    · rw [if_neg e1] at h
      by_cases e2 : tkK b len (tkE b len p) = 2
      · rw [if_pos e2] at h
        have h2 := (tkE_ok (b := b) h1).2.1
        have l2 := tS_lt (b := b) h1 (by omega)
        have g1 := (tkE_ok (b := b) h1).1
        have g2 := (tkS_ok (b := b) h1).1
        by_cases e3 : nbk k = 1
        · rw [if_pos e3] at h
          have h := Sum.inr.inj h
          subst h
          exact ⟨h2, by show tkE b len p ≤ tkE b len (tkE b len p); omega, PLW_chk (P.mono (by show tkS b len p ≤ tkS b len (tkE b len (tkE b len p)); omega)) (by show tkS b len p < tkS b len (tkE b len (tkE b len p)); omega) l2 (by show 0 < tkS b len (tkE b len (tkE b len p)); omega), CWF_upf hk V⟩
        · rw [if_neg e3] at h
          by_cases e4 : tkK b len (tkE b len (tkE b len p)) = 2
          · rw [if_pos e4] at h
            have h := Sum.inr.inj h
            subst h
            have h3 := (tkE_ok (b := b) h2).2.1
            have l3 := tS_lt (b := b) h2 (by omega)
            have g3 := (tkE_ok (b := b) h2).1
            have g4 := (tkS_ok (b := b) h2).1
            exact ⟨h3, by show tkE b len p ≤ tkE b len (tkE b len (tkE b len p)); omega, PLW_chk (P.mono (by show tkS b len p ≤ tkS b len (tkE b len (tkE b len (tkE b len p))); omega)) (by show tkS b len p < tkS b len (tkE b len (tkE b len (tkE b len p))); omega) (by show tkS b len (tkE b len p) < tkS b len (tkE b len (tkE b len (tkE b len p))); omega) l3, CWF_upf hk V⟩
          · rw [if_neg e4] at h; cases h
      · rw [if_neg e2] at h; cases h
theorem lnS_ok {y : Nat × CQ × FT} (hs : sort < 3) (hp : p ≤ len) (hne : tkK b len p ≠ 0) (P : PLW f (tkS b len p)) (V : CWF c) (h : lnS b len sort p c f = .inr y) : y.1 ≤ len ∧ p < y.1 ∧ PLW y.2.2 (tkS b len y.1) ∧ CWF y.2.1 := by
  rw [lnS_W] at h
  cases hw : lnW b len sort p c f with
  | inl x => rw [hw] at h; cases h
  | inr z =>
    obtain ⟨h1, h2, h3, h4⟩ := lnW_ok hs hp hne P V hw
    rw [hw] at h
    have h : (if tkK b len z.1 = 3 then (.inr (tkE b len z.1, z.2) : Nat ⊕ (Nat × CQ × FT)) else .inl (tkS b len z.1)) = .inr y := h
    by_cases e : tkK b len z.1 = 3
    · rw [if_pos e] at h
      have h := Sum.inr.inj h
      subst h
      obtain ⟨g1, g2, g3⟩ := tkE_ok (b := b) h1
      have g4 := (tkS_ok (b := b) h1).1
      have g5 := (tkE_ok (b := b) hp).2.2 hne
      have g6 := (tkS_ok (b := b) hp).1
      have g7 := tS_lt (b := b) h1 (by omega)
      exact ⟨g2, by show p < tkE b len z.1; omega, h3.mono (by show tkS b len z.1 ≤ tkS b len (tkE b len z.1); omega), h4⟩
    · rw [if_neg e] at h; cases h
/-- some more lines change nothing -/
theorem prs_st (hs : sort < 3) : ∀ n p c f, p ≤ len → len ≤ p + n → PLW f (tkS b len p) → CWF c → prs b len sort (n + 1) p c f = prs b len sort n p c f := by
  intro n
  induction n with
  | zero =>
    intro p c f hp hl _ _
    have e : tkK b len p = 0 := by
      have h1 := (tkS_ok (b := b) hp).1
      unfold tkK
      rw [if_pos (by omega)]
    rw [prs_0 e]; rfl
  | succ n ih =>
    intro p c f hp hl P V
    by_cases e : tkK b len p = 0
    · rw [prs_0 e, prs_0 e]
    · cases hr : lnS b len sort p c f with
      | inl x => rw [prs_l e hr, prs_l e hr]
      | inr y =>
        obtain ⟨h1, h2, h3, h4⟩ := lnS_ok hs hp e P V hr
        rw [prs_r e hr, prs_r e hr]
        exact ih y.1 y.2.1 y.2.2 h1 (by omega) h3 h4
end LW
section ML
variable {g : mH} {b : Nat → Nat} {len sort : Nat} {c : CQ} {f : FT}
theorem RCs.ge {g' : mH} (R : RCs sort g c f) (h : ∀ j, mI g' 202 j = mI g 202 j) (h20 : mI g' 193 20 = mI g 193 20) (h21 : mI g' 193 21 = mI g 193 21) : RCs sort g' c f := by
  match sort, R with
  | 0, R =>
    cases f with
    | none => exact ⟨fun j hj => (h j).trans (R.1 j hj), h20.trans R.2.1, h21.trans R.2.2⟩
    | some x => obtain ⟨n0, n1, a, b, d, e⟩ := R; exact ⟨n0, n1, a, b, (h 0).trans d, (h 1).trans e⟩
  | 1, R =>
    cases f with
    | none => exact ⟨(h 0).trans R.1, fun k hk => ⟨(h _).trans (R.2 k hk).1, (h _).trans (R.2 k hk).2.1, (h _).trans (R.2 k hk).2.2⟩⟩
    | some x => obtain ⟨n, a, b⟩ := R; exact ⟨n, a, (h 0).trans b⟩
  | _ + 2, R =>
    cases f with
    | none => exact ⟨(h 0).trans R.1, fun k hk => ⟨(h _).trans (R.2 k hk).1, (h _).trans (R.2 k hk).2⟩⟩
    | some x => obtain ⟨n, a, b⟩ := R; exact ⟨n, a, (h 0).trans b⟩
theorem FMf.ge {g' : mH} (F : FMf g f) (h : ∀ j, j = 16 ∨ j = 17 → mI g' 193 j = mI g 193 j) : FMf g' f := by
  cases f with
  | none => exact (h 16 (by omega)).trans F
  | some x => exact ⟨(h 16 (by omega)).trans F.1, (h 17 (by omega)).trans F.2⟩
/-- what a line comes to -/
def MLr (sort : Nat) (g0 : mH) (b : Nat → Nat) (len : Nat) (g : mH) (ok : Int32) : Nat ⊕ (Nat × CQ × FT) → Prop := LNr (RCs sort) g0 b len g ok
theorem t185b {p : Nat} (hs : sort < 3) (hp : p ≤ len) (hne : tkK b len p ≠ 0) (T : TpM g b len) (S : SM g b len p) (F : FMf g f) (W : FTW f) (P : PLW f (tkS b len p)) (V : CWF c) (R : RCs sort g c f) : ∃ ok g', f185_2 193 (iN sort) (iN 1, g) = some (.inl (ok, g')) ∧ MLr sort g b len g' ok (lnS b len sort p c f) := by
  have w := T.1
  have hkk := tkK_le (b := b) (len := len) (p := p)
  have F0 : Fr p193 g (mSI g 193 22 (iN 1)) := Fr.rfl.si rfl
  have T0 := T.fr F0 rfl (by simp (disch := omega) only [si_ne, si_nk, si_eq])
  have w0 := T0.1
  have MS0 : MS (mSI g 193 22 (iN 1)) (mSI g 193 22 (iN 1)) b len p f true := ⟨Fr.rfl, T0, S.fr (fun j hj => by simp (disch := omega) only [si_ne, si_nk, si_eq]) (mL_SI _ _ _ _ _ _), F.ge (fun j hj => by simp (disch := omega) only [si_ne, si_nk, si_eq]), by simp only [si_ne, si_nk, si_eq]; rfl, rfl, rfl⟩
  have R0 : RCs sort (mSI g 193 22 (iN 1)) c f := R.ge (fun j => by simp (disch := omega) only [si_ne, si_nk, si_eq]) (by simp (disch := omega) only [si_ne, si_nk, si_eq]) (by simp (disch := omega) only [si_ne, si_nk, si_eq])
  have pTl0 : ∀ x, p193 x = true → pTl x = true := fun x h => pRd_Tl x (p193_Rd x h)
  -- the word's number
  have ew : f185_2 193 (iN sort) (iN 1, g) = f185_34 g 193 (iN sort) (iN (tkS b len p)) (gN (wv b len p)) := by
    unfold f185_2
    have s12 := S.2.2.1
    have s11 := S.2.1
    by_cases c1 : tkK b len p = 1
    · rw [c1] at s12
      have s12 : mI g 193 12 = iN 2 := s12
      have sL := S.2.2.2.2 c1
      have ewv : wv b len p = (if tkE b len p - tkS b len p ≤ 8 then pkF (fun i => b (tkS b len p + i)) (tkE b len p - tkS b len p) else 0) := by unfold wv; rw [if_pos c1]
      simp (disch := omega) only [gT, nbeq, Option.isSome_some, Option.getD_some, Bool.and_true, Bool.true_and, Bool.and_self, mX_some, bS, bN_if, bN_01, i1_01, i0_01, if_true, if_false, Bool.false_eq_true, false_and, and_false, and_true, true_and, and_self, Bool.or_false, Bool.false_or, Bool.or_true, Bool.true_or, Bool.false_and, Bool.and_false, decide_true, decide_false, L0, L1, L2, L3, L4, L5, L6, L7, L8, L9, L10, L11, L12, L13, L14, L15, L16, L17, L18, L19, L20, L21, L22, L23, L24, L25, L27, L33, L39, L40, L45, L48, L57, L60, L72, L90, L97, L98, L99, L100, L121, L122, L242, L255, L256, L580, L600, L1000, L1584, L1000000, Ln1, iN_add, iN_and, iN_or, iN_nd, iN_shl, iN_shr, iN_cl, iN_in, iN_mul, ieq_n, k193 w, s12, s11, ieq_p, sL, ewv]
    · have ek : kM (tkK b len p) ≠ 0 ∧ kM (tkK b len p) ≠ 2 ∧ kM (tkK b len p) < 5 := by
        unfold kM
        have : tkK b len p = 2 ∨ tkK b len p = 3 ∨ tkK b len p = 4 := by omega
        rcases this with h | h | h <;> rw [h] <;> decide
      have ewv : wv b len p = 0 := by unfold wv; rw [if_neg c1]
      simp (disch := omega) only [gT, nbeq, Option.isSome_some, Option.getD_some, Bool.and_true, Bool.true_and, Bool.and_self, mX_some, bS, bN_if, bN_01, i1_01, i0_01, if_true, if_false, Bool.false_eq_true, false_and, and_false, and_true, true_and, and_self, Bool.or_false, Bool.false_or, Bool.or_true, Bool.true_or, Bool.false_and, Bool.and_false, decide_true, decide_false, L0, L1, L2, L3, L4, L5, L6, L7, L8, L9, L10, L11, L12, L13, L14, L15, L16, L17, L18, L19, L20, L21, L22, L23, L24, L25, L27, L33, L39, L40, L45, L48, L57, L60, L72, L90, L97, L98, L99, L100, L121, L122, L242, L255, L256, L580, L600, L1000, L1584, L1000000, Ln1, iN_add, iN_and, iN_or, iN_nd, iN_shl, iN_shr, iN_cl, iN_in, iN_mul, K0l, ieq_n, k193 w, s12, s11, ewv]
  -- the line
  obtain ⟨ok, g1, a1, a2⟩ : ∃ ok g1, f185_34 g 193 (iN sort) (iN (tkS b len p)) (gN (wv b len p)) = f185_77 g1 193 (iN sort) ok ∧ LNr (RCs sort) (mSI g 193 22 (iN 1)) b len g1 ok (lnW b len sort p c f) := by
    have : sort = 0 ∨ sort = 1 ∨ sort = 2 := by omega
    rcases this with rfl | rfl | rfl
    · obtain ⟨ok, g1, x1, x2⟩ := t186 hp hne MS0 W P V R0
      refine ⟨ok, g1, ?_, x2⟩
      unfold f185_34
      simp (disch := omega) only [gT, nbeq, Option.isSome_some, Option.getD_some, Bool.and_true, Bool.true_and, Bool.and_self, mX_some, bS, bN_if, bN_01, i1_01, i0_01, if_true, if_false, Bool.false_eq_true, false_and, and_false, and_true, true_and, and_self, Bool.or_false, Bool.false_or, Bool.or_true, Bool.true_or, Bool.false_and, Bool.and_false, decide_true, decide_false, L0, L1, L2, L3, L4, L5, L6, L7, L8, L9, L10, L11, L12, L13, L14, L15, L16, L17, L18, L19, L20, L21, L22, L23, L24, L25, L27, L33, L39, L40, L45, L48, L57, L60, L72, L90, L97, L98, L99, L100, L121, L122, L242, L255, L256, L580, L600, L1000, L1584, L1000000, Ln1, iN_add, iN_and, iN_or, iN_nd, iN_shl, iN_shr, iN_cl, iN_in, iN_mul, k193 w, eq_self, if_true, k193 w0, x1]
    · obtain ⟨ok, g1, x1, x2⟩ := t199 hp hne MS0 W P V R0
      refine ⟨ok, g1, ?_, x2⟩
      unfold f185_34
      simp (disch := omega) only [gT, nbeq, Option.isSome_some, Option.getD_some, Bool.and_true, Bool.true_and, Bool.and_self, mX_some, bS, bN_if, bN_01, i1_01, i0_01, if_true, if_false, Bool.false_eq_true, false_and, and_false, and_true, true_and, and_self, Bool.or_false, Bool.false_or, Bool.or_true, Bool.true_or, Bool.false_and, Bool.and_false, decide_true, decide_false, L0, L1, L2, L3, L4, L5, L6, L7, L8, L9, L10, L11, L12, L13, L14, L15, L16, L17, L18, L19, L20, L21, L22, L23, L24, L25, L27, L33, L39, L40, L45, L48, L57, L60, L72, L90, L97, L98, L99, L100, L121, L122, L242, L255, L256, L580, L600, L1000, L1584, L1000000, Ln1, iN_add, iN_and, iN_or, iN_nd, iN_shl, iN_shr, iN_cl, iN_in, iN_mul, k193 w, ineF, eq_self, if_true, if_false, k193 w0, x1]
    · obtain ⟨ok, g1, x1, x2⟩ := t201 hp hne MS0 W P V R0
      refine ⟨ok, g1, ?_, x2⟩
      unfold f185_34
      simp (disch := omega) only [gT, nbeq, Option.isSome_some, Option.getD_some, Bool.and_true, Bool.true_and, Bool.and_self, mX_some, bS, bN_if, bN_01, i1_01, i0_01, if_true, if_false, Bool.false_eq_true, false_and, and_false, and_true, true_and, and_self, Bool.or_false, Bool.false_or, Bool.or_true, Bool.true_or, Bool.false_and, Bool.and_false, decide_true, decide_false, L0, L1, L2, L3, L4, L5, L6, L7, L8, L9, L10, L11, L12, L13, L14, L15, L16, L17, L18, L19, L20, L21, L22, L23, L24, L25, L27, L33, L39, L40, L45, L48, L57, L60, L72, L90, L97, L98, L99, L100, L121, L122, L242, L255, L256, L580, L600, L1000, L1584, L1000000, Ln1, iN_add, iN_and, iN_or, iN_nd, iN_shl, iN_shr, iN_cl, iN_in, iN_mul, k193 w, ineF, if_false, k193 w0, x1]
  rw [ew, a1, lnS_W]
  cases hw : lnW b len sort p c f with
  | inl x =>
    rw [hw] at a2
    obtain ⟨rfl, b1, b2⟩ := a2
    refine ⟨iN 0, g1, ?_, rfl, (F0.mono pTl0).tr b1, b2⟩
    unfold f185_77 f185_95 f185_103
    simp (disch := omega) only [L0, L1, L2, L3, L4, L5, L6, L7, L8, L9, L10, L11, L12, L13, L14, L15, L16, L17, L18, L19, L20, L21, L22, L23, L24, L25, L27, L33, L39, L40, L45, L48, L57, L60, L72, L90, L97, L98, L99, L100, L121, L122, L242, L255, L256, L580, L600, L1000, L1584, L1000000, Ln1, iN_add, iN_and, iN_or, iN_nd, iN_shl, iN_shr, iN_cl, iN_in, iN_mul, eq_self, if_true]
  | inr y =>
    rw [hw] at a2
    obtain ⟨rfl, b1, b2, b3, b4, b5, b6⟩ := a2
    obtain ⟨h1, h2, h3, h4⟩ := lnW_ok hs hp hne P V hw
    have w1 := b2.1
    have s12 := b3.2.2.1
    have hky := tkK_le (b := b) (len := len) (p := y.1)
    show ∃ ok g', f185_77 g1 193 (iN sort) (iN 1) = some (.inl (ok, g')) ∧ LNr (RCs sort) g b len g' ok (if tkK b len y.1 = 3 then .inr (tkE b len y.1, y.2) else .inl (tkS b len y.1))
    by_cases e : tkK b len y.1 = 3
    · rw [if_pos e]
      rw [e] at s12
      have s12 : mI g1 193 12 = iN 4 := s12
      obtain ⟨g2, d1, d2, d3, d4, d5⟩ := t183 b2 (tkE_ok (b := b) h1).2.1 b3.1
      refine ⟨iN 1, g2, ?_, rfl, ((F0.mono pTl0).tr b1).tr (d2.mono pTl0), d4, d5, b4.ge (fun j hj => d3 j (by omega) (by omega) (by omega) (by omega)), b5, b6.ge (fun j => d2.i rfl j) (d3 20 (by decide) (by decide) (by decide) (by decide)) (d3 21 (by decide) (by decide) (by decide) (by decide))⟩
      unfold f185_77 f185_95 f185_103
      simp (disch := omega) only [gT, nbeq, Option.isSome_some, Option.getD_some, Bool.and_true, Bool.true_and, Bool.and_self, mX_some, bS, bN_if, bN_01, i1_01, i0_01, if_true, if_false, Bool.false_eq_true, false_and, and_false, and_true, true_and, and_self, Bool.or_false, Bool.false_or, Bool.or_true, Bool.true_or, Bool.false_and, Bool.and_false, decide_true, decide_false, L0, L1, L2, L3, L4, L5, L6, L7, L8, L9, L10, L11, L12, L13, L14, L15, L16, L17, L18, L19, L20, L21, L22, L23, L24, L25, L27, L33, L39, L40, L45, L48, L57, L60, L72, L90, L97, L98, L99, L100, L121, L122, L242, L255, L256, L580, L600, L1000, L1584, L1000000, Ln1, iN_add, iN_and, iN_or, iN_nd, iN_shl, iN_shr, iN_cl, iN_in, iN_mul, ieq_n, k193 w1, s12, ieq_p, d1]
    · rw [if_neg e]
      have ek : kM (tkK b len y.1) ≠ 4 ∧ kM (tkK b len y.1) < 5 := by
        unfold kM
        have : tkK b len y.1 = 0 ∨ tkK b len y.1 = 1 ∨ tkK b len y.1 = 2 ∨ tkK b len y.1 = 4 := by omega
        rcases this with h | h | h | h <;> rw [h] <;> decide
      refine ⟨iN 0, mSI g1 193 15 (iN (tkS b len y.1)), ?_, rfl, ((F0.mono pTl0).tr b1).si (by decide), by simp only [si_ne, si_nk, si_eq]⟩
      unfold f185_77 f185_95 f185_103
      simp (disch := omega) only [gT, nbeq, Option.isSome_some, Option.getD_some, Bool.and_true, Bool.true_and, Bool.and_self, mX_some, bS, bN_if, bN_01, i1_01, i0_01, if_true, if_false, Bool.false_eq_true, false_and, and_false, and_true, true_and, and_self, Bool.or_false, Bool.false_or, Bool.or_true, Bool.true_or, Bool.false_and, Bool.and_false, decide_true, decide_false, L0, L1, L2, L3, L4, L5, L6, L7, L8, L9, L10, L11, L12, L13, L14, L15, L16, L17, L18, L19, L20, L21, L22, L23, L24, L25, L27, L33, L39, L40, L45, L48, L57, L60, L72, L90, L97, L98, L99, L100, L121, L122, L242, L255, L256, L580, L600, L1000, L1584, L1000000, Ln1, iN_add, iN_and, iN_or, iN_nd, iN_shl, iN_shr, iN_cl, iN_in, iN_mul, ieq_n, k193 w1, s12, t192 w1 b3.2.1, ieq_p]
/-- what all lines come to -/
def MPr (sort : Nat) (g0 : mH) (b : Nat → Nat) (len : Nat) (g : mH) (ok : Int32) : Nat ⊕ (CQ × FT) → Prop
  | .inl x => ok = iN 0 ∧ Fr pTl g0 g ∧ mI g 193 15 = iN x
  | .inr y => ok = iN 1 ∧ Fr pTl g0 g ∧ Wd g ∧ mI g 193 11 = iN len ∧ FMf g y.2 ∧ FTW y.2 ∧ PLW y.2 len ∧ CWF y.1 ∧ RCs sort g y.1 y.2
theorem t185 (hs : sort < 3) (T : TpM g b len) (S : SM g b len 0) (F : FMf g none) (R : RCs sort g cE none) : ∃ ok g', f185 g 193 (iN sort) = some (ok, g') ∧ MPr sort g b len g' ok (prs b len sort 600 0 cE none) := by
  have hl := T.2.2.1
  have P0 : PLW none (tkS b len 0) := fun k pl e => by cases e
  rw [← prs_st hs 600 0 cE none (Nat.zero_le _) (by omega) P0 cE_ok]
  unfold f185
  have := lp_run2 (body := f185_2 193 (iN sort)) (R := fun k (x : Nat ⊕ (Nat × CQ × FT)) s => match x with
    | .inl y => s.1 = iN 0 ∧ Fr pTl g s.2 ∧ mI s.2 193 15 = iN y
    | .inr x => s.1 = iN 1 ∧ Fr pTl g s.2 ∧ x.1 ≤ len ∧ k ≤ x.1 ∧ TpM s.2 b len ∧ SM s.2 b len x.1 ∧ FMf s.2 x.2.2 ∧ FTW x.2.2 ∧ PLW x.2.2 (tkS b len x.1) ∧ CWF x.2.1 ∧ RCs sort s.2 x.2.1 x.2.2) (Q := fun v r => MPr sort g b len r.2 r.1 v) (go := fun n _ x => match x with
    | .inl y => .inl y
    | .inr x => prs b len sort n x.1 x.2.1 x.2.2) 601 (fun n k x s hn hR => by
    cases x with
    | inl y =>
      obtain ⟨z1, z2, z3⟩ := hR
      refine Or.inr ⟨(iN 0, s.2), ?_, rfl, z2, z3⟩
      unfold f185_2 f185_106
      rw [z1]
      simp (disch := omega) only [gT, nbeq, Option.isSome_some, Option.getD_some, Bool.and_true, Bool.true_and, Bool.and_self, mX_some, bS, bN_if, bN_01, i1_01, i0_01, if_true, if_false, Bool.false_eq_true, false_and, and_false, and_true, true_and, and_self, Bool.or_false, Bool.false_or, Bool.or_true, Bool.true_or, Bool.false_and, Bool.and_false, decide_true, decide_false, L0, L1, L2, L3, L4, L5, L6, L7, L8, L9, L10, L11, L12, L13, L14, L15, L16, L17, L18, L19, L20, L21, L22, L23, L24, L25, L27, L33, L39, L40, L45, L48, L57, L60, L72, L90, L97, L98, L99, L100, L121, L122, L242, L255, L256, L580, L600, L1000, L1584, L1000000, Ln1, iN_add, iN_and, iN_or, iN_nd, iN_shl, iN_shr, iN_cl, iN_in, iN_mul, ieq_p]
    | inr x =>
      obtain ⟨p, c, f⟩ := x
      obtain ⟨z1, z2, z3, z4, z5, z6, z7, z8, z9, z10, z11⟩ := hR
      have z3 : p ≤ len := z3
      have z4 : k ≤ p := z4
      have w2 := z5.1
      have s12 := z6.2.2.1
      have hkk := tkK_le (b := b) (len := len) (p := p)
      have es : s = (iN 1, s.2) := Prod.ext z1 rfl
      by_cases e0 : tkK b len p = 0
      · have s12 : mI s.2 193 12 = iN (kM (tkK b len p)) := s12
        rw [e0] at s12
        have s12 : mI s.2 193 12 = iN 0 := s12
        have e11 : mI s.2 193 11 = iN len := z6.2.1.trans (by rw [tkK_0 z3 e0])
        have eS := tkK_0 z3 e0
        refine Or.inr ⟨(iN 1, s.2), ?_, ?_⟩
        · unfold f185_2 f185_106
          rw [z1]
          simp (disch := omega) only [gT, nbeq, Option.isSome_some, Option.getD_some, Bool.and_true, Bool.true_and, Bool.and_self, mX_some, bS, bN_if, bN_01, i1_01, i0_01, if_true, if_false, Bool.false_eq_true, false_and, and_false, and_true, true_and, and_self, Bool.or_false, Bool.false_or, Bool.or_true, Bool.true_or, Bool.false_and, Bool.and_false, decide_true, decide_false, L0, L1, L2, L3, L4, L5, L6, L7, L8, L9, L10, L11, L12, L13, L14, L15, L16, L17, L18, L19, L20, L21, L22, L23, L24, L25, L27, L33, L39, L40, L45, L48, L57, L60, L72, L90, L97, L98, L99, L100, L121, L122, L242, L255, L256, L580, L600, L1000, L1584, L1000000, Ln1, iN_add, iN_and, iN_or, iN_nd, iN_shl, iN_shr, iN_cl, iN_in, iN_mul, ieq_n, k193 w2, s12, ieq_p]
        · show MPr sort g b len s.2 (iN 1) (prs b len sort (n + 1) p c f)
          rw [prs_0 e0]
          exact ⟨rfl, z2, w2, e11, z7, z8, by rw [← eS]; exact z9, z10, z11⟩
      · obtain ⟨ok, g1, a1, a2⟩ := t185b hs z3 e0 z5 z6 z7 z8 z9 z10 z11
        have a2 : LNr (RCs sort) s.2 b len g1 ok (lnS b len sort p c f) := a2
        cases hr : lnS b len sort p c f with
        | inl y =>
          rw [hr] at a2
          obtain ⟨rfl, b1, b2⟩ := a2
          refine Or.inl ⟨(iN 0, g1), .inl y, by rw [es]; exact a1, ⟨rfl, z2.tr b1, b2⟩, ?_⟩
          show prs b len sort (n + 1) p c f = .inl y
          rw [prs_l e0 hr]
        | inr y =>
          rw [hr] at a2
          obtain ⟨rfl, b1, b2, b3, b4, b5, b6⟩ := a2
          obtain ⟨h1, h2, h3, h4⟩ := lnS_ok hs z3 e0 z9 z10 hr
          refine Or.inl ⟨(iN 1, g1), .inr y, by rw [es]; exact a1, ⟨rfl, z2.tr b1, h1, by omega, b2, b3, b4, b5, h3, h4, b6⟩, ?_⟩
          show prs b len sort (n + 1) p c f = prs b len sort n y.1 y.2.1 y.2.2
          rw [prs_r e0 hr]) (fun x s hR => by
    cases x with
    | inl y =>
      obtain ⟨z1, z2, z3⟩ := hR
      refine ⟨(iN 0, s.2), ?_, rfl, z2, z3⟩
      unfold f185_2 f185_106
      rw [z1]
      simp (disch := omega) only [gT, nbeq, Option.isSome_some, Option.getD_some, Bool.and_true, Bool.true_and, Bool.and_self, mX_some, bS, bN_if, bN_01, i1_01, i0_01, if_true, if_false, Bool.false_eq_true, false_and, and_false, and_true, true_and, and_self, Bool.or_false, Bool.false_or, Bool.or_true, Bool.true_or, Bool.false_and, Bool.and_false, decide_true, decide_false, L0, L1, L2, L3, L4, L5, L6, L7, L8, L9, L10, L11, L12, L13, L14, L15, L16, L17, L18, L19, L20, L21, L22, L23, L24, L25, L27, L33, L39, L40, L45, L48, L57, L60, L72, L90, L97, L98, L99, L100, L121, L122, L242, L255, L256, L580, L600, L1000, L1584, L1000000, Ln1, iN_add, iN_and, iN_or, iN_nd, iN_shl, iN_shr, iN_cl, iN_in, iN_mul, ieq_p]
    | inr x =>
      obtain ⟨z1, z2, z3, z4, _⟩ := hR
      omega) (by omega) (x0 := .inr (0, cE, none)) (s := (iN 1, g)) ⟨rfl, Fr.rfl, Nat.zero_le _, Nat.le_refl _, T, S, F, fun k pl e => (by cases e), P0, cE_ok, R⟩
  obtain ⟨⟨r, g'⟩, r1, r2⟩ := this
  refine ⟨r, g', ?_, r2⟩
  simp only [L1]
  exact r1
end ML
