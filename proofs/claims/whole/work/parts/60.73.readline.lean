/-! readLine -/
theorem t32a : ∀ k, k < 14 → f32 ([], fun _ _ => 0, fun _ _ => none, fun _ _ => 0) (iN (wcd k)) = some (iN (nbk k)) := by decide +kernel
theorem t32 {h : mH} {k : Nat} (hk : k < 14) : f32 h (iN (wcd k)) = some (iN (nbk k)) := t32a k hk
theorem lp_s {σ ρ : Type} {body : σ → Option (σ ⊕ ρ)} {s s' : σ} {n : Nat} (h : body s = some (.inl s')) : mLoop body (n + 1) s = mLoop body n s' := by simp only [mLoop, h]
theorem lp_r {σ ρ : Type} {body : σ → Option (σ ⊕ ρ)} {s : σ} {r : ρ} {n : Nat} (h : body s = some (.inr r)) : mLoop body (n + 1) s = some r := by simp only [mLoop, h]
theorem wcd_lt : ∀ k, k < 14 → wcd k < 14 := by decide
theorem nbk_le : ∀ k, k < 14 → nbk k ≤ 2 := by decide
def pSn (x : Nat) : Bool := pRg 52 4 x
def pPs (x : Nat) : Bool := pRg 37 19 x
theorem p52_Sn : ∀ x, p52 x = true → pSn x = true := fun x h => by
  have : x = 52 := Nat.eq_of_beq_eq_true h
  rw [this]; decide
theorem pSn_Ps : ∀ x, pSn x = true → pPs x = true := fun x h => by
  by_cases e : 52 ≤ x ∧ x < 56
  · exact pRg_t (by omega) (by omega)
  · have : pSn x = false := pRg_f (by omega)
    rw [this] at h; cases h
theorem pPr_Ps : ∀ x, pPr x = true → pPs x = true := fun x h => by
  by_cases e : 37 ≤ x ∧ x < 52
  · exact pRg_t (by omega) (by omega)
  · have : pPr x = false := pRg_f (by omega)
    rw [this] at h; cases h
theorem p37_Ps : ∀ x, p37 x = true → pPs x = true := fun x h => pPr_Ps x (p37_Pr x h)
theorem tkK_le {b : Nat → Nat} {len p : Nat} : tkK b len p ≤ 4 := by
  unfold tkK
  repeat' split
  all_goals omega
theorem tkV_le {b : Nat → Nat} {len p : Nat} (hp : p ≤ len) (h : tkK b len p = 2) : tkV b len p ≤ 99 := by
  obtain ⟨h1, h2, _, _⟩ := tkS_ok (b := b) hp
  have hd : ¬ len ≤ tkS b len p ∧ ¬ isLt (b (tkS b len p)) = true ∧ isDg (b (tkS b len p)) = true := by
    unfold tkK at h
    by_cases e : len ≤ tkS b len p
    · rw [if_pos e] at h; cases h
    · rw [if_neg e] at h
      by_cases e2 : isLt (b (tkS b len p)) = true
      · rw [if_pos e2] at h; cases h
      · rw [if_neg e2] at h
        by_cases e3 : isDg (b (tkS b len p)) = true
        · exact ⟨e, e2, e3⟩
        · rw [if_neg e3] at h
          split at h <;> cases h
  obtain ⟨e, e2, e3⟩ := hd
  have eE : tkE b len p = tkD b len (tkS b len p) := by unfold tkE; rw [if_neg e, if_neg e2, if_pos e3]
  obtain ⟨g1, g2, g3, _⟩ := tkD_ok (b := b) (len := len) h2
  unfold tkV
  rw [eE]
  exact vlN_le (fun j j1 j2 => g3 j j1 (by omega))
/-- broken off at x -/
def BRk (h : mH) (x : Nat) : Prop := x ≤ 600 ∧ mI h 37 3 = iN 1 ∧ mI h 37 4 = iN x
section RL
variable {h : mH} {b : Nat → Nat} {len : Nat} {c : CQ} {f : FT}
theorem t31 {x : Nat} (w : Wd h) (e : mI h 52 4 = iN x) (hx : x ≤ 600) : ∃ h', f31 h 37 = some ((), h') ∧ Fr p37 h h' ∧ BRk h' x := by
  refine ⟨mSI (mSI h 37 3 (iN 1)) 37 4 (iN x), ?_, (Fr.rfl.si rfl).si rfl, hx, by simp (disch := omega) only [si_ne, si_nk, si_eq], by simp only [si_ne, si_nk, si_eq]⟩
  unfold f31
  simp (disch := omega) only [gT, nbeq, Option.isSome_some, Option.getD_some, Bool.and_true, Bool.true_and, Bool.and_self, mX_some, bS, bN_if, bN_01, i1_01, i0_01, if_true, if_false, Bool.false_eq_true, false_and, and_false, and_true, true_and, and_self, Bool.or_false, Bool.false_or, Bool.or_true, Bool.true_or, Bool.false_and, Bool.and_false, decide_true, decide_false, L0, L1, L2, L3, L4, L5, L6, L7, L8, L9, L10, L11, L12, L13, L14, L15, L16, L17, L18, L19, L20, L21, L22, L23, L24, L25, L27, L33, L39, L40, L45, L48, L57, L60, L72, L90, L97, L98, L99, L100, L121, L122, L242, L255, L256, L580, L600, L1000, L1584, L1000000, Ln1, iN_add, iN_and, iN_or, iN_nd, iN_shl, iN_shr, iN_cl, iN_in, iN_mul, k37 w, r37_0 w, r37_1 w, r37_2 w, r37_5 w, r37_6 w, r37_7 w, k52 w, si_ne, si_nk, si_eq, e]
/-- a number read -/
theorem r1 {i n e : Nat} {l : Int32} (hi : i < 2) (hin : i < n) (hn : n ≤ 2) (T : TpC h b len) (he : e ≤ len) (h2 : mI h 52 2 = iN e) : (tkK b len e = 2 → ∃ h', f26_35 37 l (iN n) (iN i, h) = some (.inl (iN (i + 1), h')) ∧ Fr pSn h h' ∧ TpC h' b len ∧ mI h' 52 2 = iN (tkE b len e) ∧ mI h' 54 i = iN (tkV b len e) ∧ mI h' 55 i = iN (tkS b len e) ∧ ∀ j, j ≠ i → mI h' 54 j = mI h 54 j ∧ mI h' 55 j = mI h 55 j) ∧ (tkK b len e ≠ 2 → ∃ h', f26_35 37 l (iN n) (iN i, h) = some (.inr ((), h')) ∧ Fr pPs h h' ∧ BRk h' (tkS b len e)) := by
  have w := T.1
  have hl := T.2.2.2.1
  have F0 : Fr pSn h (mSI h 54 i jN) := Fr.rfl.si (by decide)
  have T0 := T.fr F0 rfl (by simp (disch := omega) only [si_ne, si_nk, si_eq])
  obtain ⟨h1, a1, a2, a3, a4⟩ := t21 T0 he (by simp (disch := omega) only [si_ne, si_nk, si_eq]; exact h2)
  have w1 := a3.1
  obtain ⟨s2, s4, s3, s5⟩ := a4
  have hk := tkK_le (b := b) (len := len) (p := e)
  have h6 := (tkS_ok (b := b) he).2.1
  constructor
  · intro hk2
    rw [hk2] at s3
    have s5 := s5 hk2
    have F1 : Fr pSn h1 (mSI (mSI h1 54 i (iN (tkV b len e))) 55 i (iN (tkS b len e))) := (Fr.rfl.si (by decide)).si (by decide)
    refine ⟨mSI (mSI h1 54 i (iN (tkV b len e))) 55 i (iN (tkS b len e)), ?_, (F0.tr (a2.mono p52_Sn)).tr F1, a3.fr F1 rfl (by simp (disch := omega) only [si_ne, si_nk, si_eq]), by simp (disch := omega) only [si_ne, si_nk, si_eq]; exact s2, by simp (disch := omega) only [si_ne, si_nk, si_eq], by simp (disch := omega) only [si_ne, si_nk, si_eq], fun j hj => ⟨?_, ?_⟩⟩
    · unfold f26_35 f26_106
      simp (disch := omega) only [gT, nbeq, Option.isSome_some, Option.getD_some, Bool.and_true, Bool.true_and, Bool.and_self, mX_some, bS, bN_if, bN_01, i1_01, i0_01, if_true, if_false, Bool.false_eq_true, false_and, and_false, and_true, true_and, and_self, Bool.or_false, Bool.false_or, Bool.or_true, Bool.true_or, Bool.false_and, Bool.and_false, decide_true, decide_false, L0, L1, L2, L3, L4, L5, L6, L7, L8, L9, L10, L11, L12, L13, L14, L15, L16, L17, L18, L19, L20, L21, L22, L23, L24, L25, L27, L33, L39, L40, L45, L48, L57, L60, L72, L90, L97, L98, L99, L100, L121, L122, L242, L255, L256, L580, L600, L1000, L1584, L1000000, Ln1, iN_add, iN_and, iN_or, iN_nd, iN_shl, iN_shr, iN_cl, iN_in, iN_mul, ile_n, k37 w, r37_0 w, r37_1 w, r37_2 w, r37_5 w, r37_6 w, r37_7 w, k52 w, k54 w, iN_in, iN_cl, a1, k37 w1, r37_0 w1, r37_1 w1, r37_2 w1, r37_5 w1, r37_6 w1, r37_7 w1, k52 w1, k54 w1, k55 w1, s3, ieq_p, s5, si_ne, si_nk, si_eq, s4]
    · simp (disch := omega) only [si_ne, si_nk, si_eq]; rw [a2.i rfl]; simp (disch := omega) only [si_ne, si_nk, si_eq]
    · simp (disch := omega) only [si_ne, si_nk, si_eq]; rw [a2.i rfl]; simp (disch := omega) only [si_ne, si_nk, si_eq]
  · intro hk2
    obtain ⟨h3, d1, d2, d3⟩ := t31 w1 s4 (by omega)
    refine ⟨h3, ?_, ((F0.tr (a2.mono p52_Sn)).mono pSn_Ps).tr (d2.mono p37_Ps), d3⟩
    unfold f26_35
    simp (disch := omega) only [gT, nbeq, Option.isSome_some, Option.getD_some, Bool.and_true, Bool.true_and, Bool.and_self, mX_some, bS, bN_if, bN_01, i1_01, i0_01, if_true, if_false, Bool.false_eq_true, false_and, and_false, and_true, true_and, and_self, Bool.or_false, Bool.false_or, Bool.or_true, Bool.true_or, Bool.false_and, Bool.and_false, decide_true, decide_false, L0, L1, L2, L3, L4, L5, L6, L7, L8, L9, L10, L11, L12, L13, L14, L15, L16, L17, L18, L19, L20, L21, L22, L23, L24, L25, L27, L33, L39, L40, L45, L48, L57, L60, L72, L90, L97, L98, L99, L100, L121, L122, L242, L255, L256, L580, L600, L1000, L1584, L1000000, Ln1, iN_add, iN_and, iN_or, iN_nd, iN_shl, iN_shr, iN_cl, iN_in, iN_mul, ile_n, k37 w, r37_0 w, r37_1 w, r37_2 w, r37_5 w, r37_6 w, r37_7 w, k52 w, k54 w, iN_in, iN_cl, a1, k37 w1, r37_0 w1, r37_1 w1, r37_2 w1, r37_5 w1, r37_6 w1, r37_7 w1, k52 w1, s3, ieq_n, d1]
/-- none wanted -/
theorem r0 {i n : Nat} {l : Int32} (hi : i < 2) (hin : n ≤ i) (T : TpC h b len) : f26_35 37 l (iN n) (iN i, h) = some (.inl (iN (i + 1), mSI h 54 i jN)) := by
  have w := T.1
  unfold f26_35 f26_106
  simp (disch := omega) only [gT, nbeq, Option.isSome_some, Option.getD_some, Bool.and_true, Bool.true_and, Bool.and_self, mX_some, bS, bN_if, bN_01, i1_01, i0_01, if_true, if_false, Bool.false_eq_true, false_and, and_false, and_true, true_and, and_self, Bool.or_false, Bool.false_or, Bool.or_true, Bool.true_or, Bool.false_and, Bool.and_false, decide_true, decide_false, L0, L1, L2, L3, L4, L5, L6, L7, L8, L9, L10, L11, L12, L13, L14, L15, L16, L17, L18, L19, L20, L21, L22, L23, L24, L25, L27, L33, L39, L40, L45, L48, L57, L60, L72, L90, L97, L98, L99, L100, L121, L122, L242, L255, L256, L580, L600, L1000, L1584, L1000000, Ln1, iN_add, iN_and, iN_or, iN_nd, iN_shl, iN_shr, iN_cl, iN_in, iN_mul, ile_n, ile_p, k37 w, r37_0 w, r37_1 w, r37_2 w, r37_5 w, r37_6 w, r37_7 w, k54 w, iN_in, iN_cl]
/-- the end of a line -/
theorem re {k e s0 s1 s2 v1 v2 : Nat} {l2 : Int32} (hk : k < 14) (T : TpC h b len) (he : e ≤ len) (h2 : mI h 52 2 = iN e) (C : CC h c f) (W : FTW f) (V : CWF c) (L : LC h s0 (nm1 k v1) (nm2 k v2) s1 s2) (hs : s0 ≤ 600 ∧ s1 ≤ 600 ∧ s2 ≤ 600) (hv1 : v1 ≤ 99) (hv2 : v2 ≤ 99) : (tkK b len e = 3 → ∃ h', f26_35 37 (iN (wcd k)) l2 (iN 2, h) = some (.inr ((), h')) ∧ Fr pPs h h' ∧ TpC h' b len ∧ SC h' b len (tkE b len e) ∧ CC h' (upf k c v1 v2 (chk k c s0 s1 s2 v1 v2 f)) (chk k c s0 s1 s2 v1 v2 f) ∧ FTW (chk k c s0 s1 s2 v1 v2 f)) ∧ (tkK b len e ≠ 3 → ∃ h', f26_35 37 (iN (wcd k)) l2 (iN 2, h) = some (.inr ((), h')) ∧ Fr pPs h h' ∧ BRk h' (tkS b len e)) := by
  have w := T.1
  have hl := T.2.2.2.1
  obtain ⟨h1, a1, a2, a3, a4⟩ := t21 T he h2
  have w1 := a3.1
  obtain ⟨s2', s4, s3, s5⟩ := a4
  have hkk := tkK_le (b := b) (len := len) (p := e)
  have h6 := (tkS_ok (b := b) he).2.1
  have h7 := (tkE_ok (b := b) he).2.1
  constructor
  · intro hk3
    rw [hk3] at s3
    have C1 := C.fr a2 (fun i g1 g2 => nbq (by omega))
    have M1 := L.fr a2 rfl rfl (a2.i rfl 8)
    obtain ⟨h3, d1, d2, d3, d4⟩ := t33 (v1 := v1) (v2 := v2) hk C1 W V M1 hs hv1 hv2
    have w3 := d3.1
    have T3 := a3.fr d2 rfl (d2.i rfl 1)
    obtain ⟨h4, e1, e2, e3, e4⟩ := t21 T3 h7 ((d2.i rfl 2).trans s2')
    refine ⟨h4, ?_, (((a2.mono p52_Sn).mono pSn_Ps).tr (d2.mono pPr_Ps)).tr ((e2.mono p52_Sn).mono pSn_Ps), e3, e4, d3.fr e2 (fun i g1 g2 => nbq (by omega)), d4⟩
    unfold f26_35
    simp (disch := omega) only [gT, nbeq, Option.isSome_some, Option.getD_some, Bool.and_true, Bool.true_and, Bool.and_self, mX_some, bS, bN_if, bN_01, i1_01, i0_01, if_true, if_false, Bool.false_eq_true, false_and, and_false, and_true, true_and, and_self, Bool.or_false, Bool.false_or, Bool.or_true, Bool.true_or, Bool.false_and, Bool.and_false, decide_true, decide_false, L0, L1, L2, L3, L4, L5, L6, L7, L8, L9, L10, L11, L12, L13, L14, L15, L16, L17, L18, L19, L20, L21, L22, L23, L24, L25, L27, L33, L39, L40, L45, L48, L57, L60, L72, L90, L97, L98, L99, L100, L121, L122, L242, L255, L256, L580, L600, L1000, L1584, L1000000, Ln1, iN_add, iN_and, iN_or, iN_nd, iN_shl, iN_shr, iN_cl, iN_in, iN_mul, ile_p, k37 w, r37_0 w, r37_1 w, r37_2 w, r37_5 w, r37_6 w, r37_7 w, k52 w, a1, k37 w1, r37_0 w1, r37_1 w1, r37_2 w1, r37_5 w1, r37_6 w1, r37_7 w1, k52 w1, s3, ieq_p, d1, k37 w3, r37_0 w3, r37_1 w3, r37_2 w3, r37_5 w3, r37_6 w3, r37_7 w3, k52 w3, e1]
  · intro hk3
    obtain ⟨h3, d1, d2, d3⟩ := t31 w1 s4 (by omega)
    refine ⟨h3, ?_, ((a2.mono p52_Sn).mono pSn_Ps).tr (d2.mono p37_Ps), d3⟩
    unfold f26_35
    simp (disch := omega) only [gT, nbeq, Option.isSome_some, Option.getD_some, Bool.and_true, Bool.true_and, Bool.and_self, mX_some, bS, bN_if, bN_01, i1_01, i0_01, if_true, if_false, Bool.false_eq_true, false_and, and_false, and_true, true_and, and_self, Bool.or_false, Bool.false_or, Bool.or_true, Bool.true_or, Bool.false_and, Bool.and_false, decide_true, decide_false, L0, L1, L2, L3, L4, L5, L6, L7, L8, L9, L10, L11, L12, L13, L14, L15, L16, L17, L18, L19, L20, L21, L22, L23, L24, L25, L27, L33, L39, L40, L45, L48, L57, L60, L72, L90, L97, L98, L99, L100, L121, L122, L242, L255, L256, L580, L600, L1000, L1584, L1000000, Ln1, iN_add, iN_and, iN_or, iN_nd, iN_shl, iN_shr, iN_cl, iN_in, iN_mul, ile_p, k37 w, r37_0 w, r37_1 w, r37_2 w, r37_5 w, r37_6 w, r37_7 w, k52 w, a1, k37 w1, r37_0 w1, r37_1 w1, r37_2 w1, r37_5 w1, r37_6 w1, r37_7 w1, k52 w1, s3, ieq_n, d1]
/-- what a line comes to, in the class's cells -/
def RLr (b : Nat → Nat) (len p : Nat) (h : mH) : Nat ⊕ (Nat × CQ × FT) → Prop
  | .inl x => BRk h x
  | .inr y => (y.1 ≤ len ∧ tkE b len p ≤ y.1) ∧ TpC h b len ∧ SC h b len y.1 ∧ CC h y.2.1 y.2.2 ∧ FTW y.2.2 ∧ CWF y.2.1
theorem CWF_upf {k : Nat} {s0 s1 s2 v1 v2 : Nat} (hk : k < 14) (V : CWF c) : CWF (upf k c v1 v2 (chk k c s0 s1 s2 v1 v2 f)) := by
  cases e : chk k c s0 s1 s2 v1 v2 f with
  | none => exact CWF_up hk V e
  | some x => exact V
theorem wF_k {p sort k : Nat} (hs : sort < 3) (h : wF b len p sort = some k) : k < 14 ∧ wIs b len p k = true ∧ wlo sort ≤ k ∧ k < wlo sort + wcn sort := by
  have h1 := fz_lt h
  have h2 := fz_ok _ _ h
  have h3 : ∀ n k0 c, fz (wIs b len p) n k0 = some c → k0 ≤ c := by
    intro n
    induction n with
    | zero => intro k0 c h; cases h
    | succ n ih =>
      intro k0 c h
      rw [fz_c] at h
      split at h
      · have := Option.some.inj h; omega
      · have := ih _ _ h; omega
  have h4 := h3 _ _ _ h
  have : sort = 0 ∨ sort = 1 ∨ sort = 2 := by omega
  refine ⟨?_, h2, h4, by omega⟩
  rcases this with rfl | rfl | rfl
  · have : k < 0 + 6 := h1; omega
  · have : k < 6 + 6 := h1; omega
  · have : k < 12 + 2 := h1; omega
theorem t26 {p sort : Nat} (hs : sort < 3) (hp : p ≤ len) (T : TpC h b len) (S : SC h b len p) (C : CC h c f) (W : FTW f) (V : CWF c) : ∃ h', f26 h 37 (iN sort) = some ((), h') ∧ Fr pPs h h' ∧ RLr b len p h' (lnS b len sort p c f) := by
  have w := T.1
  have hl := T.2.2.2.1
  have s4 := S.2.1
  have q0 := (tkS_ok (b := b) hp).2.1
  have q1 := (tkE_ok (b := b) hp).2.1
  have F0 : Fr p37 h (mSI h 37 8 (iN (tkS b len p))) := Fr.rfl.si rfl
  have T0 := T.fr F0 rfl (by simp (disch := omega) only [si_ne, si_nk, si_eq])
  have w0 := T0.1
  have C0 : CC (mSI h 37 8 (iN (tkS b len p))) c f := by
    refine C.f7 F0 (by simp (disch := omega) only [si_ne, si_nk, si_eq]) (by simp (disch := omega) only [si_ne, si_nk, si_eq]) ?_
    have cF := C.2.2.2.2.2.2
    cases f with
    | none => exact ⟨by simp (disch := omega) only [si_ne, si_nk, si_eq]; exact cF.1, by simp (disch := omega) only [si_ne, si_nk, si_eq]; exact cF.2⟩
    | some x => exact ⟨by simp (disch := omega) only [si_ne, si_nk, si_eq]; exact cF.1, by simp (disch := omega) only [si_ne, si_nk, si_eq]; exact cF.2⟩
  have e2 : mI (mSI h 37 8 (iN (tkS b len p))) 52 2 = iN (tkE b len p) := by simp (disch := omega) only [si_ne, si_nk, si_eq]; exact S.1
  have e8 : mI (mSI h 37 8 (iN (tkS b len p))) 37 8 = iN (tkS b len p) := by simp only [si_ne, si_nk, si_eq]
  unfold f26 lnS
  simp (disch := omega) only [gT, nbeq, Option.isSome_some, Option.getD_some, Bool.and_true, Bool.true_and, Bool.and_self, mX_some, bS, bN_if, bN_01, i1_01, i0_01, if_true, if_false, Bool.false_eq_true, false_and, and_false, and_true, true_and, and_self, Bool.or_false, Bool.false_or, Bool.or_true, Bool.true_or, Bool.false_and, Bool.and_false, decide_true, decide_false, L0, L1, L2, L3, L4, L5, L6, L7, L8, L9, L10, L11, L12, L13, L14, L15, L16, L17, L18, L19, L20, L21, L22, L23, L24, L25, L27, L33, L39, L40, L45, L48, L57, L60, L72, L90, L97, L98, L99, L100, L121, L122, L242, L255, L256, L580, L600, L1000, L1584, L1000000, Ln1, iN_add, iN_and, iN_or, iN_nd, iN_shl, iN_shr, iN_cl, iN_in, iN_mul, k37 w, r37_0 w, r37_1 w, r37_2 w, r37_5 w, r37_6 w, r37_7 w, k52 w, t27 hs hp T S, s4]
  cases hw : wF b len p sort with
  | none =>
    obtain ⟨h3, d1, d2, d3⟩ := t31 w0 (show mI (mSI h 37 8 (iN (tkS b len p))) 52 4 = iN (tkS b len p) by simp (disch := omega) only [si_ne, si_nk, si_eq]; exact s4) (by omega)
    simp only [Option.map_none, zN_none, jj_p, gT, nbeq, Option.isSome_some, Option.getD_some, Bool.and_true, Bool.true_and, Bool.and_self, mX_some, bS, bN_if, bN_01, i1_01, i0_01, if_true, if_false, Bool.false_eq_true, false_and, and_false, and_true, true_and, and_self, Bool.or_false, Bool.false_or, Bool.or_true, Bool.true_or, Bool.false_and, Bool.and_false, decide_true, decide_false, d1]
    exact ⟨h3, rfl, (F0.mono p37_Ps).tr (d2.mono p37_Ps), d3⟩
  | some k =>
    obtain ⟨hk, _⟩ := wF_k hs hw
    have hwc := wcd_lt k hk
    have hnb := nbk_le k hk
    simp (disch := omega) only [Option.map_some, zN_some, ij_n, gT, nbeq, Option.isSome_some, Option.getD_some, Bool.and_true, Bool.true_and, Bool.and_self, mX_some, bS, bN_if, bN_01, i1_01, i0_01, if_true, if_false, Bool.false_eq_true, false_and, and_false, and_true, true_and, and_self, Bool.or_false, Bool.false_or, Bool.or_true, Bool.true_or, Bool.false_and, Bool.and_false, decide_true, decide_false, t32 hk]
    generalize hz : mSI h 37 8 (iN (tkS b len p)) = z at T0 w0 C0 e2 e8 F0
    have F0' := F0.mono p37_Ps
    -- what is behind the numbers
    have fin : ∀ g e s1 s2 v1 v2 n, Fr pPs h g → e ≤ len → tkE b len p ≤ e → TpC g b len → mI g 52 2 = iN e → CC g c f → LC g (tkS b len p) (nm1 k v1) (nm2 k v2) s1 s2 → s1 ≤ 600 ∧ s2 ≤ 600 → v1 ≤ 99 → v2 ≤ 99 → ∃ h', mLoop (f26_35 37 (iN (wcd k)) (iN (nbk k))) (n + 1) (iN 2, g) = some ((), h') ∧ Fr pPs h h' ∧ RLr b len p h' (lnE b len k e (tkS b len p) s1 s2 v1 v2 c f) := fun g e s1 s2 v1 v2 n x1 x2 x3 x4 x5 x6 x7 x8 x9 x10 => by
      obtain ⟨y1, y2⟩ := re (l2 := iN (nbk k)) (v1 := v1) (v2 := v2) hk x4 x2 x5 x6 W V x7 ⟨by omega, x8.1, x8.2⟩ x9 x10
      unfold lnE
      obtain ⟨u1, u2⟩ := tkE_ok (b := b) x2
      have u3 := (tkS_ok (b := b) x2).1
      by_cases e3 : tkK b len e = 3
      · obtain ⟨h', z1, z2, z3, z4, z5, z6⟩ := y1 e3
        rw [if_pos e3]
        exact ⟨h', lp_r z1, x1.tr z2, ⟨u2.1, by show tkE b len p ≤ tkE b len e; omega⟩, z3, z4, z5, z6, CWF_upf hk V⟩
      · obtain ⟨h', z1, z2, z3⟩ := y2 e3
        rw [if_neg e3]
        exact ⟨h', lp_r z1, x1.tr z2, z3⟩
    show ∃ h', mLoop (f26_35 37 (iN (wcd k)) (iN (nbk k))) (4997 + 1 + 1 + 1) (iN 0, z) = some ((), h') ∧ _
    have : nbk k = 0 ∨ nbk k = 1 ∨ nbk k = 2 := by omega
    rcases this with n0 | n0 | n0
    · -- none
      rw [if_pos n0]
      have a1 := r0 (l := iN (wcd k)) (n := nbk k) (i := 0) (by omega) (by omega) T0
      have F1 : Fr pSn z (mSI z 54 0 jN) := Fr.rfl.si (by decide)
      have T1 := T0.fr F1 rfl (by simp (disch := omega) only [si_ne, si_nk, si_eq])
      have a2 := r0 (l := iN (wcd k)) (n := nbk k) (i := 1) (by omega) (by omega) T1
      have F2 : Fr pSn z (mSI (mSI z 54 0 jN) 54 1 jN) := F1.si (by decide)
      have T2 := T0.fr F2 rfl (by simp (disch := omega) only [si_ne, si_nk, si_eq])
      rw [lp_s a1, lp_s a2]
      refine fin _ (tkE b len p) 0 0 0 0 4997 (F0'.tr (F2.mono pSn_Ps)) q1 (Nat.le_refl _) T2 (by simp (disch := omega) only [si_ne, si_nk, si_eq]; exact e2) (C0.fr F2 (fun i g1 g2 => pRg_f (by omega))) ⟨by simp (disch := omega) only [si_ne, si_nk, si_eq]; exact e8, ?_, ?_, fun hne => ?_, fun hne => ?_⟩ ⟨by omega, by omega⟩ (by omega) (by omega)
      · unfold nm1; rw [if_pos n0]; simp (disch := omega) only [si_ne, si_nk, si_eq]; rfl
      · unfold nm2; rw [if_neg (by omega)]; simp (disch := omega) only [si_ne, si_nk, si_eq]; rfl
      · unfold nm1 at hne; rw [if_pos n0] at hne; exact absurd rfl hne
      · unfold nm2 at hne; rw [if_neg (by omega)] at hne; exact absurd rfl hne
    · -- one
      rw [if_neg (by omega)]
      unfold ln1
      obtain ⟨y1, y2⟩ := r1 (l := iN (wcd k)) (n := nbk k) (i := 0) (by omega) (by omega) (by omega) T0 q1 e2
      have q2 := (tkS_ok (b := b) q1).2.1
      obtain ⟨q3, q4, _⟩ := tkE_ok (b := b) q1
      have q5 := (tkS_ok (b := b) q1).1
      by_cases e3 : tkK b len (tkE b len p) = 2
      · obtain ⟨h1, z1, z2, z3, z4, z5, z6, z7⟩ := y1 e3
        have a2 := r0 (l := iN (wcd k)) (n := nbk k) (i := 1) (by omega) (by omega) z3
        have F2 : Fr pSn h1 (mSI h1 54 1 jN) := Fr.rfl.si (by decide)
        have T2 := z3.fr F2 rfl (by simp (disch := omega) only [si_ne, si_nk, si_eq])
        rw [if_pos e3, if_pos n0, lp_s z1, lp_s a2]
        refine fin _ (tkE b len (tkE b len p)) (tkS b len (tkE b len p)) 0 (tkV b len (tkE b len p)) 0 4997 ((F0'.tr (z2.mono pSn_Ps)).tr (F2.mono pSn_Ps)) q4 (by omega) T2 (by simp (disch := omega) only [si_ne, si_nk, si_eq]; exact z4) ((C0.fr z2 (fun i g1 g2 => pRg_f (by omega))).fr F2 (fun i g1 g2 => pRg_f (by omega))) ⟨?_, ?_, ?_, fun hne => ?_, fun hne => ?_⟩ ⟨by omega, by omega⟩ (tkV_le q1 e3) (by omega)
        · simp (disch := omega) only [si_ne, si_nk, si_eq]; rw [z2.i rfl]; exact e8
        · unfold nm1; rw [if_neg (by omega)]; simp (disch := omega) only [si_ne, si_nk, si_eq]; exact z5
        · unfold nm2; rw [if_neg (by omega)]; simp (disch := omega) only [si_ne, si_nk, si_eq]; rfl
        · simp (disch := omega) only [si_ne, si_nk, si_eq]; exact z6
        · unfold nm2 at hne; rw [if_neg (by omega)] at hne; exact absurd rfl hne
      · obtain ⟨h1, z1, z2, z3⟩ := y2 e3
        rw [if_neg e3, lp_r z1]
        exact ⟨h1, rfl, F0'.tr z2, z3⟩
    · -- two
      rw [if_neg (by omega)]
      unfold ln1
      obtain ⟨y1, y2⟩ := r1 (l := iN (wcd k)) (n := nbk k) (i := 0) (by omega) (by omega) (by omega) T0 q1 e2
      have q2 := (tkS_ok (b := b) q1).2.1
      obtain ⟨q3, q4, _⟩ := tkE_ok (b := b) q1
      have q5 := (tkS_ok (b := b) q1).1
      by_cases e3 : tkK b len (tkE b len p) = 2
      · obtain ⟨h1, z1, z2, z3, z4, z5, z6, z7⟩ := y1 e3
        obtain ⟨x1, x2⟩ := r1 (l := iN (wcd k)) (n := nbk k) (i := 1) (by omega) (by omega) (by omega) z3 q4 z4
        have q6 := (tkS_ok (b := b) q4).2.1
        obtain ⟨q7, q8, _⟩ := tkE_ok (b := b) q4
        have q9 := (tkS_ok (b := b) q4).1
        rw [if_pos e3, if_neg (by omega), lp_s z1]
        by_cases e4 : tkK b len (tkE b len (tkE b len p)) = 2
        · obtain ⟨h2, c1, c2, c3, c4, c5, c6, c7⟩ := x1 e4
          rw [if_pos e4, lp_s c1]
          refine fin _ (tkE b len (tkE b len (tkE b len p))) (tkS b len (tkE b len p)) (tkS b len (tkE b len (tkE b len p))) (tkV b len (tkE b len p)) (tkV b len (tkE b len (tkE b len p))) 4997 ((F0'.tr (z2.mono pSn_Ps)).tr (c2.mono pSn_Ps)) q8 (by omega) c3 c4 ((C0.fr z2 (fun i g1 g2 => pRg_f (by omega))).fr c2 (fun i g1 g2 => pRg_f (by omega))) ⟨?_, ?_, ?_, fun hne => ?_, fun hne => ?_⟩ ⟨by omega, by omega⟩ (tkV_le q1 e3) (tkV_le q4 e4)
          · rw [c2.i rfl, z2.i rfl]; exact e8
          · unfold nm1; rw [if_neg (by omega), (c7 0 (by decide)).1]; exact z5
          · unfold nm2; rw [if_pos n0]; exact c5
          · rw [(c7 0 (by decide)).2]; exact z6
          · exact c6
        · obtain ⟨h2, c1, c2, c3⟩ := x2 e4
          rw [if_neg e4, lp_r c1]
          exact ⟨h2, rfl, (F0'.tr (z2.mono pSn_Ps)).tr c2, c3⟩
      · obtain ⟨h1, z1, z2, z3⟩ := y2 e3
        rw [if_neg e3, lp_r z1]
        exact ⟨h1, rfl, F0'.tr z2, z3⟩
end RL
