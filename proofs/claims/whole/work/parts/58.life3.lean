/-! The class's Life: skip, pie, tell, cold, day. -/
section LF
variable {h : mH} {a la : Nat} {q : LQ} {s : LSt}
theorem t72 (L : LfS h a la) (H : LibS h la q) (W : QW q) (C : CLS h a s) (S : SW q s) {c : Nat} (hc : c < 8) : ∃ h', f72 h a (iN c) = some (bN (decide (c < q 0 0) && mayB q (sRd s ||| sSk s) c), h') ∧ Fr (pL a) h h' ∧ CLS h' a (if (decide (c < q 0 0) && mayB q (sRd s ||| sSk s) c) = true then sSkip s c else s) ∧ SW q (if (decide (c < q 0 0) && mayB q (sRd s ||| sSk s) c) = true then sSkip s c else s) ∧ XF h h' a ∧ mI h' a 8 = mI h a 8 := by
  have ho := opn_lt W (sRd s ||| sSk s)
  have hd := S.done W
  obtain ⟨c1, c2, c3, c4, c5, c6, c7, c8⟩ := id C
  have ho2 := opn_ups q (sRd s ||| sSk s)
  unfold f72 f72_34
  simp (disch := omega) only [gT, nbeq, Option.isSome_some, Option.getD_some, Bool.and_true, Bool.true_and, Bool.and_self, mX_some, bS, bN_if, bN_01, i1_01, i0_01, if_true, if_false, Bool.false_eq_true, false_and, and_false, and_true, true_and, and_self, Bool.or_false, Bool.false_or, Bool.or_true, Bool.true_or, Bool.false_and, Bool.and_false, decide_true, decide_false, L0, L1, L2, L3, L4, L5, L6, L7, L8, L9, L10, L11, L12, L13, L14, L15, L16, L17, L18, L19, L20, L21, L22, L23, L24, L25, L27, L33, L39, L40, L45, L48, L57, L60, L72, L90, L97, L98, L99, L100, L121, L122, L242, L255, L256, L580, L600, L1000, L1584, L1000000, Ln1, iN_add, iN_and, iN_or, iN_nd, iN_shl, iN_shr, iN_cl, iN_in, iN_mul, L.k, L.r0, L.r2, L.r3, L.k1, L.k2, H.k, H.r0, H.r1, H.r2, H.r3, H.r4, H.r5, H.k1, H.k2, H.k3, H.k4, H.k5, H.k6, H.n, H.m, H.lp, H.hr, H.tp, H.ln, H.lk, H.me, H.he, t56 H W, t71, rg_iN, c4, c5, t70 H W, opn_ups, ups_tb]
  by_cases hcn : c < q 0 0
  · cases hm : mayB q (sRd s ||| sSk s) c with
    | false =>
      simp only [hcn, gT, nbeq, Option.isSome_some, Option.getD_some, Bool.and_true, Bool.true_and, Bool.and_self, mX_some, bS, bN_if, bN_01, i1_01, i0_01, if_true, if_false, Bool.false_eq_true, false_and, and_false, and_true, true_and, and_self, Bool.or_false, Bool.false_or, Bool.or_true, Bool.true_or, Bool.false_and, Bool.and_false, decide_true, decide_false]
      exact ⟨_, rfl, Fr.rfl, C, S, fun j _ => rfl, rfl⟩
    | true =>
      simp only [hcn, gT, nbeq, Option.isSome_some, Option.getD_some, Bool.and_true, Bool.true_and, Bool.and_self, mX_some, bS, bN_if, bN_01, i1_01, i0_01, if_true, if_false, Bool.false_eq_true, false_and, and_false, and_true, true_and, and_self, Bool.or_false, Bool.false_or, Bool.or_true, Bool.true_or, Bool.false_and, Bool.and_false, decide_true, decide_false]
      refine ⟨_, rfl, Fr.rfl.si (pL0 a), ⟨?_, ?_, ?_, ?_, ?_, ?_, ?_, ?_⟩, ⟨S.1, S.2.1, S.2.2.1, or_lt S.2.2.2.1 (sh1_lt hcn), S.2.2.2.2⟩, ?_, ?_⟩
      · intro t ht
        simp (disch := omega) only [si_ne, si_nk, si_eq]; exact c1 t ht
      · intro k hk
        simp (disch := omega) only [si_ne, si_nk, si_eq]; exact c2 k hk
      · simp (disch := omega) only [si_ne, si_nk, si_eq]; exact c3
      · simp (disch := omega) only [si_ne, si_nk, si_eq]; exact c4
      · simp (disch := omega) only [si_ne, si_nk, si_eq]; rfl
      · simp (disch := omega) only [si_ne, si_nk, si_eq]; exact c6
      · simp (disch := omega) only [si_ne, si_nk, si_eq]; exact c7
      · simp (disch := omega) only [si_ne, si_nk, si_eq]; exact c8
      · intro j hj
        simp (disch := omega) only [si_ne, si_nk, si_eq]
      · simp (disch := omega) only [si_ne, si_nk, si_eq]
  · simp only [hcn, gT, nbeq, Option.isSome_some, Option.getD_some, Bool.and_true, Bool.true_and, Bool.and_self, mX_some, bS, bN_if, bN_01, i1_01, i0_01, if_true, if_false, Bool.false_eq_true, false_and, and_false, and_true, true_and, and_self, Bool.or_false, Bool.false_or, Bool.or_true, Bool.true_or, Bool.false_and, Bool.and_false, decide_true, decide_false]
    exact ⟨_, rfl, Fr.rfl, C, S, fun j _ => rfl, rfl⟩
theorem t73 (L : LfS h a la) (C : CLS h a s) (S : SW q s) {t : Nat} (ht : t < 6) : ∃ h', f73 h a (iN t) = some (bN true, h') ∧ Fr (pL a) h h' ∧ CLS h' a (sPie s t) ∧ SW q (sPie s t) ∧ XF h h' a ∧ mI h' a 8 = mI h a 8 + iN 1 := by
  obtain ⟨c1, c2, c3, c4, c5, c6, c7, c8⟩ := id C
  have e := c1 t ht
  have h9 := S.1 t ht
  have em : (if iN (sLk s t + 2) < iN 9 then iN (sLk s t + 2) else iN 9) = iN (min 9 (sLk s t + 2)) := by
    rw [ilt_d (by omega) (by omega)]
    split
    · rw [Nat.min_eq_right (by omega)]
    · rw [Nat.min_eq_left (by omega)]
  unfold f73 f73_30
  simp (disch := omega) only [gT, nbeq, Option.isSome_some, Option.getD_some, Bool.and_true, Bool.true_and, Bool.and_self, mX_some, bS, bN_if, bN_01, i1_01, i0_01, if_true, if_false, Bool.false_eq_true, false_and, and_false, and_true, true_and, and_self, Bool.or_false, Bool.false_or, Bool.or_true, Bool.true_or, Bool.false_and, Bool.and_false, decide_true, decide_false, L0, L1, L2, L3, L4, L5, L6, L7, L8, L9, L10, L11, L12, L13, L14, L15, L16, L17, L18, L19, L20, L21, L22, L23, L24, L25, L27, L33, L39, L40, L45, L48, L57, L60, L72, L90, L97, L98, L99, L100, L121, L122, L242, L255, L256, L580, L600, L1000, L1584, L1000000, Ln1, iN_add, iN_and, iN_or, iN_nd, iN_shl, iN_shr, iN_cl, iN_in, iN_mul, L.k, L.r0, L.r2, L.r3, L.k1, L.k2, t17r, rg_iN, e, em, mK_SI, si_ne, si_nk, si_eq]
  rw [decide_eq_true (by omega)]
  simp only [gT, nbeq, Option.isSome_some, Option.getD_some, Bool.and_true, Bool.true_and, Bool.and_self, mX_some, bS, bN_if, bN_01, i1_01, i0_01, if_true, if_false, Bool.false_eq_true, false_and, and_false, and_true, true_and, and_self, Bool.or_false, Bool.false_or, Bool.or_true, Bool.true_or, Bool.false_and, Bool.and_false, decide_true, decide_false]
  refine ⟨_, rfl, (Fr.rfl.si (pL1 a)).si (pL0 a), ⟨?_, ?_, ?_, ?_, ?_, ?_, ?_, ?_⟩, ⟨?_, S.2.1, S.2.2.1, S.2.2.2.1, S.2.2.2.2⟩, ?_, ?_⟩
  · intro j hj
    show _ = iN (ud (sLk s) t (min 9 (sLk s t + 2)) j)
    by_cases et : j = t
    · subst et; simp (disch := omega) only [si_ne, si_nk, si_eq, ud_eq]
    · simp (disch := omega) only [si_ne, si_nk, si_eq, ud_ne]; exact c1 j hj
  · intro k hk
    simp (disch := omega) only [si_ne, si_nk, si_eq]; exact c2 k hk
  · simp (disch := omega) only [si_ne, si_nk, si_eq]; exact c3
  · simp (disch := omega) only [si_ne, si_nk, si_eq]; exact c4
  · simp (disch := omega) only [si_ne, si_nk, si_eq]; exact c5
  · simp (disch := omega) only [si_ne, si_nk, si_eq]; exact c6
  · simp (disch := omega) only [si_ne, si_nk, si_eq]; exact c7
  · simp (disch := omega) only [si_ne, si_nk, si_eq]; exact c8
  · intro j hj
    show ud (sLk s) t (min 9 (sLk s t + 2)) j ≤ 9
    unfold ud; split
    · omega
    · exact S.1 j hj
  · intro j hj
    simp (disch := omega) only [si_ne, si_nk, si_eq]
  · simp (disch := omega) only [si_ne, si_nk, si_eq]
def tlB (q : LQ) (s : LSt) (c p : Nat) : Bool := !sCd s && decide (c < q 0 0) && decide (p < q 0 1) && (sRd s).testBit c
theorem SW.rd8 {q : LQ} {s : LSt} (W : QW q) (S : SW q s) : sRd s < 256 := by
  have := S.2.2.1
  have := pw_8 W.1.1
  omega
theorem t74 (L : LfS h a la) (H : LibS h la q) (W : QW q) (C : CLS h a s) (S : SW q s) {c p : Nat} (hc : c < 8) (hp : p < 6) : ∃ h', f74 h a (iN c) (iN p) = some (bN (tlB q s c p), h') ∧ Fr (pL a) h h' ∧ CLS h' a (if tlB q s c p = true then sTell s c p else s) ∧ SW q (if tlB q s c p = true then sTell s c p else s) ∧ XF h h' a ∧ mI h' a 8 = mI h a 8 := by
  have hr := S.rd8 W
  obtain ⟨c1, c2, c3, c4, c5, c6, c7, c8⟩ := id C
  unfold f74 f74_40 tlB
  simp (disch := omega) only [gT, nbeq, Option.isSome_some, Option.getD_some, Bool.and_true, Bool.true_and, Bool.and_self, mX_some, bS, bN_if, bN_01, i1_01, i0_01, if_true, if_false, Bool.false_eq_true, false_and, and_false, and_true, true_and, and_self, Bool.or_false, Bool.false_or, Bool.or_true, Bool.true_or, Bool.false_and, Bool.and_false, decide_true, decide_false, L0, L1, L2, L3, L4, L5, L6, L7, L8, L9, L10, L11, L12, L13, L14, L15, L16, L17, L18, L19, L20, L21, L22, L23, L24, L25, L27, L33, L39, L40, L45, L48, L57, L60, L72, L90, L97, L98, L99, L100, L121, L122, L242, L255, L256, L580, L600, L1000, L1584, L1000000, Ln1, iN_add, iN_and, iN_or, iN_nd, iN_shl, iN_shr, iN_cl, iN_in, iN_mul, L.k, L.r0, L.r2, L.r3, L.k1, L.k2, H.k, H.r0, H.r1, H.r2, H.r3, H.r4, H.r5, H.k1, H.k2, H.k3, H.k4, H.k5, H.k6, H.n, H.m, H.lp, H.hr, H.tp, H.ln, H.lk, H.me, H.he, t56 H W, t57 H W, t71, rg_iN, c4, c7]
  have no : ∃ h', some (iN 0, h) = some (bN false, h') ∧ Fr (pL a) h h' ∧ CLS h' a (if false = true then sTell s c p else s) ∧ SW q (if false = true then sTell s c p else s) ∧ XF h h' a ∧ mI h' a 8 = mI h a 8 := ⟨_, rfl, Fr.rfl, C, S, fun j _ => rfl, rfl⟩
  cases hcd : sCd s with
  | true => simp only [gT, nbeq, Option.isSome_some, Option.getD_some, Bool.and_true, Bool.true_and, Bool.and_self, mX_some, bS, bN_if, bN_01, i1_01, i0_01, if_true, if_false, Bool.false_eq_true, false_and, and_false, and_true, true_and, and_self, Bool.or_false, Bool.false_or, Bool.or_true, Bool.true_or, Bool.false_and, Bool.and_false, decide_true, decide_false, Bool.not_true]; exact no
  | false =>
    simp only [gT, nbeq, Option.isSome_some, Option.getD_some, Bool.and_true, Bool.true_and, Bool.and_self, mX_some, bS, bN_if, bN_01, i1_01, i0_01, if_true, if_false, Bool.false_eq_true, false_and, and_false, and_true, true_and, and_self, Bool.or_false, Bool.false_or, Bool.or_true, Bool.true_or, Bool.false_and, Bool.and_false, decide_true, decide_false, Bool.not_false]
    by_cases hcn : c < q 0 0
    · by_cases hpm : p < q 0 1
      · cases hb : (sRd s).testBit c with
        | false => simp only [hcn, hpm, gT, nbeq, Option.isSome_some, Option.getD_some, Bool.and_true, Bool.true_and, Bool.and_self, mX_some, bS, bN_if, bN_01, i1_01, i0_01, if_true, if_false, Bool.false_eq_true, false_and, and_false, and_true, true_and, and_self, Bool.or_false, Bool.false_or, Bool.or_true, Bool.true_or, Bool.false_and, Bool.and_false, decide_true, decide_false]; exact no
        | true =>
          simp only [hcn, hpm, gT, nbeq, Option.isSome_some, Option.getD_some, Bool.and_true, Bool.true_and, Bool.and_self, mX_some, bS, bN_if, bN_01, i1_01, i0_01, if_true, if_false, Bool.false_eq_true, false_and, and_false, and_true, true_and, and_self, Bool.or_false, Bool.false_or, Bool.or_true, Bool.true_or, Bool.false_and, Bool.and_false, decide_true, decide_false]
          refine ⟨_, rfl, Fr.rfl.si (pL2 a), ⟨?_, ?_, ?_, ?_, ?_, ?_, ?_, ?_⟩, ⟨S.1, ?_, S.2.2⟩, ?_, ?_⟩
          · intro j hj
            simp (disch := omega) only [si_ne, si_nk, si_eq]; exact c1 j hj
          · intro k hk
            show _ = zN (ud (sKn s) (8 * p + c) (some 0) k)
            by_cases ek : k = p * 8 + c
            · subst ek; rw [show p * 8 + c = 8 * p + c by omega]; simp (disch := omega) only [si_ne, si_nk, si_eq, ud_eq]; rfl
            · rw [ud_ne _ _ (by omega)]; simp (disch := omega) only [si_ne, si_nk, si_eq]; exact c2 k hk
          · simp (disch := omega) only [si_ne, si_nk, si_eq]; exact c3
          · simp (disch := omega) only [si_ne, si_nk, si_eq]; exact c4
          · simp (disch := omega) only [si_ne, si_nk, si_eq]; exact c5
          · simp (disch := omega) only [si_ne, si_nk, si_eq]; exact c6
          · simp (disch := omega) only [si_ne, si_nk, si_eq]; exact c7
          · simp (disch := omega) only [si_ne, si_nk, si_eq]; exact c8
          · intro k hk v hv
            change ud (sKn s) (8 * p + c) (some 0) k = some v at hv
            unfold ud at hv
            split at hv
            next e =>
              cases hv
              have hm := W.2.2.2.2.2.2.1 p hpm
              have ek : k / 8 = p := by omega
              rw [ek]; exact ⟨by omega, hpm⟩
            next => exact S.2.1 k hk v hv
          · intro j hj
            simp (disch := omega) only [si_ne, si_nk, si_eq]
          · simp (disch := omega) only [si_ne, si_nk, si_eq]
      · simp only [hcn, hpm, gT, nbeq, Option.isSome_some, Option.getD_some, Bool.and_true, Bool.true_and, Bool.and_self, mX_some, bS, bN_if, bN_01, i1_01, i0_01, if_true, if_false, Bool.false_eq_true, false_and, and_false, and_true, true_and, and_self, Bool.or_false, Bool.false_or, Bool.or_true, Bool.true_or, Bool.false_and, Bool.and_false, decide_true, decide_false]; exact no
    · simp only [hcn, gT, nbeq, Option.isSome_some, Option.getD_some, Bool.and_true, Bool.true_and, Bool.and_self, mX_some, bS, bN_if, bN_01, i1_01, i0_01, if_true, if_false, Bool.false_eq_true, false_and, and_false, and_true, true_and, and_self, Bool.or_false, Bool.false_or, Bool.or_true, Bool.true_or, Bool.false_and, Bool.and_false, decide_true, decide_false]; exact no
theorem t75 (L : LfS h a la) (C : CLS h a s) (S : SW q s) : ∃ h', f75 h a = some (bN (!sCd s), h') ∧ Fr (pL a) h h' ∧ CLS h' a (if (!sCd s) = true then sCold s else s) ∧ SW q (if (!sCd s) = true then sCold s else s) ∧ XF h h' a ∧ mI h' a 8 = mI h a 8 := by
  obtain ⟨c1, c2, c3, c4, c5, c6, c7, c8⟩ := id C
  unfold f75
  simp (disch := omega) only [gT, nbeq, Option.isSome_some, Option.getD_some, Bool.and_true, Bool.true_and, Bool.and_self, mX_some, bS, bN_if, bN_01, i1_01, i0_01, if_true, if_false, Bool.false_eq_true, false_and, and_false, and_true, true_and, and_self, Bool.or_false, Bool.false_or, Bool.or_true, Bool.true_or, Bool.false_and, Bool.and_false, decide_true, decide_false, L0, L1, L2, L3, L4, L5, L6, L7, L8, L9, L10, L11, L12, L13, L14, L15, L16, L17, L18, L19, L20, L21, L22, L23, L24, L25, L27, L33, L39, L40, L45, L48, L57, L60, L72, L90, L97, L98, L99, L100, L121, L122, L242, L255, L256, L580, L600, L1000, L1584, L1000000, Ln1, iN_add, iN_and, iN_or, iN_nd, iN_shl, iN_shr, iN_cl, iN_in, iN_mul, L.k, L.r0, L.r2, L.r3, L.k1, L.k2, c7]
  cases hcd : sCd s with
  | true => simp only [gT, nbeq, Option.isSome_some, Option.getD_some, Bool.and_true, Bool.true_and, Bool.and_self, mX_some, bS, bN_if, bN_01, i1_01, i0_01, if_true, if_false, Bool.false_eq_true, false_and, and_false, and_true, true_and, and_self, Bool.or_false, Bool.false_or, Bool.or_true, Bool.true_or, Bool.false_and, Bool.and_false, decide_true, decide_false, Bool.not_true]; exact ⟨_, rfl, Fr.rfl, C, S, fun j _ => rfl, rfl⟩
  | false =>
    simp only [gT, nbeq, Option.isSome_some, Option.getD_some, Bool.and_true, Bool.true_and, Bool.and_self, mX_some, bS, bN_if, bN_01, i1_01, i0_01, if_true, if_false, Bool.false_eq_true, false_and, and_false, and_true, true_and, and_self, Bool.or_false, Bool.false_or, Bool.or_true, Bool.true_or, Bool.false_and, Bool.and_false, decide_true, decide_false, Bool.not_false]
    refine ⟨_, rfl, Fr.rfl.si (pL0 a), ⟨?_, ?_, ?_, ?_, ?_, ?_, ?_, ?_⟩, S, ?_, ?_⟩
    · intro j hj
      simp (disch := omega) only [si_ne, si_nk, si_eq]; exact c1 j hj
    · intro k hk
      simp (disch := omega) only [si_ne, si_nk, si_eq]; exact c2 k hk
    · simp (disch := omega) only [si_ne, si_nk, si_eq]; exact c3
    · simp (disch := omega) only [si_ne, si_nk, si_eq]; exact c4
    · simp (disch := omega) only [si_ne, si_nk, si_eq]; exact c5
    · simp (disch := omega) only [si_ne, si_nk, si_eq]; exact c6
    · simp (disch := omega) only [si_ne, si_nk, si_eq]; rfl
    · simp (disch := omega) only [si_ne, si_nk, si_eq]; exact c8
    · intro j hj
      simp (disch := omega) only [si_ne, si_nk, si_eq]
    · simp (disch := omega) only [si_ne, si_nk, si_eq]
/-! a day -/
/-- what one KNOWS behind a day -/
def nK (q : LQ) (s : LSt) (k : Nat) : Option Nat := if k / 8 < q 0 1 then (match sKn s k with
  | some v => if v + 1 = q 5 (k / 8) then none else some (v + 1)
  | none => if q 6 (k / 8) &&& ups (whB s (k % 8)) (q 0 1) = 0 then none else some 0) else sKn s k
def fgB (q : LQ) (s : LSt) (k : Nat) : Bool := match sKn s k with
  | some v => decide (v + 1 = q 5 (k / 8))
  | none => false
def fcf (q : LQ) (s : LSt) (c : Nat) : Nat → Nat → Nat := fun p x => x + if fgB q s (8 * p + c) = true then 1 else 0
def sTon (q : LQ) (s : LSt) (c : Nat) : LSt := (sLk s, (fun k => if k % 8 = c then nK q s k else sKn s k), sDy s, sRd s, sSk s, sLf s, sCd s, up (fcf q s c) (q 0 1) (sFg s))
theorem nK_w {k v : Nat} (W : QW q) (S : SW q s) (hk : k < 48) (hv : nK q s k = some v) : v + 1 ≤ q 5 (k / 8) ∧ k / 8 < q 0 1 := by
  unfold nK at hv
  split at hv
  next hp =>
    cases hs : sKn s k with
    | some u =>
      have := S.2.1 k hk u hs
      simp only [hs] at hv
      split at hv
      · cases hv
      · cases hv; omega
    | none =>
      simp only [hs] at hv
      have := W.2.2.2.2.2.2.1 (k / 8) hp
      split at hv
      · cases hv
      · cases hv; omega
  next => exact S.2.1 k hk v hv
theorem SW.ton (W : QW q) (S : SW q s) (c : Nat) : SW q (sTon q s c) := by
  refine ⟨S.1, fun k hk v hv => ?_, S.2.2⟩
  change (if k % 8 = c then nK q s k else sKn s k) = some v at hv
  split at hv
  · exact nK_w W S hk hv
  · exact S.2.1 k hk v hv
theorem t77 (L : LfS h a la) (H : LibS h la q) (W : QW q) (C : CLS h a s) (S : SW q s) (pa : la + 7 ≤ a) {c : Nat} (hc : c < 8) : ∃ h', f77 h a (iN c) = some ((), h') ∧ Fr (pL a) h h' ∧ CLS h' a (sTon q s c) ∧ XF h h' a ∧ mI h' a 8 = mI h a 8 := by
  have hm := W.1.2.1
  have hu := ups_lt (whB s c) (q 0 1)
  have hu6 := pw_6 hm
  obtain ⟨c1, c2, c3, c4, c5, c6, c7, c8⟩ := id C
  unfold f77
  simp (disch := omega) only [gT, nbeq, Option.isSome_some, Option.getD_some, Bool.and_true, Bool.true_and, Bool.and_self, mX_some, bS, bN_if, bN_01, i1_01, i0_01, if_true, if_false, Bool.false_eq_true, false_and, and_false, and_true, true_and, and_self, Bool.or_false, Bool.false_or, Bool.or_true, Bool.true_or, Bool.false_and, Bool.and_false, decide_true, decide_false, L0, L1, L2, L3, L4, L5, L6, L7, L8, L9, L10, L11, L12, L13, L14, L15, L16, L17, L18, L19, L20, L21, L22, L23, L24, L25, L27, L33, L39, L40, L45, L48, L57, L60, L72, L90, L97, L98, L99, L100, L121, L122, L242, L255, L256, L580, L600, L1000, L1584, L1000000, Ln1, iN_add, iN_and, iN_or, iN_nd, iN_shl, iN_shr, iN_cl, iN_in, iN_mul, L.k, L.r0, L.r2, L.r3, L.k1, L.k2, t78 L H W C S hc]
  have hup : ∀ i, up (fcf q s c) (i + 1) (sFg s) = up (fcf q s c) i (sFg s) + if fgB q s (8 * i + c) = true then 1 else 0 := fun i => rfl
  have := lp_inv (body := f77_8 a (iN c) (iN (ups (whB s c) (q 0 1)))) (P := fun i z => z.1 = iN i ∧ Fr (pL a) h z.2 ∧ (∀ k, k < 48 → mI z.2 (a + 2) k = zN (if k % 8 = c ∧ k / 8 < i then nK q s k else sKn s k)) ∧ mI z.2 a 9 = iN (up (fcf q s c) i (sFg s)) ∧ (∀ j, j ≠ 9 → mI z.2 a j = mI h a j) ∧ ∀ j, mI z.2 (a + 1) j = mI h (a + 1) j) (Q := fun r => Fr (pL a) h r.2 ∧ CLS r.2 a (sTon q s c) ∧ XF h r.2 a ∧ mI r.2 a 8 = mI h a 8) (q 0 1) (fun i z hi hP => by
    obtain ⟨h1, h2, h3, h4, h5, h6⟩ := hP
    have L2 := L.fr h2
    have H2 := H.fl h2 pa
    have hK := h3 (i * 8 + c) (by omega)
    rw [if_neg (by omega)] at hK
    have dv : (i * 8 + c) / 8 = i := by omega
    have md : (i * 8 + c) % 8 = c := by omega
    have hq := q6_6 W (p := i) (by omega)
    have ha : q 6 i &&& ups (whB s c) (q 0 1) ≤ q 6 i := Nat.and_le_left
    have hmm := W.2.2.2.2.2.2.2.1 i (by omega)
    have tb : (ups (whB s c) (q 0 1)).testBit i = (sKn s (i * 8 + c)).isSome := by
      rw [ups_tb]; unfold whB; rw [show 8 * i + c = i * 8 + c by omega]; simp [hi]
    have kk : ∀ (v : Option Nat) (g : mH), nK q s (i * 8 + c) = v → (∀ k, mI g (a + 2) k = if k = i * 8 + c then zN v else mI z.2 (a + 2) k) → ∀ k, k < 48 → mI g (a + 2) k = zN (if k % 8 = c ∧ k / 8 < i + 1 then nK q s k else sKn s k) := by
      intro v g hv hg k hk
      rw [hg k]
      by_cases e : k = i * 8 + c
      · rw [if_pos e, if_pos (by omega), e, hv]
      · rw [if_neg e, h3 k hk]
        by_cases e2 : k % 8 = c ∧ k / 8 < i
        · rw [if_pos e2, if_pos (by omega)]
        · rw [if_neg e2, if_neg (by omega)]
    have f8 : 8 * i + c = i * 8 + c := by omega
    cases hs : sKn s (i * 8 + c) with
    | some v =>
      have hw := S.2.1 _ (by omega) v hs
      rw [dv] at hw
      rw [hs] at hK
      have hKi : mI z.2 (a + 2) (i * 8 + c) = iN v := hK
      by_cases ev : v + 1 = q 5 i
      · have hnk : nK q s (i * 8 + c) = none := by unfold nK; rw [dv, if_pos hi, hs]; simp only [ev, if_true]
        have hfg : fgB q s (8 * i + c) = true := by unfold fgB; rw [f8, hs, dv]; simp only [ev, decide_true]
        refine Or.inl ⟨(iN (i + 1), mSI (mSI (mSI z.2 (a + 2) (i * 8 + c) (iN (v + 1))) (a + 2) (i * 8 + c) jN) a 9 (mI z.2 a 9 + iN 1)), ?_, rfl, ((h2.si (pL2 a)).si (pL2 a)).si (pL0 a), kk none _ hnk ?_, ?_, ?_, ?_⟩
        · unfold f77_8 f77_73 f77_108
          rw [h1]
          simp (disch := omega) only [gT, nbeq, Option.isSome_some, Option.getD_some, Bool.and_true, Bool.true_and, Bool.and_self, mX_some, bS, bN_if, bN_01, i1_01, i0_01, if_true, if_false, Bool.false_eq_true, false_and, and_false, and_true, true_and, and_self, Bool.or_false, Bool.false_or, Bool.or_true, Bool.true_or, Bool.false_and, Bool.and_false, decide_true, decide_false, L0, L1, L2, L3, L4, L5, L6, L7, L8, L9, L10, L11, L12, L13, L14, L15, L16, L17, L18, L19, L20, L21, L22, L23, L24, L25, L27, L33, L39, L40, L45, L48, L57, L60, L72, L90, L97, L98, L99, L100, L121, L122, L242, L255, L256, L580, L600, L1000, L1584, L1000000, Ln1, iN_add, iN_and, iN_or, iN_nd, iN_shl, iN_shr, iN_cl, iN_in, iN_mul, L2.k, L2.r0, L2.r2, L2.r3, L2.k1, L2.k2, H2.k, H2.r0, H2.r1, H2.r2, H2.r3, H2.r4, H2.r5, H2.k1, H2.k2, H2.k3, H2.k4, H2.k5, H2.k6, H2.n, H2.m, H2.lp, H2.hr, H2.tp, H2.ln, H2.lk, H2.me, H2.he, ile_n, t71, tb, hs, hKi, si_ne, si_nk, si_eq, mK_SI, ilt_n]
        · intro k
          by_cases e : k = i * 8 + c
          · subst e; simp (disch := omega) only [si_ne, si_nk, si_eq, if_true]; rfl
          · simp (disch := omega) only [si_ne, si_nk, si_eq, e, if_false]
        · simp (disch := omega) only [si_ne, si_nk, si_eq]
          rw [h4, hup, hfg]; simp only [L0, L1, L2, L3, L4, L5, L6, L7, L8, L9, L10, L11, L12, L13, L14, L15, L16, L17, L18, L19, L20, L21, L22, L23, L24, L25, L27, L33, L39, L40, L45, L48, L57, L60, L72, L90, L97, L98, L99, L100, L121, L122, L242, L255, L256, L580, L600, L1000, L1584, L1000000, Ln1, iN_add, iN_and, iN_or, iN_nd, iN_shl, iN_shr, iN_cl, iN_in, iN_mul, if_true]
        · intro j hj
          simp (disch := omega) only [si_ne, si_nk, si_eq]; exact h5 j hj
        · intro j
          simp (disch := omega) only [si_ne, si_nk, si_eq]; exact h6 j
      · have hnk : nK q s (i * 8 + c) = some (v + 1) := by unfold nK; rw [dv, if_pos hi, hs]; simp only [ev, if_false]
        have hfg : fgB q s (8 * i + c) = false := by unfold fgB; rw [f8, hs, dv]; simp only [ev, decide_false]
        refine Or.inl ⟨(iN (i + 1), mSI z.2 (a + 2) (i * 8 + c) (iN (v + 1))), ?_, rfl, h2.si (pL2 a), kk (some (v + 1)) _ hnk ?_, ?_, ?_, ?_⟩
        · unfold f77_8 f77_108
          rw [h1]
          simp (disch := omega) only [gT, nbeq, Option.isSome_some, Option.getD_some, Bool.and_true, Bool.true_and, Bool.and_self, mX_some, bS, bN_if, bN_01, i1_01, i0_01, if_true, if_false, Bool.false_eq_true, false_and, and_false, and_true, true_and, and_self, Bool.or_false, Bool.false_or, Bool.or_true, Bool.true_or, Bool.false_and, Bool.and_false, decide_true, decide_false, L0, L1, L2, L3, L4, L5, L6, L7, L8, L9, L10, L11, L12, L13, L14, L15, L16, L17, L18, L19, L20, L21, L22, L23, L24, L25, L27, L33, L39, L40, L45, L48, L57, L60, L72, L90, L97, L98, L99, L100, L121, L122, L242, L255, L256, L580, L600, L1000, L1584, L1000000, Ln1, iN_add, iN_and, iN_or, iN_nd, iN_shl, iN_shr, iN_cl, iN_in, iN_mul, L2.k, L2.r0, L2.r2, L2.r3, L2.k1, L2.k2, H2.k, H2.r0, H2.r1, H2.r2, H2.r3, H2.r4, H2.r5, H2.k1, H2.k2, H2.k3, H2.k4, H2.k5, H2.k6, H2.n, H2.m, H2.lp, H2.hr, H2.tp, H2.ln, H2.lk, H2.me, H2.he, ile_n, t71, tb, hs, hKi, si_ne, si_nk, si_eq, mK_SI, ilt_p]
        · intro k
          by_cases e : k = i * 8 + c
          · subst e; simp (disch := omega) only [si_ne, si_nk, si_eq, if_true]; rfl
          · simp (disch := omega) only [si_ne, si_nk, si_eq, e, if_false]
        · simp (disch := omega) only [si_ne, si_nk, si_eq]
          rw [h4, hup, hfg]; simp only [Bool.false_eq_true, if_false, Nat.add_zero]
        · intro j hj
          simp (disch := omega) only [si_ne, si_nk, si_eq]; exact h5 j hj
        · intro j
          simp (disch := omega) only [si_ne, si_nk, si_eq]; exact h6 j
    | none =>
      have hfg : fgB q s (8 * i + c) = false := by unfold fgB; rw [f8, hs]
      rw [hs] at hK
      by_cases ez : q 6 i &&& ups (whB s c) (q 0 1) = 0
      · have hnk : nK q s (i * 8 + c) = none := by unfold nK; rw [dv, if_pos hi, hs, md]; simp only [ez, if_true]
        refine Or.inl ⟨(iN (i + 1), z.2), ?_, rfl, h2, kk none _ hnk ?_, ?_, h5, h6⟩
        · unfold f77_8 f77_108
          rw [h1]
          simp (disch := omega) only [gT, nbeq, Option.isSome_some, Option.getD_some, Bool.and_true, Bool.true_and, Bool.and_self, mX_some, bS, bN_if, bN_01, i1_01, i0_01, if_true, if_false, Bool.false_eq_true, false_and, and_false, and_true, true_and, and_self, Bool.or_false, Bool.false_or, Bool.or_true, Bool.true_or, Bool.false_and, Bool.and_false, decide_true, decide_false, L0, L1, L2, L3, L4, L5, L6, L7, L8, L9, L10, L11, L12, L13, L14, L15, L16, L17, L18, L19, L20, L21, L22, L23, L24, L25, L27, L33, L39, L40, L45, L48, L57, L60, L72, L90, L97, L98, L99, L100, L121, L122, L242, L255, L256, L580, L600, L1000, L1584, L1000000, Ln1, iN_add, iN_and, iN_or, iN_nd, iN_shl, iN_shr, iN_cl, iN_in, iN_mul, L2.k, L2.r0, L2.r2, L2.r3, L2.k1, L2.k2, H2.k, H2.r0, H2.r1, H2.r2, H2.r3, H2.r4, H2.r5, H2.k1, H2.k2, H2.k3, H2.k4, H2.k5, H2.k6, H2.n, H2.m, H2.lp, H2.hr, H2.tp, H2.ln, H2.lk, H2.me, H2.he, ile_n, t71, tb, hs, Option.isSome_none, ieq_p]
        · intro k
          by_cases e : k = i * 8 + c
          · subst e; rw [if_pos rfl]; exact hK
          · rw [if_neg e]
        · rw [h4, hup, hfg]; simp only [Bool.false_eq_true, if_false, Nat.add_zero]
      · have hnk : nK q s (i * 8 + c) = some 0 := by unfold nK; rw [dv, if_pos hi, hs, md]; simp only [ez, if_false]
        refine Or.inl ⟨(iN (i + 1), mSI z.2 (a + 2) (i * 8 + c) (iN 0)), ?_, rfl, h2.si (pL2 a), kk (some 0) _ hnk ?_, ?_, ?_, ?_⟩
        · unfold f77_8 f77_108
          rw [h1]
          simp (disch := omega) only [gT, nbeq, Option.isSome_some, Option.getD_some, Bool.and_true, Bool.true_and, Bool.and_self, mX_some, bS, bN_if, bN_01, i1_01, i0_01, if_true, if_false, Bool.false_eq_true, false_and, and_false, and_true, true_and, and_self, Bool.or_false, Bool.false_or, Bool.or_true, Bool.true_or, Bool.false_and, Bool.and_false, decide_true, decide_false, L0, L1, L2, L3, L4, L5, L6, L7, L8, L9, L10, L11, L12, L13, L14, L15, L16, L17, L18, L19, L20, L21, L22, L23, L24, L25, L27, L33, L39, L40, L45, L48, L57, L60, L72, L90, L97, L98, L99, L100, L121, L122, L242, L255, L256, L580, L600, L1000, L1584, L1000000, Ln1, iN_add, iN_and, iN_or, iN_nd, iN_shl, iN_shr, iN_cl, iN_in, iN_mul, L2.k, L2.r0, L2.r2, L2.r3, L2.k1, L2.k2, H2.k, H2.r0, H2.r1, H2.r2, H2.r3, H2.r4, H2.r5, H2.k1, H2.k2, H2.k3, H2.k4, H2.k5, H2.k6, H2.n, H2.m, H2.lp, H2.hr, H2.tp, H2.ln, H2.lk, H2.me, H2.he, ile_n, t71, tb, hs, Option.isSome_none, ieq_n]
        · intro k
          by_cases e : k = i * 8 + c
          · subst e; simp (disch := omega) only [si_ne, si_nk, si_eq, if_true]; rfl
          · simp (disch := omega) only [si_ne, si_nk, si_eq, e, if_false]
        · simp (disch := omega) only [si_ne, si_nk, si_eq]
          rw [h4, hup, hfg]; simp only [Bool.false_eq_true, if_false, Nat.add_zero]
        · intro j hj
          simp (disch := omega) only [si_ne, si_nk, si_eq]; exact h5 j hj
        · intro j
          simp (disch := omega) only [si_ne, si_nk, si_eq]; exact h6 j) (fun z hP => by
    obtain ⟨h1, h2, h3, h4, h5, h6⟩ := hP
    have L2 := L.fr h2
    have H2 := H.fl h2 pa
    refine ⟨((), z.2), ?_, h2, ⟨fun t ht => (h6 t).trans (c1 t ht), fun k hk => ?_, (h5 4 (by omega)).trans c3, (h5 1 (by omega)).trans c4, (h5 5 (by omega)).trans c5, (h5 6 (by omega)).trans c6, (h5 7 (by omega)).trans c7, h4⟩, fun j hj => h5 j (by omega), h5 8 (by omega)⟩
    · unfold f77_8
      rw [h1]
      simp (disch := omega) only [gT, nbeq, Option.isSome_some, Option.getD_some, Bool.and_true, Bool.true_and, Bool.and_self, mX_some, bS, bN_if, bN_01, i1_01, i0_01, if_true, if_false, Bool.false_eq_true, false_and, and_false, and_true, true_and, and_self, Bool.or_false, Bool.false_or, Bool.or_true, Bool.true_or, Bool.false_and, Bool.and_false, decide_true, decide_false, L0, L1, L2, L3, L4, L5, L6, L7, L8, L9, L10, L11, L12, L13, L14, L15, L16, L17, L18, L19, L20, L21, L22, L23, L24, L25, L27, L33, L39, L40, L45, L48, L57, L60, L72, L90, L97, L98, L99, L100, L121, L122, L242, L255, L256, L580, L600, L1000, L1584, L1000000, Ln1, iN_add, iN_and, iN_or, iN_nd, iN_shl, iN_shr, iN_cl, iN_in, iN_mul, L2.k, L2.r0, L2.r2, L2.r3, L2.k1, L2.k2, H2.k, H2.r0, H2.r1, H2.r2, H2.r3, H2.r4, H2.r5, H2.k1, H2.k2, H2.k3, H2.k4, H2.k5, H2.k6, H2.n, H2.m, H2.lp, H2.hr, H2.tp, H2.ln, H2.lk, H2.me, H2.he, ile_p]
    · rw [h3 k hk]
      show _ = zN (if k % 8 = c then nK q s k else sKn s k)
      by_cases e : k % 8 = c
      · by_cases e2 : k / 8 < q 0 1
        · rw [if_pos ⟨e, e2⟩, if_pos e]
        · rw [if_neg (fun x => e2 x.2), if_pos e]
          unfold nK; rw [if_neg e2]
      · rw [if_neg (fun x => e x.1), if_neg e]) (by omega) (s := (iN 0, h)) ⟨rfl, Fr.rfl, fun k hk => by rw [if_neg (by omega)]; exact c2 k hk, c8, fun j _ => rfl, fun j => rfl⟩
  obtain ⟨⟨u, h'⟩, z1, z2⟩ := this
  exact ⟨h', z1, z2⟩
end LF
