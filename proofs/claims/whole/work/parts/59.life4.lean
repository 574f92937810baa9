/-! The class's Life: a day; a deed. -/
def dayK (q : LQ) (s : LSt) (n k : Nat) : Option Nat := if k % 8 < n then nK q s k else sKn s k
def fcn (q : LQ) (s : LSt) (n : Nat) : Nat := up (fun c x => up (fcf q s c) (q 0 1) x) n (sFg s)
/-- behind a day on which the first n CHAPTERS are told on -/
def sTo (q : LQ) (s : LSt) (n : Nat) : LSt := (sLk s, dayK q s n, sDy s, sRd s, sSk s, sLf s, sCd s, fcn q s n)
def sMorn (q : LQ) (s : LSt) : LSt := (sLk s, sKn s, sDy s + 1, sRd s, sSk s, q 0 2, false, sFg s)
def sDay (q : LQ) (s : LSt) : LSt := sMorn q (sTo q s (q 0 0))
theorem ups_congr {P P' : Nat → Bool} {n : Nat} (h : ∀ k, k < n → P k = P' k) : ups P n = ups P' n :=
  up_congr (fun k x hk => by rw [h k hk]) 0
theorem ton_to {q : LQ} {s : LSt} {n : Nat} (hm : q 0 1 ≤ 6) (hn : n < 8) : sTon q (sTo q s n) n = sTo q s (n + 1) := by
  have kn : ∀ k, k % 8 = n → sKn (sTo q s n) k = sKn s k := fun k hk => by
    show dayK q s n k = sKn s k
    unfold dayK; rw [if_neg (by omega)]
  have wh : ups (whB (sTo q s n) n) (q 0 1) = ups (whB s n) (q 0 1) := ups_congr (fun p hp => by
    unfold whB; rw [kn (8 * p + n) (by omega)])
  have nk : ∀ k, k % 8 = n → nK q (sTo q s n) k = nK q s k := fun k hk => by
    unfold nK; rw [kn k hk, hk, wh]
  have fb : ∀ p, fgB q (sTo q s n) (8 * p + n) = fgB q s (8 * p + n) := fun p => by
    unfold fgB; rw [kn (8 * p + n) (by omega)]
  have ff : fcf q (sTo q s n) n = fcf q s n := by
    funext p x; unfold fcf; rw [fb p]
  have e1 : (fun k => if k % 8 = n then nK q (sTo q s n) k else sKn (sTo q s n) k) = dayK q s (n + 1) := by
    funext k
    by_cases hk : k % 8 = n
    · rw [if_pos hk, nk k hk]; unfold dayK; rw [if_pos (by omega)]
    · rw [if_neg hk]
      show dayK q s n k = dayK q s (n + 1) k
      unfold dayK
      by_cases h2 : k % 8 < n
      · rw [if_pos h2, if_pos (by omega)]
      · rw [if_neg h2, if_neg (by omega)]
  have e2 : up (fcf q (sTo q s n) n) (q 0 1) (sFg (sTo q s n)) = fcn q s (n + 1) := by
    rw [ff]; rfl
  unfold sTon
  rw [e1, e2]; rfl
section LF
variable {h : mH} {a la : Nat} {q : LQ} {s : LSt}
theorem SW.to (W : QW q) (S : SW q s) (n : Nat) : SW q (sTo q s n) := by
  refine ⟨S.1, fun k hk v hv => ?_, S.2.2⟩
  change dayK q s n k = some v at hv
  unfold dayK at hv
  split at hv
  · exact nK_w W S hk hv
  · exact S.2.1 k hk v hv
theorem SW.morn (W : QW q) (S : SW q s) : SW q (sMorn q s) := ⟨S.1, S.2.1, S.2.2.1, S.2.2.2.1, W.1.2.2.2⟩
theorem SW.day (W : QW q) (S : SW q s) : SW q (sDay q s) := SW.morn W (S.to W _)
theorem to_0 : sTo q s 0 = s := by
  unfold sTo
  have : dayK q s 0 = sKn s := by funext k; unfold dayK; rw [if_neg (by omega)]
  rw [this]; rfl
theorem t79 (L : LfS h a la) (H : LibS h la q) (C : CLS h a s) (pa : la + 7 ≤ a) : ∃ h', f79 h a = some ((), h') ∧ Fr (pL a) h h' ∧ CLS h' a (sMorn q s) ∧ XF h h' a ∧ mI h' a 8 = mI h a 8 := by
  obtain ⟨c1, c2, c3, c4, c5, c6, c7, c8⟩ := id C
  unfold f79 f79_26
  simp (disch := omega) only [gT, nbeq, Option.isSome_some, Option.getD_some, Bool.and_true, Bool.true_and, Bool.and_self, mX_some, bS, bN_if, bN_01, i1_01, i0_01, if_true, if_false, Bool.false_eq_true, false_and, and_false, and_true, true_and, and_self, Bool.or_false, Bool.false_or, Bool.or_true, Bool.true_or, Bool.false_and, Bool.and_false, decide_true, decide_false, L0, L1, L2, L3, L4, L5, L6, L7, L8, L9, L10, L11, L12, L13, L14, L15, L16, L17, L18, L19, L20, L21, L22, L23, L24, L25, L27, L33, L39, L40, L45, L48, L57, L60, L72, L90, L97, L98, L99, L100, L121, L122, L242, L255, L256, L580, L600, L1000, L1584, L1000000, Ln1, iN_add, iN_and, iN_or, iN_nd, iN_shl, iN_shr, iN_cl, iN_in, iN_mul, L.k, L.r0, L.r2, L.r3, L.k1, L.k2, H.k, H.r0, H.r1, H.r2, H.r3, H.r4, H.r5, H.k1, H.k2, H.k3, H.k4, H.k5, H.k6, H.n, H.m, H.lp, H.hr, H.tp, H.ln, H.lk, H.me, H.he, mK_SI, si_ne, si_nk, si_eq, c3]
  refine ⟨_, rfl, ((Fr.rfl.si (pL0 a)).si (pL0 a)).si (pL0 a), ⟨?_, ?_, ?_, ?_, ?_, ?_, ?_, ?_⟩, ?_, ?_⟩
  · intro j hj
    simp (disch := omega) only [si_ne, si_nk, si_eq]; exact c1 j hj
  · intro k hk
    simp (disch := omega) only [si_ne, si_nk, si_eq]; exact c2 k hk
  · simp (disch := omega) only [si_ne, si_nk, si_eq]; rfl
  · simp (disch := omega) only [si_ne, si_nk, si_eq]; exact c4
  · simp (disch := omega) only [si_ne, si_nk, si_eq]; exact c5
  · simp (disch := omega) only [si_ne, si_nk, si_eq]; rfl
  · simp (disch := omega) only [si_ne, si_nk, si_eq]; rfl
  · simp (disch := omega) only [si_ne, si_nk, si_eq]; exact c8
  · intro j hj
    simp (disch := omega) only [si_ne, si_nk, si_eq]
  · simp (disch := omega) only [si_ne, si_nk, si_eq]
theorem t76 (L : LfS h a la) (H : LibS h la q) (W : QW q) (C : CLS h a s) (S : SW q s) (pa : la + 7 ≤ a) : ∃ h', f76 h a = some ((), h') ∧ Fr (pL a) h h' ∧ CLS h' a (sDay q s) ∧ XF h h' a ∧ mI h' a 8 = mI h a 8 := by
  have hn := W.1.1
  unfold f76
  have := lp_inv (body := f76_2 a) (P := fun i z => z.1 = iN i ∧ Fr (pL a) h z.2 ∧ CLS z.2 a (sTo q s i) ∧ XF h z.2 a ∧ mI z.2 a 8 = mI h a 8) (Q := fun r => Fr (pL a) h r.2 ∧ CLS r.2 a (sDay q s) ∧ XF h r.2 a ∧ mI r.2 a 8 = mI h a 8) (q 0 0) (fun i z hi hP => by
    obtain ⟨h1, h2, h3, h4, h5⟩ := hP
    have L2 := L.fr h2
    have H2 := H.fl h2 pa
    obtain ⟨h', f1, f2, f3, f4, f5⟩ := t77 L2 H2 W h3 (S.to W i) pa (c := i) (by omega)
    rw [ton_to W.1.2.1 (by omega)] at f3
    refine Or.inl ⟨(iN (i + 1), h'), ?_, rfl, h2.tr f2, f3, fun j hj => (f4 j hj).trans (h4 j hj), f5.trans h5⟩
    unfold f76_2
    rw [h1]
    simp (disch := omega) only [gT, nbeq, Option.isSome_some, Option.getD_some, Bool.and_true, Bool.true_and, Bool.and_self, mX_some, bS, bN_if, bN_01, i1_01, i0_01, if_true, if_false, Bool.false_eq_true, false_and, and_false, and_true, true_and, and_self, Bool.or_false, Bool.false_or, Bool.or_true, Bool.true_or, Bool.false_and, Bool.and_false, decide_true, decide_false, L0, L1, L2, L3, L4, L5, L6, L7, L8, L9, L10, L11, L12, L13, L14, L15, L16, L17, L18, L19, L20, L21, L22, L23, L24, L25, L27, L33, L39, L40, L45, L48, L57, L60, L72, L90, L97, L98, L99, L100, L121, L122, L242, L255, L256, L580, L600, L1000, L1584, L1000000, Ln1, iN_add, iN_and, iN_or, iN_nd, iN_shl, iN_shr, iN_cl, iN_in, iN_mul, L2.k, L2.r0, L2.r2, L2.r3, L2.k1, L2.k2, H2.k, H2.r0, H2.r1, H2.r2, H2.r3, H2.r4, H2.r5, H2.k1, H2.k2, H2.k3, H2.k4, H2.k5, H2.k6, H2.n, H2.m, H2.lp, H2.hr, H2.tp, H2.ln, H2.lk, H2.me, H2.he, ile_n, f1]) (fun z hP => by
    obtain ⟨h1, h2, h3, h4, h5⟩ := hP
    have L2 := L.fr h2
    have H2 := H.fl h2 pa
    obtain ⟨h', f1, f2, f3, f4, f5⟩ := t79 L2 H2 h3 pa
    refine ⟨((), h'), ?_, h2.tr f2, f3, fun j hj => (f4 j hj).trans (h4 j hj), f5.trans h5⟩
    unfold f76_2
    rw [h1]
    simp (disch := omega) only [gT, nbeq, Option.isSome_some, Option.getD_some, Bool.and_true, Bool.true_and, Bool.and_self, mX_some, bS, bN_if, bN_01, i1_01, i0_01, if_true, if_false, Bool.false_eq_true, false_and, and_false, and_true, true_and, and_self, Bool.or_false, Bool.false_or, Bool.or_true, Bool.true_or, Bool.false_and, Bool.and_false, decide_true, decide_false, L0, L1, L2, L3, L4, L5, L6, L7, L8, L9, L10, L11, L12, L13, L14, L15, L16, L17, L18, L19, L20, L21, L22, L23, L24, L25, L27, L33, L39, L40, L45, L48, L57, L60, L72, L90, L97, L98, L99, L100, L121, L122, L242, L255, L256, L580, L600, L1000, L1584, L1000000, Ln1, iN_add, iN_and, iN_or, iN_nd, iN_shl, iN_shr, iN_cl, iN_in, iN_mul, L2.k, L2.r0, L2.r2, L2.r3, L2.k1, L2.k2, H2.k, H2.r0, H2.r1, H2.r2, H2.r3, H2.r4, H2.r5, H2.k1, H2.k2, H2.k3, H2.k4, H2.k5, H2.k6, H2.n, H2.m, H2.lp, H2.hr, H2.tp, H2.ln, H2.lk, H2.me, H2.he, ile_p, f1]) (by omega) (s := (0, h)) ⟨rfl, Fr.rfl, by rw [to_0]; exact C, fun j _ => rfl, rfl⟩
  obtain ⟨⟨u, h'⟩, z1, z2⟩ := this
  exact ⟨h', z1, z2⟩
/-- a DEED, if it can be -/
def actS (q : LQ) (s : LSt) (k x y : Nat) : Option LSt := if k = 0 then (if (decide (x < q 0 0) && cR q s x) = true then some (sRead q s x) else none) else if k = 1 then (if (decide (x < q 0 0) && mayB q (sRd s ||| sSk s) x) = true then some (sSkip s x) else none) else if k = 2 then some (sPie s x) else if k = 3 then (if tlB q s x y = true then some (sTell s x y) else none) else if k = 4 then (if (!sCd s) = true then some (sCold s) else none) else some (sDay q s)
theorem gd_if {α : Type} {b : Bool} {x s : α} : ((if b = true then some x else none : Option α).getD s) = if b = true then x else s := by cases b <;> rfl
theorem is_if {α : Type} {b : Bool} {x : α} : ((if b = true then some x else none : Option α).isSome) = b := by cases b <;> rfl
/-- the numbers of a deed -/
def dOk (k : Nat) (u v : Int32) (x y : Nat) : Prop := k ≤ 5 ∧ (k ≤ 1 ∨ k = 3 → u = iN x ∧ x < 8) ∧ (k = 2 → u = iN x ∧ x < 6) ∧ (k = 3 → v = iN y ∧ y < 6)
theorem t67 (L : LfS h a la) (H : LibS h la q) (W : QW q) (C : CLS h a s) (S : SW q s) (pa : la + 7 ≤ a) {k x y : Nat} {u v : Int32} (D : dOk k u v x y) : ∃ h', f67 h a (iN k) u v = some (bN (actS q s k x y).isSome, h') ∧ Fr (pL a) h h' ∧ CLS h' a ((actS q s k x y).getD s) ∧ SW q ((actS q s k x y).getD s) ∧ XF h h' a ∧ mI h' a 8 = if k = 2 then mI h a 8 + iN 1 else mI h a 8 := by
  obtain ⟨d0, d1, d2, d3⟩ := D
  have hk : k = 0 ∨ k = 1 ∨ k = 2 ∨ k = 3 ∨ k = 4 ∨ k = 5 := by omega
  unfold f67 actS
  rcases hk with rfl | rfl | rfl | rfl | rfl | rfl
  · obtain ⟨rfl, hx⟩ := d1 (by omega)
    cases hr : (decide (x < q 0 0) && cR q s x) with
    | false =>
      simp (disch := omega) only [gT, nbeq, Option.isSome_some, Option.getD_some, Bool.and_true, Bool.true_and, Bool.and_self, mX_some, bS, bN_if, bN_01, i1_01, i0_01, if_true, if_false, Bool.false_eq_true, false_and, and_false, and_true, true_and, and_self, Bool.or_false, Bool.false_or, Bool.or_true, Bool.true_or, Bool.false_and, Bool.and_false, decide_true, decide_false, L0, L1, L2, L3, L4, L5, L6, L7, L8, L9, L10, L11, L12, L13, L14, L15, L16, L17, L18, L19, L20, L21, L22, L23, L24, L25, L27, L33, L39, L40, L45, L48, L57, L60, L72, L90, L97, L98, L99, L100, L121, L122, L242, L255, L256, L580, L600, L1000, L1584, L1000000, Ln1, iN_add, iN_and, iN_or, iN_nd, iN_shl, iN_shr, iN_cl, iN_in, iN_mul, ile_p, ile_n, ilt_p, ilt_n, ieq_p, ieq_n, ij_n, jj_p, ijle, jile, ijlt, jilt, L.k, t68n L H W C S hx hr]
      exact ⟨_, rfl, Fr.rfl, C, S, fun j _ => rfl, rfl⟩
    | true =>
      obtain ⟨h', f1, f2⟩ := t68y L H W C S pa hx hr
      simp (disch := omega) only [gT, nbeq, Option.isSome_some, Option.getD_some, Bool.and_true, Bool.true_and, Bool.and_self, mX_some, bS, bN_if, bN_01, i1_01, i0_01, if_true, if_false, Bool.false_eq_true, false_and, and_false, and_true, true_and, and_self, Bool.or_false, Bool.false_or, Bool.or_true, Bool.true_or, Bool.false_and, Bool.and_false, decide_true, decide_false, L0, L1, L2, L3, L4, L5, L6, L7, L8, L9, L10, L11, L12, L13, L14, L15, L16, L17, L18, L19, L20, L21, L22, L23, L24, L25, L27, L33, L39, L40, L45, L48, L57, L60, L72, L90, L97, L98, L99, L100, L121, L122, L242, L255, L256, L580, L600, L1000, L1584, L1000000, Ln1, iN_add, iN_and, iN_or, iN_nd, iN_shl, iN_shr, iN_cl, iN_in, iN_mul, ile_p, ile_n, ilt_p, ilt_n, ieq_p, ieq_n, ij_n, jj_p, ijle, jile, ijlt, jilt, L.k, f1]
      exact ⟨_, rfl, f2⟩
  · obtain ⟨rfl, hx⟩ := d1 (by omega)
    obtain ⟨h', f1, f2⟩ := t72 L H W C S hx
    simp (disch := omega) only [gT, nbeq, Option.isSome_some, Option.getD_some, Bool.and_true, Bool.true_and, Bool.and_self, mX_some, bS, bN_if, bN_01, i1_01, i0_01, if_true, if_false, Bool.false_eq_true, false_and, and_false, and_true, true_and, and_self, Bool.or_false, Bool.false_or, Bool.or_true, Bool.true_or, Bool.false_and, Bool.and_false, decide_true, decide_false, L0, L1, L2, L3, L4, L5, L6, L7, L8, L9, L10, L11, L12, L13, L14, L15, L16, L17, L18, L19, L20, L21, L22, L23, L24, L25, L27, L33, L39, L40, L45, L48, L57, L60, L72, L90, L97, L98, L99, L100, L121, L122, L242, L255, L256, L580, L600, L1000, L1584, L1000000, Ln1, iN_add, iN_and, iN_or, iN_nd, iN_shl, iN_shr, iN_cl, iN_in, iN_mul, ile_p, ile_n, ilt_p, ilt_n, ieq_p, ieq_n, ij_n, jj_p, ijle, jile, ijlt, jilt, L.k, f1, show ¬ (1 = 0) from by omega, gd_if, is_if, show ¬ (1 = 2) from by omega]
    exact ⟨_, rfl, f2⟩
  · obtain ⟨rfl, hx⟩ := d2 rfl
    obtain ⟨h', f1, f2⟩ := t73 L C S hx
    simp (disch := omega) only [gT, nbeq, Option.isSome_some, Option.getD_some, Bool.and_true, Bool.true_and, Bool.and_self, mX_some, bS, bN_if, bN_01, i1_01, i0_01, if_true, if_false, Bool.false_eq_true, false_and, and_false, and_true, true_and, and_self, Bool.or_false, Bool.false_or, Bool.or_true, Bool.true_or, Bool.false_and, Bool.and_false, decide_true, decide_false, L0, L1, L2, L3, L4, L5, L6, L7, L8, L9, L10, L11, L12, L13, L14, L15, L16, L17, L18, L19, L20, L21, L22, L23, L24, L25, L27, L33, L39, L40, L45, L48, L57, L60, L72, L90, L97, L98, L99, L100, L121, L122, L242, L255, L256, L580, L600, L1000, L1584, L1000000, Ln1, iN_add, iN_and, iN_or, iN_nd, iN_shl, iN_shr, iN_cl, iN_in, iN_mul, ile_p, ile_n, ilt_p, ilt_n, ieq_p, ieq_n, ij_n, jj_p, ijle, jile, ijlt, jilt, L.k, f1, show ¬ (2 = 0) from by omega, show ¬ (2 = 1) from by omega]
    exact ⟨_, rfl, f2⟩
  · obtain ⟨rfl, hx⟩ := d1 (by omega)
    obtain ⟨rfl, hy⟩ := d3 rfl
    obtain ⟨h', f1, f2⟩ := t74 L H W C S hx hy
    simp (disch := omega) only [gT, nbeq, Option.isSome_some, Option.getD_some, Bool.and_true, Bool.true_and, Bool.and_self, mX_some, bS, bN_if, bN_01, i1_01, i0_01, if_true, if_false, Bool.false_eq_true, false_and, and_false, and_true, true_and, and_self, Bool.or_false, Bool.false_or, Bool.or_true, Bool.true_or, Bool.false_and, Bool.and_false, decide_true, decide_false, L0, L1, L2, L3, L4, L5, L6, L7, L8, L9, L10, L11, L12, L13, L14, L15, L16, L17, L18, L19, L20, L21, L22, L23, L24, L25, L27, L33, L39, L40, L45, L48, L57, L60, L72, L90, L97, L98, L99, L100, L121, L122, L242, L255, L256, L580, L600, L1000, L1584, L1000000, Ln1, iN_add, iN_and, iN_or, iN_nd, iN_shl, iN_shr, iN_cl, iN_in, iN_mul, ile_p, ile_n, ilt_p, ilt_n, ieq_p, ieq_n, ij_n, jj_p, ijle, jile, ijlt, jilt, L.k, f1, show ¬ (3 = 0) from by omega, show ¬ (3 = 1) from by omega, show ¬ (3 = 2) from by omega, gd_if, is_if]
    exact ⟨_, rfl, f2⟩
  · obtain ⟨h', f1, f2⟩ := t75 (q := q) L C S
    simp (disch := omega) only [gT, nbeq, Option.isSome_some, Option.getD_some, Bool.and_true, Bool.true_and, Bool.and_self, mX_some, bS, bN_if, bN_01, i1_01, i0_01, if_true, if_false, Bool.false_eq_true, false_and, and_false, and_true, true_and, and_self, Bool.or_false, Bool.false_or, Bool.or_true, Bool.true_or, Bool.false_and, Bool.and_false, decide_true, decide_false, L0, L1, L2, L3, L4, L5, L6, L7, L8, L9, L10, L11, L12, L13, L14, L15, L16, L17, L18, L19, L20, L21, L22, L23, L24, L25, L27, L33, L39, L40, L45, L48, L57, L60, L72, L90, L97, L98, L99, L100, L121, L122, L242, L255, L256, L580, L600, L1000, L1584, L1000000, Ln1, iN_add, iN_and, iN_or, iN_nd, iN_shl, iN_shr, iN_cl, iN_in, iN_mul, ile_p, ile_n, ilt_p, ilt_n, ieq_p, ieq_n, ij_n, jj_p, ijle, jile, ijlt, jilt, L.k, f1, show ¬ (4 = 0) from by omega, show ¬ (4 = 1) from by omega, show ¬ (4 = 2) from by omega, show ¬ (4 = 3) from by omega, gd_if, is_if]
    exact ⟨_, rfl, f2⟩
  · obtain ⟨h', f1, f2, f3, f4, f5⟩ := t76 L H W C S pa
    simp (disch := omega) only [gT, nbeq, Option.isSome_some, Option.getD_some, Bool.and_true, Bool.true_and, Bool.and_self, mX_some, bS, bN_if, bN_01, i1_01, i0_01, if_true, if_false, Bool.false_eq_true, false_and, and_false, and_true, true_and, and_self, Bool.or_false, Bool.false_or, Bool.or_true, Bool.true_or, Bool.false_and, Bool.and_false, decide_true, decide_false, L0, L1, L2, L3, L4, L5, L6, L7, L8, L9, L10, L11, L12, L13, L14, L15, L16, L17, L18, L19, L20, L21, L22, L23, L24, L25, L27, L33, L39, L40, L45, L48, L57, L60, L72, L90, L97, L98, L99, L100, L121, L122, L242, L255, L256, L580, L600, L1000, L1584, L1000000, Ln1, iN_add, iN_and, iN_or, iN_nd, iN_shl, iN_shr, iN_cl, iN_in, iN_mul, ile_p, ile_n, ilt_p, ilt_n, ieq_p, ieq_n, ij_n, jj_p, ijle, jile, ijlt, jilt, L.k, f1, show ¬ (5 = 0) from by omega, show ¬ (5 = 1) from by omega, show ¬ (5 = 2) from by omega, show ¬ (5 = 3) from by omega, show ¬ (5 = 4) from by omega]
    exact ⟨_, rfl, f2, f3, S.day W, f4, f5⟩
end LF
