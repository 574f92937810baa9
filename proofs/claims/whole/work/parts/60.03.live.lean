/-! A YEAR lived: the class's. -/
/-- a STATE, gossip, the most KNOWN, bored, the first READ, pies -/
abbrev XSt : Type := LSt × Option Nat × Nat × Nat × Option Nat × Nat
def nbf (s : LSt) : Nat → Nat → Nat := fun t x => if sLk s t = 0 then x ||| 1 <<< t else x
def knS (q : LQ) (s : LSt) (p : Nat) : Nat := pc (ups (knB s p) (q 0 0))
def ngf (q : LQ) (s : LSt) : Nat → Option Nat × Nat → Option Nat × Nat := fun p g => if knS q s p ≤ g.2 then g else (some p, knS q s p)
def ntc (q : LQ) (x : XSt) : XSt := (x.1, (up (ngf q x.1) (q 0 1) (x.2.1, x.2.2.1)).1, (up (ngf q x.1) (q 0 1) (x.2.1, x.2.2.1)).2, up (nbf x.1) 6 x.2.2.2.1, x.2.2.2.2.1, x.2.2.2.2.2)
def CX (h : mH) (a : Nat) (x : XSt) : Prop := CLS h a x.1 ∧ mI h a 10 = zN x.2.1 ∧ mI h a 11 = iN x.2.2.1 ∧ mI h a 13 = iN x.2.2.2.1 ∧ mI h a 12 = zN x.2.2.2.2.1 ∧ mI h a 8 = iN x.2.2.2.2.2
section LF
variable {h : mH} {a la : Nat} {q : LQ}
theorem CLS.x {h h' : mH} {a : Nat} {s : LSt} (C : CLS h a s) (x : ∀ j, j < 10 → mI h' a j = mI h a j) (x1 : ∀ j, mI h' (a + 1) j = mI h (a + 1) j) (x2 : ∀ j, mI h' (a + 2) j = mI h (a + 2) j) : CLS h' a s := by
  obtain ⟨c1, c2, c3, c4, c5, c6, c7, c8⟩ := C
  exact ⟨fun t ht => (x1 t).trans (c1 t ht), fun k hk => (x2 k).trans (c2 k hk), (x 4 (by omega)).trans c3, (x 1 (by omega)).trans c4, (x 5 (by omega)).trans c5, (x 6 (by omega)).trans c6, (x 7 (by omega)).trans c7, (x 9 (by omega)).trans c8⟩
theorem t64 {x : XSt} (L : LfS h a la) (H : LibS h la q) (W : QW q) (C : CX h a x) (S : SW q x.1) (pa : la + 7 ≤ a) (hk : x.2.2.1 ≤ 8) : ∃ h', f64 h a = some ((), h') ∧ Fr (pL a) h h' ∧ CX h' a (ntc q x) ∧ (ntc q x).2.2.1 ≤ 8 ∧ mI h' a 14 = mI h a 14 := by
  have hm := W.1.2.1
  obtain ⟨C, x1, x2, x3, x4, x5⟩ := C
  obtain ⟨c1, c2, c3, c4, c5, c6, c7, c8⟩ := id C
  unfold f64
  have := lp_inv (body := f64_2 a) (P := fun i z => z.1 = iN i ∧ Fr (pL a) h z.2 ∧ (∀ j, j ≠ 13 → mI z.2 a j = mI h a j) ∧ (∀ j, mI z.2 (a + 1) j = mI h (a + 1) j) ∧ (∀ j, mI z.2 (a + 2) j = mI h (a + 2) j) ∧ mI z.2 a 13 = iN (up (nbf x.1) i x.2.2.2.1)) (Q := fun r => Fr (pL a) h r.2 ∧ CX r.2 a (ntc q x) ∧ (ntc q x).2.2.1 ≤ 8 ∧ mI r.2 a 14 = mI h a 14) 6 (fun i z hi hP => by
    obtain ⟨h1, h2, h3, h4, h5, h6⟩ := hP
    have L2 := L.fr h2
    have e : mI z.2 (a + 1) i = iN (sLk x.1 i) := (h4 i).trans (c1 i hi)
    have hl := S.1 i hi
    by_cases ez : sLk x.1 i = 0
    · refine Or.inl ⟨(iN (i + 1), mSI z.2 a 13 (iN (up (nbf x.1) i x.2.2.2.1 ||| 1 <<< i))), ?_, rfl, h2.si (pL0 a), fun j hj => ?_, fun j => ?_, fun j => ?_, ?_⟩
      · unfold f64_2 f64_29
        rw [h1]
        simp (disch := omega) only [gT, nbeq, Option.isSome_some, Option.getD_some, Bool.and_true, Bool.true_and, Bool.and_self, mX_some, bS, bN_if, bN_01, i1_01, i0_01, if_true, if_false, Bool.false_eq_true, false_and, and_false, and_true, true_and, and_self, Bool.or_false, Bool.false_or, Bool.or_true, Bool.true_or, Bool.false_and, Bool.and_false, decide_true, decide_false, L0, L1, L2, L3, L4, L5, L6, L7, L8, L9, L10, L11, L12, L13, L14, L15, L16, L17, L18, L19, L20, L21, L22, L23, L24, L25, L27, L33, L39, L40, L45, L48, L57, L60, L72, L90, L97, L98, L99, L100, L121, L122, L242, L255, L256, L580, L600, L1000, L1584, L1000000, Ln1, iN_add, iN_and, iN_or, iN_nd, iN_shl, iN_shr, iN_cl, iN_in, iN_mul, L2.k, L2.r0, L2.r2, L2.r3, L2.k1, L2.k2, ile_n, e, ieq_p, h6]
      · simp (disch := omega) only [si_ne, si_nk, si_eq]; exact h3 j hj
      · simp (disch := omega) only [si_ne, si_nk, si_eq]; exact h4 j
      · simp (disch := omega) only [si_ne, si_nk, si_eq]; exact h5 j
      · simp (disch := omega) only [si_ne, si_nk, si_eq]
        show _ = iN (nbf x.1 i (up (nbf x.1) i x.2.2.2.1))
        unfold nbf; rw [if_pos ez]
    · refine Or.inl ⟨(iN (i + 1), z.2), ?_, rfl, h2, h3, h4, h5, ?_⟩
      · unfold f64_2 f64_29
        rw [h1]
        simp (disch := omega) only [gT, nbeq, Option.isSome_some, Option.getD_some, Bool.and_true, Bool.true_and, Bool.and_self, mX_some, bS, bN_if, bN_01, i1_01, i0_01, if_true, if_false, Bool.false_eq_true, false_and, and_false, and_true, true_and, and_self, Bool.or_false, Bool.false_or, Bool.or_true, Bool.true_or, Bool.false_and, Bool.and_false, decide_true, decide_false, L0, L1, L2, L3, L4, L5, L6, L7, L8, L9, L10, L11, L12, L13, L14, L15, L16, L17, L18, L19, L20, L21, L22, L23, L24, L25, L27, L33, L39, L40, L45, L48, L57, L60, L72, L90, L97, L98, L99, L100, L121, L122, L242, L255, L256, L580, L600, L1000, L1584, L1000000, Ln1, iN_add, iN_and, iN_or, iN_nd, iN_shl, iN_shr, iN_cl, iN_in, iN_mul, L2.k, L2.r0, L2.r2, L2.r3, L2.k1, L2.k2, ile_n, e, ieq_n]
      · rw [h6]
        show _ = iN (nbf x.1 i (up (nbf x.1) i x.2.2.2.1))
        unfold nbf; rw [if_neg ez]) (fun z hP => by
    obtain ⟨h1, h2, h3, h4, h5, h6⟩ := hP
    have := lp_inv (body := f64_37 a) (P := fun i y => y.1 = iN i ∧ Fr (pL a) h y.2 ∧ (∀ j, j ≠ 10 ∧ j ≠ 11 → mI y.2 a j = mI z.2 a j) ∧ (∀ j, mI y.2 (a + 1) j = mI h (a + 1) j) ∧ (∀ j, mI y.2 (a + 2) j = mI h (a + 2) j) ∧ mI y.2 a 10 = zN (up (ngf q x.1) i (x.2.1, x.2.2.1)).1 ∧ mI y.2 a 11 = iN (up (ngf q x.1) i (x.2.1, x.2.2.1)).2 ∧ (up (ngf q x.1) i (x.2.1, x.2.2.1)).2 ≤ 8) (Q := fun r => Fr (pL a) h r.2 ∧ CX r.2 a (ntc q x) ∧ (ntc q x).2.2.1 ≤ 8 ∧ mI r.2 a 14 = mI h a 14) (q 0 1) (fun i y hi hP => by
      obtain ⟨y1, y2, y3, y4, y5, y6, y7, y8⟩ := hP
      have L2 := L.fr y2
      have H2 := H.fl y2 pa
      have C2 : CLS y.2 a x.1 := C.x (fun j hj => (y3 j (by omega)).trans (h3 j (by omega))) y4 y5
      have hp8 := pc_le (ups (knB x.1 i) (q 0 0))
      have hu := ups_lt (knB x.1 i) (q 0 0)
      have hu8 := pw_8 W.1.1
      have hst : up (ngf q x.1) (i + 1) (x.2.1, x.2.2.1) = ngf q x.1 i (up (ngf q x.1) i (x.2.1, x.2.2.1)) := rfl
      generalize up (ngf q x.1) i (x.2.1, x.2.2.1) = g at y6 y7 y8 hst
      by_cases ez : knS q x.1 i ≤ g.2
      · rw [show ngf q x.1 i g = g from if_pos ez] at hst
        refine Or.inl ⟨(iN (i + 1), y.2), ?_, rfl, y2, y3, y4, y5, by rw [hst]; exact y6, by rw [hst]; exact y7, by rw [hst]; exact y8⟩
        unfold f64_37 f64_75
        rw [y1]
        simp (disch := omega) only [gT, nbeq, Option.isSome_some, Option.getD_some, Bool.and_true, Bool.true_and, Bool.and_self, mX_some, bS, bN_if, bN_01, i1_01, i0_01, if_true, if_false, Bool.false_eq_true, false_and, and_false, and_true, true_and, and_self, Bool.or_false, Bool.false_or, Bool.or_true, Bool.true_or, Bool.false_and, Bool.and_false, decide_true, decide_false, L0, L1, L2, L3, L4, L5, L6, L7, L8, L9, L10, L11, L12, L13, L14, L15, L16, L17, L18, L19, L20, L21, L22, L23, L24, L25, L27, L33, L39, L40, L45, L48, L57, L60, L72, L90, L97, L98, L99, L100, L121, L122, L242, L255, L256, L580, L600, L1000, L1584, L1000000, Ln1, iN_add, iN_and, iN_or, iN_nd, iN_shl, iN_shr, iN_cl, iN_in, iN_mul, L2.k, L2.r0, L2.r2, L2.r3, L2.k1, L2.k2, H2.k, H2.r0, H2.r1, H2.r2, H2.r3, H2.r4, H2.r5, H2.k1, H2.k2, H2.k3, H2.k4, H2.k5, H2.k6, H2.n, H2.m, H2.lp, H2.hr, H2.tp, H2.ln, H2.lk, H2.me, H2.he, ile_n, t65 L2 H2 W C2 S, t66, y7]
        rw [ile_p (by omega) (by omega) (show pc (ups (knB x.1 i) (q 0 0)) ≤ g.2 from ez)]
      · rw [show ngf q x.1 i g = (some i, knS q x.1 i) from if_neg ez] at hst
        refine Or.inl ⟨(iN (i + 1), mSI (mSI y.2 a 11 (iN (knS q x.1 i))) a 10 (iN i)), ?_, rfl, (y2.si (pL0 a)).si (pL0 a), fun j hj => ?_, fun j => ?_, fun j => ?_, ?_, ?_, ?_⟩
        · unfold f64_37 f64_75
          rw [y1]
          simp (disch := omega) only [gT, nbeq, Option.isSome_some, Option.getD_some, Bool.and_true, Bool.true_and, Bool.and_self, mX_some, bS, bN_if, bN_01, i1_01, i0_01, if_true, if_false, Bool.false_eq_true, false_and, and_false, and_true, true_and, and_self, Bool.or_false, Bool.false_or, Bool.or_true, Bool.true_or, Bool.false_and, Bool.and_false, decide_true, decide_false, L0, L1, L2, L3, L4, L5, L6, L7, L8, L9, L10, L11, L12, L13, L14, L15, L16, L17, L18, L19, L20, L21, L22, L23, L24, L25, L27, L33, L39, L40, L45, L48, L57, L60, L72, L90, L97, L98, L99, L100, L121, L122, L242, L255, L256, L580, L600, L1000, L1584, L1000000, Ln1, iN_add, iN_and, iN_or, iN_nd, iN_shl, iN_shr, iN_cl, iN_in, iN_mul, L2.k, L2.r0, L2.r2, L2.r3, L2.k1, L2.k2, H2.k, H2.r0, H2.r1, H2.r2, H2.r3, H2.r4, H2.r5, H2.k1, H2.k2, H2.k3, H2.k4, H2.k5, H2.k6, H2.n, H2.m, H2.lp, H2.hr, H2.tp, H2.ln, H2.lk, H2.me, H2.he, ile_n, t65 L2 H2 W C2 S, t66, y7]
          have hx : pc (ups (knB x.1 i) (q 0 0)) = knS q x.1 i := rfl
          rw [hx, ile_n (by omega) (by omega) (by omega)]
        · simp (disch := omega) only [si_ne, si_nk, si_eq]; exact y3 j hj
        · simp (disch := omega) only [si_ne, si_nk, si_eq]; exact y4 j
        · simp (disch := omega) only [si_ne, si_nk, si_eq]; exact y5 j
        · rw [hst]; simp (disch := omega) only [si_ne, si_nk, si_eq]; rfl
        · rw [hst]; simp (disch := omega) only [si_ne, si_nk, si_eq]
        · rw [hst]; exact hp8) (fun y hP => by
      obtain ⟨y1, y2, y3, y4, y5, y6, y7, y8⟩ := hP
      have L2 := L.fr y2
      have H2 := H.fl y2 pa
      have C2 : CLS y.2 a x.1 := C.x (fun j hj => (y3 j (by omega)).trans (h3 j (by omega))) y4 y5
      refine ⟨((), y.2), ?_, y2, ⟨C2, y6, y7, (y3 13 (by omega)).trans h6, ((y3 12 (by omega)).trans (h3 12 (by omega))).trans x4, ((y3 8 (by omega)).trans (h3 8 (by omega))).trans x5⟩, y8, (y3 14 (by omega)).trans (h3 14 (by omega))⟩
      unfold f64_37
      rw [y1]
      simp (disch := omega) only [gT, nbeq, Option.isSome_some, Option.getD_some, Bool.and_true, Bool.true_and, Bool.and_self, mX_some, bS, bN_if, bN_01, i1_01, i0_01, if_true, if_false, Bool.false_eq_true, false_and, and_false, and_true, true_and, and_self, Bool.or_false, Bool.false_or, Bool.or_true, Bool.true_or, Bool.false_and, Bool.and_false, decide_true, decide_false, L0, L1, L2, L3, L4, L5, L6, L7, L8, L9, L10, L11, L12, L13, L14, L15, L16, L17, L18, L19, L20, L21, L22, L23, L24, L25, L27, L33, L39, L40, L45, L48, L57, L60, L72, L90, L97, L98, L99, L100, L121, L122, L242, L255, L256, L580, L600, L1000, L1584, L1000000, Ln1, iN_add, iN_and, iN_or, iN_nd, iN_shl, iN_shr, iN_cl, iN_in, iN_mul, L2.k, L2.r0, L2.r2, L2.r3, L2.k1, L2.k2, H2.k, H2.r0, H2.r1, H2.r2, H2.r3, H2.r4, H2.r5, H2.k1, H2.k2, H2.k3, H2.k4, H2.k5, H2.k6, H2.n, H2.m, H2.lp, H2.hr, H2.tp, H2.ln, H2.lk, H2.me, H2.he, ile_p]) (by omega) (s := (iN 0, z.2)) ⟨rfl, h2, fun j _ => rfl, h4, h5, (h3 10 (by omega)).trans x1, (h3 11 (by omega)).trans x2, hk⟩
    obtain ⟨r, r1, r2⟩ := this
    refine ⟨r, ?_, r2⟩
    unfold f64_2
    rw [h1]
    simp (disch := omega) only [gT, nbeq, Option.isSome_some, Option.getD_some, Bool.and_true, Bool.true_and, Bool.and_self, mX_some, bS, bN_if, bN_01, i1_01, i0_01, if_true, if_false, Bool.false_eq_true, false_and, and_false, and_true, true_and, and_self, Bool.or_false, Bool.false_or, Bool.or_true, Bool.true_or, Bool.false_and, Bool.and_false, decide_true, decide_false, L0, L1, L2, L3, L4, L5, L6, L7, L8, L9, L10, L11, L12, L13, L14, L15, L16, L17, L18, L19, L20, L21, L22, L23, L24, L25, L27, L33, L39, L40, L45, L48, L57, L60, L72, L90, L97, L98, L99, L100, L121, L122, L242, L255, L256, L580, L600, L1000, L1584, L1000000, Ln1, iN_add, iN_and, iN_or, iN_nd, iN_shl, iN_shr, iN_cl, iN_in, iN_mul, ile_p, r1]) (by omega) (s := (0, h)) ⟨rfl, Fr.rfl, fun j _ => rfl, fun j => rfl, fun j => rfl, x3⟩
  obtain ⟨⟨u, h'⟩, r1, r2⟩ := this
  exact ⟨h', r1, r2⟩
/-- the numbers of the k-th DEED -/
def yA (y : YQ) (k : Nat) : Nat := (y.2.2.1 k).getD 0
def yB (y : YQ) (k : Nat) : Nat := (y.2.2.2 k).getD 0
def yAct (q : LQ) (y : YQ) (k : Nat) (s : LSt) : Option LSt := actS q s (y.2.1 k) (yA y k) (yB y k)
theorem YW.dOk {y : YQ} (Y : YW y) {k : Nat} (hk : k < y.1) : dOk (y.2.1 k) (zN (y.2.2.1 k)) (zN (y.2.2.2 k)) (yA y k) (yB y k) := by
  obtain ⟨h0, h1, h2, h3, h4, h5⟩ := Y.2 k hk
  refine ⟨h0, fun e => ?_, fun e => ?_, fun e => ?_⟩
  · obtain ⟨c, hc, e2⟩ := h1 e
    unfold yA; rw [e2]; exact ⟨rfl, hc⟩
  · obtain ⟨c, hc, e2⟩ := h2 e
    unfold yA; rw [e2]; exact ⟨rfl, hc⟩
  · obtain ⟨c, hc, e2⟩ := h3 e
    unfold yB; rw [e2]; exact ⟨rfl, hc⟩
def stX (q : LQ) (y : YQ) (k : Nat) (x : XSt) (s' : LSt) : XSt := ntc q (s', x.2.1, x.2.2.1, x.2.2.2.1, (if y.2.1 k = 0 ∧ x.2.2.2.2.1 = none then some k else x.2.2.2.2.1), x.2.2.2.2.2 + if y.2.1 k = 2 then 1 else 0)
def runX (q : LQ) (y : YQ) : Nat → Nat → XSt → Nat × XSt
  | 0, k, x => (k, x)
  | n + 1, k, x => match yAct q y k x.1 with
    | none => (k, x)
    | some s' => runX q y n (k + 1) (stX q y k x s')
def x0 (q : LQ) : XSt := ntc q (s0 q, none, 0, 0, none, 0)
end LF
