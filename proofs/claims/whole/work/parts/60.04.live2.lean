/-! A YEAR lived: live, play. -/
theorem FB.st {a la b : Nat} {h h' : mH} (x : FB a la h h') (p : pL a b = false) (n : b ≠ a) : St h h' b := ⟨by unfold mK; rw [x.1], fun j _ => x.2.1 b j (fun e => n e.1), fun j => x.2.2.2 b p j⟩
theorem Fr.st {P : Nat → Bool} {h h' : mH} (x : Fr P h h') {b : Nat} (p : P b = false) : St h h' b := ⟨x.k b, fun j _ => x.r b j, fun j => x.i p j⟩
theorem FB.lf {a la : Nat} {h h' : mH} (x : FB a la h h') (L : Lf0 h a) : LfS h' a la := ⟨(by unfold mK; rw [x.1]; exact L.k), (x.2.1 a 0 (by omega)).trans L.r0, (x.2.1 a 2 (by omega)).trans L.r2, x.2.2.1, (by unfold mK; rw [x.1]; exact L.k1), (by unfold mK; rw [x.1]; exact L.k2)⟩
theorem YrS.k {h : mH} {a : Nat} {y : YQ} (Y : YrS h a y) : mK h a = (3, 4) := Y.1.1
theorem YrS.r0 {h : mH} {a : Nat} {y : YQ} (Y : YrS h a y) : mR h a 0 = some (a + 1) := (Y.1.2 0 (by decide)).1
theorem YrS.r1 {h : mH} {a : Nat} {y : YQ} (Y : YrS h a y) : mR h a 1 = some (a + 2) := (Y.1.2 1 (by decide)).1
theorem YrS.r2 {h : mH} {a : Nat} {y : YQ} (Y : YrS h a y) : mR h a 2 = some (a + 3) := (Y.1.2 2 (by decide)).1
theorem YrS.k1 {h : mH} {a : Nat} {y : YQ} (Y : YrS h a y) : mK h (a + 1) = (100, 40) := (Y.1.2 0 (by decide)).2
theorem YrS.k2 {h : mH} {a : Nat} {y : YQ} (Y : YrS h a y) : mK h (a + 2) = (100, 40) := (Y.1.2 1 (by decide)).2
theorem YrS.k3 {h : mH} {a : Nat} {y : YQ} (Y : YrS h a y) : mK h (a + 3) = (100, 40) := (Y.1.2 2 (by decide)).2
theorem YrS.n {h : mH} {a : Nat} {y : YQ} (Y : YrS h a y) : mI h a 3 = iN y.1 := Y.2.1
theorem YrS.a0 {h : mH} {a : Nat} {y : YQ} (Y : YrS h a y) {k : Nat} (hk : k < y.1) : mI h (a + 1) k = iN (y.2.1 k) := (Y.2.2 k hk).1
theorem YrS.a1 {h : mH} {a : Nat} {y : YQ} (Y : YrS h a y) {k : Nat} (hk : k < y.1) : mI h (a + 2) k = zN (y.2.2.1 k) := (Y.2.2 k hk).2.1
theorem YrS.a2 {h : mH} {a : Nat} {y : YQ} (Y : YrS h a y) {k : Nat} (hk : k < y.1) : mI h (a + 3) k = zN (y.2.2.2 k) := (Y.2.2 k hk).2.2
/-- a loop that goes by a given run -/
theorem lp_run2 {σ ρ α β : Type} {body : σ → Option (σ ⊕ ρ)} (R : Nat → α → σ → Prop) (Q : β → ρ → Prop) (go : Nat → Nat → α → β) (N : Nat) (hs : ∀ n k x s, n + 1 + k = N → R k x s → (∃ s' x', body s = some (.inl s') ∧ R (k + 1) x' s' ∧ go (n + 1) k x = go n (k + 1) x') ∨ (∃ r, body s = some (.inr r) ∧ Q (go (n + 1) k x) r)) (he : ∀ x s, R N x s → ∃ r, body s = some (.inr r) ∧ Q (go 0 N x) r) (hn : N < 5000) {x0 : α} {s : σ} (h0 : R 0 x0 s) : ∃ r, mLoop body mFuel s = some r ∧ Q (go N 0 x0) r := by
  have key : ∀ n k x s, n + k = N → R k x s → ∀ f, n < f → ∃ r, mLoop body f s = some r ∧ Q (go n k x) r := by
    intro n
    induction n with
    | zero =>
      intro k x s hk hR f hf
      obtain ⟨f, rfl⟩ : ∃ g, f = g + 1 := ⟨f - 1, by omega⟩
      have : k = N := by omega
      subst this
      obtain ⟨r, hr, hq⟩ := he x s hR
      exact ⟨r, by simp only [mLoop, hr], hq⟩
    | succ n ih =>
      intro k x s hk hR f hf
      obtain ⟨f, rfl⟩ : ∃ g, f = g + 1 := ⟨f - 1, by omega⟩
      rcases hs n k x s hk hR with ⟨s', x', hb, hR', hg⟩ | ⟨r, hr, hq⟩
      · obtain ⟨r, hr, hq⟩ := ih (k + 1) x' s' (by omega) hR' f (by omega)
        exact ⟨r, by simp only [mLoop, hb]; exact hr, by rw [hg]; exact hq⟩
      · exact ⟨r, by simp only [mLoop, hr], hq⟩
  exact key N 0 x0 s (by omega) h0 mFuel (by show N < 5000; omega)
section LF
variable {h : mH} {a la ya : Nat} {q : LQ} {y : YQ}
theorem CX.w8 {h : mH} {a : Nat} {x : XSt} (C : CX h a x) : CLS h a x.1 := C.1
theorem t62 (L : Lf0 h a) (H : LibS h la q) (W : QW q) (Y : YrS h ya y) (V : YW y) (pa : la + 7 ≤ a) (pb : ya + 4 ≤ a) {n : Nat} (hn : n ≤ y.1) : ∃ h', f62 h a la ya (iN n) = some (iN (runX q y n 0 (x0 q)).1, h') ∧ (∃ g, FB a la h g ∧ Fr (pL a) g h') ∧ LfS h' a la ∧ LibS h' la q ∧ CX h' a (runX q y n 0 (x0 q)).2 ∧ SW q (runX q y n 0 (x0 q)).2.1 := by
  have hy := V.1
  obtain ⟨g1, b1, b2, b3, b4, b5, b6, b7, b8⟩ := t63 L H pa
  have Lb1 := b2.lf L
  have H1 : LibS g1 la q := H.st (fun i hi => b2.st (pL_n (by omega) (by omega) (by omega)) (by omega))
  have Y1 : YrS g1 ya y := Y.st (fun i hi => b2.st (pL_n (by omega) (by omega) (by omega)) (by omega))
  obtain ⟨g2, e1, e2, e3, e4, e5⟩ := t64 (x := (s0 q, none, 0, 0, none, 0)) Lb1 H1 W ⟨b3, b5, b6, b8, b7, b4⟩ (SW0 W) pa (by show 0 ≤ 8; omega)
  unfold f62
  simp only [gT, nbeq, Option.isSome_some, Option.getD_some, Bool.and_true, Bool.true_and, Bool.and_self, mX_some, bS, bN_if, bN_01, i1_01, i0_01, if_true, if_false, Bool.false_eq_true, false_and, and_false, and_true, true_and, and_self, Bool.or_false, Bool.false_or, Bool.or_true, Bool.true_or, Bool.false_and, Bool.and_false, decide_true, decide_false, L.k, b1, Lb1.k, e1]
  have := lp_run2 (body := f62_12 a ya (iN n)) (R := fun k (x : XSt) z => z.1 = iN k ∧ Fr (pL a) g1 z.2 ∧ CX z.2 a x ∧ SW q x.1 ∧ x.2.2.1 ≤ 8 ∧ ∀ j, x.2.2.2.2.1 = some j → j < 40) (Q := fun (b : Nat × XSt) r => r.1 = iN b.1 ∧ Fr (pL a) g1 r.2 ∧ CX r.2 a b.2 ∧ SW q b.2.1) (runX q y) n (fun m k x z hk hP => by
    obtain ⟨h1, h2, h3, h4, h5, h6⟩ := hP
    have Lb2 := Lb1.fr h2
    have H2 := H1.fl h2 pa
    have Y2 : YrS z.2 ya y := Y1.st (fun i hi => h2.st (pL_n (by omega) (by omega) (by omega)))
    obtain ⟨C, x1, x2, x3, x4, x5⟩ := id h3
    have hky : k < y.1 := by omega
    obtain ⟨h', f1, f2, f3, f4, f5, f6⟩ := t67 Lb2 H2 W C h4 pa (V.dOk hky)
    have Lb3 := Lb2.fr f2
    have H3 := H2.fl f2 pa
    have Y3 : YrS h' ya y := Y2.st (fun i hi => f2.st (pL_n (by omega) (by omega) (by omega)))
    have hkd : y.2.1 k ≤ 5 := (V.2 k hky).1
    have run : runX q y (m + 1) k x = match yAct q y k x.1 with
      | none => (k, x)
      | some s' => runX q y m (k + 1) (stX q y k x s') := rfl
    rw [run]
    change f67 z.2 a (iN (y.2.1 k)) (zN (y.2.2.1 k)) (zN (y.2.2.2 k)) = some (bN (yAct q y k x.1).isSome, h') at f1
    change CLS h' a ((yAct q y k x.1).getD x.1) at f3
    change SW q ((yAct q y k x.1).getD x.1) at f4
    cases hya : yAct q y k x.1 with
    | none =>
      rw [hya] at f1 f3 f4
      refine Or.inr ⟨(iN k, h'), ?_, rfl, h2.tr f2, ⟨f3, (f5 10 (by omega)).trans x1, (f5 11 (by omega)).trans x2, (f5 13 (by omega)).trans x3, (f5 12 (by omega)).trans x4, ?_⟩, f4⟩
      · unfold f62_12
        rw [h1]
        simp (disch := omega) only [gT, nbeq, Option.isSome_some, Option.getD_some, Bool.and_true, Bool.true_and, Bool.and_self, mX_some, bS, bN_if, bN_01, i1_01, i0_01, if_true, if_false, Bool.false_eq_true, false_and, and_false, and_true, true_and, and_self, Bool.or_false, Bool.false_or, Bool.or_true, Bool.true_or, Bool.false_and, Bool.and_false, decide_true, decide_false, L0, L1, L2, L3, L4, L5, L6, L7, L8, L9, L10, L11, L12, L13, L14, L15, L16, L17, L18, L19, L20, L21, L22, L23, L24, L25, L27, L33, L39, L40, L45, L48, L57, L60, L72, L90, L97, L98, L99, L100, L121, L122, L242, L255, L256, L580, L600, L1000, L1584, L1000000, Ln1, iN_add, iN_and, iN_or, iN_nd, iN_shl, iN_shr, iN_cl, iN_in, iN_mul, ile_n, Y2.k, Y2.r0, Y2.r1, Y2.r2, Y2.k1, Y2.k2, Y2.k3, Y2.n, Y2.a0, Y2.a1, Y2.a2, Lb2.k, f1, Option.isSome_none]
      · rw [f6, if_neg, x5]
        intro e
        unfold yAct actS at hya
        rw [e] at hya
        simp at hya
    | some s' =>
      rw [hya] at f1 f3 f4
      -- the first READ
      have hfi : ∃ g', (if y.2.1 k = 0 then (if x.2.2.2.2.1 = none then f62_82 (mSI h' a 12 (iN k)) a ya (iN n) (iN k) else f62_82 h' a ya (iN n) (iN k)) else f62_82 h' a ya (iN n) (iN k)) = f62_82 g' a ya (iN n) (iN k) ∧ Fr (pL a) h' g' ∧ CX g' a (s', x.2.1, x.2.2.1, x.2.2.2.1, (if y.2.1 k = 0 ∧ x.2.2.2.2.1 = none then some k else x.2.2.2.2.1), x.2.2.2.2.2 + if y.2.1 k = 2 then 1 else 0) := by
        have e8 : mI h' a 8 = iN (x.2.2.2.2.2 + if y.2.1 k = 2 then 1 else 0) := by
          rw [f6, x5]
          split
          · rw [iN_add]
          · rfl
        have base : x.2.2.2.2.1 = (if y.2.1 k = 0 ∧ x.2.2.2.2.1 = none then some k else x.2.2.2.2.1) → CX h' a (s', x.2.1, x.2.2.1, x.2.2.2.1, (if y.2.1 k = 0 ∧ x.2.2.2.2.1 = none then some k else x.2.2.2.2.1), x.2.2.2.2.2 + if y.2.1 k = 2 then 1 else 0) := fun e => by
          rw [← e]
          exact ⟨f3, (f5 10 (by omega)).trans x1, (f5 11 (by omega)).trans x2, (f5 13 (by omega)).trans x3, (f5 12 (by omega)).trans x4, e8⟩
        by_cases e : y.2.1 k = 0
        · rw [if_pos e]
          by_cases e2 : x.2.2.2.2.1 = none
          · rw [if_pos e2]
            refine ⟨mSI h' a 12 (iN k), rfl, Fr.rfl.si (pL0 a), ⟨CLS.x f3 (fun j hj => ?_) (fun j => ?_) (fun j => ?_), ?_, ?_, ?_, ?_, ?_⟩⟩
            · simp (disch := omega) only [si_ne, si_nk, si_eq]
            · simp (disch := omega) only [si_ne, si_nk, si_eq]
            · simp (disch := omega) only [si_ne, si_nk, si_eq]
            · simp (disch := omega) only [si_ne, si_nk, si_eq]; exact (f5 10 (by omega)).trans x1
            · simp (disch := omega) only [si_ne, si_nk, si_eq]; exact (f5 11 (by omega)).trans x2
            · simp (disch := omega) only [si_ne, si_nk, si_eq]; exact (f5 13 (by omega)).trans x3
            · simp (disch := omega) only [si_ne, si_nk, si_eq]; rw [if_pos ⟨e, e2⟩]; rfl
            · simp (disch := omega) only [si_ne, si_nk, si_eq]; exact e8
          · rw [if_neg e2]
            exact ⟨h', rfl, Fr.rfl, base (by rw [if_neg (fun c => e2 c.2)])⟩
        · rw [if_neg e]
          exact ⟨h', rfl, Fr.rfl, base (by rw [if_neg (fun c => e c.1)])⟩
      obtain ⟨g', q1, q2, q3⟩ := hfi
      have Lb4 := Lb3.fr q2
      have H4 := H3.fl q2 pa
      obtain ⟨g3, n1, n2, n3, n4, n5⟩ := t64 Lb4 H4 W q3 f4 pa h5
      have hb : f62_12 a ya (iN n) z = some (.inl (iN (k + 1), g3)) := by
        have e12 : mI h' a 12 = zN x.2.2.2.2.1 := (f5 12 (by omega)).trans x4
        unfold f62_12
        rw [h1]
        simp (disch := omega) only [gT, nbeq, Option.isSome_some, Option.getD_some, Bool.and_true, Bool.true_and, Bool.and_self, mX_some, bS, bN_if, bN_01, i1_01, i0_01, if_true, if_false, Bool.false_eq_true, false_and, and_false, and_true, true_and, and_self, Bool.or_false, Bool.false_or, Bool.or_true, Bool.true_or, Bool.false_and, Bool.and_false, decide_true, decide_false, L0, L1, L2, L3, L4, L5, L6, L7, L8, L9, L10, L11, L12, L13, L14, L15, L16, L17, L18, L19, L20, L21, L22, L23, L24, L25, L27, L33, L39, L40, L45, L48, L57, L60, L72, L90, L97, L98, L99, L100, L121, L122, L242, L255, L256, L580, L600, L1000, L1584, L1000000, Ln1, iN_add, iN_and, iN_or, iN_nd, iN_shl, iN_shr, iN_cl, iN_in, iN_mul, ile_n, Y2.k, Y2.r0, Y2.r1, Y2.r2, Y2.k1, Y2.k2, Y2.k3, Y2.n, Y2.a0, Y2.a1, Y2.a2, Lb2.k, f1, Y3.k, Y3.r0, Y3.k1, Y3.a0, Lb3.k, e12]
        rw [ieq_d (by omega) (by omega), zj (fun v hv => by have := h6 v hv; omega)]
        have sw : (if x.2.2.2.2.1.isSome = true then f62_82 h' a ya (iN n) (iN k) else f62_82 (mSI h' a 12 (iN k)) a ya (iN n) (iN k)) = if x.2.2.2.2.1 = none then f62_82 (mSI h' a 12 (iN k)) a ya (iN n) (iN k) else f62_82 h' a ya (iN n) (iN k) := by
          cases x.2.2.2.2.1 <;> simp
        rw [sw, q1]
        unfold f62_82
        simp only [gT, nbeq, Option.isSome_some, Option.getD_some, Bool.and_true, Bool.true_and, Bool.and_self, mX_some, bS, bN_if, bN_01, i1_01, i0_01, if_true, if_false, Bool.false_eq_true, false_and, and_false, and_true, true_and, and_self, Bool.or_false, Bool.false_or, Bool.or_true, Bool.true_or, Bool.false_and, Bool.and_false, decide_true, decide_false, L0, L1, L2, L3, L4, L5, L6, L7, L8, L9, L10, L11, L12, L13, L14, L15, L16, L17, L18, L19, L20, L21, L22, L23, L24, L25, L27, L33, L39, L40, L45, L48, L57, L60, L72, L90, L97, L98, L99, L100, L121, L122, L242, L255, L256, L580, L600, L1000, L1584, L1000000, Ln1, iN_add, iN_and, iN_or, iN_nd, iN_shl, iN_shr, iN_cl, iN_in, iN_mul, Lb4.k, n1]
      refine Or.inl ⟨(iN (k + 1), g3), stX q y k x s', hb, ⟨rfl, ((h2.tr f2).tr q2).tr n2, n3, f4, n4, ?_⟩, rfl⟩
      intro j hj
      change (if y.2.1 k = 0 ∧ x.2.2.2.2.1 = none then some k else x.2.2.2.2.1) = some j at hj
      split at hj
      · cases hj; omega
      · exact h6 j hj) (fun x z hP => by
    obtain ⟨h1, h2, h3, h4, h5, h6⟩ := hP
    have Y2 : YrS z.2 ya y := Y1.st (fun i hi => h2.st (pL_n (by omega) (by omega) (by omega)))
    refine ⟨(iN n, z.2), ?_, rfl, h2, h3, h4⟩
    unfold f62_12 f62_92
    rw [h1]
    simp (disch := omega) only [gT, nbeq, Option.isSome_some, Option.getD_some, Bool.and_true, Bool.true_and, Bool.and_self, mX_some, bS, bN_if, bN_01, i1_01, i0_01, if_true, if_false, Bool.false_eq_true, false_and, and_false, and_true, true_and, and_self, Bool.or_false, Bool.false_or, Bool.or_true, Bool.true_or, Bool.false_and, Bool.and_false, decide_true, decide_false, L0, L1, L2, L3, L4, L5, L6, L7, L8, L9, L10, L11, L12, L13, L14, L15, L16, L17, L18, L19, L20, L21, L22, L23, L24, L25, L27, L33, L39, L40, L45, L48, L57, L60, L72, L90, L97, L98, L99, L100, L121, L122, L242, L255, L256, L580, L600, L1000, L1584, L1000000, Ln1, iN_add, iN_and, iN_or, iN_nd, iN_shl, iN_shr, iN_cl, iN_in, iN_mul, ile_p, Y2.k, Y2.n]
    rw [ilt_n (by omega) (by omega) hn]) (by omega) (x0 := x0 q) (s := (0, g2)) ⟨rfl, e2, e3, SW0 W, e4, fun j hj => by cases hj⟩
  obtain ⟨⟨r, h'⟩, r1, r2, r3, r4, r5⟩ := this
  cases r2
  exact ⟨h', r1, ⟨g1, b2, r3⟩, Lb1.fr r3, H1.fl r3 pa, r4, r5⟩
end LF
