/-! RUMOUR -/
def fz (Z : Nat → Bool) : Nat → Nat → Option Nat
  | 0, _ => none
  | n + 1, k => if Z k = true then some k else fz Z n (k + 1)
def sRum (q : LQ) (p : Nat) : LSt := (q 4, ud (fun _ => none) (8 * p) (some 0), 0, 0, 0, q 0 2, false, 0)
def K0 (s : LSt) : Prop := ∀ k, (sKn s k).isSome = true → k % 8 = 0
theorem rum_SW {q : LQ} (W : QW q) {p : Nat} (hp : p < q 0 1) : SW q (sRum q p) := by
  refine ⟨fun t ht => W.2.2.2.2.2.1 t ht, fun k hk v hv => ?_, Nat.two_pow_pos _, Nat.two_pow_pos _, W.1.2.2.2⟩
  change ud (fun _ => none) (8 * p) (some 0) k = some v at hv
  unfold ud at hv
  split at hv
  next e =>
    cases hv
    have hm := W.2.2.2.2.2.2.1 p hp
    have ek : k / 8 = p := by omega
    rw [ek]; exact ⟨by omega, hp⟩
  next => cases hv
theorem rum_K0 {q : LQ} {p : Nat} : K0 (sRum q p) := by
  intro k hk
  change (ud (fun _ => none) (8 * p) (some 0) k).isSome = true at hk
  unfold ud at hk
  split at hk
  · omega
  · cases hk
theorem SW.dayM {q : LQ} {s : LSt} (W : QW q) (S : SW q s) : SW q (sDayM q s) := ⟨S.1, fun k hk v hv => nK_w W S hk hv, S.2.2.1, S.2.2.2.1, W.1.2.2.2⟩
theorem nK_cong {q : LQ} {s t : LSt} (h : sKn s = sKn t) : nK q s = nK q t := by
  funext k
  have hw : ∀ c, whB s c = whB t c := fun c => by funext p; unfold whB; rw [h]
  unfold nK; rw [h, hw]
theorem nK_K0 {q : LQ} {s : LSt} (K : K0 s) {k : Nat} (hk : k % 8 ≠ 0) : nK q s k = none ∧ sKn s k = none := by
  have hn : ∀ k, k % 8 ≠ 0 → sKn s k = none := fun k hk => by
    cases e : sKn s k with
    | none => rfl
    | some v => exact absurd (K k (by rw [e]; rfl)) hk
  refine ⟨?_, hn k hk⟩
  unfold nK
  rw [hn k hk]
  have : ups (whB s (k % 8)) (q 0 1) = 0 := by
    have : ups (whB s (k % 8)) (q 0 1) = ups (fun _ => false) (q 0 1) := ups_congr (fun p _ => by
      unfold whB; rw [hn (8 * p + k % 8) (by omega)]; rfl)
    rw [this]
    apply Nat.eq_of_testBit_eq; intro j; rw [ups_tb]; simp
  split
  · simp only [this, Nat.and_zero, if_true]
  · rfl
/-- the class's day and the reference's, of a rumour -/
theorem rum_step {q : LQ} {c d : LSt} (h : sKn c = sKn d) (K : K0 c) : sKn (sTon q c 0) = sKn (sDayM q d) ∧ K0 (sTon q c 0) := by
  have e : ∀ k, sKn (sTon q c 0) k = nK q c k := fun k => by
    show (if k % 8 = 0 then nK q c k else sKn c k) = _
    split
    · rfl
    next hk => rw [(nK_K0 (q := q) K hk).1, (nK_K0 (q := q) K hk).2]
  refine ⟨?_, fun k hk => ?_⟩
  · funext k
    rw [e k, nK_cong h]; rfl
  · rw [e k] at hk
    apply Classical.byContradiction
    intro hn
    rw [(nK_K0 K hn).1] at hk
    cases hk
theorem rum_seq {q : LQ} (W : QW q) {p : Nat} (hp : p < q 0 1) {C D : Nat → LSt} (C0 : C 0 = sRum q p) (Cs : ∀ n, C (n + 1) = sTon q (C n) 0) (D0 : D 0 = sRum q p) (Ds : ∀ n, D (n + 1) = sDayM q (D n)) : ∀ n, sKn (C n) = sKn (D n) ∧ K0 (C n) ∧ SW q (C n) ∧ SW q (D n) ∧ sDy (D n) = n := by
  intro n
  induction n with
  | zero =>
    rw [C0, D0]
    exact ⟨rfl, rum_K0, rum_SW W hp, rum_SW W hp, rfl⟩
  | succ n ih =>
    rw [Cs, Ds]
    obtain ⟨h1, h2, h3, h4, h5⟩ := ih
    obtain ⟨r1, r2⟩ := rum_step (q := q) h1 h2
    refine ⟨r1, r2, h3.ton W 0, h4.dayM W, ?_⟩
    show sDy (D n) + 1 = n + 1
    rw [h5]
section LF
variable {h : mH} {a la : Nat} {q : LQ}
theorem t155 (L : Lf0 h a) (H : LibS h la q) (W : QW q) (pa : la + 7 ≤ a) {p : Nat} (hp : p < q 0 1) : ∃ h', f155 h a la (iN p) = some ((), h') ∧ (∃ g, FB a la h g ∧ Fr (pL a) g h') ∧ CLS h' a (sRum q p) := by
  have hm := W.1.2.1
  obtain ⟨g1, b1, b2, b3, b4⟩ := t63 L H pa
  have Lb := b2.lf L
  have H1 : LibS g1 la q := H.st (fun i hi => b2.st (pL_n (by omega) (by omega) (by omega)) (by omega))
  obtain ⟨c1, c2, c3, c4, c5, c6, c7, c8⟩ := b3
  unfold f155 f155_26
  simp (disch := omega) only [gT, nbeq, Option.isSome_some, Option.getD_some, Bool.and_true, Bool.true_and, Bool.and_self, mX_some, bS, bN_if, bN_01, i1_01, i0_01, if_true, if_false, Bool.false_eq_true, false_and, and_false, and_true, true_and, and_self, Bool.or_false, Bool.false_or, Bool.or_true, Bool.true_or, Bool.false_and, Bool.and_false, decide_true, decide_false, L0, L1, L2, L3, L4, L5, L6, L7, L8, L9, L10, L11, L12, L13, L14, L15, L16, L17, L18, L19, L20, L21, L22, L23, L24, L25, L27, L33, L39, L40, L45, L48, L57, L60, L72, L90, L97, L98, L99, L100, L121, L122, L242, L255, L256, L580, L600, L1000, L1584, L1000000, Ln1, iN_add, iN_and, iN_or, iN_nd, iN_shl, iN_shr, iN_cl, iN_in, iN_mul, L.k, b1, Lb.k, Lb.r0, Lb.r2, Lb.r3, Lb.k1, Lb.k2, H1.k, t57 H1 W, rg_iN, hp]
  refine ⟨_, rfl, ⟨g1, b2, Fr.rfl.si (pL2 a)⟩, ⟨?_, ?_, ?_, ?_, ?_, ?_, ?_, ?_⟩⟩
  · intro j hj
    simp (disch := omega) only [si_ne, si_nk, si_eq]; exact c1 j hj
  · intro k hk
    show _ = zN (ud (fun _ => none) (8 * p) (some 0) k)
    by_cases ek : k = p * 8
    · subst ek; rw [show p * 8 = 8 * p by omega]; simp (disch := omega) only [si_ne, si_nk, si_eq, ud_eq]; rfl
    · rw [ud_ne _ _ (by omega)]; simp (disch := omega) only [si_ne, si_nk, si_eq]; exact c2 k hk
  all_goals simp (disch := omega) only [si_ne, si_nk, si_eq]
  · exact c3
  · exact c4
  · exact c5
  · exact c6
  · exact c7
  · exact c8
theorem t156 (L : Lf0 h a) (H : LibS h la q) (W : QW q) (pa : la + 7 ≤ a) {p : Nat} (hp : p < q 0 1) {C D : Nat → LSt} (C0 : C 0 = sRum q p) (Cs : ∀ n, C (n + 1) = sTon q (C n) 0) (hC : ∀ n, SW q (C n)) {n : Nat} (hn : n < 100) : ∃ h', f156 h a la (iN p) (iN n) = some (iN (ups (whB (C n) 0) (q 0 1)), h') ∧ ∃ g, FB a la h g ∧ Fr (pL a) g h' := by
  obtain ⟨h1, b1, ⟨g, b2, b3⟩, b4⟩ := t155 L H W pa hp
  have Lb := b2.lf L
  have Lc := Lb.fr b3
  have H1 : LibS g la q := H.st (fun i hi => b2.st (pL_n (by omega) (by omega) (by omega)) (by omega))
  have H2 := H1.fl b3 pa
  unfold f156
  simp only [gT, nbeq, Option.isSome_some, Option.getD_some, Bool.and_true, Bool.true_and, Bool.and_self, mX_some, bS, bN_if, bN_01, i1_01, i0_01, if_true, if_false, Bool.false_eq_true, false_and, and_false, and_true, true_and, and_self, Bool.or_false, Bool.false_or, Bool.or_true, Bool.true_or, Bool.false_and, Bool.and_false, decide_true, decide_false, L0, L1, L2, L3, L4, L5, L6, L7, L8, L9, L10, L11, L12, L13, L14, L15, L16, L17, L18, L19, L20, L21, L22, L23, L24, L25, L27, L33, L39, L40, L45, L48, L57, L60, L72, L90, L97, L98, L99, L100, L121, L122, L242, L255, L256, L580, L600, L1000, L1584, L1000000, Ln1, iN_add, iN_and, iN_or, iN_nd, iN_shl, iN_shr, iN_cl, iN_in, iN_mul, L.k, b1]
  have := lp_inv (body := f156_9 a (iN n)) (P := fun i z => z.1 = iN i ∧ Fr (pL a) h1 z.2 ∧ CLS z.2 a (C i)) (Q := fun r => r.1 = iN (ups (whB (C n) 0) (q 0 1)) ∧ Fr (pL a) h1 r.2) n (fun i z hi hP => by
    obtain ⟨z1, z2, z3⟩ := hP
    have Ld := Lc.fr z2
    have H3 := H2.fl z2 pa
    obtain ⟨h', f1, f2, f3, f4⟩ := t77 Ld H3 W z3 (hC i) pa (c := 0) (by omega)
    refine Or.inl ⟨(iN (i + 1), h'), ?_, rfl, z2.tr f2, by rw [Cs]; exact f3⟩
    unfold f156_9
    rw [z1]
    simp (disch := omega) only [gT, nbeq, Option.isSome_some, Option.getD_some, Bool.and_true, Bool.true_and, Bool.and_self, mX_some, bS, bN_if, bN_01, i1_01, i0_01, if_true, if_false, Bool.false_eq_true, false_and, and_false, and_true, true_and, and_self, Bool.or_false, Bool.false_or, Bool.or_true, Bool.true_or, Bool.false_and, Bool.and_false, decide_true, decide_false, L0, L1, L2, L3, L4, L5, L6, L7, L8, L9, L10, L11, L12, L13, L14, L15, L16, L17, L18, L19, L20, L21, L22, L23, L24, L25, L27, L33, L39, L40, L45, L48, L57, L60, L72, L90, L97, L98, L99, L100, L121, L122, L242, L255, L256, L580, L600, L1000, L1584, L1000000, Ln1, iN_add, iN_and, iN_or, iN_nd, iN_shl, iN_shr, iN_cl, iN_in, iN_mul, ile_n, Ld.k, f1]) (fun z hP => by
    obtain ⟨z1, z2, z3⟩ := hP
    have Ld := Lc.fr z2
    have H3 := H2.fl z2 pa
    refine ⟨(iN (ups (whB (C n) 0) (q 0 1)), z.2), ?_, rfl, z2⟩
    unfold f156_9
    rw [z1]
    simp (disch := omega) only [gT, nbeq, Option.isSome_some, Option.getD_some, Bool.and_true, Bool.true_and, Bool.and_self, mX_some, bS, bN_if, bN_01, i1_01, i0_01, if_true, if_false, Bool.false_eq_true, false_and, and_false, and_true, true_and, and_self, Bool.or_false, Bool.false_or, Bool.or_true, Bool.true_or, Bool.false_and, Bool.and_false, decide_true, decide_false, L0, L1, L2, L3, L4, L5, L6, L7, L8, L9, L10, L11, L12, L13, L14, L15, L16, L17, L18, L19, L20, L21, L22, L23, L24, L25, L27, L33, L39, L40, L45, L48, L57, L60, L72, L90, L97, L98, L99, L100, L121, L122, L242, L255, L256, L580, L600, L1000, L1584, L1000000, Ln1, iN_add, iN_and, iN_or, iN_nd, iN_shl, iN_shr, iN_cl, iN_in, iN_mul, ile_p, Ld.k, t78 Ld H3 W z3 (hC n) (c := 0) (by omega)]) (by omega) (s := (iN 0, h1)) ⟨rfl, Fr.rfl, by rw [C0]; exact b4⟩
  obtain ⟨⟨r, h'⟩, r1, r2, r3⟩ := this
  cases r2
  exact ⟨h', r1, g, b2, b3.tr r3⟩
theorem t154 (L : Lf0 h a) (H : LibS h la q) (W : QW q) (pa : la + 7 ≤ a) {p : Nat} (hp : p < q 0 1) {C : Nat → LSt} (C0 : C 0 = sRum q p) (Cs : ∀ n, C (n + 1) = sTon q (C n) 0) (hC : ∀ n, SW q (C n)) : ∃ h', f154 h a la (iN p) = some (zN (fz (fun i => decide (ups (whB (C i) 0) (q 0 1) = 0)) 99 1), h') ∧ ∃ g, FB a la h g ∧ Fr (pL a) g h' := by
  have hm6 := pw_6 W.1.2.1
  obtain ⟨h1, b1, ⟨g, b2, b3⟩, b4⟩ := t155 L H W pa hp
  have Lb := b2.lf L
  have Lc := Lb.fr b3
  have H1 : LibS g la q := H.st (fun i hi => b2.st (pL_n (by omega) (by omega) (by omega)) (by omega))
  have H2 := H1.fl b3 pa
  unfold f154
  simp only [gT, nbeq, Option.isSome_some, Option.getD_some, Bool.and_true, Bool.true_and, Bool.and_self, mX_some, bS, bN_if, bN_01, i1_01, i0_01, if_true, if_false, Bool.false_eq_true, false_and, and_false, and_true, true_and, and_self, Bool.or_false, Bool.false_or, Bool.or_true, Bool.true_or, Bool.false_and, Bool.and_false, decide_true, decide_false, L0, L1, L2, L3, L4, L5, L6, L7, L8, L9, L10, L11, L12, L13, L14, L15, L16, L17, L18, L19, L20, L21, L22, L23, L24, L25, L27, L33, L39, L40, L45, L48, L57, L60, L72, L90, L97, L98, L99, L100, L121, L122, L242, L255, L256, L580, L600, L1000, L1584, L1000000, Ln1, iN_add, iN_and, iN_or, iN_nd, iN_shl, iN_shr, iN_cl, iN_in, iN_mul, L.k, b1]
  generalize hF : fz (fun i => decide (ups (whB (C i) 0) (q 0 1) = 0)) 99 1 = F
  have := lp_inv (body := f154_8 a) (P := fun i z => z.1 = iN (i + 1) ∧ Fr (pL a) h1 z.2 ∧ CLS z.2 a (C i) ∧ F = fz (fun i => decide (ups (whB (C i) 0) (q 0 1) = 0)) (99 - i) (i + 1)) (Q := fun r => r.1 = zN F ∧ Fr (pL a) h1 r.2) 99 (fun i z hi hP => by
    obtain ⟨z1, z2, z3, z4⟩ := hP
    have Ld := Lc.fr z2
    have H3 := H2.fl z2 pa
    obtain ⟨h', f1, f2, f3, f4⟩ := t77 Ld H3 W z3 (hC i) pa (c := 0) (by omega)
    rw [← Cs] at f3
    have Le := Ld.fr f2
    have H4 := H3.fl f2 pa
    have hu := ups_lt (whB (C (i + 1)) 0) (q 0 1)
    have hs : 99 - i = (99 - (i + 1)) + 1 := by omega
    rw [hs] at z4
    simp only [fz] at z4
    by_cases ez : ups (whB (C (i + 1)) 0) (q 0 1) = 0
    · rw [if_pos (decide_eq_true ez)] at z4
      refine Or.inr ⟨(iN (i + 1), h'), ?_, by rw [z4]; rfl, z2.tr f2⟩
      unfold f154_8
      rw [z1]
      simp (disch := omega) only [gT, nbeq, Option.isSome_some, Option.getD_some, Bool.and_true, Bool.true_and, Bool.and_self, mX_some, bS, bN_if, bN_01, i1_01, i0_01, if_true, if_false, Bool.false_eq_true, false_and, and_false, and_true, true_and, and_self, Bool.or_false, Bool.false_or, Bool.or_true, Bool.true_or, Bool.false_and, Bool.and_false, decide_true, decide_false, L0, L1, L2, L3, L4, L5, L6, L7, L8, L9, L10, L11, L12, L13, L14, L15, L16, L17, L18, L19, L20, L21, L22, L23, L24, L25, L27, L33, L39, L40, L45, L48, L57, L60, L72, L90, L97, L98, L99, L100, L121, L122, L242, L255, L256, L580, L600, L1000, L1584, L1000000, Ln1, iN_add, iN_and, iN_or, iN_nd, iN_shl, iN_shr, iN_cl, iN_in, iN_mul, ilt_n, Ld.k, Le.k, f1, t78 Le H4 W f3 (hC (i + 1)) (c := 0), ieq_p]
    · rw [if_neg (by rw [decide_eq_false ez]; decide)] at z4
      refine Or.inl ⟨(iN (i + 1 + 1), h'), ?_, rfl, z2.tr f2, f3, z4⟩
      unfold f154_8
      rw [z1]
      simp (disch := omega) only [gT, nbeq, Option.isSome_some, Option.getD_some, Bool.and_true, Bool.true_and, Bool.and_self, mX_some, bS, bN_if, bN_01, i1_01, i0_01, if_true, if_false, Bool.false_eq_true, false_and, and_false, and_true, true_and, and_self, Bool.or_false, Bool.false_or, Bool.or_true, Bool.true_or, Bool.false_and, Bool.and_false, decide_true, decide_false, L0, L1, L2, L3, L4, L5, L6, L7, L8, L9, L10, L11, L12, L13, L14, L15, L16, L17, L18, L19, L20, L21, L22, L23, L24, L25, L27, L33, L39, L40, L45, L48, L57, L60, L72, L90, L97, L98, L99, L100, L121, L122, L242, L255, L256, L580, L600, L1000, L1584, L1000000, Ln1, iN_add, iN_and, iN_or, iN_nd, iN_shl, iN_shr, iN_cl, iN_in, iN_mul, ilt_n, Ld.k, Le.k, f1, t78 Le H4 W f3 (hC (i + 1)) (c := 0), ieq_n]) (fun z hP => by
    obtain ⟨z1, z2, z3, z4⟩ := hP
    refine ⟨(jN, z.2), ?_, by rw [z4]; rfl, z2⟩
    unfold f154_8
    rw [z1]
    simp (disch := omega) only [gT, nbeq, Option.isSome_some, Option.getD_some, Bool.and_true, Bool.true_and, Bool.and_self, mX_some, bS, bN_if, bN_01, i1_01, i0_01, if_true, if_false, Bool.false_eq_true, false_and, and_false, and_true, true_and, and_self, Bool.or_false, Bool.false_or, Bool.or_true, Bool.true_or, Bool.false_and, Bool.and_false, decide_true, decide_false, L0, L1, L2, L3, L4, L5, L6, L7, L8, L9, L10, L11, L12, L13, L14, L15, L16, L17, L18, L19, L20, L21, L22, L23, L24, L25, L27, L33, L39, L40, L45, L48, L57, L60, L72, L90, L97, L98, L99, L100, L121, L122, L242, L255, L256, L580, L600, L1000, L1584, L1000000, Ln1, iN_add, iN_and, iN_or, iN_nd, iN_shl, iN_shr, iN_cl, iN_in, iN_mul, ilt_p]) (by omega) (s := (iN 1, h1)) ⟨rfl, Fr.rfl, by rw [C0]; exact b4, by rw [← hF]⟩
  obtain ⟨⟨r, h'⟩, r1, r2, r3⟩ := this
  cases r2
  exact ⟨h', r1, g, b2, b3.tr r3⟩
end LF
section ML
variable {h : mH} {q : LQ} {s : LSt}
theorem t287 (H : MoS h q) (W : QW q) (C : MLS h s) (S : SW q s) : f287 h 193 = some (iN (ups (whB s 0) (q 0 1))) := by
  have hm := W.1.2.1
  have w := H.1
  unfold f287 ups
  refine lp_up (fun k x => (iN x, iN k)) _ iN (fun _ _ => True) (q 0 1) (a0 := 0) trivial (fun _ _ _ _ => trivial) ?_ ?_ (by omega)
  · intro k x hk _
    have e := C.2.1 (8 * k) (by omega)
    unfold f287_4 f287_33
    simp (disch := omega) only [gT, nbeq, Option.isSome_some, Option.getD_some, Bool.and_true, Bool.true_and, Bool.and_self, mX_some, bS, bN_if, bN_01, i1_01, i0_01, if_true, if_false, Bool.false_eq_true, false_and, and_false, and_true, true_and, and_self, Bool.or_false, Bool.false_or, Bool.or_true, Bool.true_or, Bool.false_and, Bool.and_false, decide_true, decide_false, L0, L1, L2, L3, L4, L5, L6, L7, L8, L9, L10, L11, L12, L13, L14, L15, L16, L17, L18, L19, L20, L21, L22, L23, L24, L25, L27, L33, L39, L40, L45, L48, L57, L60, L72, L90, L97, L98, L99, L100, L121, L122, L242, L255, L256, L580, L600, L1000, L1584, L1000000, Ln1, iN_add, iN_and, iN_or, iN_nd, iN_shl, iN_shr, iN_cl, iN_in, iN_mul, k193 w, r193_1 w, r193_2 w, r193_3 w, r193_4 w, r193_5 w, r193_6 w, r193_7 w, r193_8 w, r193_18 w, r193_19 w, r193_32 w, r193_33 w, r193_34 w, r193_36 w, r193_38 w, r193_39 w, r193_40 w, r193_42 w, r193_45 w, r193_46 w, r193_47 w, r193_48 w, r193_49 w, r193_50 w, k205 w, H.m, ile_n, e]
    rw [zj (SW.kb W S (by omega)), show whB s 0 k = (sKn s (8 * k)).isSome from rfl]
    split
    · rfl
    · rw [Nat.or_zero]
  · intro x _
    unfold f287_4
    simp (disch := omega) only [gT, nbeq, Option.isSome_some, Option.getD_some, Bool.and_true, Bool.true_and, Bool.and_self, mX_some, bS, bN_if, bN_01, i1_01, i0_01, if_true, if_false, Bool.false_eq_true, false_and, and_false, and_true, true_and, and_self, Bool.or_false, Bool.false_or, Bool.or_true, Bool.true_or, Bool.false_and, Bool.and_false, decide_true, decide_false, L0, L1, L2, L3, L4, L5, L6, L7, L8, L9, L10, L11, L12, L13, L14, L15, L16, L17, L18, L19, L20, L21, L22, L23, L24, L25, L27, L33, L39, L40, L45, L48, L57, L60, L72, L90, L97, L98, L99, L100, L121, L122, L242, L255, L256, L580, L600, L1000, L1584, L1000000, Ln1, iN_add, iN_and, iN_or, iN_nd, iN_shl, iN_shr, iN_cl, iN_in, iN_mul, k193 w, r193_1 w, r193_2 w, r193_3 w, r193_4 w, r193_5 w, r193_6 w, r193_7 w, r193_8 w, r193_18 w, r193_19 w, r193_32 w, r193_33 w, r193_34 w, r193_36 w, r193_38 w, r193_39 w, r193_40 w, r193_42 w, r193_45 w, r193_46 w, r193_47 w, r193_48 w, r193_49 w, r193_50 w, H.m, ile_p]
end ML
section PB
variable {h : mH}
theorem t179m {h : mH} {x : Int32} : f179 h x jN (iN 20) = some (bN (decide (x = jN) || rg x 21)) := by
  have h0 := t17 (h := h) (x := x) (a := jN) (b := iN 20)
  change f179 h x jN (iN 20) = _ at h0
  rw [h0]; congr 2
  unfold rg
  rw [← Bool.decide_and, ← Bool.decide_or]
  apply decide_eq_decide.2
  rw [Int32.le_iff_toInt_le, Int32.le_iff_toInt_le, iN_toInt (by omega), jN_toInt, ← Int32.toInt_inj, jN_toInt]
  omega
theorem c_rumour (R : Rel h) (x1 x2 x3 : Int32) : ∃ v h1, f153 h 0 x1 x2 x3 = some (v, h1) ∧ FQ h h1 ∧ ∀ h0, FQ h h0 → ∃ h2, f286 h0 193 x1 x2 x3 = some (v, h2) ∧ FQ h0 h2 := by
  have w := R.1
  unfold f153 f153_24 f153_69
  simp only [gT, nbeq, Option.isSome_some, Option.getD_some, Bool.and_true, Bool.true_and, Bool.and_self, mX_some, bS, bN_if, bN_01, i1_01, i0_01, if_true, if_false, Bool.false_eq_true, false_and, and_false, and_true, true_and, and_self, Bool.or_false, Bool.false_or, Bool.or_true, Bool.true_or, Bool.false_and, Bool.and_false, decide_true, decide_false, k0 w, r0_0 w, r0_1 w, r0_2 w, r0_3 w, r0_4 w, r0_5 w, r0_6 w, r0_7 w, r0_8 w, k1 w, r1_0 w, r1_1 w, r1_2 w, r1_3 w, r1_4 w]
  rcases R.pick x1 with ⟨e1, e2⟩ | ⟨i, q, hi, rfl, W, H, e1, e2⟩
  · simp only [gT, nbeq, Option.isSome_some, Option.getD_some, Bool.and_true, Bool.true_and, Bool.and_self, mX_some, bS, bN_if, bN_01, i1_01, i0_01, if_true, if_false, Bool.false_eq_true, false_and, and_false, and_true, true_and, and_self, Bool.or_false, Bool.false_or, Bool.or_true, Bool.true_or, Bool.false_and, Bool.and_false, decide_true, decide_false, L0, L1, L2, L3, L4, L5, L6, L7, L8, L9, L10, L11, L12, L13, L14, L15, L16, L17, L18, L19, L20, L21, L22, L23, L24, L25, L27, L33, L39, L40, L45, L48, L57, L60, L72, L90, L97, L98, L99, L100, L121, L122, L242, L255, L256, L580, L600, L1000, L1584, L1000000, Ln1, iN_add, iN_and, iN_or, iN_nd, iN_shl, iN_shr, iN_cl, iN_in, iN_mul, Ln2, e1]
    refine ⟨_, _, rfl, FQ.rfl, fun h0 F => ?_⟩
    have w0 := R.1.q F
    unfold f286 f286_31
    simp (disch := omega) only [gT, nbeq, Option.isSome_some, Option.getD_some, Bool.and_true, Bool.true_and, Bool.and_self, mX_some, bS, bN_if, bN_01, i1_01, i0_01, if_true, if_false, Bool.false_eq_true, false_and, and_false, and_true, true_and, and_self, Bool.or_false, Bool.false_or, Bool.or_true, Bool.true_or, Bool.false_and, Bool.and_false, decide_true, decide_false, L0, L1, L2, L3, L4, L5, L6, L7, L8, L9, L10, L11, L12, L13, L14, L15, L16, L17, L18, L19, L20, L21, L22, L23, L24, L25, L27, L33, L39, L40, L45, L48, L57, L60, L72, L90, L97, L98, L99, L100, L121, L122, L242, L255, L256, L580, L600, L1000, L1584, L1000000, Ln1, iN_add, iN_and, iN_or, iN_nd, iN_shl, iN_shr, iN_cl, iN_in, iN_mul, Ln2, k193 w0, r193_1 w0, r193_2 w0, r193_3 w0, r193_4 w0, r193_5 w0, r193_6 w0, r193_7 w0, r193_8 w0, r193_18 w0, r193_19 w0, r193_32 w0, r193_33 w0, r193_34 w0, r193_36 w0, r193_38 w0, r193_39 w0, r193_40 w0, r193_42 w0, r193_45 w0, r193_46 w0, r193_47 w0, r193_48 w0, r193_49 w0, r193_50 w0, t179m, e2 _ F.co]
    cases (decide (x3 = jN) || rg x3 21) <;> simp only [gT, nbeq, Option.isSome_some, Option.getD_some, Bool.and_true, Bool.true_and, Bool.and_self, mX_some, bS, bN_if, bN_01, i1_01, i0_01, if_true, if_false, Bool.false_eq_true, false_and, and_false, and_true, true_and, and_self, Bool.or_false, Bool.false_or, Bool.or_true, Bool.true_or, Bool.false_and, Bool.and_false, decide_true, decide_false] <;> exact ⟨_, rfl, FQ.c0⟩
  · have hm := W.1.2.1
    simp (disch := omega) only [gT, nbeq, Option.isSome_some, Option.getD_some, Bool.and_true, Bool.true_and, Bool.and_self, mX_some, bS, bN_if, bN_01, i1_01, i0_01, if_true, if_false, Bool.false_eq_true, false_and, and_false, and_true, true_and, and_self, Bool.or_false, Bool.false_or, Bool.or_true, Bool.true_or, Bool.false_and, Bool.and_false, decide_true, decide_false, L0, L1, L2, L3, L4, L5, L6, L7, L8, L9, L10, L11, L12, L13, L14, L15, L16, L17, L18, L19, L20, L21, L22, L23, L24, L25, L27, L33, L39, L40, L45, L48, L57, L60, L72, L90, L97, L98, L99, L100, L121, L122, L242, L255, L256, L580, L600, L1000, L1584, L1000000, Ln1, iN_add, iN_and, iN_or, iN_nd, iN_shl, iN_shr, iN_cl, iN_in, iN_mul, Ln2, e1, H.k, t57 H W, t17r]
    cases hp : rg x2 (q 0 1) with
    | false =>
      simp only [gT, nbeq, Option.isSome_some, Option.getD_some, Bool.and_true, Bool.true_and, Bool.and_self, mX_some, bS, bN_if, bN_01, i1_01, i0_01, if_true, if_false, Bool.false_eq_true, false_and, and_false, and_true, true_and, and_self, Bool.or_false, Bool.false_or, Bool.or_true, Bool.true_or, Bool.false_and, Bool.and_false, decide_true, decide_false]
      refine ⟨_, _, rfl, FQ.rfl, fun h0 F => ?_⟩
      have w0 := R.1.q F
      obtain ⟨h', g1, g2, g3, g4, g5⟩ := e2 _ F.co
      have w1 := g4.1
      unfold f286 f286_31
      simp (disch := omega) only [gT, nbeq, Option.isSome_some, Option.getD_some, Bool.and_true, Bool.true_and, Bool.and_self, mX_some, bS, bN_if, bN_01, i1_01, i0_01, if_true, if_false, Bool.false_eq_true, false_and, and_false, and_true, true_and, and_self, Bool.or_false, Bool.false_or, Bool.or_true, Bool.true_or, Bool.false_and, Bool.and_false, decide_true, decide_false, L0, L1, L2, L3, L4, L5, L6, L7, L8, L9, L10, L11, L12, L13, L14, L15, L16, L17, L18, L19, L20, L21, L22, L23, L24, L25, L27, L33, L39, L40, L45, L48, L57, L60, L72, L90, L97, L98, L99, L100, L121, L122, L242, L255, L256, L580, L600, L1000, L1584, L1000000, Ln1, iN_add, iN_and, iN_or, iN_nd, iN_shl, iN_shr, iN_cl, iN_in, iN_mul, Ln2, k193 w0, r193_1 w0, r193_2 w0, r193_3 w0, r193_4 w0, r193_5 w0, r193_6 w0, r193_7 w0, r193_8 w0, r193_18 w0, r193_19 w0, r193_32 w0, r193_33 w0, r193_34 w0, r193_36 w0, r193_38 w0, r193_39 w0, r193_40 w0, r193_42 w0, r193_45 w0, r193_46 w0, r193_47 w0, r193_48 w0, r193_49 w0, r193_50 w0, k193 w1, r193_1 w1, r193_2 w1, r193_3 w1, r193_4 w1, r193_5 w1, r193_6 w1, r193_7 w1, r193_8 w1, r193_18 w1, r193_19 w1, r193_32 w1, r193_33 w1, r193_34 w1, r193_36 w1, r193_38 w1, r193_39 w1, r193_40 w1, r193_42 w1, r193_45 w1, r193_46 w1, r193_47 w1, r193_48 w1, r193_49 w1, r193_50 w1, t179m, g1, t226 g4 W, hp]
      cases (decide (x3 = jN) || rg x3 21) <;> simp only [gT, nbeq, Option.isSome_some, Option.getD_some, Bool.and_true, Bool.true_and, Bool.and_self, mX_some, bS, bN_if, bN_01, i1_01, i0_01, if_true, if_false, Bool.false_eq_true, false_and, and_false, and_true, true_and, and_self, Bool.or_false, Bool.false_or, Bool.or_true, Bool.true_or, Bool.false_and, Bool.and_false, decide_true, decide_false]
      · exact ⟨_, rfl, FQ.c0⟩
      · exact ⟨_, rfl, FQ.c0.tr g2.qM⟩
    | true =>
      obtain ⟨p, hpp, rfl, _⟩ := rg_t hp
      simp only [gT, nbeq, Option.isSome_some, Option.getD_some, Bool.and_true, Bool.true_and, Bool.and_self, mX_some, bS, bN_if, bN_01, i1_01, i0_01, if_true, if_false, Bool.false_eq_true, false_and, and_false, and_true, true_and, and_self, Bool.or_false, Bool.false_or, Bool.or_true, Bool.true_or, Bool.false_and, Bool.and_false, decide_true, decide_false]
      obtain ⟨C, C0, Cs⟩ := itr_ex (fun s => sTon q s 0) (sRum q p)
      obtain ⟨D, D0, Ds⟩ := itr_ex (sDayM q) (sRum q p)
      have seq := rum_seq W hpp C0 Cs D0 Ds
      have hw : ∀ n, ups (whB (D n) 0) (q 0 1) = ups (whB (C n) 0) (q 0 1) := fun n => ups_congr (fun j _ => by unfold whB; rw [(seq n).1])
      -- the reference's start
      have mo : ∀ h0, FQ h h0 → ∃ h', f205 (mSI h0 193 0 (iN 0)) 193 (iN i) = some (bN true, h') ∧ FQ h0 h' ∧ MoS h' q ∧ FM h' (mSI h' 205 (8 * p) (iN 0)) ∧ MLS (mSI h' 205 (8 * p) (iN 0)) (D 0) := fun h0 F => by
        obtain ⟨h', g1, g2, g3, g4, g5⟩ := e2 _ F.co
        obtain ⟨c1, c2, c3, c4, c5, c6, c7, c8⟩ := g5
        refine ⟨h', g1, FQ.c0.tr g2.qM, g4, FM.rfl.si (by decide) (Or.inl (by decide)), ?_⟩
        rw [D0]
        refine ⟨fun j hj => ?_, fun k hk => ?_, ?_, ?_, ?_, ?_, ?_, ?_⟩
        · simp (disch := omega) only [si_ne, si_nk, si_eq]; exact c1 j hj
        · show _ = zN (ud (fun _ => none) (8 * p) (some 0) k)
          by_cases ek : k = 8 * p
          · subst ek; simp (disch := omega) only [si_ne, si_nk, si_eq, ud_eq]; rfl
          · rw [ud_ne _ _ ek]; simp (disch := omega) only [si_ne, si_nk, si_eq]; exact c2 k hk
        all_goals simp (disch := omega) only [si_ne, si_nk, si_eq]
        · exact c3
        · exact c4
        · exact c5
        · exact c6
        · exact c7
        · exact c8
      by_cases ej : x3 = jN
      · subst ej
        simp only [if_true]
        obtain ⟨h1, a1, g, a2, a3⟩ := t154 w.l56 H W (by omega) hpp C0 Cs (fun n => (seq n).2.2.1)
        simp only [gT, nbeq, Option.isSome_some, Option.getD_some, Bool.and_true, Bool.true_and, Bool.and_self, mX_some, bS, bN_if, bN_01, i1_01, i0_01, if_true, if_false, Bool.false_eq_true, false_and, and_false, and_true, true_and, and_self, Bool.or_false, Bool.false_or, Bool.or_true, Bool.true_or, Bool.false_and, Bool.and_false, decide_true, decide_false, k56 w, r56_0 w, r56_2 w, a1]
        refine ⟨_, _, rfl, a2.q.tr a3.q56, fun h0 F => ?_⟩
        have w0 := R.1.q F
        obtain ⟨h', g1, g2, g4, g5, g6⟩ := mo h0 F
        have w1 := g4.1
        generalize hF : fz (fun i => decide (ups (whB (C i) 0) (q 0 1) = 0)) 99 1 = G
        have z0 : ups (whB (C 0) 0) (q 0 1) ≠ 0 := by
          intro e
          have := congrArg (fun z => z.testBit p) e
          simp only [ups_tb, Nat.zero_testBit] at this
          rw [C0] at this
          have e3 : whB (sRum q p) 0 p = true := by
            show (ud (fun _ => none) (8 * p) (some 0) (8 * p + 0)).isSome = true
            rw [Nat.add_zero, ud_eq]; rfl
          rw [e3] at this
          simp [hpp] at this
        have G0 : G = fz (fun i => decide (ups (whB (C i) 0) (q 0 1) = 0)) 100 0 := by
          rw [← hF]
          simp only [fz, z0, decide_false, Bool.false_eq_true, if_false]
        have := lp_inv (body := f286_60 193 jN (iN 99)) (P := fun i z => z.1 = iN i ∧ FM h' z.2 ∧ MLS z.2 (D i) ∧ G = fz (fun i => decide (ups (whB (C i) 0) (q 0 1) = 0)) (100 - i) i) (Q := fun r => r.1 = zN G ∧ FM h' r.2) 99 (fun i z hi hP => by
          obtain ⟨z1, z2, z3, z4⟩ := hP
          have H2 := g4.fm z2
          have w2 := H2.1
          have hu := ups_lt (whB (D i) 0) (q 0 1)
          have h6 := pw_6 hm
          have hs : 100 - i = (100 - (i + 1)) + 1 := by omega
          rw [hs] at z4
          simp only [fz] at z4
          have e30 : mI z.2 193 30 = iN i := by rw [z3.2.2.1, (seq i).2.2.2.2]
          by_cases ez : ups (whB (C i) 0) (q 0 1) = 0
          · rw [if_pos (decide_eq_true ez)] at z4
            have ez' : ups (whB (D i) 0) (q 0 1) = 0 := by rw [hw, ez]
            refine Or.inr ⟨(iN i, z.2), ?_, by rw [z4]; rfl, z2⟩
            unfold f286_60 f286_89 f286_116
            rw [z1]
            simp (disch := omega) only [gT, nbeq, Option.isSome_some, Option.getD_some, Bool.and_true, Bool.true_and, Bool.and_self, mX_some, bS, bN_if, bN_01, i1_01, i0_01, if_true, if_false, Bool.false_eq_true, false_and, and_false, and_true, true_and, and_self, Bool.or_false, Bool.false_or, Bool.or_true, Bool.true_or, Bool.false_and, Bool.and_false, decide_true, decide_false, L0, L1, L2, L3, L4, L5, L6, L7, L8, L9, L10, L11, L12, L13, L14, L15, L16, L17, L18, L19, L20, L21, L22, L23, L24, L25, L27, L33, L39, L40, L45, L48, L57, L60, L72, L90, L97, L98, L99, L100, L121, L122, L242, L255, L256, L580, L600, L1000, L1584, L1000000, Ln1, iN_add, iN_and, iN_or, iN_nd, iN_shl, iN_shr, iN_cl, iN_in, iN_mul, ile_n, jj_p, k193 w2, r193_1 w2, r193_2 w2, r193_3 w2, r193_4 w2, r193_5 w2, r193_6 w2, r193_7 w2, r193_8 w2, r193_18 w2, r193_19 w2, r193_32 w2, r193_33 w2, r193_34 w2, r193_36 w2, r193_38 w2, r193_39 w2, r193_40 w2, r193_42 w2, r193_45 w2, r193_46 w2, r193_47 w2, r193_48 w2, r193_49 w2, r193_50 w2, t287 H2 W z3 (seq i).2.2.2.1, ez', ieq_p, e30]
          · rw [if_neg (by rw [decide_eq_false ez]; decide)] at z4
            have ez' : ups (whB (D i) 0) (q 0 1) ≠ 0 := by rw [hw]; exact ez
            obtain ⟨h'', f1, f2, f3⟩ := t227 H2 W z3 (seq i).2.2.2.1
            refine Or.inl ⟨(iN (i + 1), h''), ?_, rfl, z2.tr f2, by rw [Ds]; exact f3, z4⟩
            unfold f286_60 f286_79
            rw [z1]
            simp (disch := omega) only [gT, nbeq, Option.isSome_some, Option.getD_some, Bool.and_true, Bool.true_and, Bool.and_self, mX_some, bS, bN_if, bN_01, i1_01, i0_01, if_true, if_false, Bool.false_eq_true, false_and, and_false, and_true, true_and, and_self, Bool.or_false, Bool.false_or, Bool.or_true, Bool.true_or, Bool.false_and, Bool.and_false, decide_true, decide_false, L0, L1, L2, L3, L4, L5, L6, L7, L8, L9, L10, L11, L12, L13, L14, L15, L16, L17, L18, L19, L20, L21, L22, L23, L24, L25, L27, L33, L39, L40, L45, L48, L57, L60, L72, L90, L97, L98, L99, L100, L121, L122, L242, L255, L256, L580, L600, L1000, L1584, L1000000, Ln1, iN_add, iN_and, iN_or, iN_nd, iN_shl, iN_shr, iN_cl, iN_in, iN_mul, ile_n, jj_p, k193 w2, r193_1 w2, r193_2 w2, r193_3 w2, r193_4 w2, r193_5 w2, r193_6 w2, r193_7 w2, r193_8 w2, r193_18 w2, r193_19 w2, r193_32 w2, r193_33 w2, r193_34 w2, r193_36 w2, r193_38 w2, r193_39 w2, r193_40 w2, r193_42 w2, r193_45 w2, r193_46 w2, r193_47 w2, r193_48 w2, r193_49 w2, r193_50 w2, t287 H2 W z3 (seq i).2.2.2.1, ieq_n, f1]) (fun z hP => by
          obtain ⟨z1, z2, z3, z4⟩ := hP
          have H2 := g4.fm z2
          have w2 := H2.1
          have hu := ups_lt (whB (D 99) 0) (q 0 1)
          have h6 := pw_6 hm
          have e30 : mI z.2 193 30 = iN 99 := by rw [z3.2.2.1, (seq 99).2.2.2.2]
          have z5 : G = if decide (ups (whB (C 99) 0) (q 0 1) = 0) = true then some 99 else none := z4
          refine ⟨(zN G, z.2), ?_, rfl, z2⟩
          unfold f286_60 f286_89 f286_116
          rw [z1]
          by_cases ez : ups (whB (C 99) 0) (q 0 1) = 0
          · rw [if_pos (decide_eq_true ez)] at z5
            have ez' : ups (whB (D 99) 0) (q 0 1) = 0 := by rw [hw, ez]
            simp (disch := omega) only [gT, nbeq, Option.isSome_some, Option.getD_some, Bool.and_true, Bool.true_and, Bool.and_self, mX_some, bS, bN_if, bN_01, i1_01, i0_01, if_true, if_false, Bool.false_eq_true, false_and, and_false, and_true, true_and, and_self, Bool.or_false, Bool.false_or, Bool.or_true, Bool.true_or, Bool.false_and, Bool.and_false, decide_true, decide_false, L0, L1, L2, L3, L4, L5, L6, L7, L8, L9, L10, L11, L12, L13, L14, L15, L16, L17, L18, L19, L20, L21, L22, L23, L24, L25, L27, L33, L39, L40, L45, L48, L57, L60, L72, L90, L97, L98, L99, L100, L121, L122, L242, L255, L256, L580, L600, L1000, L1584, L1000000, Ln1, iN_add, iN_and, iN_or, iN_nd, iN_shl, iN_shr, iN_cl, iN_in, iN_mul, ile_p, jj_p, k193 w2, r193_1 w2, r193_2 w2, r193_3 w2, r193_4 w2, r193_5 w2, r193_6 w2, r193_7 w2, r193_8 w2, r193_18 w2, r193_19 w2, r193_32 w2, r193_33 w2, r193_34 w2, r193_36 w2, r193_38 w2, r193_39 w2, r193_40 w2, r193_42 w2, r193_45 w2, r193_46 w2, r193_47 w2, r193_48 w2, r193_49 w2, r193_50 w2, t287 H2 W z3 (seq 99).2.2.2.1, ez', ieq_p, e30, z5, zN_some]
          · rw [if_neg (by rw [decide_eq_false ez]; decide)] at z5
            have ez' : ups (whB (D 99) 0) (q 0 1) ≠ 0 := by rw [hw]; exact ez
            simp (disch := omega) only [gT, nbeq, Option.isSome_some, Option.getD_some, Bool.and_true, Bool.true_and, Bool.and_self, mX_some, bS, bN_if, bN_01, i1_01, i0_01, if_true, if_false, Bool.false_eq_true, false_and, and_false, and_true, true_and, and_self, Bool.or_false, Bool.false_or, Bool.or_true, Bool.true_or, Bool.false_and, Bool.and_false, decide_true, decide_false, L0, L1, L2, L3, L4, L5, L6, L7, L8, L9, L10, L11, L12, L13, L14, L15, L16, L17, L18, L19, L20, L21, L22, L23, L24, L25, L27, L33, L39, L40, L45, L48, L57, L60, L72, L90, L97, L98, L99, L100, L121, L122, L242, L255, L256, L580, L600, L1000, L1584, L1000000, Ln1, iN_add, iN_and, iN_or, iN_nd, iN_shl, iN_shr, iN_cl, iN_in, iN_mul, ile_p, jj_p, k193 w2, r193_1 w2, r193_2 w2, r193_3 w2, r193_4 w2, r193_5 w2, r193_6 w2, r193_7 w2, r193_8 w2, r193_18 w2, r193_19 w2, r193_32 w2, r193_33 w2, r193_34 w2, r193_36 w2, r193_38 w2, r193_39 w2, r193_40 w2, r193_42 w2, r193_45 w2, r193_46 w2, r193_47 w2, r193_48 w2, r193_49 w2, r193_50 w2, t287 H2 W z3 (seq 99).2.2.2.1, ieq_n, z5, zN_none]) (by omega) (s := (iN 0, mSI h' 205 (8 * p) (iN 0))) ⟨rfl, g5, g6, G0⟩
        obtain ⟨⟨r, h2⟩, r1, r2, r3⟩ := this
        have r2' : r = zN G := r2
        rw [r2'] at r1
        refine ⟨h2, ?_, g2.tr r3.1.qM⟩
        unfold f286 f286_55
        simp (disch := omega) only [gT, nbeq, Option.isSome_some, Option.getD_some, Bool.and_true, Bool.true_and, Bool.and_self, mX_some, bS, bN_if, bN_01, i1_01, i0_01, if_true, if_false, Bool.false_eq_true, false_and, and_false, and_true, true_and, and_self, Bool.or_false, Bool.false_or, Bool.or_true, Bool.true_or, Bool.false_and, Bool.and_false, decide_true, decide_false, L0, L1, L2, L3, L4, L5, L6, L7, L8, L9, L10, L11, L12, L13, L14, L15, L16, L17, L18, L19, L20, L21, L22, L23, L24, L25, L27, L33, L39, L40, L45, L48, L57, L60, L72, L90, L97, L98, L99, L100, L121, L122, L242, L255, L256, L580, L600, L1000, L1584, L1000000, Ln1, iN_add, iN_and, iN_or, iN_nd, iN_shl, iN_shr, iN_cl, iN_in, iN_mul, Ln2, k193 w0, r193_1 w0, r193_2 w0, r193_3 w0, r193_4 w0, r193_5 w0, r193_6 w0, r193_7 w0, r193_8 w0, r193_18 w0, r193_19 w0, r193_32 w0, r193_33 w0, r193_34 w0, r193_36 w0, r193_38 w0, r193_39 w0, r193_40 w0, r193_42 w0, r193_45 w0, r193_46 w0, r193_47 w0, r193_48 w0, r193_49 w0, r193_50 w0, k193 w1, r193_1 w1, r193_2 w1, r193_3 w1, r193_4 w1, r193_5 w1, r193_6 w1, r193_7 w1, r193_8 w1, r193_18 w1, r193_19 w1, r193_32 w1, r193_33 w1, r193_34 w1, r193_36 w1, r193_38 w1, r193_39 w1, r193_40 w1, r193_42 w1, r193_45 w1, r193_46 w1, r193_47 w1, r193_48 w1, r193_49 w1, r193_50 w1, k205 w1, t179m, g1, t226 g4 W, hp, jj_p, r1]
      · simp only [ej, gT, nbeq, Option.isSome_some, Option.getD_some, Bool.and_true, Bool.true_and, Bool.and_self, mX_some, bS, bN_if, bN_01, i1_01, i0_01, if_true, if_false, Bool.false_eq_true, false_and, and_false, and_true, true_and, and_self, Bool.or_false, Bool.false_or, Bool.or_true, Bool.true_or, Bool.false_and, Bool.and_false, decide_true, decide_false]
        cases hr : rg x3 (20 + 1) with
        | false =>
          simp only [gT, nbeq, Option.isSome_some, Option.getD_some, Bool.and_true, Bool.true_and, Bool.and_self, mX_some, bS, bN_if, bN_01, i1_01, i0_01, if_true, if_false, Bool.false_eq_true, false_and, and_false, and_true, true_and, and_self, Bool.or_false, Bool.false_or, Bool.or_true, Bool.true_or, Bool.false_and, Bool.and_false, decide_true, decide_false]
          refine ⟨_, _, rfl, FQ.rfl, fun h0 F => ?_⟩
          have w0 := R.1.q F
          unfold f286 f286_31
          simp (disch := omega) only [gT, nbeq, Option.isSome_some, Option.getD_some, Bool.and_true, Bool.true_and, Bool.and_self, mX_some, bS, bN_if, bN_01, i1_01, i0_01, if_true, if_false, Bool.false_eq_true, false_and, and_false, and_true, true_and, and_self, Bool.or_false, Bool.false_or, Bool.or_true, Bool.true_or, Bool.false_and, Bool.and_false, decide_true, decide_false, L0, L1, L2, L3, L4, L5, L6, L7, L8, L9, L10, L11, L12, L13, L14, L15, L16, L17, L18, L19, L20, L21, L22, L23, L24, L25, L27, L33, L39, L40, L45, L48, L57, L60, L72, L90, L97, L98, L99, L100, L121, L122, L242, L255, L256, L580, L600, L1000, L1584, L1000000, Ln1, iN_add, iN_and, iN_or, iN_nd, iN_shl, iN_shr, iN_cl, iN_in, iN_mul, Ln2, k193 w0, r193_1 w0, r193_2 w0, r193_3 w0, r193_4 w0, r193_5 w0, r193_6 w0, r193_7 w0, r193_8 w0, r193_18 w0, r193_19 w0, r193_32 w0, r193_33 w0, r193_34 w0, r193_36 w0, r193_38 w0, r193_39 w0, r193_40 w0, r193_42 w0, r193_45 w0, r193_46 w0, r193_47 w0, r193_48 w0, r193_49 w0, r193_50 w0, t179m, ej, hr]
          exact ⟨_, rfl, FQ.c0⟩
        | true =>
          obtain ⟨n, hn, rfl, _⟩ := rg_t hr
          obtain ⟨h1, a1, g, a2, a3⟩ := t156 (D := D) w.l56 H W (by omega) hpp C0 Cs (fun n => (seq n).2.2.1) (n := n) (by omega)
          simp only [gT, nbeq, Option.isSome_some, Option.getD_some, Bool.and_true, Bool.true_and, Bool.and_self, mX_some, bS, bN_if, bN_01, i1_01, i0_01, if_true, if_false, Bool.false_eq_true, false_and, and_false, and_true, true_and, and_self, Bool.or_false, Bool.false_or, Bool.or_true, Bool.true_or, Bool.false_and, Bool.and_false, decide_true, decide_false, k56 w, r56_0 w, r56_2 w, a1]
          refine ⟨_, _, rfl, a2.q.tr a3.q56, fun h0 F => ?_⟩
          have w0 := R.1.q F
          obtain ⟨h', g1, g2, g4, g5, g6⟩ := mo h0 F
          have w1 := g4.1
          have := lp_inv (body := f286_60 193 (iN n) (iN n)) (P := fun i z => z.1 = iN i ∧ FM h' z.2 ∧ MLS z.2 (D i)) (Q := fun r => r.1 = iN (ups (whB (C n) 0) (q 0 1)) ∧ FM h' r.2) n (fun i z hi hP => by
            obtain ⟨z1, z2, z3⟩ := hP
            have H2 := g4.fm z2
            have w2 := H2.1
            obtain ⟨h'', f1, f2, f3⟩ := t227 H2 W z3 (seq i).2.2.2.1
            refine Or.inl ⟨(iN (i + 1), h''), ?_, rfl, z2.tr f2, by rw [Ds]; exact f3⟩
            unfold f286_60 f286_79
            rw [z1]
            simp (disch := omega) only [gT, nbeq, Option.isSome_some, Option.getD_some, Bool.and_true, Bool.true_and, Bool.and_self, mX_some, bS, bN_if, bN_01, i1_01, i0_01, if_true, if_false, Bool.false_eq_true, false_and, and_false, and_true, true_and, and_self, Bool.or_false, Bool.false_or, Bool.or_true, Bool.true_or, Bool.false_and, Bool.and_false, decide_true, decide_false, L0, L1, L2, L3, L4, L5, L6, L7, L8, L9, L10, L11, L12, L13, L14, L15, L16, L17, L18, L19, L20, L21, L22, L23, L24, L25, L27, L33, L39, L40, L45, L48, L57, L60, L72, L90, L97, L98, L99, L100, L121, L122, L242, L255, L256, L580, L600, L1000, L1584, L1000000, Ln1, iN_add, iN_and, iN_or, iN_nd, iN_shl, iN_shr, iN_cl, iN_in, iN_mul, ile_n, ij_n, k193 w2, r193_1 w2, r193_2 w2, r193_3 w2, r193_4 w2, r193_5 w2, r193_6 w2, r193_7 w2, r193_8 w2, r193_18 w2, r193_19 w2, r193_32 w2, r193_33 w2, r193_34 w2, r193_36 w2, r193_38 w2, r193_39 w2, r193_40 w2, r193_42 w2, r193_45 w2, r193_46 w2, r193_47 w2, r193_48 w2, r193_49 w2, r193_50 w2, f1]) (fun z hP => by
            obtain ⟨z1, z2, z3⟩ := hP
            have H2 := g4.fm z2
            have w2 := H2.1
            refine ⟨(iN (ups (whB (C n) 0) (q 0 1)), z.2), ?_, rfl, z2⟩
            unfold f286_60 f286_89 f286_116
            rw [z1]
            simp (disch := omega) only [gT, nbeq, Option.isSome_some, Option.getD_some, Bool.and_true, Bool.true_and, Bool.and_self, mX_some, bS, bN_if, bN_01, i1_01, i0_01, if_true, if_false, Bool.false_eq_true, false_and, and_false, and_true, true_and, and_self, Bool.or_false, Bool.false_or, Bool.or_true, Bool.true_or, Bool.false_and, Bool.and_false, decide_true, decide_false, L0, L1, L2, L3, L4, L5, L6, L7, L8, L9, L10, L11, L12, L13, L14, L15, L16, L17, L18, L19, L20, L21, L22, L23, L24, L25, L27, L33, L39, L40, L45, L48, L57, L60, L72, L90, L97, L98, L99, L100, L121, L122, L242, L255, L256, L580, L600, L1000, L1584, L1000000, Ln1, iN_add, iN_and, iN_or, iN_nd, iN_shl, iN_shr, iN_cl, iN_in, iN_mul, ile_p, ij_n, k193 w2, r193_1 w2, r193_2 w2, r193_3 w2, r193_4 w2, r193_5 w2, r193_6 w2, r193_7 w2, r193_8 w2, r193_18 w2, r193_19 w2, r193_32 w2, r193_33 w2, r193_34 w2, r193_36 w2, r193_38 w2, r193_39 w2, r193_40 w2, r193_42 w2, r193_45 w2, r193_46 w2, r193_47 w2, r193_48 w2, r193_49 w2, r193_50 w2, t287 H2 W z3 (seq n).2.2.2.1, hw]) (by omega) (s := (iN 0, mSI h' 205 (8 * p) (iN 0))) ⟨rfl, g5, g6⟩
          obtain ⟨⟨r, h2⟩, r1, r2, r3⟩ := this
          have r2' : r = iN (ups (whB (C n) 0) (q 0 1)) := r2
          rw [r2'] at r1
          refine ⟨h2, ?_, g2.tr r3.1.qM⟩
          have hr2 : rg (iN n) 21 = true := hr
          unfold f286 f286_55
          simp (disch := omega) only [gT, nbeq, Option.isSome_some, Option.getD_some, Bool.and_true, Bool.true_and, Bool.and_self, mX_some, bS, bN_if, bN_01, i1_01, i0_01, if_true, if_false, Bool.false_eq_true, false_and, and_false, and_true, true_and, and_self, Bool.or_false, Bool.false_or, Bool.or_true, Bool.true_or, Bool.false_and, Bool.and_false, decide_true, decide_false, L0, L1, L2, L3, L4, L5, L6, L7, L8, L9, L10, L11, L12, L13, L14, L15, L16, L17, L18, L19, L20, L21, L22, L23, L24, L25, L27, L33, L39, L40, L45, L48, L57, L60, L72, L90, L97, L98, L99, L100, L121, L122, L242, L255, L256, L580, L600, L1000, L1584, L1000000, Ln1, iN_add, iN_and, iN_or, iN_nd, iN_shl, iN_shr, iN_cl, iN_in, iN_mul, Ln2, k193 w0, r193_1 w0, r193_2 w0, r193_3 w0, r193_4 w0, r193_5 w0, r193_6 w0, r193_7 w0, r193_8 w0, r193_18 w0, r193_19 w0, r193_32 w0, r193_33 w0, r193_34 w0, r193_36 w0, r193_38 w0, r193_39 w0, r193_40 w0, r193_42 w0, r193_45 w0, r193_46 w0, r193_47 w0, r193_48 w0, r193_49 w0, r193_50 w0, k193 w1, r193_1 w1, r193_2 w1, r193_3 w1, r193_4 w1, r193_5 w1, r193_6 w1, r193_7 w1, r193_8 w1, r193_18 w1, r193_19 w1, r193_32 w1, r193_33 w1, r193_34 w1, r193_36 w1, r193_38 w1, r193_39 w1, r193_40 w1, r193_42 w1, r193_45 w1, r193_46 w1, r193_47 w1, r193_48 w1, r193_49 w1, r193_50 w1, k205 w1, t179m, g1, t226 g4 W, hp, ij_n, ej, hr2, r1]
end PB
