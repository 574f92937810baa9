/-! fewestDays: the class's -/
theorem i16nz : (!(iN 16 == (iN 0 : Int32))) = true := by decide
theorem i100nz : (!(iN 100 == (iN 0 : Int32))) = true := by decide
/-- all of K take no more than the lamp -/
def okB (q : LQ) (K lamp : Nat) : Nat → Bool
  | 0 => true
  | k + 1 => okB q K lamp k && (!K.testBit k || decide (q 1 k ≤ lamp))
theorem okB_t {q : LQ} {K lamp : Nat} : ∀ n, okB q K lamp n = true → ∀ c, c < n → K.testBit c = true → q 1 c ≤ lamp := by
  intro n
  induction n with
  | zero => intro _ c hc; omega
  | succ n ih =>
    intro h c hc hb
    simp only [okB, Bool.and_eq_true] at h
    by_cases e : c = n
    · subst e
      have h2 := h.2
      rw [hb] at h2
      simpa using h2
    · exact ih h.1 c (by omega) hb
theorem okB_f {q : LQ} {K lamp : Nat} : ∀ n, okB q K lamp n = false → ∃ c, c < n ∧ K.testBit c = true ∧ lamp < q 1 c := by
  intro n
  induction n with
  | zero => intro h; cases h
  | succ n ih =>
    intro h
    simp only [okB, Bool.and_eq_false_iff] at h
    rcases h with h | h
    · obtain ⟨c, h1, h2⟩ := ih h
      exact ⟨c, by omega, h2⟩
    · rw [Bool.or_eq_false_iff] at h
      exact ⟨n, by omega, by simpa using h.1, by simpa using h.2⟩
theorem okB_n {q : LQ} {K lamp c n : Nat} (hc : c < n) (hb : K.testBit c = true) (hl : lamp < q 1 c) : okB q K lamp n = false := by
  cases e : okB q K lamp n with
  | false => rfl
  | true => have := okB_t n e c hc hb; omega
section FC
variable {h : mH} {q : LQ} {lamp K : Nat} {B : Nat → Nat}
theorem t132 {a s : Nat} (wd : Wd h) (H : LibS h a q) (W : QW q) (hl : lamp ≤ 12) (hB : ∀ s, B s = bsF q lamp s B) (hs : s < 256) (hv : ∀ j, j < s → sub j s → mI h 82 j = iN (B j)) : f132 h 80 a (iN s) (iN lamp) = some (iN (mn (bsP q s) (fun c => nx lamp (B (nd s (1 <<< c))) (q 1 c)) (q 0 0) 1584)) := by
  have hn := W.1.1
  have hl1 := W.1.2.2.1
  unfold f132 f132_5 mn
  simp only [L0, L1, L2, L3, L4, L5, L6, L7, L8, L9, L10, L11, L12, L13, L14, L15, L16, L17, L18, L19, L20, L21, L22, L23, L24, L25, L27, L33, L39, L40, L45, L48, L57, L60, L72, L90, L97, L98, L99, L100, L121, L122, L242, L255, L256, L580, L600, L1000, L1584, L1000000, Ln1, iN_add, iN_and, iN_or, iN_nd, iN_shl, iN_shr, iN_cl, iN_in, iN_mul]
  refine lp_up (body := f132_8 h 80 a (iN s) (iN lamp)) (fun c x => (iN x, iN c)) (fun c x => if bsP q s c = true then min x (nx lamp (B (nd s (1 <<< c))) (q 1 c)) else x) iN (fun _ x => x ≤ 1584) (q 0 0) (a0 := 1584) (Nat.le_refl _) (fun c x hc hx => by
    show (if bsP q s c = true then min x (nx lamp (B (nd s (1 <<< c))) (q 1 c)) else x) ≤ 1584
    split <;> omega) ?_ ?_ (by omega)
  · intro c x hc hx
    have g1 := nd_le s (1 <<< c)
    have g2 := q3_8 W (c := c) (by omega)
    have g3 := nd_le (q 3 c) (nd s (1 <<< c))
    have g5 := W.2.2.1 c (by omega)
    unfold f132_8 f132_27 f132_57 f132_79 f132_81 f132_118 f132_120 f132_129 bsP
    simp (disch := omega) only [gT, nbeq, Option.isSome_some, Option.getD_some, Bool.and_true, Bool.true_and, Bool.and_self, mX_some, bS, bN_if, bN_01, i1_01, i0_01, if_true, if_false, Bool.false_eq_true, false_and, and_false, and_true, true_and, and_self, Bool.or_false, Bool.false_or, Bool.or_true, Bool.true_or, Bool.false_and, Bool.and_false, decide_true, decide_false, L0, L1, L2, L3, L4, L5, L6, L7, L8, L9, L10, L11, L12, L13, L14, L15, L16, L17, L18, L19, L20, L21, L22, L23, L24, L25, L27, L33, L39, L40, L45, L48, L57, L60, L72, L90, L97, L98, L99, L100, L121, L122, L242, L255, L256, L580, L600, L1000, L1584, L1000000, Ln1, iN_add, iN_and, iN_or, iN_nd, iN_shl, iN_shr, iN_cl, iN_in, iN_mul, H.k, H.r0, H.r1, H.r2, H.r3, H.r4, H.r5, H.k1, H.k2, H.k3, H.k4, H.k5, H.k6, H.n, H.m, H.lp, H.hr, H.tp, H.ln, H.lk, H.me, H.he, k80 wd, r80_0 wd, r80_4 wd, r80_5 wd, r80_6 wd, k82 wd, ile_n, ieq_d]
    cases hb : s.testBit c with
    | false =>
      rw [nd_self hb]
      simp (disch := omega) only [if_true, gT, nbeq, Option.isSome_some, Option.getD_some, Bool.and_true, Bool.true_and, Bool.and_self, mX_some, bS, bN_if, bN_01, i1_01, i0_01, if_true, if_false, Bool.false_eq_true, false_and, and_false, and_true, true_and, and_self, Bool.or_false, Bool.false_or, Bool.or_true, Bool.true_or, Bool.false_and, Bool.and_false, decide_true, decide_false]
    | true =>
      have g4 := nd_less hb
      rw [if_neg (by omega)]
      by_cases e : nd (q 3 c) (nd s (1 <<< c)) = 0
      · have g6 := hv _ g4 (fun j hj => by rw [nd_tb, Bool.and_eq_true] at hj; exact hj.1)
        have g7 := bs_le (q := q) hl hB (nd s (1 <<< c))
        simp (disch := omega) only [e, if_true, gT, nbeq, Option.isSome_some, Option.getD_some, Bool.and_true, Bool.true_and, Bool.and_self, mX_some, bS, bN_if, bN_01, i1_01, i0_01, if_true, if_false, Bool.false_eq_true, false_and, and_false, and_true, true_and, and_self, Bool.or_false, Bool.false_or, Bool.or_true, Bool.true_or, Bool.false_and, Bool.and_false, decide_true, decide_false, L0, L1, L2, L3, L4, L5, L6, L7, L8, L9, L10, L11, L12, L13, L14, L15, L16, L17, L18, L19, L20, L21, L22, L23, L24, L25, L27, L33, L39, L40, L45, L48, L57, L60, L72, L90, L97, L98, L99, L100, L121, L122, L242, L255, L256, L580, L600, L1000, L1584, L1000000, Ln1, iN_add, iN_and, iN_or, iN_nd, iN_shl, iN_shr, iN_cl, iN_in, iN_mul, iN_in, iN_cl, g6]
        generalize B (nd s (1 <<< c)) = w at g7
        simp (disch := omega) only [i16nz, gT, nbeq, Option.isSome_some, Option.getD_some, Bool.and_true, Bool.true_and, Bool.and_self, mX_some, bS, bN_if, bN_01, i1_01, i0_01, if_true, if_false, Bool.false_eq_true, false_and, and_false, and_true, true_and, and_self, Bool.or_false, Bool.false_or, Bool.or_true, Bool.true_or, Bool.false_and, Bool.and_false, decide_true, decide_false, iN_div, iN_mul, iN_sub, iN_add, ilt_d]
        have e5 : w - w / 16 * 16 = w % 16 := by omega
        rw [e5]
        unfold nx
        by_cases e6 : w % 16 + q 1 c ≤ lamp
        · rw [if_neg (by omega), if_pos e6, if_neg (show ¬ (1 : Nat) = 0 by omega)]
          by_cases e7 : w + q 1 c < x
          · rw [if_pos e7, Nat.min_eq_right (by omega)]
          · rw [if_neg e7, Nat.min_eq_left (by omega)]
        · rw [if_pos (by omega), if_neg e6]
          by_cases e7 : w / 16 * 16 + 16 + q 1 c < x
          · rw [if_pos e7, Nat.min_eq_right (by omega)]
          · rw [if_neg e7, Nat.min_eq_left (by omega)]
      · simp (disch := omega) only [e, if_false, gT, nbeq, Option.isSome_some, Option.getD_some, Bool.and_true, Bool.true_and, Bool.and_self, mX_some, bS, bN_if, bN_01, i1_01, i0_01, if_true, if_false, Bool.false_eq_true, false_and, and_false, and_true, true_and, and_self, Bool.or_false, Bool.false_or, Bool.or_true, Bool.true_or, Bool.false_and, Bool.and_false, decide_true, decide_false]
  · intro x hx
    unfold f132_8
    simp (disch := omega) only [gT, nbeq, Option.isSome_some, Option.getD_some, Bool.and_true, Bool.true_and, Bool.and_self, mX_some, bS, bN_if, bN_01, i1_01, i0_01, if_true, if_false, Bool.false_eq_true, false_and, and_false, and_true, true_and, and_self, Bool.or_false, Bool.false_or, Bool.or_true, Bool.true_or, Bool.false_and, Bool.and_false, decide_true, decide_false, L0, L1, L2, L3, L4, L5, L6, L7, L8, L9, L10, L11, L12, L13, L14, L15, L16, L17, L18, L19, L20, L21, L22, L23, L24, L25, L27, L33, L39, L40, L45, L48, L57, L60, L72, L90, L97, L98, L99, L100, L121, L122, L242, L255, L256, L580, L600, L1000, L1584, L1000000, Ln1, iN_add, iN_and, iN_or, iN_nd, iN_shl, iN_shr, iN_cl, iN_in, iN_mul, H.k, H.r0, H.r1, H.r2, H.r3, H.r4, H.r5, H.k1, H.k2, H.k3, H.k4, H.k5, H.k6, H.n, H.m, H.lp, H.hr, H.tp, H.ln, H.lk, H.me, H.he, ile_p]
theorem p82 {a : Nat} (pa : a + 7 ≤ 80) : ∀ i, i < 7 → (fun b => Nat.beq b 82) (a + i) = false := fun i hi => by
  show Nat.beq (a + i) 82 = false
  cases e : Nat.beq (a + i) 82 with
  | false => rfl
  | true => have := Nat.eq_of_beq_eq_true e; omega
theorem t131b {a : Nat} (wd : Wd h) (H : LibS h a q) (W : QW q) (pa : a + 7 ≤ 80) (hl : lamp ≤ 12) (hB : ∀ s, B s = bsF q lamp s B) (hK : K < 2 ^ q 0 0) : ∃ h', mLoop (f131_50 80 a (iN K) (iN lamp)) mFuel (iN 1, mSI h 82 0 (iN lamp)) = some (iN (B K / 16), h') ∧ Fr (fun b => Nat.beq b 82) h h' := by
  have hn := W.1.1
  have h8 := pw_8 hn
  have pn := p82 pa
  have := lp_inv (body := f131_50 80 a (iN K) (iN lamp)) (P := fun i z => z.1 = iN (i + 1) ∧ Fr (fun b => Nat.beq b 82) h z.2 ∧ ∀ j, j ≤ i → sub j K → mI z.2 82 j = iN (B j)) (Q := fun r => r.1 = iN (B K / 16) ∧ Fr (fun b => Nat.beq b 82) h r.2) K (fun i z hi hP => by
    obtain ⟨z1, z2, z3⟩ := hP
    have w2 := wd.fr z2
    have H2 := H.fr z2 pn
    have g1 := nd_le (i + 1) K
    by_cases e : nd (i + 1) K = 0
    · have hsb := nd_sub.1 e
      have e2 := t132 (s := i + 1) w2 H2 W hl hB (by omega) (fun j hj hjs => z3 j (by omega) (fun k hk => hsb k (hjs k hk)))
      have e3 : mn (bsP q (i + 1)) (fun c => nx lamp (B (nd (i + 1) (1 <<< c))) (q 1 c)) (q 0 0) 1584 = B (i + 1) := by
        rw [hB (i + 1)]
        unfold bsF
        rw [if_neg (by omega)]
      rw [e3] at e2
      refine Or.inl ⟨(iN (i + 2), mSI z.2 82 (i + 1) (iN (B (i + 1)))), ?_, rfl, z2.si (by decide), fun j hj hjK => ?_⟩
      · unfold f131_50 f131_80
        rw [z1]
        simp (disch := omega) only [gT, nbeq, Option.isSome_some, Option.getD_some, Bool.and_true, Bool.true_and, Bool.and_self, mX_some, bS, bN_if, bN_01, i1_01, i0_01, if_true, if_false, Bool.false_eq_true, false_and, and_false, and_true, true_and, and_self, Bool.or_false, Bool.false_or, Bool.or_true, Bool.true_or, Bool.false_and, Bool.and_false, decide_true, decide_false, L0, L1, L2, L3, L4, L5, L6, L7, L8, L9, L10, L11, L12, L13, L14, L15, L16, L17, L18, L19, L20, L21, L22, L23, L24, L25, L27, L33, L39, L40, L45, L48, L57, L60, L72, L90, L97, L98, L99, L100, L121, L122, L242, L255, L256, L580, L600, L1000, L1584, L1000000, Ln1, iN_add, iN_and, iN_or, iN_nd, iN_shl, iN_shr, iN_cl, iN_in, iN_mul, k80 w2, r80_0 w2, r80_4 w2, r80_5 w2, r80_6 w2, k82 w2, ilt_n, e, if_true, e2, iN_in, iN_cl]
      · by_cases e4 : j = i + 1
        · subst e4; simp (disch := omega) only [si_ne, si_nk, si_eq]
        · simp (disch := omega) only [si_ne, si_nk, si_eq]; exact z3 j (by omega) hjK
    · refine Or.inl ⟨(iN (i + 2), z.2), ?_, rfl, z2, fun j hj hjK => ?_⟩
      · unfold f131_50 f131_80
        rw [z1]
        simp (disch := omega) only [gT, nbeq, Option.isSome_some, Option.getD_some, Bool.and_true, Bool.true_and, Bool.and_self, mX_some, bS, bN_if, bN_01, i1_01, i0_01, if_true, if_false, Bool.false_eq_true, false_and, and_false, and_true, true_and, and_self, Bool.or_false, Bool.false_or, Bool.or_true, Bool.true_or, Bool.false_and, Bool.and_false, decide_true, decide_false, L0, L1, L2, L3, L4, L5, L6, L7, L8, L9, L10, L11, L12, L13, L14, L15, L16, L17, L18, L19, L20, L21, L22, L23, L24, L25, L27, L33, L39, L40, L45, L48, L57, L60, L72, L90, L97, L98, L99, L100, L121, L122, L242, L255, L256, L580, L600, L1000, L1584, L1000000, Ln1, iN_add, iN_and, iN_or, iN_nd, iN_shl, iN_shr, iN_cl, iN_in, iN_mul, ilt_n, ieq_n]
      · by_cases e4 : j = i + 1
        · subst e4; exact absurd (nd_sub.2 hjK) e
        · exact z3 j (by omega) hjK) (fun z hP => by
    obtain ⟨z1, z2, z3⟩ := hP
    have w2 := wd.fr z2
    have g7 := bs_le (q := q) hl hB K
    refine ⟨(iN (B K / 16), z.2), ?_, rfl, z2⟩
    unfold f131_50
    rw [z1]
    simp (disch := omega) only [gT, nbeq, Option.isSome_some, Option.getD_some, Bool.and_true, Bool.true_and, Bool.and_self, mX_some, bS, bN_if, bN_01, i1_01, i0_01, if_true, if_false, Bool.false_eq_true, false_and, and_false, and_true, true_and, and_self, Bool.or_false, Bool.false_or, Bool.or_true, Bool.true_or, Bool.false_and, Bool.and_false, decide_true, decide_false, L0, L1, L2, L3, L4, L5, L6, L7, L8, L9, L10, L11, L12, L13, L14, L15, L16, L17, L18, L19, L20, L21, L22, L23, L24, L25, L27, L33, L39, L40, L45, L48, L57, L60, L72, L90, L97, L98, L99, L100, L121, L122, L242, L255, L256, L580, L600, L1000, L1584, L1000000, Ln1, iN_add, iN_and, iN_or, iN_nd, iN_shl, iN_shr, iN_cl, iN_in, iN_mul, ilt_p, k80 w2, r80_0 w2, r80_4 w2, r80_5 w2, r80_6 w2, k82 w2, z3 _ (Nat.le_refl _) (fun j hj => hj), i16nz, iN_div]) (by omega) (s := (iN 1, mSI h 82 0 (iN lamp))) ⟨rfl, Fr.rfl.si (by decide), fun j hj _ => by
      have : j = 0 := by omega
      subst this
      simp (disch := omega) only [si_ne, si_nk, si_eq]
      rw [hB 0]
      unfold bsF
      rw [if_pos rfl]⟩
  obtain ⟨⟨r, h'⟩, r1, r2, r3⟩ := this
  have r2' : r = iN (B K / 16) := r2
  rw [r2'] at r1
  exact ⟨h', r1, r3⟩
/-- how few days some CHAPTERS take -/
def fwO (q : LQ) (lamp K : Nat) (B : Nat → Nat) : Option Nat := if okB q K lamp (q 0 0) = true then some (B K / 16) else none
theorem t131 {a : Nat} (wd : Wd h) (H : LibS h a q) (W : QW q) (pa : a + 7 ≤ 80) (hl : lamp ≤ 12) (hB : ∀ s, B s = bsF q lamp s B) (hK : K < 2 ^ q 0 0) : ∃ h', f131 h 80 a (iN K) (iN lamp) = some (zN (fwO q lamp K B), h') ∧ Fr (fun b => Nat.beq b 82) h h' := by
  have hn := W.1.1
  have h8 := pw_8 hn
  obtain ⟨h1, b1, b2⟩ := t131b wd H W pa hl hB hK
  unfold f131
  have := lp_inv (body := f131_3 h 80 a (iN K) (iN lamp)) (P := fun i z => z = iN i ∧ okB q K lamp i = true) (Q := fun r => ∃ h', r = (zN (fwO q lamp K B), h') ∧ Fr (fun b => Nat.beq b 82) h h') (q 0 0) (fun i z hi hP => by
    obtain ⟨rfl, ho⟩ := hP
    have g5 := W.2.2.1 i (by omega)
    have go : (!K.testBit i || decide (q 1 i ≤ lamp)) = true → f131_3 h 80 a (iN K) (iN lamp) (iN i) = some (.inl (iN (i + 1))) := fun e => by
      unfold f131_3 f131_34
      simp (disch := omega) only [gT, nbeq, Option.isSome_some, Option.getD_some, Bool.and_true, Bool.true_and, Bool.and_self, mX_some, bS, bN_if, bN_01, i1_01, i0_01, if_true, if_false, Bool.false_eq_true, false_and, and_false, and_true, true_and, and_self, Bool.or_false, Bool.false_or, Bool.or_true, Bool.true_or, Bool.false_and, Bool.and_false, decide_true, decide_false, L0, L1, L2, L3, L4, L5, L6, L7, L8, L9, L10, L11, L12, L13, L14, L15, L16, L17, L18, L19, L20, L21, L22, L23, L24, L25, L27, L33, L39, L40, L45, L48, L57, L60, L72, L90, L97, L98, L99, L100, L121, L122, L242, L255, L256, L580, L600, L1000, L1584, L1000000, Ln1, iN_add, iN_and, iN_or, iN_nd, iN_shl, iN_shr, iN_cl, iN_in, iN_mul, H.k, H.r0, H.r1, H.r2, H.r3, H.r4, H.r5, H.k1, H.k2, H.k3, H.k4, H.k5, H.k6, H.n, H.m, H.lp, H.hr, H.tp, H.ln, H.lk, H.me, H.he, ile_n, t71]
      cases hb : K.testBit i with
      | false => simp only [gT, nbeq, Option.isSome_some, Option.getD_some, Bool.and_true, Bool.true_and, Bool.and_self, mX_some, bS, bN_if, bN_01, i1_01, i0_01, if_true, if_false, Bool.false_eq_true, false_and, and_false, and_true, true_and, and_self, Bool.or_false, Bool.false_or, Bool.or_true, Bool.true_or, Bool.false_and, Bool.and_false, decide_true, decide_false]
      | true =>
        rw [hb] at e
        have e2 : q 1 i ≤ lamp := by simpa using e
        simp (disch := omega) only [gT, nbeq, Option.isSome_some, Option.getD_some, Bool.and_true, Bool.true_and, Bool.and_self, mX_some, bS, bN_if, bN_01, i1_01, i0_01, if_true, if_false, Bool.false_eq_true, false_and, and_false, and_true, true_and, and_self, Bool.or_false, Bool.false_or, Bool.or_true, Bool.true_or, Bool.false_and, Bool.and_false, decide_true, decide_false, ile_p]
    cases e : (!K.testBit i || decide (q 1 i ≤ lamp)) with
    | true => exact Or.inl ⟨_, go e, rfl, by simp only [okB]; rw [ho, e]; rfl⟩
    | false =>
      rw [Bool.or_eq_false_iff] at e
      have e1 : K.testBit i = true := by simpa using e.1
      have e2 : lamp < q 1 i := by simpa using e.2
      refine Or.inr ⟨(jN, h), ?_, h, ?_, Fr.rfl⟩
      · unfold f131_3
        simp (disch := omega) only [gT, nbeq, Option.isSome_some, Option.getD_some, Bool.and_true, Bool.true_and, Bool.and_self, mX_some, bS, bN_if, bN_01, i1_01, i0_01, if_true, if_false, Bool.false_eq_true, false_and, and_false, and_true, true_and, and_self, Bool.or_false, Bool.false_or, Bool.or_true, Bool.true_or, Bool.false_and, Bool.and_false, decide_true, decide_false, L0, L1, L2, L3, L4, L5, L6, L7, L8, L9, L10, L11, L12, L13, L14, L15, L16, L17, L18, L19, L20, L21, L22, L23, L24, L25, L27, L33, L39, L40, L45, L48, L57, L60, L72, L90, L97, L98, L99, L100, L121, L122, L242, L255, L256, L580, L600, L1000, L1584, L1000000, Ln1, iN_add, iN_and, iN_or, iN_nd, iN_shl, iN_shr, iN_cl, iN_in, iN_mul, H.k, H.r0, H.r1, H.r2, H.r3, H.r4, H.r5, H.k1, H.k2, H.k3, H.k4, H.k5, H.k6, H.n, H.m, H.lp, H.hr, H.tp, H.ln, H.lk, H.me, H.he, ile_n, t71, e1]
      · unfold fwO
        rw [okB_n hi e1 e2]
        rfl) (fun z hP => by
    obtain ⟨rfl, ho⟩ := hP
    refine ⟨(iN (B K / 16), h1), ?_, h1, ?_, b2⟩
    · unfold f131_3
      simp (disch := omega) only [gT, nbeq, Option.isSome_some, Option.getD_some, Bool.and_true, Bool.true_and, Bool.and_self, mX_some, bS, bN_if, bN_01, i1_01, i0_01, if_true, if_false, Bool.false_eq_true, false_and, and_false, and_true, true_and, and_self, Bool.or_false, Bool.false_or, Bool.or_true, Bool.true_or, Bool.false_and, Bool.and_false, decide_true, decide_false, L0, L1, L2, L3, L4, L5, L6, L7, L8, L9, L10, L11, L12, L13, L14, L15, L16, L17, L18, L19, L20, L21, L22, L23, L24, L25, L27, L33, L39, L40, L45, L48, L57, L60, L72, L90, L97, L98, L99, L100, L121, L122, L242, L255, L256, L580, L600, L1000, L1584, L1000000, Ln1, iN_add, iN_and, iN_or, iN_nd, iN_shl, iN_shr, iN_cl, iN_in, iN_mul, H.k, H.r0, H.r1, H.r2, H.r3, H.r4, H.r5, H.k1, H.k2, H.k3, H.k4, H.k5, H.k6, H.n, H.m, H.lp, H.hr, H.tp, H.ln, H.lk, H.me, H.he, ile_p, k80 wd, r80_0 wd, r80_4 wd, r80_5 wd, r80_6 wd, k82 wd, b1]
    · unfold fwO
      rw [if_pos ho]
      rfl) (by omega) (s := iN 0) ⟨rfl, rfl⟩
  obtain ⟨r, r1, h', r2, r3⟩ := this
  rw [r2] at r1
  exact ⟨h', r1, r3⟩
end FC
