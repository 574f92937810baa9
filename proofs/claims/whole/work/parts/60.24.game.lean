/-! game -/
theorem iN_subI {a b : Nat} (ha : a < 1000000000) (hb : b < 1000000000) : (iN a - iN b).toInt = (a : Int) - b := by
  rw [Int32.toInt_sub, iN_toInt (by omega), iN_toInt (by omega)]
  exact Int.bmod_eq_of_le (by omega) (by omega)
theorem sub_lt {α : Type} {x y : α} {a b c : Nat} (ha : a < 1000000000) (hb : b < 1000000000) (hc : c < 1000000000) : (if iN a - iN b < iN c then x else y) = if a < b + c then x else y := by
  have e : (iN a - iN b < iN c) ↔ a < b + c := by
    rw [Int32.lt_iff_toInt_lt, iN_subI ha hb, iN_toInt (by omega)]; omega
  by_cases h : a < b + c
  · rw [if_pos h, if_pos (e.2 h)]
  · rw [if_neg h, if_neg (fun c => h (e.1 c))]
/-- the first of n from k on -/
theorem fz_snoc (Z : Nat → Bool) : ∀ n k, fz Z (n + 1) k = if (fz Z n k).isSome = true then fz Z n k else if Z (k + n) = true then some (k + n) else none := by
  intro n
  induction n with
  | zero => intro k; simp only [fz, Nat.add_zero]; rfl
  | succ n ih =>
    intro k
    show (if Z k = true then some k else fz Z (n + 1) (k + 1)) = _
    rw [ih (k + 1)]
    simp only [fz]
    by_cases h : Z k = true
    · simp only [h, if_true]; rfl
    · simp only [h, if_false, show k + 1 + n = k + (n + 1) by omega]; rfl
theorem dn_fz (P : Nat → Bool) : ∀ n x, dn (fun c w => if P c = true then some c else w) n x = if (fz P n 0).isSome = true then fz P n 0 else x := by
  intro n
  induction n with
  | zero => intro x; rfl
  | succ n ih =>
    intro x
    show dn _ n (if P n = true then some n else x) = _
    rw [ih, fz_snoc]
    cases hf : (fz P n 0).isSome with
    | true => simp only [hf, if_true]
    | false =>
      simp only [Bool.false_eq_true, if_false, Nat.zero_add]
      by_cases h : P n = true
      · simp only [h, if_true]; rfl
      · simp only [h, if_false]; rfl
theorem fz_lt {Z : Nat → Bool} : ∀ {n k c}, fz Z n k = some c → c < k + n := by
  intro n
  induction n with
  | zero => intro k c h; cases h
  | succ n ih =>
    intro k c h
    simp only [fz] at h
    split at h
    · cases h; omega
    · have := ih h; omega
/-- a good move from the set s, the wins being w -/
def gd (q : LQ) (hh : Nat) (w : Nat → Bool) (s c : Nat) : Bool := mayB q s c && decide (hs q s + q 1 c ≤ hh) && !w (s ||| 1 <<< c)
def wm (q : LQ) (hh : Nat) (w : Nat → Bool) (s : Nat) : Option Nat := fz (gd q hh w s) (q 0 0) 0
def gmf (q : LQ) (hh : Nat) : Nat → (Nat → Bool) × Option Nat → (Nat → Bool) × Option Nat := fun s x => (ud x.1 s (wm q hh x.1 s).isSome, wm q hh x.1 s)
theorem or_gt {s c n : Nat} (hs : s < 2 ^ n) (hc : c < n) (hb : s.testBit c = false) : s < s ||| 1 <<< c ∧ s ||| 1 <<< c < 2 ^ n := by
  refine ⟨?_, or_lt hs (sh1_lt hc)⟩
  have h1 : s ≤ s ||| 1 <<< c := Nat.left_le_or
  have h2 : s ≠ s ||| 1 <<< c := by
    intro e
    have := congrArg (fun z => z.testBit c) e
    simp only [Nat.testBit_or, tb_sh, hb] at this
    simp at this
  omega
section LF
variable {h : mH} {a : Nat} {q : LQ}
theorem t104 (wd : Wd h) (H : LibS h a q) (W : QW q) {hh s : Nat} {w : Nat → Bool} (hb : hh ≤ 72) (hs2 : s < 2 ^ q 0 0) (hw : ∀ j, s < j → j < 2 ^ q 0 0 → mI h 83 j = bN (w j)) : f104 h 80 a (iN s) (iN hh - iN (hs q s)) = some (zN (wm q hh w s)) := by
  have hn := W.1.1
  have h8 := pw_8 hn
  have l1 := hs_le W (b := s)
  have ho := opn_lt W s
  unfold f104
  simp (disch := omega) only [gT, nbeq, Option.isSome_some, Option.getD_some, Bool.and_true, Bool.true_and, Bool.and_self, mX_some, bS, bN_if, bN_01, i1_01, i0_01, if_true, if_false, Bool.false_eq_true, false_and, and_false, and_true, true_and, and_self, Bool.or_false, Bool.false_or, Bool.or_true, Bool.true_or, Bool.false_and, Bool.and_false, decide_true, decide_false, L0, L1, L2, L3, L4, L5, L6, L7, L8, L9, L10, L11, L12, L13, L14, L15, L16, L17, L18, L19, L20, L21, L22, L23, L24, L25, L27, L33, L39, L40, L45, L48, L57, L60, L72, L90, L97, L98, L99, L100, L121, L122, L242, L255, L256, L580, L600, L1000, L1584, L1000000, Ln1, iN_add, iN_and, iN_or, iN_nd, iN_shl, iN_shr, iN_cl, iN_in, iN_mul, H.k, t70 H W]
  have := lp_inv (body := f104_10 h 80 a (iN s) (iN hh - iN (hs q s)) (iN (opn q s))) (P := fun i z => z = iN i ∧ fz (gd q hh w s) (q 0 0) 0 = fz (gd q hh w s) (q 0 0 - i) i) (Q := fun r => r = zN (wm q hh w s)) (q 0 0) (fun i z hi hP => by
    obtain ⟨rfl, ho2⟩ := hP
    have h9 := W.2.2.1 i (by omega)
    have hst : q 0 0 - i = (q 0 0 - (i + 1)) + 1 := by omega
    rw [hst] at ho2
    simp only [fz] at ho2
    have tbo : (opn q s).testBit i = mayB q s i := by rw [opn_ups, ups_tb]; simp [hi]
    have cont : gd q hh w s i = false → f104_10 h 80 a (iN s) (iN hh - iN (hs q s)) (iN (opn q s)) (iN i) = some (.inl (iN (i + 1))) → (∃ s', f104_10 h 80 a (iN s) (iN hh - iN (hs q s)) (iN (opn q s)) (iN i) = some (.inl s') ∧ (s' = iN (i + 1) ∧ fz (gd q hh w s) (q 0 0) 0 = fz (gd q hh w s) (q 0 0 - (i + 1)) (i + 1))) := fun e1 e2 => ⟨_, e2, rfl, by rw [ho2, e1]; rfl⟩
    cases hm : mayB q s i with
    | false =>
      refine Or.inl (cont (by unfold gd; rw [hm]; rfl) ?_)
      unfold f104_10 f104_57
      simp (disch := omega) only [gT, nbeq, Option.isSome_some, Option.getD_some, Bool.and_true, Bool.true_and, Bool.and_self, mX_some, bS, bN_if, bN_01, i1_01, i0_01, if_true, if_false, Bool.false_eq_true, false_and, and_false, and_true, true_and, and_self, Bool.or_false, Bool.false_or, Bool.or_true, Bool.true_or, Bool.false_and, Bool.and_false, decide_true, decide_false, L0, L1, L2, L3, L4, L5, L6, L7, L8, L9, L10, L11, L12, L13, L14, L15, L16, L17, L18, L19, L20, L21, L22, L23, L24, L25, L27, L33, L39, L40, L45, L48, L57, L60, L72, L90, L97, L98, L99, L100, L121, L122, L242, L255, L256, L580, L600, L1000, L1584, L1000000, Ln1, iN_add, iN_and, iN_or, iN_nd, iN_shl, iN_shr, iN_cl, iN_in, iN_mul, H.k, H.r0, H.r1, H.r2, H.r3, H.r4, H.r5, H.k1, H.k2, H.k3, H.k4, H.k5, H.k6, H.n, H.m, H.lp, H.hr, H.tp, H.ln, H.lk, H.me, H.he, ile_n, t71, tbo, hm]
    | true =>
      have hsb : s.testBit i = false := by
        unfold mayB at hm
        rw [Bool.and_eq_true] at hm
        simpa using hm.1
      have og := or_gt hs2 hi hsb
      by_cases c2 : hs q s + q 1 i ≤ hh
      · have hv := hw (s ||| 1 <<< i) og.1 og.2
        cases hww : w (s ||| 1 <<< i) with
        | true =>
          refine Or.inl (cont (by unfold gd; rw [hm, hww]; simp) ?_)
          unfold f104_10 f104_57
          simp (disch := omega) only [gT, nbeq, Option.isSome_some, Option.getD_some, Bool.and_true, Bool.true_and, Bool.and_self, mX_some, bS, bN_if, bN_01, i1_01, i0_01, if_true, if_false, Bool.false_eq_true, false_and, and_false, and_true, true_and, and_self, Bool.or_false, Bool.false_or, Bool.or_true, Bool.true_or, Bool.false_and, Bool.and_false, decide_true, decide_false, L0, L1, L2, L3, L4, L5, L6, L7, L8, L9, L10, L11, L12, L13, L14, L15, L16, L17, L18, L19, L20, L21, L22, L23, L24, L25, L27, L33, L39, L40, L45, L48, L57, L60, L72, L90, L97, L98, L99, L100, L121, L122, L242, L255, L256, L580, L600, L1000, L1584, L1000000, Ln1, iN_add, iN_and, iN_or, iN_nd, iN_shl, iN_shr, iN_cl, iN_in, iN_mul, H.k, H.r0, H.r1, H.r2, H.r3, H.r4, H.r5, H.k1, H.k2, H.k3, H.k4, H.k5, H.k6, H.n, H.m, H.lp, H.hr, H.tp, H.ln, H.lk, H.me, H.he, k80 wd, r80_0 wd, r80_4 wd, r80_5 wd, r80_6 wd, k83 wd, ile_n, t71, tbo, hm, sub_lt]
          rw [if_neg (by omega)]
          simp (disch := omega) only [hv, hww, gT, nbeq, Option.isSome_some, Option.getD_some, Bool.and_true, Bool.true_and, Bool.and_self, mX_some, bS, bN_if, bN_01, i1_01, i0_01, if_true, if_false, Bool.false_eq_true, false_and, and_false, and_true, true_and, and_self, Bool.or_false, Bool.false_or, Bool.or_true, Bool.true_or, Bool.false_and, Bool.and_false, decide_true, decide_false]
        | false =>
          refine Or.inr ⟨iN i, ?_, ?_⟩
          · unfold f104_10
            simp (disch := omega) only [gT, nbeq, Option.isSome_some, Option.getD_some, Bool.and_true, Bool.true_and, Bool.and_self, mX_some, bS, bN_if, bN_01, i1_01, i0_01, if_true, if_false, Bool.false_eq_true, false_and, and_false, and_true, true_and, and_self, Bool.or_false, Bool.false_or, Bool.or_true, Bool.true_or, Bool.false_and, Bool.and_false, decide_true, decide_false, L0, L1, L2, L3, L4, L5, L6, L7, L8, L9, L10, L11, L12, L13, L14, L15, L16, L17, L18, L19, L20, L21, L22, L23, L24, L25, L27, L33, L39, L40, L45, L48, L57, L60, L72, L90, L97, L98, L99, L100, L121, L122, L242, L255, L256, L580, L600, L1000, L1584, L1000000, Ln1, iN_add, iN_and, iN_or, iN_nd, iN_shl, iN_shr, iN_cl, iN_in, iN_mul, H.k, H.r0, H.r1, H.r2, H.r3, H.r4, H.r5, H.k1, H.k2, H.k3, H.k4, H.k5, H.k6, H.n, H.m, H.lp, H.hr, H.tp, H.ln, H.lk, H.me, H.he, k80 wd, r80_0 wd, r80_4 wd, r80_5 wd, r80_6 wd, k83 wd, ile_n, t71, tbo, hm, sub_lt]
            rw [if_neg (by omega)]
            simp (disch := omega) only [hv, hww, gT, nbeq, Option.isSome_some, Option.getD_some, Bool.and_true, Bool.true_and, Bool.and_self, mX_some, bS, bN_if, bN_01, i1_01, i0_01, if_true, if_false, Bool.false_eq_true, false_and, and_false, and_true, true_and, and_self, Bool.or_false, Bool.false_or, Bool.or_true, Bool.true_or, Bool.false_and, Bool.and_false, decide_true, decide_false]
          · have : gd q hh w s i = true := by unfold gd; rw [hm, hww, decide_eq_true c2]; rfl
            rw [this] at ho2
            show iN i = zN (fz (gd q hh w s) (q 0 0) 0)
            rw [ho2]; rfl
      · refine Or.inl (cont (by unfold gd; rw [decide_eq_false c2]; simp) ?_)
        unfold f104_10 f104_57
        simp (disch := omega) only [gT, nbeq, Option.isSome_some, Option.getD_some, Bool.and_true, Bool.true_and, Bool.and_self, mX_some, bS, bN_if, bN_01, i1_01, i0_01, if_true, if_false, Bool.false_eq_true, false_and, and_false, and_true, true_and, and_self, Bool.or_false, Bool.false_or, Bool.or_true, Bool.true_or, Bool.false_and, Bool.and_false, decide_true, decide_false, L0, L1, L2, L3, L4, L5, L6, L7, L8, L9, L10, L11, L12, L13, L14, L15, L16, L17, L18, L19, L20, L21, L22, L23, L24, L25, L27, L33, L39, L40, L45, L48, L57, L60, L72, L90, L97, L98, L99, L100, L121, L122, L242, L255, L256, L580, L600, L1000, L1584, L1000000, Ln1, iN_add, iN_and, iN_or, iN_nd, iN_shl, iN_shr, iN_cl, iN_in, iN_mul, H.k, H.r0, H.r1, H.r2, H.r3, H.r4, H.r5, H.k1, H.k2, H.k3, H.k4, H.k5, H.k6, H.n, H.m, H.lp, H.hr, H.tp, H.ln, H.lk, H.me, H.he, ile_n, t71, tbo, hm, sub_lt]
        rw [if_pos (by omega)]) (fun z hP => by
    obtain ⟨rfl, ho2⟩ := hP
    rw [Nat.sub_self] at ho2
    refine ⟨jN, ?_, by show jN = zN (fz (gd q hh w s) (q 0 0) 0); rw [ho2]; rfl⟩
    unfold f104_10
    simp (disch := omega) only [gT, nbeq, Option.isSome_some, Option.getD_some, Bool.and_true, Bool.true_and, Bool.and_self, mX_some, bS, bN_if, bN_01, i1_01, i0_01, if_true, if_false, Bool.false_eq_true, false_and, and_false, and_true, true_and, and_self, Bool.or_false, Bool.false_or, Bool.or_true, Bool.true_or, Bool.false_and, Bool.and_false, decide_true, decide_false, L0, L1, L2, L3, L4, L5, L6, L7, L8, L9, L10, L11, L12, L13, L14, L15, L16, L17, L18, L19, L20, L21, L22, L23, L24, L25, L27, L33, L39, L40, L45, L48, L57, L60, L72, L90, L97, L98, L99, L100, L121, L122, L242, L255, L256, L580, L600, L1000, L1584, L1000000, Ln1, iN_add, iN_and, iN_or, iN_nd, iN_shl, iN_shr, iN_cl, iN_in, iN_mul, H.k, H.r0, H.r1, H.r2, H.r3, H.r4, H.r5, H.k1, H.k2, H.k3, H.k4, H.k5, H.k6, H.n, H.m, H.lp, H.hr, H.tp, H.ln, H.lk, H.me, H.he, ile_p]) (by omega) (s := iN 0) ⟨rfl, rfl⟩
  obtain ⟨r, r1, r2⟩ := this
  rw [r1, r2]
end LF
section ML
variable {h : mH} {q : LQ}
theorem t250 (H : MoS h q) (W : QW q) {hh s c : Nat} {w : Nat → Bool} (hb : hh ≤ 72) (hs2 : s < 2 ^ q 0 0) (hc : c < q 0 0) (hw : ∀ j, s < j → j < 2 ^ q 0 0 → mI h 210 j = bN (w j)) : f250 h 193 (iN s) (iN c) (iN hh) = some (bN (gd q hh w s c)) := by
  have hn := W.1.1
  have h8 := pw_8 hn
  have wd := H.1
  have l1 := hs_le W (b := s)
  have h9 := W.2.2.1 c (by omega)
  unfold f250 f250_43 f250_44 gd
  simp (disch := omega) only [gT, nbeq, Option.isSome_some, Option.getD_some, Bool.and_true, Bool.true_and, Bool.and_self, mX_some, bS, bN_if, bN_01, i1_01, i0_01, if_true, if_false, Bool.false_eq_true, false_and, and_false, and_true, true_and, and_self, Bool.or_false, Bool.false_or, Bool.or_true, Bool.true_or, Bool.false_and, Bool.and_false, decide_true, decide_false, L0, L1, L2, L3, L4, L5, L6, L7, L8, L9, L10, L11, L12, L13, L14, L15, L16, L17, L18, L19, L20, L21, L22, L23, L24, L25, L27, L33, L39, L40, L45, L48, L57, L60, L72, L90, L97, L98, L99, L100, L121, L122, L242, L255, L256, L580, L600, L1000, L1584, L1000000, Ln1, iN_add, iN_and, iN_or, iN_nd, iN_shl, iN_shr, iN_cl, iN_in, iN_mul, k193 wd, r193_1 wd, r193_2 wd, r193_3 wd, r193_4 wd, r193_5 wd, r193_6 wd, r193_7 wd, r193_8 wd, r193_18 wd, r193_19 wd, r193_32 wd, r193_33 wd, r193_34 wd, r193_36 wd, r193_38 wd, r193_39 wd, r193_40 wd, r193_42 wd, r193_45 wd, r193_46 wd, r193_47 wd, r193_48 wd, r193_49 wd, r193_50 wd, k210 wd, t220 H W, t243 H W, t206 H, fl1, ilt_d]
  cases hm : mayB q s c with
  | false => simp only [gT, nbeq, Option.isSome_some, Option.getD_some, Bool.and_true, Bool.true_and, Bool.and_self, mX_some, bS, bN_if, bN_01, i1_01, i0_01, if_true, if_false, Bool.false_eq_true, false_and, and_false, and_true, true_and, and_self, Bool.or_false, Bool.false_or, Bool.or_true, Bool.true_or, Bool.false_and, Bool.and_false, decide_true, decide_false]; rfl
  | true =>
    have hsb : s.testBit c = false := by
      unfold mayB at hm
      rw [Bool.and_eq_true] at hm
      simpa using hm.1
    have og := or_gt hs2 hc hsb
    have hv := hw (s ||| 1 <<< c) og.1 og.2
    simp only [gT, nbeq, Option.isSome_some, Option.getD_some, Bool.and_true, Bool.true_and, Bool.and_self, mX_some, bS, bN_if, bN_01, i1_01, i0_01, if_true, if_false, Bool.false_eq_true, false_and, and_false, and_true, true_and, and_self, Bool.or_false, Bool.false_or, Bool.or_true, Bool.true_or, Bool.false_and, Bool.and_false, decide_true, decide_false]
    by_cases c2 : hs q s + q 1 c ≤ hh
    · rw [if_neg (by omega), decide_eq_true c2]
      simp (disch := omega) only [gT, nbeq, Option.isSome_some, Option.getD_some, Bool.and_true, Bool.true_and, Bool.and_self, mX_some, bS, bN_if, bN_01, i1_01, i0_01, if_true, if_false, Bool.false_eq_true, false_and, and_false, and_true, true_and, and_self, Bool.or_false, Bool.false_or, Bool.or_true, Bool.true_or, Bool.false_and, Bool.and_false, decide_true, decide_false, iN_in, iN_cl, hv]
      cases w (s ||| 1 <<< c) <;> simp only [gT, nbeq, Option.isSome_some, Option.getD_some, Bool.and_true, Bool.true_and, Bool.and_self, mX_some, bS, bN_if, bN_01, i1_01, i0_01, if_true, if_false, Bool.false_eq_true, false_and, and_false, and_true, true_and, and_self, Bool.or_false, Bool.false_or, Bool.or_true, Bool.true_or, Bool.false_and, Bool.and_false, decide_true, decide_false, Bool.not_true, Bool.not_false] <;> rfl
    · rw [if_pos (by omega), decide_eq_false c2]; rfl
end ML
