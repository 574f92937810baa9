/-! The reference's day is the class's. -/
def sm (f : Nat → Nat) : Nat → Nat
  | 0 => 0
  | n + 1 => sm f n + f n
theorem up_sm (f : Nat → Nat) (n x : Nat) : up (fun k y => y + f k) n x = x + sm f n := by
  induction n with
  | zero => rfl
  | succ n ih => simp only [up, sm, ih]; omega
theorem sm_congr {f g : Nat → Nat} {n : Nat} (h : ∀ k, k < n → f k = g k) : sm f n = sm g n := by
  induction n with
  | zero => rfl
  | succ n ih => simp only [sm]; rw [ih (fun k hk => h k (by omega)), h n (by omega)]
theorem sm_add (f g : Nat → Nat) (n : Nat) : sm (fun k => f k + g k) n = sm f n + sm g n := by
  induction n with
  | zero => rfl
  | succ n ih => simp only [sm, ih]; omega
theorem sm_zero (n : Nat) : sm (fun _ => 0) n = 0 := by
  induction n with
  | zero => rfl
  | succ n ih => simp only [sm, ih]
theorem sm_swap (g : Nat → Nat → Nat) (m n : Nat) : sm (fun c => sm (fun p => g p c) m) n = sm (fun p => sm (fun c => g p c) n) m := by
  induction n with
  | zero => simp only [sm]; exact (sm_zero m).symm
  | succ n ih => simp only [sm]; rw [ih, ← sm_add]
theorem sm_8 (b : Nat → Nat) (m : Nat) : sm b (8 * m) = sm (fun p => sm (fun c => b (8 * p + c)) 8) m := by
  induction m with
  | zero => rfl
  | succ m ih =>
    show sm b (8 * (m + 1)) = sm (fun p => sm (fun c => b (8 * p + c)) 8) m + sm (fun c => b (8 * m + c)) 8
    rw [← ih, show 8 * (m + 1) = 8 * m + 8 by omega]
    simp only [sm, Nat.add_zero]
    omega
theorem sm_tail {g : Nat → Nat} {n : Nat} : ∀ m, n ≤ m → (∀ c, n ≤ c → c < m → g c = 0) → sm g m = sm g n := by
  intro m
  induction m with
  | zero => intro h _; have : n = 0 := by omega
            rw [this]
  | succ m ih =>
    intro h hz
    by_cases e : n = m + 1
    · rw [e]
    · simp only [sm]; rw [ih (by omega) (fun c h1 h2 => hz c h1 (by omega)), hz m (by omega) (by omega)]; rfl
def fgn (q : LQ) (s : LSt) (k : Nat) : Nat := if fgB q s k = true then 1 else 0
def sDayM (q : LQ) (s : LSt) : LSt := (sLk s, nK q s, sDy s + 1, sRd s, sSk s, q 0 2, false, up (fun k x => x + fgn q s k) (8 * q 0 1) (sFg s))
/-- nothing is KNOWN of a CHAPTER that is not there -/
def KW (q : LQ) (s : LSt) : Prop := ∀ k, (sKn s k).isSome = true → k % 8 < q 0 0
theorem nK_n {q : LQ} {s : LSt} (K : KW q s) {k : Nat} (hk : ¬ k % 8 < q 0 0) : nK q s k = sKn s k := by
  have hn : ∀ k, ¬ k % 8 < q 0 0 → sKn s k = none := fun k hk => by
    cases e : sKn s k with
    | none => rfl
    | some v => exact absurd (K k (by rw [e]; rfl)) hk
  unfold nK
  split
  · rw [hn k hk]
    have : ups (whB s (k % 8)) (q 0 1) = 0 := by
      have : ups (whB s (k % 8)) (q 0 1) = ups (fun _ => false) (q 0 1) := ups_congr (fun p _ => by
        unfold whB; rw [hn (8 * p + k % 8) (by omega)]; rfl)
      rw [this]
      apply Nat.eq_of_testBit_eq; intro j; rw [ups_tb]; simp
    simp only [this, Nat.and_zero, if_true]
  · rfl
theorem dayM_eq {q : LQ} {s : LSt} (W : QW q) (K : KW q s) : sDayM q s = sDay q s := by
  have hn := W.1.1
  have e1 : nK q s = dayK q s (q 0 0) := by
    funext k; unfold dayK
    split
    · rfl
    next h => exact nK_n K h
  have e2 : up (fun k x => x + fgn q s k) (8 * q 0 1) (sFg s) = fcn q s (q 0 0) := by
    have a1 : fcn q s (q 0 0) = sFg s + sm (fun c => sm (fun p => fgn q s (8 * p + c)) (q 0 1)) (q 0 0) := by
      rw [← up_sm]
      unfold fcn
      refine up_congr (fun c x _ => ?_) _
      exact up_sm (fun p => fgn q s (8 * p + c)) (q 0 1) x
    rw [a1, up_sm, sm_8, sm_swap (fun p c => fgn q s (8 * p + c)) (q 0 1) (q 0 0)]
    congr 1
    refine sm_congr (fun p hp => ?_)
    refine sm_tail 8 hn (fun c h1 h2 => ?_)
    unfold fgn
    have : fgB q s (8 * p + c) = false := by
      unfold fgB
      cases e : sKn s (8 * p + c) with
      | none => rfl
      | some v =>
        have := K (8 * p + c) (by rw [e]; rfl)
        omega
    rw [this]; rfl
  unfold sDayM sDay sMorn sTo
  rw [e1, e2]; rfl
theorem KW.act {q : LQ} {s : LSt} (K : KW q s) (k x y : Nat) (W : QW q) : KW q ((actS q s k x y).getD s) := by
  have day : KW q (sDay q s) := by
    rw [← dayM_eq W K]
    intro j hj
    change (nK q s j).isSome = true at hj
    apply Classical.byContradiction
    intro hn
    rw [nK_n K hn] at hj
    exact hn (K j hj)
  unfold actS
  split
  · split
    · exact K
    · exact K
  · split
    · split
      · exact K
      · exact K
    · split
      · exact K
      · split
        · split
          next h =>
            intro j hj
            change (ud (sKn s) (8 * y + x) (some 0) j).isSome = true at hj
            unfold ud at hj
            split at hj
            next e =>
              unfold tlB at h
              simp only [Bool.and_eq_true, decide_eq_true_eq] at h
              have := W.1.1
              omega
            next => exact K j hj
          next => exact K
        · split
          · split
            · exact K
            · exact K
          · exact day
section ML
variable {h : mH} {q : LQ} {s : LSt}
theorem Fr.fm1 {P : Nat → Bool} {h h' : mH} (x : Fr P h h') (m : ∀ a, P a = true → pM a = true) (y : ∀ j, (23 ≤ j ∧ j ≤ 25) ∨ 35 ≤ j → mI h' 193 j = mI h 193 j) : FM h h' := ⟨x.mono m, y⟩
theorem pA_pM : ∀ a, pA a = true → pM a = true := by
  intro a h
  unfold pA at h
  rw [Bool.or_eq_true] at h
  rcases h with h | h
  · rw [Nat.eq_of_beq_eq_true h]; decide
  · rw [Nat.eq_of_beq_eq_true h]; decide
theorem p206_pM : ∀ a, Nat.beq a 206 = true → pM a = true := by
  intro a h
  rw [Nat.eq_of_beq_eq_true h]; decide
theorem t227 (H : MoS h q) (W : QW q) (C : MLS h s) (S : SW q s) : ∃ h', f227 h 193 = some ((), h') ∧ FM h h' ∧ MLS h' (sDayM q s) := by
  have hm := W.1.2.1
  obtain ⟨c1, c2, c3, c4, c5, c6, c7, c8⟩ := id C
  unfold f227
  have := lp_inv (body := f227_2 193) (P := fun i z => z.1 = iN i ∧ Fr (fun a => Nat.beq a 206) h z.2 ∧ ∀ k, k < i → mI z.2 206 k = mI h 205 k) (Q := fun r => FM h r.2 ∧ MLS r.2 (sDayM q s)) 48 (fun i z hi hP => by
    obtain ⟨h1, h2, h3⟩ := hP
    have w2 := H.1.fr h2
    refine Or.inl ⟨(iN (i + 1), mSI z.2 206 i (mI h 205 i)), ?_, rfl, h2.si (by decide), fun k hk => ?_⟩
    · unfold f227_2
      rw [h1]
      simp (disch := omega) only [gT, nbeq, Option.isSome_some, Option.getD_some, Bool.and_true, Bool.true_and, Bool.and_self, mX_some, bS, bN_if, bN_01, i1_01, i0_01, if_true, if_false, Bool.false_eq_true, false_and, and_false, and_true, true_and, and_self, Bool.or_false, Bool.false_or, Bool.or_true, Bool.true_or, Bool.false_and, Bool.and_false, decide_true, decide_false, L0, L1, L2, L3, L4, L5, L6, L7, L8, L9, L10, L11, L12, L13, L14, L15, L16, L17, L18, L19, L20, L21, L22, L23, L24, L25, L27, L33, L39, L40, L45, L48, L57, L60, L72, L90, L97, L98, L99, L100, L121, L122, L242, L255, L256, L580, L600, L1000, L1584, L1000000, Ln1, iN_add, iN_and, iN_or, iN_nd, iN_shl, iN_shr, iN_cl, iN_in, iN_mul, k193 w2, r193_1 w2, r193_2 w2, r193_3 w2, r193_4 w2, r193_5 w2, r193_6 w2, r193_7 w2, r193_8 w2, r193_18 w2, r193_19 w2, r193_32 w2, r193_33 w2, r193_34 w2, r193_36 w2, r193_38 w2, r193_39 w2, r193_40 w2, r193_42 w2, r193_45 w2, r193_46 w2, r193_47 w2, r193_48 w2, r193_49 w2, r193_50 w2, k205 w2, k206 w2, ile_n]
      rw [h2.i (a := 205) (by decide)]
    · by_cases e : k = i
      · subst e; simp (disch := omega) only [si_ne, si_nk, si_eq]
      · simp (disch := omega) only [si_ne, si_nk, si_eq]; exact h3 k (by omega)) (fun z hP => by
    obtain ⟨h1, h2, h3⟩ := hP
    have hg : ∃ g, z.2 = g := ⟨_, rfl⟩
    obtain ⟨g, hg⟩ := hg
    rw [hg] at h2 h3
    have F0 : FM h g := h2.fm1 p206_pM (fun j _ => h2.i (by decide) j)
    have H0 := H.fm F0
    have A : ∀ k, k < 48 → mI g 206 k = zN (sKn s k) := fun k hk => (h3 k hk).trans (c2 k hk)
    have inn : ∀ (p : Nat) (y : Int32 × mH), p < q 0 1 → y.1 = iN p ∧ Fr pA g y.2 ∧ (∀ j, j ≠ 31 → mI y.2 193 j = mI g 193 j) ∧ (∀ k, k < 48 → mI y.2 205 k = zN (if k < 8 * p then nK q s k else sKn s k)) ∧ mI y.2 193 31 = iN (up (fun k x => x + fgn q s k) (8 * p) (sFg s)) → ∃ r, mLoop (f227_38 193 (iN p)) mFuel (iN 0, y.2) = some r ∧ ∃ y' : Int32 × mH, r = .inl y' ∧ y'.1 = iN (p + 1) ∧ Fr pA g y'.2 ∧ (∀ j, j ≠ 31 → mI y'.2 193 j = mI g 193 j) ∧ (∀ k, k < 48 → mI y'.2 205 k = zN (if k < 8 * (p + 1) then nK q s k else sKn s k)) ∧ mI y'.2 193 31 = iN (up (fun k x => x + fgn q s k) (8 * (p + 1)) (sFg s)) := by
      intro p y hp hy
      obtain ⟨y1, y2, y3, y4, y5⟩ := hy
      refine lp_inv (body := f227_38 193 (iN p)) (P := fun c x => x.1 = iN c ∧ Fr pA g x.2 ∧ (∀ j, j ≠ 31 → mI x.2 193 j = mI g 193 j) ∧ (∀ k, k < 48 → mI x.2 205 k = zN (if k < 8 * p + c then nK q s k else sKn s k)) ∧ mI x.2 193 31 = iN (up (fun k x => x + fgn q s k) (8 * p + c) (sFg s))) (Q := fun r => ∃ y' : Int32 × mH, r = .inl y' ∧ y'.1 = iN (p + 1) ∧ Fr pA g y'.2 ∧ (∀ j, j ≠ 31 → mI y'.2 193 j = mI g 193 j) ∧ (∀ k, k < 48 → mI y'.2 205 k = zN (if k < 8 * (p + 1) then nK q s k else sKn s k)) ∧ mI y'.2 193 31 = iN (up (fun k x => x + fgn q s k) (8 * (p + 1)) (sFg s))) 8 (fun c x hc hx => ?_) (fun x hx => ?_) (by omega) ⟨rfl, y2, y3, y4, y5⟩
      · obtain ⟨x1, x2, x3, x4, x5⟩ := hx
        have H2 := H0.fa x2 x3
        have w2 := H2.1
        have A2 : ∀ k, k < 48 → mI x.2 206 k = zN (sKn s k) := fun k hk => (x2.i (by decide) k).trans (A k hk)
        have B2 : mI x.2 205 (8 * p + c) = zN (sKn s (8 * p + c)) := by rw [x4 _ (by omega), if_neg (by omega)]
        obtain ⟨h', f1, f2, f3, f4, f5⟩ := t228 H2 W A2 S hp hc B2
        refine Or.inl ⟨(iN (c + 1), h'), ?_, rfl, x2.tr f2, fun j hj => (f3 j hj).trans (x3 j hj), fun k hk => ?_, ?_⟩
        · unfold f227_38
          rw [x1]
          simp (disch := omega) only [gT, nbeq, Option.isSome_some, Option.getD_some, Bool.and_true, Bool.true_and, Bool.and_self, mX_some, bS, bN_if, bN_01, i1_01, i0_01, if_true, if_false, Bool.false_eq_true, false_and, and_false, and_true, true_and, and_self, Bool.or_false, Bool.false_or, Bool.or_true, Bool.true_or, Bool.false_and, Bool.and_false, decide_true, decide_false, L0, L1, L2, L3, L4, L5, L6, L7, L8, L9, L10, L11, L12, L13, L14, L15, L16, L17, L18, L19, L20, L21, L22, L23, L24, L25, L27, L33, L39, L40, L45, L48, L57, L60, L72, L90, L97, L98, L99, L100, L121, L122, L242, L255, L256, L580, L600, L1000, L1584, L1000000, Ln1, iN_add, iN_and, iN_or, iN_nd, iN_shl, iN_shr, iN_cl, iN_in, iN_mul, k193 w2, r193_1 w2, r193_2 w2, r193_3 w2, r193_4 w2, r193_5 w2, r193_6 w2, r193_7 w2, r193_8 w2, r193_18 w2, r193_19 w2, r193_32 w2, r193_33 w2, r193_34 w2, r193_36 w2, r193_38 w2, r193_39 w2, r193_40 w2, r193_42 w2, r193_45 w2, r193_46 w2, r193_47 w2, r193_48 w2, r193_49 w2, r193_50 w2, ile_n, f1]
        · rw [f4 k]
          by_cases e : k = 8 * p + c
          · rw [if_pos e, if_pos (by omega)]
          · rw [if_neg e, x4 k hk]
            by_cases e2 : k < 8 * p + c
            · rw [if_pos e2, if_pos (by omega)]
            · rw [if_neg e2, if_neg (by omega)]
        · rw [f5, x5, iN_add]; rfl
      · obtain ⟨x1, x2, x3, x4, x5⟩ := hx
        refine ⟨.inl (iN (p + 1), x.2), ?_, _, rfl, rfl, x2, x3, x4, x5⟩
        unfold f227_38
        rw [x1]
        simp (disch := omega) only [gT, nbeq, Option.isSome_some, Option.getD_some, Bool.and_true, Bool.true_and, Bool.and_self, mX_some, bS, bN_if, bN_01, i1_01, i0_01, if_true, if_false, Bool.false_eq_true, false_and, and_false, and_true, true_and, and_self, Bool.or_false, Bool.false_or, Bool.or_true, Bool.true_or, Bool.false_and, Bool.and_false, decide_true, decide_false, L0, L1, L2, L3, L4, L5, L6, L7, L8, L9, L10, L11, L12, L13, L14, L15, L16, L17, L18, L19, L20, L21, L22, L23, L24, L25, L27, L33, L39, L40, L45, L48, L57, L60, L72, L90, L97, L98, L99, L100, L121, L122, L242, L255, L256, L580, L600, L1000, L1584, L1000000, Ln1, iN_add, iN_and, iN_or, iN_nd, iN_shl, iN_shr, iN_cl, iN_in, iN_mul, ile_p]
    have := lp_inv (body := f227_28 193) (P := fun p y => y.1 = iN p ∧ Fr pA g y.2 ∧ (∀ j, j ≠ 31 → mI y.2 193 j = mI g 193 j) ∧ (∀ k, k < 48 → mI y.2 205 k = zN (if k < 8 * p then nK q s k else sKn s k)) ∧ mI y.2 193 31 = iN (up (fun k x => x + fgn q s k) (8 * p) (sFg s))) (Q := fun r => FM h r.2 ∧ MLS r.2 (sDayM q s)) (q 0 1) (fun p y hp hy => by
      obtain ⟨r, r1, y', r2, r3⟩ := inn p y hp hy
      obtain ⟨y1, y2, y3, y4, y5⟩ := hy
      have H2 := H0.fa y2 y3
      have w2 := H2.1
      refine Or.inl ⟨y', ?_, r3⟩
      unfold f227_28
      rw [y1]
      simp (disch := omega) only [gT, nbeq, Option.isSome_some, Option.getD_some, Bool.and_true, Bool.true_and, Bool.and_self, mX_some, bS, bN_if, bN_01, i1_01, i0_01, if_true, if_false, Bool.false_eq_true, false_and, and_false, and_true, true_and, and_self, Bool.or_false, Bool.false_or, Bool.or_true, Bool.true_or, Bool.false_and, Bool.and_false, decide_true, decide_false, L0, L1, L2, L3, L4, L5, L6, L7, L8, L9, L10, L11, L12, L13, L14, L15, L16, L17, L18, L19, L20, L21, L22, L23, L24, L25, L27, L33, L39, L40, L45, L48, L57, L60, L72, L90, L97, L98, L99, L100, L121, L122, L242, L255, L256, L580, L600, L1000, L1584, L1000000, Ln1, iN_add, iN_and, iN_or, iN_nd, iN_shl, iN_shr, iN_cl, iN_in, iN_mul, k193 w2, r193_1 w2, r193_2 w2, r193_3 w2, r193_4 w2, r193_5 w2, r193_6 w2, r193_7 w2, r193_8 w2, r193_18 w2, r193_19 w2, r193_32 w2, r193_33 w2, r193_34 w2, r193_36 w2, r193_38 w2, r193_39 w2, r193_40 w2, r193_42 w2, r193_45 w2, r193_46 w2, r193_47 w2, r193_48 w2, r193_49 w2, r193_50 w2, ile_n, H2.m]
      rw [r1, r2]) (fun y hy => by
      obtain ⟨y1, y2, y3, y4, y5⟩ := hy
      have H2 := H0.fa y2 y3
      have w2 := H2.1
      have F2 : FM g y.2 := y2.fm1 pA_pM (fun j hj => y3 j (by omega))
      have H3 : MoS (mSI y.2 193 29 (iN 0)) q := H2.fm (FM.rfl.si (by decide) (Or.inr (by omega)))
      refine ⟨((), mSI (mSI (mSI y.2 193 29 (iN 0)) 193 28 (iN (q 0 2))) 193 30 (mI y.2 193 30 + iN 1)), ?_, (F0.tr F2).tr (((FM.rfl.si (by decide) (Or.inr (by omega))).si (by decide) (Or.inr (by omega))).si (by decide) (Or.inr (by omega))), ⟨?_, ?_, ?_, ?_, ?_, ?_, ?_, ?_⟩⟩
      · unfold f227_28
        rw [y1]
        simp (disch := omega) only [gT, nbeq, Option.isSome_some, Option.getD_some, Bool.and_true, Bool.true_and, Bool.and_self, mX_some, bS, bN_if, bN_01, i1_01, i0_01, if_true, if_false, Bool.false_eq_true, false_and, and_false, and_true, true_and, and_self, Bool.or_false, Bool.false_or, Bool.or_true, Bool.true_or, Bool.false_and, Bool.and_false, decide_true, decide_false, L0, L1, L2, L3, L4, L5, L6, L7, L8, L9, L10, L11, L12, L13, L14, L15, L16, L17, L18, L19, L20, L21, L22, L23, L24, L25, L27, L33, L39, L40, L45, L48, L57, L60, L72, L90, L97, L98, L99, L100, L121, L122, L242, L255, L256, L580, L600, L1000, L1584, L1000000, Ln1, iN_add, iN_and, iN_or, iN_nd, iN_shl, iN_shr, iN_cl, iN_in, iN_mul, k193 w2, r193_1 w2, r193_2 w2, r193_3 w2, r193_4 w2, r193_5 w2, r193_6 w2, r193_7 w2, r193_8 w2, r193_18 w2, r193_19 w2, r193_32 w2, r193_33 w2, r193_34 w2, r193_36 w2, r193_38 w2, r193_39 w2, r193_40 w2, r193_42 w2, r193_45 w2, r193_46 w2, r193_47 w2, r193_48 w2, r193_49 w2, r193_50 w2, ile_p, H2.m, t206 H3, fl0, si_ne, si_nk, si_eq]
      · intro t ht
        simp (disch := omega) only [si_ne, si_nk, si_eq]
        rw [y2.i (by decide), h2.i (by decide)]; exact c1 t ht
      · intro k hk
        simp (disch := omega) only [si_ne, si_nk, si_eq]
        rw [y4 k hk]
        show _ = zN (nK q s k)
        by_cases e : k < 8 * q 0 1
        · rw [if_pos e]
        · rw [if_neg e]
          unfold nK; rw [if_neg (by omega)]
      · simp (disch := omega) only [si_ne, si_nk, si_eq]
        rw [y3 30 (by omega), h2.i (by decide), c3, iN_add]; rfl
      · simp (disch := omega) only [si_ne, si_nk, si_eq]
        rw [y3 26 (by omega), h2.i (by decide), c4]; rfl
      · simp (disch := omega) only [si_ne, si_nk, si_eq]
        rw [y3 27 (by omega), h2.i (by decide), c5]; rfl
      · simp (disch := omega) only [si_ne, si_nk, si_eq]; rfl
      · simp (disch := omega) only [si_ne, si_nk, si_eq]; rfl
      · simp (disch := omega) only [si_ne, si_nk, si_eq]
        exact y5) (by omega) (s := (iN 0, g)) ⟨rfl, Fr.rfl, fun j _ => rfl, fun k hk => by rw [if_neg (by omega), h2.i (by decide)]; exact c2 k hk, by rw [h2.i (by decide)]; exact c8⟩
    obtain ⟨r, r1, r2⟩ := this
    refine ⟨r, ?_, r2⟩
    unfold f227_2
    rw [h1, hg]
    simp (disch := omega) only [gT, nbeq, Option.isSome_some, Option.getD_some, Bool.and_true, Bool.true_and, Bool.and_self, mX_some, bS, bN_if, bN_01, i1_01, i0_01, if_true, if_false, Bool.false_eq_true, false_and, and_false, and_true, true_and, and_self, Bool.or_false, Bool.false_or, Bool.or_true, Bool.true_or, Bool.false_and, Bool.and_false, decide_true, decide_false, L0, L1, L2, L3, L4, L5, L6, L7, L8, L9, L10, L11, L12, L13, L14, L15, L16, L17, L18, L19, L20, L21, L22, L23, L24, L25, L27, L33, L39, L40, L45, L48, L57, L60, L72, L90, L97, L98, L99, L100, L121, L122, L242, L255, L256, L580, L600, L1000, L1584, L1000000, Ln1, iN_add, iN_and, iN_or, iN_nd, iN_shl, iN_shr, iN_cl, iN_in, iN_mul, ile_p, r1]) (by omega) (s := (0, h)) ⟨rfl, Fr.rfl, fun k hk => by omega⟩
  obtain ⟨⟨u, h'⟩, r1, r2⟩ := this
  exact ⟨h', r1, r2⟩
theorem t216 (H : MoS h q) (W : QW q) (C : MLS h s) (S : SW q s) (K : KW q s) {k x y : Nat} {u v : Int32} (D : dOk k u v x y) : ∃ h', f216 h 193 (iN k) u v = some (bN (actS q s k x y).isSome, h') ∧ FM h h' ∧ MLS h' ((actS q s k x y).getD s) := by
  have w := H.1
  obtain ⟨d0, d1, d2, d3⟩ := D
  have hk : k = 0 ∨ k = 1 ∨ k = 2 ∨ k = 3 ∨ k = 4 ∨ k = 5 := by omega
  unfold f216 actS
  rcases hk with rfl | rfl | rfl | rfl | rfl | rfl
  · obtain ⟨rfl, hx⟩ := d1 (by omega)
    obtain ⟨h', f1, f2, f3, f4⟩ := t217 H W C S hx
    simp (disch := omega) only [gT, nbeq, Option.isSome_some, Option.getD_some, Bool.and_true, Bool.true_and, Bool.and_self, mX_some, bS, bN_if, bN_01, i1_01, i0_01, if_true, if_false, Bool.false_eq_true, false_and, and_false, and_true, true_and, and_self, Bool.or_false, Bool.false_or, Bool.or_true, Bool.true_or, Bool.false_and, Bool.and_false, decide_true, decide_false, L0, L1, L2, L3, L4, L5, L6, L7, L8, L9, L10, L11, L12, L13, L14, L15, L16, L17, L18, L19, L20, L21, L22, L23, L24, L25, L27, L33, L39, L40, L45, L48, L57, L60, L72, L90, L97, L98, L99, L100, L121, L122, L242, L255, L256, L580, L600, L1000, L1584, L1000000, Ln1, iN_add, iN_and, iN_or, iN_nd, iN_shl, iN_shr, iN_cl, iN_in, iN_mul, ile_p, ile_n, ilt_p, ilt_n, ieq_p, ieq_n, ij_n, jj_p, ijle, jile, ijlt, jilt, k193 w, r193_1 w, r193_2 w, r193_3 w, r193_4 w, r193_5 w, r193_6 w, r193_7 w, r193_8 w, r193_18 w, r193_19 w, r193_32 w, r193_33 w, r193_34 w, r193_36 w, r193_38 w, r193_39 w, r193_40 w, r193_42 w, r193_45 w, r193_46 w, r193_47 w, r193_48 w, r193_49 w, r193_50 w, f1, gd_if, is_if]
    exact ⟨_, rfl, f2, f3⟩
  · obtain ⟨rfl, hx⟩ := d1 (by omega)
    obtain ⟨h', f1, f2, f3, f4⟩ := t223 H W C S hx
    simp (disch := omega) only [gT, nbeq, Option.isSome_some, Option.getD_some, Bool.and_true, Bool.true_and, Bool.and_self, mX_some, bS, bN_if, bN_01, i1_01, i0_01, if_true, if_false, Bool.false_eq_true, false_and, and_false, and_true, true_and, and_self, Bool.or_false, Bool.false_or, Bool.or_true, Bool.true_or, Bool.false_and, Bool.and_false, decide_true, decide_false, L0, L1, L2, L3, L4, L5, L6, L7, L8, L9, L10, L11, L12, L13, L14, L15, L16, L17, L18, L19, L20, L21, L22, L23, L24, L25, L27, L33, L39, L40, L45, L48, L57, L60, L72, L90, L97, L98, L99, L100, L121, L122, L242, L255, L256, L580, L600, L1000, L1584, L1000000, Ln1, iN_add, iN_and, iN_or, iN_nd, iN_shl, iN_shr, iN_cl, iN_in, iN_mul, ile_p, ile_n, ilt_p, ilt_n, ieq_p, ieq_n, ij_n, jj_p, ijle, jile, ijlt, jilt, k193 w, r193_1 w, r193_2 w, r193_3 w, r193_4 w, r193_5 w, r193_6 w, r193_7 w, r193_8 w, r193_18 w, r193_19 w, r193_32 w, r193_33 w, r193_34 w, r193_36 w, r193_38 w, r193_39 w, r193_40 w, r193_42 w, r193_45 w, r193_46 w, r193_47 w, r193_48 w, r193_49 w, r193_50 w, f1, show ¬ (1 = 0) from by omega, gd_if, is_if]
    exact ⟨_, rfl, f2, f3⟩
  · obtain ⟨rfl, hx⟩ := d2 rfl
    obtain ⟨h', f1, f2, f3, f4⟩ := t224 H C S hx
    simp (disch := omega) only [gT, nbeq, Option.isSome_some, Option.getD_some, Bool.and_true, Bool.true_and, Bool.and_self, mX_some, bS, bN_if, bN_01, i1_01, i0_01, if_true, if_false, Bool.false_eq_true, false_and, and_false, and_true, true_and, and_self, Bool.or_false, Bool.false_or, Bool.or_true, Bool.true_or, Bool.false_and, Bool.and_false, decide_true, decide_false, L0, L1, L2, L3, L4, L5, L6, L7, L8, L9, L10, L11, L12, L13, L14, L15, L16, L17, L18, L19, L20, L21, L22, L23, L24, L25, L27, L33, L39, L40, L45, L48, L57, L60, L72, L90, L97, L98, L99, L100, L121, L122, L242, L255, L256, L580, L600, L1000, L1584, L1000000, Ln1, iN_add, iN_and, iN_or, iN_nd, iN_shl, iN_shr, iN_cl, iN_in, iN_mul, ile_p, ile_n, ilt_p, ilt_n, ieq_p, ieq_n, ij_n, jj_p, ijle, jile, ijlt, jilt, k193 w, r193_1 w, r193_2 w, r193_3 w, r193_4 w, r193_5 w, r193_6 w, r193_7 w, r193_8 w, r193_18 w, r193_19 w, r193_32 w, r193_33 w, r193_34 w, r193_36 w, r193_38 w, r193_39 w, r193_40 w, r193_42 w, r193_45 w, r193_46 w, r193_47 w, r193_48 w, r193_49 w, r193_50 w, f1, show ¬ (2 = 0) from by omega, show ¬ (2 = 1) from by omega]
    exact ⟨_, rfl, f2, f3⟩
  · obtain ⟨rfl, hx⟩ := d1 (by omega)
    obtain ⟨rfl, hy⟩ := d3 rfl
    obtain ⟨h', f1, f2, f3, f4⟩ := t225 H W C S hx hy
    simp (disch := omega) only [gT, nbeq, Option.isSome_some, Option.getD_some, Bool.and_true, Bool.true_and, Bool.and_self, mX_some, bS, bN_if, bN_01, i1_01, i0_01, if_true, if_false, Bool.false_eq_true, false_and, and_false, and_true, true_and, and_self, Bool.or_false, Bool.false_or, Bool.or_true, Bool.true_or, Bool.false_and, Bool.and_false, decide_true, decide_false, L0, L1, L2, L3, L4, L5, L6, L7, L8, L9, L10, L11, L12, L13, L14, L15, L16, L17, L18, L19, L20, L21, L22, L23, L24, L25, L27, L33, L39, L40, L45, L48, L57, L60, L72, L90, L97, L98, L99, L100, L121, L122, L242, L255, L256, L580, L600, L1000, L1584, L1000000, Ln1, iN_add, iN_and, iN_or, iN_nd, iN_shl, iN_shr, iN_cl, iN_in, iN_mul, ile_p, ile_n, ilt_p, ilt_n, ieq_p, ieq_n, ij_n, jj_p, ijle, jile, ijlt, jilt, k193 w, r193_1 w, r193_2 w, r193_3 w, r193_4 w, r193_5 w, r193_6 w, r193_7 w, r193_8 w, r193_18 w, r193_19 w, r193_32 w, r193_33 w, r193_34 w, r193_36 w, r193_38 w, r193_39 w, r193_40 w, r193_42 w, r193_45 w, r193_46 w, r193_47 w, r193_48 w, r193_49 w, r193_50 w, f1, show ¬ (3 = 0) from by omega, show ¬ (3 = 1) from by omega, show ¬ (3 = 2) from by omega, gd_if, is_if]
    exact ⟨_, rfl, f2, f3⟩
  · obtain ⟨c1, c2, c3, c4, c5, c6, c7, c8⟩ := id C
    simp (disch := omega) only [gT, nbeq, Option.isSome_some, Option.getD_some, Bool.and_true, Bool.true_and, Bool.and_self, mX_some, bS, bN_if, bN_01, i1_01, i0_01, if_true, if_false, Bool.false_eq_true, false_and, and_false, and_true, true_and, and_self, Bool.or_false, Bool.false_or, Bool.or_true, Bool.true_or, Bool.false_and, Bool.and_false, decide_true, decide_false, L0, L1, L2, L3, L4, L5, L6, L7, L8, L9, L10, L11, L12, L13, L14, L15, L16, L17, L18, L19, L20, L21, L22, L23, L24, L25, L27, L33, L39, L40, L45, L48, L57, L60, L72, L90, L97, L98, L99, L100, L121, L122, L242, L255, L256, L580, L600, L1000, L1584, L1000000, Ln1, iN_add, iN_and, iN_or, iN_nd, iN_shl, iN_shr, iN_cl, iN_in, iN_mul, ile_p, ile_n, ilt_p, ilt_n, ieq_p, ieq_n, ij_n, jj_p, ijle, jile, ijlt, jilt, k193 w, r193_1 w, r193_2 w, r193_3 w, r193_4 w, r193_5 w, r193_6 w, r193_7 w, r193_8 w, r193_18 w, r193_19 w, r193_32 w, r193_33 w, r193_34 w, r193_36 w, r193_38 w, r193_39 w, r193_40 w, r193_42 w, r193_45 w, r193_46 w, r193_47 w, r193_48 w, r193_49 w, r193_50 w, show ¬ (4 = 0) from by omega, show ¬ (4 = 1) from by omega, show ¬ (4 = 2) from by omega, show ¬ (4 = 3) from by omega, gd_if, is_if, c7]
    cases hcd : sCd s with
    | true =>
      simp only [bN_t, gT, nbeq, Option.isSome_some, Option.getD_some, Bool.and_true, Bool.true_and, Bool.and_self, mX_some, bS, bN_if, bN_01, i1_01, i0_01, if_true, if_false, Bool.false_eq_true, false_and, and_false, and_true, true_and, and_self, Bool.or_false, Bool.false_or, Bool.or_true, Bool.true_or, Bool.false_and, Bool.and_false, decide_true, decide_false, Bool.not_true]
      exact ⟨_, rfl, FM.rfl, C⟩
    | false =>
      simp (disch := omega) only [bN_f, gT, nbeq, Option.isSome_some, Option.getD_some, Bool.and_true, Bool.true_and, Bool.and_self, mX_some, bS, bN_if, bN_01, i1_01, i0_01, if_true, if_false, Bool.false_eq_true, false_and, and_false, and_true, true_and, and_self, Bool.or_false, Bool.false_or, Bool.or_true, Bool.true_or, Bool.false_and, Bool.and_false, decide_true, decide_false, Bool.not_false, ieq_n]
      refine ⟨_, rfl, FM.rfl.si (by decide) (Or.inr (by omega)), ⟨?_, ?_, ?_, ?_, ?_, ?_, ?_, ?_⟩⟩
      · intro j hj
        simp (disch := omega) only [si_ne, si_nk, si_eq]; exact c1 j hj
      · intro k hk
        simp (disch := omega) only [si_ne, si_nk, si_eq]; exact c2 k hk
      · simp (disch := omega) only [si_ne, si_nk, si_eq]; exact c3
      · simp (disch := omega) only [si_ne, si_nk, si_eq]; exact c4
      · simp (disch := omega) only [si_ne, si_nk, si_eq]; exact c5
      · simp (disch := omega) only [si_ne, si_nk, si_eq]; exact c6
      · simp (disch := omega) only [si_ne, si_nk, si_eq]; rfl
      · simp (disch := omega) only [si_ne, si_nk, si_eq]; exact c8
  · obtain ⟨h', f1, f2, f3⟩ := t227 H W C S
    rw [dayM_eq W K] at f3
    simp (disch := omega) only [gT, nbeq, Option.isSome_some, Option.getD_some, Bool.and_true, Bool.true_and, Bool.and_self, mX_some, bS, bN_if, bN_01, i1_01, i0_01, if_true, if_false, Bool.false_eq_true, false_and, and_false, and_true, true_and, and_self, Bool.or_false, Bool.false_or, Bool.or_true, Bool.true_or, Bool.false_and, Bool.and_false, decide_true, decide_false, L0, L1, L2, L3, L4, L5, L6, L7, L8, L9, L10, L11, L12, L13, L14, L15, L16, L17, L18, L19, L20, L21, L22, L23, L24, L25, L27, L33, L39, L40, L45, L48, L57, L60, L72, L90, L97, L98, L99, L100, L121, L122, L242, L255, L256, L580, L600, L1000, L1584, L1000000, Ln1, iN_add, iN_and, iN_or, iN_nd, iN_shl, iN_shr, iN_cl, iN_in, iN_mul, ile_p, ile_n, ilt_p, ilt_n, ieq_p, ieq_n, ij_n, jj_p, ijle, jile, ijlt, jilt, k193 w, r193_1 w, r193_2 w, r193_3 w, r193_4 w, r193_5 w, r193_6 w, r193_7 w, r193_8 w, r193_18 w, r193_19 w, r193_32 w, r193_33 w, r193_34 w, r193_36 w, r193_38 w, r193_39 w, r193_40 w, r193_42 w, r193_45 w, r193_46 w, r193_47 w, r193_48 w, r193_49 w, r193_50 w, f1, show ¬ (5 = 0) from by omega, show ¬ (5 = 1) from by omega, show ¬ (5 = 2) from by omega, show ¬ (5 = 3) from by omega, show ¬ (5 = 4) from by omega]
    exact ⟨_, rfl, f2, f3⟩
end ML
