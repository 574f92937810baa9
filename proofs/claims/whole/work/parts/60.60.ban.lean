/-! ban -/
def ouf (q : LQ) (c : Nat) : Nat → Nat → Nat := fun o x => x ||| if (und q o).testBit c = true then 1 <<< o else 0
theorem out_eq {q : LQ} (W : QW q) {c : Nat} (hc : c < q 0 0) : up (ouf q c) (q 0 0) (1 <<< c) = sto q c := by
  have h1 : ∀ k, k ≤ q 0 0 → ∀ j, (up (ouf q c) k (1 <<< c)).testBit j = true ↔ j = c ∨ (j < k ∧ (und q j).testBit c = true) := by
    refine up_inv (f := ouf q c) (I := fun k s => ∀ j, s.testBit j = true ↔ j = c ∨ (j < k ∧ (und q j).testBit c = true)) (n := q 0 0) (fun k s hk hs j => ?_) (fun j => ?_)
    · unfold ouf
      rw [Nat.testBit_or, Bool.or_eq_true, hs j]
      by_cases e : (und q k).testBit c = true
      · rw [if_pos e, tb_sh, decide_eq_true_eq]
        constructor
        · rintro ((h1 | ⟨h1, h2⟩) | h1)
          · exact Or.inl h1
          · exact Or.inr ⟨by omega, h2⟩
          · rw [← h1]; exact Or.inr ⟨by omega, e⟩
        · rintro (h1 | ⟨h1, h2⟩)
          · exact Or.inl (Or.inl h1)
          · by_cases ej : k = j
            · exact Or.inr ej
            · exact Or.inl (Or.inr ⟨by omega, h2⟩)
      · rw [if_neg e, Nat.zero_testBit]
        constructor
        · rintro ((h1 | ⟨h1, h2⟩) | h1)
          · exact Or.inl h1
          · exact Or.inr ⟨by omega, h2⟩
          · cases h1
        · rintro (h1 | ⟨h1, h2⟩)
          · exact Or.inl (Or.inl h1)
          · by_cases ej : k = j
            · rw [← ej] at h2; exact absurd h2 e
            · exact Or.inl (Or.inr ⟨by omega, h2⟩)
    · rw [tb_sh, decide_eq_true_eq]
      constructor
      · intro h; exact Or.inl h.symm
      · rintro (h | ⟨h, _⟩)
        · exact h.symm
        · omega
  refine Nat.eq_of_testBit_eq (fun j => ?_)
  rw [Bool.eq_iff_iff, h1 _ (Nat.le_refl _) j]
  have hb := sto_b hc _ (Nat.le_refl _)
  by_cases hj : j < q 0 0
  · rw [sto_iff W hc hj]
    constructor
    · rintro (h | h)
      · exact Or.inl h
      · exact Or.inr h.2
    · rintro (h | h)
      · exact Or.inl h
      · exact Or.inr ⟨hj, h⟩
  · constructor
    · rintro (h | h) <;> omega
    · intro h
      have := tbj_lt (show sto q c < 2 ^ q 0 0 from hb) h
      omega
/-- what is left without c and all that stands on it -/
def kep (q : LQ) (c : Nat) : Nat := nd (2 ^ q 0 0 - 1) (sto q c)
theorem kep_cl {q : LQ} (W : QW q) {c : Nat} (hc : c < q 0 0) : ∀ d, (kep q c).testBit d = true → sub (q 3 d) (kep q c) := by
  have hn := W.1.1
  intro d hd j hj
  unfold kep at hd ⊢
  rw [nd_tb, tb_all, Bool.and_eq_true, decide_eq_true_eq] at hd
  obtain ⟨h1, h2⟩ := hd
  have h3 := tbj_lt (W.2.2.2.2.1 d (by omega)) hj
  rw [nd_tb, tb_all, decide_eq_true (show j < q 0 0 by omega), Bool.true_and]
  cases e : (sto q c).testBit j with
  | false => rfl
  | true =>
    have h4 : (und q d).testBit c = true := (und_iff W (show d < 8 by omega)).2 ⟨j, hj, (sto_iff W hc (show j < q 0 0 by omega)).1 e⟩
    rw [(sto_iff W hc h1).2 (Or.inr h4)] at h2
    cases h2
theorem kep_lt {q : LQ} (c : Nat) : kep q c < 2 ^ q 0 0 := by
  have := nd_le (2 ^ q 0 0 - 1) (sto q c)
  have hp := pw_pos (q 0 0)
  unfold kep
  omega
def bnf (V : Nat → Option Nat) : Nat → Option Nat × Option Nat → Option Nat × Option Nat := fun c x => match x.1 with
  | none => (some c, V c)
  | some b => match V c with
    | none => (some b, x.2)
    | some v => match x.2 with
      | none => (some c, some v)
      | some d => if d ≤ v then (some b, some d) else (some c, some v)
def bnI (q : LQ) (x : Option Nat × Option Nat) : Prop := (∀ b, x.1 = some b → b < q 0 0) ∧ (∀ d, x.2 = some d → d ≤ 99) ∧ (x.1 = none → x.2 = none)
theorem bn_I {q : LQ} {V : Nat → Option Nat} (hV : ∀ c d, V c = some d → d ≤ 99) {c : Nat} {x : Option Nat × Option Nat} (hc : c < q 0 0) (hx : bnI q x) : bnI q (bnf V c x) := by
  obtain ⟨b, d⟩ := x
  obtain ⟨h1, h2, h3⟩ := hx
  unfold bnf
  cases b with
  | none => exact ⟨fun b hb => by have := Option.some.inj hb; omega, fun d hd => hV c d hd, fun h => by cases h⟩
  | some b =>
    cases ev : V c with
    | none => exact ⟨h1, h2, fun h => by cases h⟩
    | some v =>
      cases d with
      | none => exact ⟨fun b hb => by have := Option.some.inj hb; omega, fun d hd => by rw [← Option.some.inj hd]; exact hV c v ev, fun h => by cases h⟩
      | some d =>
        simp only
        split
        · exact ⟨h1, h2, fun h => by cases h⟩
        · exact ⟨fun b hb => by have := Option.some.inj hb; omega, fun d hd => by rw [← Option.some.inj hd]; exact hV c v ev, fun h => by cases h⟩
def pBn (b : Nat) : Bool := Nat.beq b 80 || Nat.beq b 82
theorem pBn_a {a : Nat} (pa : a + 7 ≤ 80) : ∀ i, i < 7 → pBn (a + i) = false := fun i hi => by
  unfold pBn
  cases e : Nat.beq (a + i) 80 with
  | true => have := Nat.eq_of_beq_eq_true e; omega
  | false =>
    cases e2 : Nat.beq (a + i) 82 with
    | true => have := Nat.eq_of_beq_eq_true e2; omega
    | false => rfl
theorem p82_Bn : ∀ b, (fun b => Nat.beq b 82) b = true → pBn b = true := by
  intro b h
  have : b = 82 := Nat.eq_of_beq_eq_true h
  rw [this]; decide
theorem pBn_pC : ∀ b, pBn b = true → pC b = true := by
  intro b h
  unfold pBn at h
  rw [Bool.or_eq_true] at h
  rcases h with h | h
  · have : b = 80 := Nat.eq_of_beq_eq_true h
    rw [this]; decide
  · have : b = 82 := Nat.eq_of_beq_eq_true h
    rw [this]; decide
section BN
variable {h : mH} {q : LQ} {B : Nat → Nat} {V : Nat → Option Nat}
theorem t150 {a : Nat} (w : Wd h) (H : LibS h a q) (W : QW q) (pa : a + 7 ≤ 80) (hB : ∀ s, B s = bsF q (q 0 2) s B) (hV : ∀ c, V c = fwO q (q 0 2) (kep q c) B) : ∃ h', f150 h 80 a = some ((), h') ∧ Fr pBn h h' ∧ mI h' 80 2 = zN (up (bnf V) (q 0 0) (none, none)).1 ∧ mI h' 80 3 = zN (up (bnf V) (q 0 0) (none, none)).2 := by
  have hn := W.1.1
  have h8 := pw_8 hn
  have hp := pw_pos (q 0 0)
  have hlm := W.1.2.2.2
  have pn := pBn_a pa
  have hV9 : ∀ c d, V c = some d → d ≤ 99 := fun c d hd => fwO_le hlm hB (by rw [← hV c]; exact hd)
  obtain ⟨X, X0, Xs⟩ := up_ex (bnf V) (none, none)
  have eX : ∀ k, up (bnf V) k (none, none) = X k := by
    intro k
    induction k with
    | zero => exact X0.symm
    | succ k ih => rw [Xs, ← ih]; rfl
  have hX : ∀ k, k ≤ q 0 0 → bnI q (X k) := by
    intro k
    induction k with
    | zero => intro _; rw [X0]; exact ⟨fun b h => (by cases h), fun d h => (by cases h), fun _ => rfl⟩
    | succ k ih => intro hk; rw [Xs]; exact bn_I hV9 (by omega) (ih (by omega))
  rw [eX]
  unfold f150
  simp (disch := omega) only [gT, nbeq, Option.isSome_some, Option.getD_some, Bool.and_true, Bool.true_and, Bool.and_self, mX_some, bS, bN_if, bN_01, i1_01, i0_01, if_true, if_false, Bool.false_eq_true, false_and, and_false, and_true, true_and, and_self, Bool.or_false, Bool.false_or, Bool.or_true, Bool.true_or, Bool.false_and, Bool.and_false, decide_true, decide_false, L0, L1, L2, L3, L4, L5, L6, L7, L8, L9, L10, L11, L12, L13, L14, L15, L16, L17, L18, L19, L20, L21, L22, L23, L24, L25, L27, L33, L39, L40, L45, L48, L57, L60, L72, L90, L97, L98, L99, L100, L121, L122, L242, L255, L256, L580, L600, L1000, L1584, L1000000, Ln1, iN_add, iN_and, iN_or, iN_nd, iN_shl, iN_shr, iN_cl, iN_in, iN_mul, k80 w, r80_0 w, r80_4 w, r80_5 w, r80_6 w]
  have := lp_inv (body := f150_12 80 a) (P := fun c z => z.1 = iN c ∧ Fr pBn h z.2 ∧ mI z.2 80 2 = zN (X c).1 ∧ mI z.2 80 3 = zN (X c).2) (Q := fun r => Fr pBn h r.2 ∧ mI r.2 80 2 = zN (X (q 0 0)).1 ∧ mI r.2 80 3 = zN (X (q 0 0)).2) (q 0 0) (fun c z hc hP => by
    obtain ⟨z1, z2, z3, z4⟩ := hP
    have w2 := w.fr z2
    have H2 := H.fr z2 pn
    have hk := kep_lt (q := q) c
    obtain ⟨h1, a1, a2⟩ := t131 (K := kep q c) w2 H2 W pa hlm hB hk
    rw [← hV c] at a1
    have w3 := w2.fr a2
    have b3 := (a2.i (show (fun b => Nat.beq b 82) 80 = false from rfl) 2).trans z3
    have b4 := (a2.i (show (fun b => Nat.beq b 82) 80 = false from rfl) 3).trans z4
    have F1 := z2.tr (a2.mono p82_Bn)
    have hXc := hX c (by omega)
    have ek : iN (2 ^ q 0 0 - 1) &&& (iN (sto q c) ^^^ jN) = iN (kep q c) := iN_nd _ _
    rw [Xs c]
    generalize X c = x at b3 b4 hXc
    obtain ⟨xb, xd⟩ := x
    have b3 : mI h1 80 2 = zN xb := b3
    have b4 : mI h1 80 3 = zN xd := b4
    have set : ∀ v : Option Nat, V c = v → bnf V c (xb, xd) = (some c, v) → f150_12 80 a z = some (.inl (iN (c + 1), mSI (mSI h1 80 2 (iN c)) 80 3 (zN v))) → ∃ s', f150_12 80 a z = some (.inl s') ∧ (s'.1 = iN (c + 1) ∧ Fr pBn h s'.2 ∧ mI s'.2 80 2 = zN (bnf V c (xb, xd)).1 ∧ mI s'.2 80 3 = zN (bnf V c (xb, xd)).2) := fun v ev e1 e2 => ⟨_, e2, rfl, (F1.si (by decide)).si (by decide), by rw [e1]; simp (disch := omega) only [si_ne, si_nk, si_eq]; rfl, by rw [e1]; simp (disch := omega) only [si_ne, si_nk, si_eq]⟩
    have skip : bnf V c (xb, xd) = (xb, xd) → f150_12 80 a z = some (.inl (iN (c + 1), h1)) → ∃ s', f150_12 80 a z = some (.inl s') ∧ (s'.1 = iN (c + 1) ∧ Fr pBn h s'.2 ∧ mI s'.2 80 2 = zN (bnf V c (xb, xd)).1 ∧ mI s'.2 80 3 = zN (bnf V c (xb, xd)).2) := fun e1 e2 => ⟨_, e2, rfl, F1, by rw [e1]; exact b3, by rw [e1]; exact b4⟩
    left
    cases xb with
    | none =>
      refine set (V c) rfl rfl ?_
      unfold f150_12 f150_71 f150_81
      rw [z1]
      simp (disch := omega) only [gT, nbeq, Option.isSome_some, Option.getD_some, Bool.and_true, Bool.true_and, Bool.and_self, mX_some, bS, bN_if, bN_01, i1_01, i0_01, if_true, if_false, Bool.false_eq_true, false_and, and_false, and_true, true_and, and_self, Bool.or_false, Bool.false_or, Bool.or_true, Bool.true_or, Bool.false_and, Bool.and_false, decide_true, decide_false, L0, L1, L2, L3, L4, L5, L6, L7, L8, L9, L10, L11, L12, L13, L14, L15, L16, L17, L18, L19, L20, L21, L22, L23, L24, L25, L27, L33, L39, L40, L45, L48, L57, L60, L72, L90, L97, L98, L99, L100, L121, L122, L242, L255, L256, L580, L600, L1000, L1584, L1000000, Ln1, iN_add, iN_and, iN_or, iN_nd, iN_shl, iN_shr, iN_cl, iN_in, iN_mul, H2.k, H2.r0, H2.r1, H2.r2, H2.r3, H2.r4, H2.r5, H2.k1, H2.k2, H2.k3, H2.k4, H2.k5, H2.k6, H2.n, H2.m, H2.lp, H2.hr, H2.tp, H2.ln, H2.lk, H2.me, H2.he, k80 w2, r80_0 w2, r80_4 w2, r80_5 w2, r80_6 w2, k80 w3, r80_0 w3, r80_4 w3, r80_5 w3, r80_6 w3, ile_n, t94 H2 W, t130 H2 W hc, ek, a1, b3, zN_none, jj_p]
    | some b =>
      have hb := hXc.1 b rfl
      cases ev : V c with
      | none =>
        rw [ev] at a1
        refine skip (by unfold bnf; rw [ev]) ?_
        unfold f150_12 f150_71 f150_81
        rw [z1]
        simp (disch := omega) only [gT, nbeq, Option.isSome_some, Option.getD_some, Bool.and_true, Bool.true_and, Bool.and_self, mX_some, bS, bN_if, bN_01, i1_01, i0_01, if_true, if_false, Bool.false_eq_true, false_and, and_false, and_true, true_and, and_self, Bool.or_false, Bool.false_or, Bool.or_true, Bool.true_or, Bool.false_and, Bool.and_false, decide_true, decide_false, L0, L1, L2, L3, L4, L5, L6, L7, L8, L9, L10, L11, L12, L13, L14, L15, L16, L17, L18, L19, L20, L21, L22, L23, L24, L25, L27, L33, L39, L40, L45, L48, L57, L60, L72, L90, L97, L98, L99, L100, L121, L122, L242, L255, L256, L580, L600, L1000, L1584, L1000000, Ln1, iN_add, iN_and, iN_or, iN_nd, iN_shl, iN_shr, iN_cl, iN_in, iN_mul, H2.k, H2.r0, H2.r1, H2.r2, H2.r3, H2.r4, H2.r5, H2.k1, H2.k2, H2.k3, H2.k4, H2.k5, H2.k6, H2.n, H2.m, H2.lp, H2.hr, H2.tp, H2.ln, H2.lk, H2.me, H2.he, k80 w2, r80_0 w2, r80_4 w2, r80_5 w2, r80_6 w2, k80 w3, r80_0 w3, r80_4 w3, r80_5 w3, r80_6 w3, ile_n, t94 H2 W, t130 H2 W hc, ek, a1, b3, zN_none, zN_some, ij_n, jj_p]
      | some v =>
        have hv := hV9 c v ev
        rw [ev] at a1
        cases xd with
        | none =>
          refine set (some v) ev (by unfold bnf; rw [ev]) ?_
          unfold f150_12 f150_71 f150_81
          rw [z1]
          simp (disch := omega) only [gT, nbeq, Option.isSome_some, Option.getD_some, Bool.and_true, Bool.true_and, Bool.and_self, mX_some, bS, bN_if, bN_01, i1_01, i0_01, if_true, if_false, Bool.false_eq_true, false_and, and_false, and_true, true_and, and_self, Bool.or_false, Bool.false_or, Bool.or_true, Bool.true_or, Bool.false_and, Bool.and_false, decide_true, decide_false, L0, L1, L2, L3, L4, L5, L6, L7, L8, L9, L10, L11, L12, L13, L14, L15, L16, L17, L18, L19, L20, L21, L22, L23, L24, L25, L27, L33, L39, L40, L45, L48, L57, L60, L72, L90, L97, L98, L99, L100, L121, L122, L242, L255, L256, L580, L600, L1000, L1584, L1000000, Ln1, iN_add, iN_and, iN_or, iN_nd, iN_shl, iN_shr, iN_cl, iN_in, iN_mul, H2.k, H2.r0, H2.r1, H2.r2, H2.r3, H2.r4, H2.r5, H2.k1, H2.k2, H2.k3, H2.k4, H2.k5, H2.k6, H2.n, H2.m, H2.lp, H2.hr, H2.tp, H2.ln, H2.lk, H2.me, H2.he, k80 w2, r80_0 w2, r80_4 w2, r80_5 w2, r80_6 w2, k80 w3, r80_0 w3, r80_4 w3, r80_5 w3, r80_6 w3, ile_n, t94 H2 W, t130 H2 W hc, ek, a1, b3, b4, zN_none, zN_some, ij_n, jj_p]
        | some d =>
          have hd := hXc.2.1 d rfl
          by_cases e : d ≤ v
          · refine skip (by unfold bnf; rw [ev]; simp only [e, if_true]) ?_
            unfold f150_12 f150_71 f150_81
            rw [z1]
            simp (disch := omega) only [gT, nbeq, Option.isSome_some, Option.getD_some, Bool.and_true, Bool.true_and, Bool.and_self, mX_some, bS, bN_if, bN_01, i1_01, i0_01, if_true, if_false, Bool.false_eq_true, false_and, and_false, and_true, true_and, and_self, Bool.or_false, Bool.false_or, Bool.or_true, Bool.true_or, Bool.false_and, Bool.and_false, decide_true, decide_false, L0, L1, L2, L3, L4, L5, L6, L7, L8, L9, L10, L11, L12, L13, L14, L15, L16, L17, L18, L19, L20, L21, L22, L23, L24, L25, L27, L33, L39, L40, L45, L48, L57, L60, L72, L90, L97, L98, L99, L100, L121, L122, L242, L255, L256, L580, L600, L1000, L1584, L1000000, Ln1, iN_add, iN_and, iN_or, iN_nd, iN_shl, iN_shr, iN_cl, iN_in, iN_mul, H2.k, H2.r0, H2.r1, H2.r2, H2.r3, H2.r4, H2.r5, H2.k1, H2.k2, H2.k3, H2.k4, H2.k5, H2.k6, H2.n, H2.m, H2.lp, H2.hr, H2.tp, H2.ln, H2.lk, H2.me, H2.he, k80 w2, r80_0 w2, r80_4 w2, r80_5 w2, r80_6 w2, k80 w3, r80_0 w3, r80_4 w3, r80_5 w3, r80_6 w3, ile_n, t94 H2 W, t130 H2 W hc, ek, a1, b3, b4, zN_some, ij_n, ile_p]
          · refine set (some v) ev (by unfold bnf; rw [ev]; simp only [e, if_false]) ?_
            unfold f150_12 f150_71 f150_81
            rw [z1]
            simp (disch := omega) only [gT, nbeq, Option.isSome_some, Option.getD_some, Bool.and_true, Bool.true_and, Bool.and_self, mX_some, bS, bN_if, bN_01, i1_01, i0_01, if_true, if_false, Bool.false_eq_true, false_and, and_false, and_true, true_and, and_self, Bool.or_false, Bool.false_or, Bool.or_true, Bool.true_or, Bool.false_and, Bool.and_false, decide_true, decide_false, L0, L1, L2, L3, L4, L5, L6, L7, L8, L9, L10, L11, L12, L13, L14, L15, L16, L17, L18, L19, L20, L21, L22, L23, L24, L25, L27, L33, L39, L40, L45, L48, L57, L60, L72, L90, L97, L98, L99, L100, L121, L122, L242, L255, L256, L580, L600, L1000, L1584, L1000000, Ln1, iN_add, iN_and, iN_or, iN_nd, iN_shl, iN_shr, iN_cl, iN_in, iN_mul, H2.k, H2.r0, H2.r1, H2.r2, H2.r3, H2.r4, H2.r5, H2.k1, H2.k2, H2.k3, H2.k4, H2.k5, H2.k6, H2.n, H2.m, H2.lp, H2.hr, H2.tp, H2.ln, H2.lk, H2.me, H2.he, k80 w2, r80_0 w2, r80_4 w2, r80_5 w2, r80_6 w2, k80 w3, r80_0 w3, r80_4 w3, r80_5 w3, r80_6 w3, ile_n, t94 H2 W, t130 H2 W hc, ek, a1, b3, b4, zN_some, ij_n]) (fun z hP => by
    obtain ⟨z1, z2, z3, z4⟩ := hP
    have H2 := H.fr z2 pn
    refine ⟨((), z.2), ?_, z2, z3, z4⟩
    unfold f150_12
    rw [z1]
    simp (disch := omega) only [gT, nbeq, Option.isSome_some, Option.getD_some, Bool.and_true, Bool.true_and, Bool.and_self, mX_some, bS, bN_if, bN_01, i1_01, i0_01, if_true, if_false, Bool.false_eq_true, false_and, and_false, and_true, true_and, and_self, Bool.or_false, Bool.false_or, Bool.or_true, Bool.true_or, Bool.false_and, Bool.and_false, decide_true, decide_false, L0, L1, L2, L3, L4, L5, L6, L7, L8, L9, L10, L11, L12, L13, L14, L15, L16, L17, L18, L19, L20, L21, L22, L23, L24, L25, L27, L33, L39, L40, L45, L48, L57, L60, L72, L90, L97, L98, L99, L100, L121, L122, L242, L255, L256, L580, L600, L1000, L1584, L1000000, Ln1, iN_add, iN_and, iN_or, iN_nd, iN_shl, iN_shr, iN_cl, iN_in, iN_mul, H2.k, H2.r0, H2.r1, H2.r2, H2.r3, H2.r4, H2.r5, H2.k1, H2.k2, H2.k3, H2.k4, H2.k5, H2.k6, H2.n, H2.m, H2.lp, H2.hr, H2.tp, H2.ln, H2.lk, H2.me, H2.he, ile_p]) (by omega) (s := (iN 0, mSI (mSI h 80 2 jN) 80 3 jN)) ⟨rfl, (Fr.rfl.si (by decide)).si (by decide), by rw [X0]; simp (disch := omega) only [si_ne, si_nk, si_eq]; rfl, by rw [X0]; simp (disch := omega) only [si_ne, si_nk, si_eq]; rfl⟩
  obtain ⟨⟨r, h'⟩, r1, r2, r3, r4⟩ := this
  exact ⟨h', r1, r2, r3, r4⟩
def bnL (x : Option Nat × Option Nat) : Nat := match x.1 with
  | none => 1000001
  | some _ => fN x.2
theorem t284l {x2 : Int32} (H : MoS h q) (W : QW q) (hB : ∀ s, B s = bsF q (q 0 2) s B) (hV : ∀ c, V c = fwO q (q 0 2) (kep q c) B) : ∃ h', mLoop (f284_26 193 x2) mFuel (jN, iN 1000001, iN 0, h) = some (if x2 = iN 0 then zN (up (bnf V) (q 0 0) (none, none)).1 else zN (up (bnf V) (q 0 0) (none, none)).2, h') ∧ Fr (fun b => Nat.beq b 212) h h' := by
  have hn := W.1.1
  have h8 := pw_8 hn
  have hp := pw_pos (q 0 0)
  have hlm := W.1.2.2.2
  have hl1 := W.1.2.2.1
  have hV9 : ∀ c d, V c = some d → d ≤ 99 := fun c d hd => fwO_le hlm hB (by rw [← hV c]; exact hd)
  obtain ⟨X, X0, Xs⟩ := up_ex (bnf V) (none, none)
  have eX : ∀ k, up (bnf V) k (none, none) = X k := by
    intro k
    induction k with
    | zero => exact X0.symm
    | succ k ih => rw [Xs, ← ih]; rfl
  have hX : ∀ k, k ≤ q 0 0 → bnI q (X k) := by
    intro k
    induction k with
    | zero => intro _; rw [X0]; exact ⟨fun b h => (by cases h), fun d h => (by cases h), fun _ => rfl⟩
    | succ k ih => intro hk; rw [Xs]; exact bn_I hV9 (by omega) (ih (by omega))
  rw [eX]
  have := lp_inv (body := f284_26 193 x2) (P := fun c z => z.1 = zN (X c).1 ∧ z.2.1 = iN (bnL (X c)) ∧ z.2.2.1 = iN c ∧ Fr (fun b => Nat.beq b 212) h z.2.2.2) (Q := fun r => r.1 = (if x2 = iN 0 then zN (X (q 0 0)).1 else zN (X (q 0 0)).2) ∧ Fr (fun b => Nat.beq b 212) h r.2) (q 0 0) (fun c z hc hP => by
    obtain ⟨z1, z2, z3, z4⟩ := hP
    have H2 := H.f212 z4
    have w2 := H2.1
    have hk := kep_lt (q := q) c
    obtain ⟨h1, a1, a2⟩ := t272 (K := kep q c) H2 W hlm hl1 hB hk (kep_cl W hc)
    rw [← hV c] at a1
    have F1 := z4.tr a2
    have hXc := hX c (by omega)
    have hf : fN (V c) ≤ 1000000 := by
      cases ev : V c with
      | none => exact Nat.le_refl _
      | some d => have := hV9 c d ev; show d ≤ 1000000; omega
    refine Or.inl ⟨(zN (X (c + 1)).1, iN (bnL (X (c + 1))), iN (c + 1), h1), ?_, rfl, rfl, rfl, F1⟩
    rw [Xs c]
    generalize X c = x at z1 z2 hXc
    have hbl : bnL x ≤ 1000001 := by
      obtain ⟨xb, xd⟩ := x
      unfold bnL
      cases xb with
      | none => exact Nat.le_refl _
      | some b =>
        cases xd with
        | none => show 1000000 ≤ 1000001; omega
        | some d => have := hXc.2.1 d rfl; show d ≤ 1000001; omega
    unfold f284_26
    rw [z1, z2, z3]
    simp (disch := omega) only [gT, nbeq, Option.isSome_some, Option.getD_some, Bool.and_true, Bool.true_and, Bool.and_self, mX_some, bS, bN_if, bN_01, i1_01, i0_01, if_true, if_false, Bool.false_eq_true, false_and, and_false, and_true, true_and, and_self, Bool.or_false, Bool.false_or, Bool.or_true, Bool.true_or, Bool.false_and, Bool.and_false, decide_true, decide_false, L0, L1, L2, L3, L4, L5, L6, L7, L8, L9, L10, L11, L12, L13, L14, L15, L16, L17, L18, L19, L20, L21, L22, L23, L24, L25, L27, L33, L39, L40, L45, L48, L57, L60, L72, L90, L97, L98, L99, L100, L121, L122, L242, L255, L256, L580, L600, L1000, L1584, L1000000, Ln1, iN_add, iN_and, iN_or, iN_nd, iN_shl, iN_shr, iN_cl, iN_in, iN_mul, k193 w2, r193_1 w2, r193_2 w2, r193_3 w2, r193_4 w2, r193_5 w2, r193_6 w2, r193_7 w2, r193_8 w2, r193_18 w2, r193_19 w2, r193_32 w2, r193_33 w2, r193_34 w2, r193_36 w2, r193_38 w2, r193_39 w2, r193_40 w2, r193_42 w2, r193_45 w2, r193_46 w2, r193_47 w2, r193_48 w2, r193_49 w2, r193_50 w2, H2.n, ile_n]
    refine (lp_up (body := f284_44 z.2.2.2 193 x2 (zN x.1) (iN (bnL x)) (iN c)) (fun o (s : Nat) => (iN s, iN o)) (ouf q c) (fun s => if s = sto q c then Sum.inl (zN (bnf V c x).1, iN (bnL (bnf V c x)), iN (c + 1), h1) else Sum.inl (iN 0, iN 0, iN 0, h)) (fun k s => s < 2 ^ q 0 0 ∧ (k = q 0 0 → s = sto q c) ∧ s = up (ouf q c) k (1 <<< c)) (q 0 0) (a0 := 1 <<< c) ⟨sh1_lt hc, fun e => by omega, rfl⟩ (fun k s hk hs => by
      have e1 : ouf q c k s = up (ouf q c) (k + 1) (1 <<< c) := by rw [hs.2.2]; rfl
      refine ⟨?_, fun e => by rw [e1, e, out_eq W hc], e1⟩
      unfold ouf
      refine or_lt hs.1 ?_
      split
      · exact sh1_lt hk
      · omega) ?_ ?_ (by omega)).trans ?_
    · intro o s ho hs2
      have hu := und_lt W (show o < 8 by omega)
      unfold f284_44 f284_77 ouf
      simp (disch := omega) only [gT, nbeq, Option.isSome_some, Option.getD_some, Bool.and_true, Bool.true_and, Bool.and_self, mX_some, bS, bN_if, bN_01, i1_01, i0_01, if_true, if_false, Bool.false_eq_true, false_and, and_false, and_true, true_and, and_self, Bool.or_false, Bool.false_or, Bool.or_true, Bool.true_or, Bool.false_and, Bool.and_false, decide_true, decide_false, L0, L1, L2, L3, L4, L5, L6, L7, L8, L9, L10, L11, L12, L13, L14, L15, L16, L17, L18, L19, L20, L21, L22, L23, L24, L25, L27, L33, L39, L40, L45, L48, L57, L60, L72, L90, L97, L98, L99, L100, L121, L122, L242, L255, L256, L580, L600, L1000, L1584, L1000000, Ln1, iN_add, iN_and, iN_or, iN_nd, iN_shl, iN_shr, iN_cl, iN_in, iN_mul, k193 w2, r193_1 w2, r193_2 w2, r193_3 w2, r193_4 w2, r193_5 w2, r193_6 w2, r193_7 w2, r193_8 w2, r193_18 w2, r193_19 w2, r193_32 w2, r193_33 w2, r193_34 w2, r193_36 w2, r193_38 w2, r193_39 w2, r193_40 w2, r193_42 w2, r193_45 w2, r193_46 w2, r193_47 w2, r193_48 w2, r193_49 w2, r193_50 w2, H2.n, ile_n, t271 H2 W ho, t221]
      cases e : (und q o).testBit c with
      | false => simp only [gT, nbeq, Option.isSome_some, Option.getD_some, Bool.and_true, Bool.true_and, Bool.and_self, mX_some, bS, bN_if, bN_01, i1_01, i0_01, if_true, if_false, Bool.false_eq_true, false_and, and_false, and_true, true_and, and_self, Bool.or_false, Bool.false_or, Bool.or_true, Bool.true_or, Bool.false_and, Bool.and_false, decide_true, decide_false]
      | true => simp only [gT, nbeq, Option.isSome_some, Option.getD_some, Bool.and_true, Bool.true_and, Bool.and_self, mX_some, bS, bN_if, bN_01, i1_01, i0_01, if_true, if_false, Bool.false_eq_true, false_and, and_false, and_true, true_and, and_self, Bool.or_false, Bool.false_or, Bool.or_true, Bool.true_or, Bool.false_and, Bool.and_false, decide_true, decide_false]
    · intro s hs2
      have es := hs2.2.1 rfl
      subst es
      have ek : iN (2 ^ q 0 0 - 1) &&& (iN (sto q c) ^^^ jN) = iN (kep q c) := iN_nd _ _
      rw [if_pos rfl]
      unfold f284_44 f284_123
      simp (disch := omega) only [gT, nbeq, Option.isSome_some, Option.getD_some, Bool.and_true, Bool.true_and, Bool.and_self, mX_some, bS, bN_if, bN_01, i1_01, i0_01, if_true, if_false, Bool.false_eq_true, false_and, and_false, and_true, true_and, and_self, Bool.or_false, Bool.false_or, Bool.or_true, Bool.true_or, Bool.false_and, Bool.and_false, decide_true, decide_false, L0, L1, L2, L3, L4, L5, L6, L7, L8, L9, L10, L11, L12, L13, L14, L15, L16, L17, L18, L19, L20, L21, L22, L23, L24, L25, L27, L33, L39, L40, L45, L48, L57, L60, L72, L90, L97, L98, L99, L100, L121, L122, L242, L255, L256, L580, L600, L1000, L1584, L1000000, Ln1, iN_add, iN_and, iN_or, iN_nd, iN_shl, iN_shr, iN_cl, iN_in, iN_mul, k193 w2, r193_1 w2, r193_2 w2, r193_3 w2, r193_4 w2, r193_5 w2, r193_6 w2, r193_7 w2, r193_8 w2, r193_18 w2, r193_19 w2, r193_32 w2, r193_33 w2, r193_34 w2, r193_36 w2, r193_38 w2, r193_39 w2, r193_40 w2, r193_42 w2, r193_45 w2, r193_46 w2, r193_47 w2, r193_48 w2, r193_49 w2, r193_50 w2, H2.n, ile_p, Nat.one_shiftLeft, iN_sub, t206 H2, fl0, ek]
      have ek2 : nd (2 ^ q 0 0 - 1) (sto q c) = kep q c := rfl
      simp (disch := omega) only [ek2, a1, gT, nbeq, Option.isSome_some, Option.getD_some, Bool.and_true, Bool.true_and, Bool.and_self, mX_some, bS, bN_if, bN_01, i1_01, i0_01, if_true, if_false, Bool.false_eq_true, false_and, and_false, and_true, true_and, and_self, Bool.or_false, Bool.false_or, Bool.or_true, Bool.true_or, Bool.false_and, Bool.and_false, decide_true, decide_false, ile_d, t195]
      obtain ⟨xb, xd⟩ := x
      cases xb with
      | none =>
        have e1 : bnL (none, xd) = 1000001 := rfl
        have e2 : bnL (bnf V c (none, xd)) = fN (V c) := rfl
        rw [e1, e2, if_neg (by omega), Nat.min_eq_right (by omega)]
        rfl
      | some b =>
        cases ev : V c with
        | none =>
          have e0 : bnf V c (some b, xd) = (some b, xd) := by unfold bnf; rw [ev]
          have e1 : bnL (some b, xd) = fN xd := rfl
          rw [ev] at hf
          have e3 : fN xd ≤ 1000000 := by
            cases xd with
            | none => exact Nat.le_refl _
            | some d => have := hXc.2.1 d rfl; show d ≤ 1000000; omega
          have e4 : fN none = 1000000 := rfl
          rw [e0, e1, e4, if_pos e3, Nat.min_eq_left e3]
          rfl
        | some v =>
          have hv := hV9 c v ev
          cases xd with
          | none =>
            have e0 : bnf V c (some b, none) = (some c, some v) := by unfold bnf; rw [ev]
            have e1 : bnL (some b, none) = 1000000 := rfl
            have e2 : bnL (some c, some v) = v := rfl
            have e4 : fN (some v) = v := rfl
            rw [e0, e1, e2, e4, if_neg (by omega), Nat.min_eq_right (by omega)]
            rfl
          | some d =>
            have e1 : bnL (some b, some d) = d := rfl
            have e4 : fN (some v) = v := rfl
            by_cases e : d ≤ v
            · have e0 : bnf V c (some b, some d) = (some b, some d) := by unfold bnf; rw [ev]; simp only [e, if_true]
              rw [e0, e1, e4, if_pos e, Nat.min_eq_left e]
              rfl
            · have e0 : bnf V c (some b, some d) = (some c, some v) := by unfold bnf; rw [ev]; simp only [e, if_false]
              have e2 : bnL (some c, some v) = v := rfl
              rw [e0, e1, e2, e4, if_neg e, Nat.min_eq_right (by omega)]
              rfl
    · rw [out_eq W hc, if_pos rfl]) (fun z hP => by
    obtain ⟨z1, z2, z3, z4⟩ := hP
    have H2 := H.f212 z4
    have w2 := H2.1
    have hXn := hX (q 0 0) (Nat.le_refl _)
    refine ⟨(if x2 = iN 0 then zN (X (q 0 0)).1 else zN (X (q 0 0)).2, z.2.2.2), ?_, rfl, z4⟩
    generalize X (q 0 0) = x at z1 z2 hXn
    obtain ⟨xb, xd⟩ := x
    cases xb with
    | none =>
      have e1 : xd = none := hXn.2.2 rfl
      subst e1
      have z1 : z.1 = jN := z1
      unfold f284_26 f284_156 f284_160 f284_170
      rw [z1, z2, z3]
      simp (disch := omega) only [gT, nbeq, Option.isSome_some, Option.getD_some, Bool.and_true, Bool.true_and, Bool.and_self, mX_some, bS, bN_if, bN_01, i1_01, i0_01, if_true, if_false, Bool.false_eq_true, false_and, and_false, and_true, true_and, and_self, Bool.or_false, Bool.false_or, Bool.or_true, Bool.true_or, Bool.false_and, Bool.and_false, decide_true, decide_false, L0, L1, L2, L3, L4, L5, L6, L7, L8, L9, L10, L11, L12, L13, L14, L15, L16, L17, L18, L19, L20, L21, L22, L23, L24, L25, L27, L33, L39, L40, L45, L48, L57, L60, L72, L90, L97, L98, L99, L100, L121, L122, L242, L255, L256, L580, L600, L1000, L1584, L1000000, Ln1, iN_add, iN_and, iN_or, iN_nd, iN_shl, iN_shr, iN_cl, iN_in, iN_mul, k193 w2, r193_1 w2, r193_2 w2, r193_3 w2, r193_4 w2, r193_5 w2, r193_6 w2, r193_7 w2, r193_8 w2, r193_18 w2, r193_19 w2, r193_32 w2, r193_33 w2, r193_34 w2, r193_36 w2, r193_38 w2, r193_39 w2, r193_40 w2, r193_42 w2, r193_45 w2, r193_46 w2, r193_47 w2, r193_48 w2, r193_49 w2, r193_50 w2, H2.n, ile_p, zN_none, jj_p, ite_self]
    | some b =>
      have hb := hXn.1 b rfl
      have z1 : z.1 = iN b := z1
      unfold f284_26 f284_156 f284_160 f284_170
      rw [z1, z2, z3]
      simp (disch := omega) only [gT, nbeq, Option.isSome_some, Option.getD_some, Bool.and_true, Bool.true_and, Bool.and_self, mX_some, bS, bN_if, bN_01, i1_01, i0_01, if_true, if_false, Bool.false_eq_true, false_and, and_false, and_true, true_and, and_self, Bool.or_false, Bool.false_or, Bool.or_true, Bool.true_or, Bool.false_and, Bool.and_false, decide_true, decide_false, L0, L1, L2, L3, L4, L5, L6, L7, L8, L9, L10, L11, L12, L13, L14, L15, L16, L17, L18, L19, L20, L21, L22, L23, L24, L25, L27, L33, L39, L40, L45, L48, L57, L60, L72, L90, L97, L98, L99, L100, L121, L122, L242, L255, L256, L580, L600, L1000, L1584, L1000000, Ln1, iN_add, iN_and, iN_or, iN_nd, iN_shl, iN_shr, iN_cl, iN_in, iN_mul, k193 w2, r193_1 w2, r193_2 w2, r193_3 w2, r193_4 w2, r193_5 w2, r193_6 w2, r193_7 w2, r193_8 w2, r193_18 w2, r193_19 w2, r193_32 w2, r193_33 w2, r193_34 w2, r193_36 w2, r193_38 w2, r193_39 w2, r193_40 w2, r193_42 w2, r193_45 w2, r193_46 w2, r193_47 w2, r193_48 w2, r193_49 w2, r193_50 w2, H2.n, ile_p, ij_n, zN_some]
      by_cases e : x2 = iN 0
      · simp only [e, if_true, gT, nbeq, Option.isSome_some, Option.getD_some, Bool.and_true, Bool.true_and, Bool.and_self, mX_some, bS, bN_if, bN_01, i1_01, i0_01, if_true, if_false, Bool.false_eq_true, false_and, and_false, and_true, true_and, and_self, Bool.or_false, Bool.false_or, Bool.or_true, Bool.true_or, Bool.false_and, Bool.and_false, decide_true, decide_false]
      · simp only [e, if_false, gT, nbeq, Option.isSome_some, Option.getD_some, Bool.and_true, Bool.true_and, Bool.and_self, mX_some, bS, bN_if, bN_01, i1_01, i0_01, if_true, if_false, Bool.false_eq_true, false_and, and_false, and_true, true_and, and_self, Bool.or_false, Bool.false_or, Bool.or_true, Bool.true_or, Bool.false_and, Bool.and_false, decide_true, decide_false]
        cases xd with
        | none =>
          have e1 : bnL (some b, none) = 1000000 := rfl
          rw [e1, ilt_n (by omega) (by omega) (by omega)]; rfl
        | some d =>
          have hd := hXn.2.1 d rfl
          have e1 : bnL (some b, some d) = d := rfl
          rw [e1, ilt_p (by omega) (by omega) (by omega)]; rfl) (by omega) (s := (jN, iN 1000001, iN 0, h)) ⟨by rw [X0]; rfl, by rw [X0]; rfl, rfl, Fr.rfl⟩
  obtain ⟨⟨r, h'⟩, r1, r2, r3⟩ := this
  have r2' : r = (if x2 = iN 0 then zN (X (q 0 0)).1 else zN (X (q 0 0)).2) := r2
  rw [r2'] at r1
  exact ⟨h', r1, r3⟩
end BN
section PB
variable {h : mH}
theorem c_ban (R : Rel h) (x1 x2 : Int32) : ∃ v h1, f149 h 0 x1 x2 = some (v, h1) ∧ FQ h h1 ∧ ∀ h0, FQ h h0 → ∃ h2, f284 h0 193 x1 x2 = some (v, h2) ∧ FQ h0 h2 := by
  have w := R.1
  unfold f149 f149_45
  simp only [gT, nbeq, Option.isSome_some, Option.getD_some, Bool.and_true, Bool.true_and, Bool.and_self, mX_some, bS, bN_if, bN_01, i1_01, i0_01, if_true, if_false, Bool.false_eq_true, false_and, and_false, and_true, true_and, and_self, Bool.or_false, Bool.false_or, Bool.or_true, Bool.true_or, Bool.false_and, Bool.and_false, decide_true, decide_false, k0 w, r0_0 w, r0_1 w, r0_2 w, r0_3 w, r0_4 w, r0_5 w, r0_6 w, r0_7 w, r0_8 w, k1 w, r1_0 w, r1_1 w, r1_2 w, r1_3 w, r1_4 w]
  rcases R.pick x1 with ⟨e1, e2⟩ | ⟨i, q, hi, rfl, W, H, e1, e2⟩
  · simp only [gT, nbeq, Option.isSome_some, Option.getD_some, Bool.and_true, Bool.true_and, Bool.and_self, mX_some, bS, bN_if, bN_01, i1_01, i0_01, if_true, if_false, Bool.false_eq_true, false_and, and_false, and_true, true_and, and_self, Bool.or_false, Bool.false_or, Bool.or_true, Bool.true_or, Bool.false_and, Bool.and_false, decide_true, decide_false, L0, L1, L2, L3, L4, L5, L6, L7, L8, L9, L10, L11, L12, L13, L14, L15, L16, L17, L18, L19, L20, L21, L22, L23, L24, L25, L27, L33, L39, L40, L45, L48, L57, L60, L72, L90, L97, L98, L99, L100, L121, L122, L242, L255, L256, L580, L600, L1000, L1584, L1000000, Ln1, iN_add, iN_and, iN_or, iN_nd, iN_shl, iN_shr, iN_cl, iN_in, iN_mul, Ln2, e1]
    refine ⟨_, _, rfl, FQ.rfl, fun h0 F => ?_⟩
    have w0 := R.1.q F
    unfold f284
    simp (disch := omega) only [gT, nbeq, Option.isSome_some, Option.getD_some, Bool.and_true, Bool.true_and, Bool.and_self, mX_some, bS, bN_if, bN_01, i1_01, i0_01, if_true, if_false, Bool.false_eq_true, false_and, and_false, and_true, true_and, and_self, Bool.or_false, Bool.false_or, Bool.or_true, Bool.true_or, Bool.false_and, Bool.and_false, decide_true, decide_false, L0, L1, L2, L3, L4, L5, L6, L7, L8, L9, L10, L11, L12, L13, L14, L15, L16, L17, L18, L19, L20, L21, L22, L23, L24, L25, L27, L33, L39, L40, L45, L48, L57, L60, L72, L90, L97, L98, L99, L100, L121, L122, L242, L255, L256, L580, L600, L1000, L1584, L1000000, Ln1, iN_add, iN_and, iN_or, iN_nd, iN_shl, iN_shr, iN_cl, iN_in, iN_mul, Ln2, k193 w0, r193_1 w0, r193_2 w0, r193_3 w0, r193_4 w0, r193_5 w0, r193_6 w0, r193_7 w0, r193_8 w0, r193_18 w0, r193_19 w0, r193_32 w0, r193_33 w0, r193_34 w0, r193_36 w0, r193_38 w0, r193_39 w0, r193_40 w0, r193_42 w0, r193_45 w0, r193_46 w0, r193_47 w0, r193_48 w0, r193_49 w0, r193_50 w0, e2 _ F.co]
    exact ⟨_, rfl, FQ.c0⟩
  · obtain ⟨B, hB⟩ := bs_ex q (q 0 2)
    obtain ⟨h1, a1, a2, a3, a4⟩ := t150 (V := fun c => fwO q (q 0 2) (kep q c) B) w H W (by omega) hB (fun _ => rfl)
    have F1 := (a2.mono pBn_pC).qC
    have w1 := w.q F1
    simp (disch := omega) only [gT, nbeq, Option.isSome_some, Option.getD_some, Bool.and_true, Bool.true_and, Bool.and_self, mX_some, bS, bN_if, bN_01, i1_01, i0_01, if_true, if_false, Bool.false_eq_true, false_and, and_false, and_true, true_and, and_self, Bool.or_false, Bool.false_or, Bool.or_true, Bool.true_or, Bool.false_and, Bool.and_false, decide_true, decide_false, L0, L1, L2, L3, L4, L5, L6, L7, L8, L9, L10, L11, L12, L13, L14, L15, L16, L17, L18, L19, L20, L21, L22, L23, L24, L25, L27, L33, L39, L40, L45, L48, L57, L60, L72, L90, L97, L98, L99, L100, L121, L122, L242, L255, L256, L580, L600, L1000, L1584, L1000000, Ln1, iN_add, iN_and, iN_or, iN_nd, iN_shl, iN_shr, iN_cl, iN_in, iN_mul, Ln2, e1, k0 w, r0_0 w, r0_1 w, r0_2 w, r0_3 w, r0_4 w, r0_5 w, r0_6 w, r0_7 w, r0_8 w, k80 w, r80_0 w, r80_4 w, r80_5 w, r80_6 w, k0 w1, r0_0 w1, r0_1 w1, r0_2 w1, r0_3 w1, r0_4 w1, r0_5 w1, r0_6 w1, r0_7 w1, r0_8 w1, k80 w1, r80_0 w1, r80_4 w1, r80_5 w1, r80_6 w1, a1, a3, a4]
    refine ⟨if x2 = iN 0 then zN (up (bnf (fun c => fwO q (q 0 2) (kep q c) B)) (q 0 0) (none, none)).1 else zN (up (bnf (fun c => fwO q (q 0 2) (kep q c) B)) (q 0 0) (none, none)).2, h1, ?_, F1, fun h0 F => ?_⟩
    · by_cases e : x2 = iN 0
      · simp only [e, if_true]
      · simp only [e, if_false]
    · have w0 := R.1.q F
      obtain ⟨h', f1, f2, f3, f4, f5⟩ := e2 _ F.co
      obtain ⟨h2, b1, b2⟩ := t284l (x2 := x2) f4 W hB (V := fun c => fwO q (q 0 2) (kep q c) B) (fun _ => rfl)
      refine ⟨h2, ?_, (FQ.c0.tr f2.qM).tr (b2.mono p212_pM).qM⟩
      have L1000001 : (1000001 : Int32) = iN 1000001 := by unfold iN; rfl
      unfold f284
      simp (disch := omega) only [gT, nbeq, Option.isSome_some, Option.getD_some, Bool.and_true, Bool.true_and, Bool.and_self, mX_some, bS, bN_if, bN_01, i1_01, i0_01, if_true, if_false, Bool.false_eq_true, false_and, and_false, and_true, true_and, and_self, Bool.or_false, Bool.false_or, Bool.or_true, Bool.true_or, Bool.false_and, Bool.and_false, decide_true, decide_false, L0, L1, L2, L3, L4, L5, L6, L7, L8, L9, L10, L11, L12, L13, L14, L15, L16, L17, L18, L19, L20, L21, L22, L23, L24, L25, L27, L33, L39, L40, L45, L48, L57, L60, L72, L90, L97, L98, L99, L100, L121, L122, L242, L255, L256, L580, L600, L1000, L1584, L1000000, Ln1, iN_add, iN_and, iN_or, iN_nd, iN_shl, iN_shr, iN_cl, iN_in, iN_mul, L1000001, Ln2, k193 w0, r193_1 w0, r193_2 w0, r193_3 w0, r193_4 w0, r193_5 w0, r193_6 w0, r193_7 w0, r193_8 w0, r193_18 w0, r193_19 w0, r193_32 w0, r193_33 w0, r193_34 w0, r193_36 w0, r193_38 w0, r193_39 w0, r193_40 w0, r193_42 w0, r193_45 w0, r193_46 w0, r193_47 w0, r193_48 w0, r193_49 w0, r193_50 w0, f1, b1]
end PB
