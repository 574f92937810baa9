/-! parse -/
theorem t4g {h : mH} {a n : Nat} {v : Int32} (K : mK h a = (100, n)) (hn : n < 5000) : ∃ h', f4 h a v = some ((), h') ∧ Fr (fun x => Nat.beq x a) h h' ∧ ∀ j, j < n → mI h' a j = v := by
  unfold f4
  simp only [gT, nbeq, Option.isSome_some, Option.getD_some, Bool.and_true, Bool.true_and, Bool.and_self, mX_some, bS, bN_if, bN_01, i1_01, i0_01, if_true, if_false, Bool.false_eq_true, false_and, and_false, and_true, true_and, and_self, Bool.or_false, Bool.false_or, Bool.or_true, Bool.true_or, Bool.false_and, Bool.and_false, decide_true, decide_false, K, ofN]
  have := lp_inv (body := f4_5 a v (iN n)) (P := fun i z => z.1 = iN i ∧ Fr (fun x => Nat.beq x a) h z.2 ∧ ∀ j, j < i → mI z.2 a j = v) (Q := fun r => Fr (fun x => Nat.beq x a) h r.2 ∧ ∀ j, j < n → mI r.2 a j = v) n (fun i z hi hP => by
    obtain ⟨z1, z2, z3⟩ := hP
    have K2 := (z2.k a).trans K
    refine Or.inl ⟨(iN (i + 1), mSI z.2 a i v), ?_, rfl, z2.si (nbeq a), fun j hj => ?_⟩
    · unfold f4_5
      rw [z1]
      simp (disch := omega) only [gT, nbeq, Option.isSome_some, Option.getD_some, Bool.and_true, Bool.true_and, Bool.and_self, mX_some, bS, bN_if, bN_01, i1_01, i0_01, if_true, if_false, Bool.false_eq_true, false_and, and_false, and_true, true_and, and_self, Bool.or_false, Bool.false_or, Bool.or_true, Bool.true_or, Bool.false_and, Bool.and_false, decide_true, decide_false, L0, L1, L2, L3, L4, L5, L6, L7, L8, L9, L10, L11, L12, L13, L14, L15, L16, L17, L18, L19, L20, L21, L22, L23, L24, L25, L27, L33, L39, L40, L45, L48, L57, L60, L72, L90, L97, L98, L99, L100, L121, L122, L242, L255, L256, L580, L600, L1000, L1584, L1000000, Ln1, iN_add, iN_and, iN_or, iN_nd, iN_shl, iN_shr, iN_cl, iN_in, iN_mul, ile_n, K2, iN_in, iN_cl]
    · by_cases e : j = i
      · subst e; simp only [si_ne, si_nk, si_eq]
      · simp (disch := omega) only [si_ne, si_nk, si_eq]; exact z3 j (by omega)) (fun z hP => by
    obtain ⟨z1, z2, z3⟩ := hP
    refine ⟨((), z.2), ?_, z2, z3⟩
    unfold f4_5
    rw [z1]
    simp (disch := omega) only [gT, nbeq, Option.isSome_some, Option.getD_some, Bool.and_true, Bool.true_and, Bool.and_self, mX_some, bS, bN_if, bN_01, i1_01, i0_01, if_true, if_false, Bool.false_eq_true, false_and, and_false, and_true, true_and, and_self, Bool.or_false, Bool.false_or, Bool.or_true, Bool.true_or, Bool.false_and, Bool.and_false, decide_true, decide_false, L0, L1, L2, L3, L4, L5, L6, L7, L8, L9, L10, L11, L12, L13, L14, L15, L16, L17, L18, L19, L20, L21, L22, L23, L24, L25, L27, L33, L39, L40, L45, L48, L57, L60, L72, L90, L97, L98, L99, L100, L121, L122, L242, L255, L256, L580, L600, L1000, L1584, L1000000, Ln1, iN_add, iN_and, iN_or, iN_nd, iN_shl, iN_shr, iN_cl, iN_in, iN_mul, ile_p]) (by omega) (s := (iN 0, h)) ⟨rfl, Fr.rfl, fun j hj => by omega⟩
  obtain ⟨⟨r, h'⟩, r1, r2⟩ := this
  simp only [L0]
  exact ⟨h', r1, r2⟩
/-- the empty library -/
def qE : LQ := fun a b => if a = 0 ∧ b = 2 then 6 else if a = 4 then 5 else 0
theorem beq_R {c : Nat} (h1 : 38 ≤ c) (h2 : c < 45) : ∀ b, (fun b => Nat.beq b c) b = true → pRg 38 7 b = true := by
  intro b hb
  have : b = c := Nat.eq_of_beq_eq_true hb
  rw [this]
  exact pRg_t h1 (by omega)
theorem t3 {h : mH} (w : Wd h) : ∃ h', f3 h 38 = some ((), h') ∧ Fr (pRg 38 7) h h' ∧ LibS h' 38 qE := by
  obtain ⟨h1, a1, b1, c1⟩ := t4g (v := iN 0) (k39 w) (by decide)
  have w1 := w.fr b1
  obtain ⟨h2, a2, b2, c2⟩ := t4g (v := iN 0) (k40 w1) (by decide)
  have w2 := w1.fr b2
  obtain ⟨h3, a3, b3, c3⟩ := t4g (v := iN 0) (k41 w2) (by decide)
  have w3 := w2.fr b3
  obtain ⟨h4, a4, b4, c4⟩ := t4g (v := iN 5) (k42 w3) (by decide)
  have w4 := w3.fr b4
  obtain ⟨h5, a5, b5, c5⟩ := t4g (v := iN 0) (k43 w4) (by decide)
  have w5 := w4.fr b5
  obtain ⟨h6, a6, b6, c6⟩ := t4g (v := iN 0) (k44 w5) (by decide)
  have w6 := w5.fr b6
  have F6 := (((((b1.mono (beq_R (by decide) (by decide))).tr (b2.mono (beq_R (by decide) (by decide)))).tr (b3.mono (beq_R (by decide) (by decide)))).tr (b4.mono (beq_R (by decide) (by decide)))).tr (b5.mono (beq_R (by decide) (by decide)))).tr (b6.mono (beq_R (by decide) (by decide)))
  have F9 : Fr (pRg 38 7) h (mSI (mSI (mSI h6 38 6 (iN 0)) 38 7 (iN 0)) 38 8 (iN 6)) := ((F6.si (by decide)).si (by decide)).si (by decide)
  refine ⟨mSI (mSI (mSI h6 38 6 (iN 0)) 38 7 (iN 0)) 38 8 (iN 6), ?_, F9, lk38 (w.fr F9), ⟨?_, ?_, ?_⟩, fun i hi j hj => ?_⟩
  · unfold f3
    simp (disch := omega) only [gT, nbeq, Option.isSome_some, Option.getD_some, Bool.and_true, Bool.true_and, Bool.and_self, mX_some, bS, bN_if, bN_01, i1_01, i0_01, if_true, if_false, Bool.false_eq_true, false_and, and_false, and_true, true_and, and_self, Bool.or_false, Bool.false_or, Bool.or_true, Bool.true_or, Bool.false_and, Bool.and_false, decide_true, decide_false, L0, L1, L2, L3, L4, L5, L6, L7, L8, L9, L10, L11, L12, L13, L14, L15, L16, L17, L18, L19, L20, L21, L22, L23, L24, L25, L27, L33, L39, L40, L45, L48, L57, L60, L72, L90, L97, L98, L99, L100, L121, L122, L242, L255, L256, L580, L600, L1000, L1584, L1000000, Ln1, iN_add, iN_and, iN_or, iN_nd, iN_shl, iN_shr, iN_cl, iN_in, iN_mul, k38 w, r38_0 w, r38_1 w, r38_2 w, r38_3 w, r38_4 w, r38_5 w, k38 w1, r38_0 w1, r38_1 w1, r38_2 w1, r38_3 w1, r38_4 w1, r38_5 w1, k38 w2, r38_0 w2, r38_1 w2, r38_2 w2, r38_3 w2, r38_4 w2, r38_5 w2, k38 w3, r38_0 w3, r38_1 w3, r38_2 w3, r38_3 w3, r38_4 w3, r38_5 w3, k38 w4, r38_0 w4, r38_1 w4, r38_2 w4, r38_3 w4, r38_4 w4, r38_5 w4, k38 w5, r38_0 w5, r38_1 w5, r38_2 w5, r38_3 w5, r38_4 w5, r38_5 w5, k38 w6, a1, a2, a3, a4, a5, a6]
  · simp (disch := omega) only [si_ne, si_nk, si_eq]; rfl
  · simp (disch := omega) only [si_ne, si_nk, si_eq]; rfl
  · simp (disch := omega) only [si_ne, si_nk, si_eq]; rfl
  · have : i = 0 ∨ i = 1 ∨ i = 2 ∨ i = 3 ∨ i = 4 ∨ i = 5 := by omega
    rcases this with rfl | rfl | rfl | rfl | rfl | rfl
    · simp (disch := omega) only [si_ne, si_nk, si_eq]; rw [b6.i rfl, b5.i rfl, b4.i rfl, b3.i rfl, b2.i rfl]; exact c1 j hj
    · simp (disch := omega) only [si_ne, si_nk, si_eq]; rw [b6.i rfl, b5.i rfl, b4.i rfl, b3.i rfl]; exact c2 j hj
    · simp (disch := omega) only [si_ne, si_nk, si_eq]; rw [b6.i rfl, b5.i rfl, b4.i rfl]; exact c3 j hj
    · simp (disch := omega) only [si_ne, si_nk, si_eq]; rw [b6.i rfl, b5.i rfl]; exact c4 j hj
    · simp (disch := omega) only [si_ne, si_nk, si_eq]; rw [b6.i rfl]; exact c5 j hj
    · simp (disch := omega) only [si_ne, si_nk, si_eq]; exact c6 j hj
def yrE : YQ := (0, fun _ => 0, fun _ => none, fun _ => none)
def gE : GQ := (0, fun _ => 0, fun _ => 0)
def cE : CQ := (qE, (0, 0), yrE, gE)
theorem cE_ok : CWF cE := by
  refine ⟨⟨⟨by decide, by decide, by decide, by decide⟩, fun c hc => ?_, fun c _ => ?_, fun c _ => ?_, fun c _ => ?_, fun t _ => ?_, fun p hp => ?_, fun p _ => ?_, fun p _ => ?_⟩, Nat.zero_le _, Nat.zero_le _, ⟨Nat.zero_le _, fun k hk => ?_⟩, ⟨Nat.zero_le _, fun k hk => ?_⟩⟩
  · have : c < 0 := hc; omega
  · show 0 ≤ 9; omega
  · show 0 ≤ 5; omega
  · show 0 < 2 ^ c; exact Nat.two_pow_pos _
  · show 5 ≤ 9; omega
  · have : p < 0 := hp; omega
  · show 0 ≤ 9; omega
  · show 0 < 2 ^ 0; omega
  · have : k < 0 := hk; omega
  · have : k < 0 := hk; omega
/-- all lines -/
def prs (b : Nat → Nat) (len sort : Nat) : Nat → Nat → CQ → FT → Nat ⊕ (CQ × FT)
  | 0, _, c, f => .inr (c, f)
  | n + 1, p, c, f => if tkK b len p = 0 then .inr (c, f) else match lnS b len sort p c f with
    | .inl x => .inl x
    | .inr y => prs b len sort n y.1 y.2.1 y.2.2
theorem prs_0 {b : Nat → Nat} {len sort n p : Nat} {c : CQ} {f : FT} (h : tkK b len p = 0) : prs b len sort (n + 1) p c f = .inr (c, f) := by
  rw [prs, if_pos h]
theorem prs_l {b : Nat → Nat} {len sort n p x : Nat} {c : CQ} {f : FT} (h : tkK b len p ≠ 0) (e : lnS b len sort p c f = .inl x) : prs b len sort (n + 1) p c f = .inl x := by
  rw [prs, if_neg h, e]
theorem prs_r {b : Nat → Nat} {len sort n p : Nat} {c : CQ} {f : FT} {y : Nat × CQ × FT} (h : tkK b len p ≠ 0) (e : lnS b len sort p c f = .inr y) : prs b len sort (n + 1) p c f = prs b len sort n y.1 y.2.1 y.2.2 := by
  rw [prs, if_neg h, e]
/-- the FAULT in the end -/
def ffn (c : CQ) (len : Nat) (f : FT) : FT := nt (decide (c.2.1.1 ≤ c.1 0 0 ∧ c.2.1.2 ≤ c.1 0 1)) 4 len f
def PRr (h : mH) (len : Nat) : Nat ⊕ (CQ × FT) → Prop
  | .inl x => BRk h x
  | .inr y => CC h y.1 (ffn y.1 len y.2) ∧ FTW (ffn y.1 len y.2) ∧ CWF y.1
section PS
variable {h : mH} {b : Nat → Nat} {len sort : Nat}
theorem t19f {c : CQ} {f : FT} (hl : len ≤ 600) (C : CC h c f) (W : FTW f) (V : CWF c) : ∃ h', f19_93 h 37 (iN len) = some ((), h') ∧ Fr p37 h h' ∧ PRr h' len (.inr (c, f)) := by
  have w := C.1
  have H := C.2.1
  obtain ⟨⟨⟨a1, a2, _, _⟩, _⟩, a3, a4, _⟩ := id V
  obtain ⟨h1, d1, d2, d3, d4⟩ := t36 (k := 4) (pl := len) C W
  have cA := C.2.2.2.2.1
  have cB := C.2.2.2.2.2.1
  unfold f19_93 f19_121 f19_127
  simp (disch := omega) only [gT, nbeq, Option.isSome_some, Option.getD_some, Bool.and_true, Bool.true_and, Bool.and_self, mX_some, bS, bN_if, bN_01, i1_01, i0_01, if_true, if_false, Bool.false_eq_true, false_and, and_false, and_true, true_and, and_self, Bool.or_false, Bool.false_or, Bool.or_true, Bool.true_or, Bool.false_and, Bool.and_false, decide_true, decide_false, L0, L1, L2, L3, L4, L5, L6, L7, L8, L9, L10, L11, L12, L13, L14, L15, L16, L17, L18, L19, L20, L21, L22, L23, L24, L25, L27, L33, L39, L40, L45, L48, L57, L60, L72, L90, L97, L98, L99, L100, L121, L122, L242, L255, L256, L580, L600, L1000, L1584, L1000000, Ln1, iN_add, iN_and, iN_or, iN_nd, iN_shl, iN_shr, iN_cl, iN_in, iN_mul, k37 w, r37_0 w, r37_1 w, r37_2 w, r37_5 w, r37_6 w, r37_7 w, k38 w, H.n, H.m, cA, cB, ilt_d, ile_d, d1]
  by_cases e1 : c.1 0 0 < c.2.1.1
  · rw [if_pos e1]
    have e3 : ffn c len f = nt false 4 len f := by unfold ffn; rw [decide_eq_false (by omega)]
    refine ⟨h1, rfl, d2, ?_⟩
    show CC h1 c (ffn c len f) ∧ FTW (ffn c len f) ∧ CWF c
    rw [e3]
    exact ⟨d3, W.nt ⟨by omega, by omega, hl⟩, V⟩
  · rw [if_neg e1]
    by_cases e2 : c.2.1.2 ≤ c.1 0 1
    · rw [if_pos e2]
      have e3 : ffn c len f = f := by unfold ffn; rw [decide_eq_true ⟨by omega, e2⟩]; rfl
      refine ⟨h, rfl, Fr.rfl, ?_⟩
      show CC h c (ffn c len f) ∧ FTW (ffn c len f) ∧ CWF c
      rw [e3]
      exact ⟨C, W, V⟩
    · rw [if_neg e2]
      have e3 : ffn c len f = nt false 4 len f := by unfold ffn; rw [decide_eq_false (by omega)]
      refine ⟨h1, rfl, d2, ?_⟩
      show CC h1 c (ffn c len f) ∧ FTW (ffn c len f) ∧ CWF c
      rw [e3]
      exact ⟨d3, W.nt ⟨by omega, by omega, hl⟩, V⟩
theorem t19l (hs : sort < 3) (T : TpC h b len) (S : SC h b len 0) (C : CC h cE none) : ∃ h', mLoop (f19_55 37 (iN sort) (iN len)) mFuel (iN 0, h) = some ((), h') ∧ Fr pPs h h' ∧ PRr h' len (prs b len sort 600 0 cE none) := by
  have hl := T.2.2.2.1
  have := lp_run2 (body := f19_55 37 (iN sort) (iN len)) (R := fun k (x : Nat × CQ × FT) s => s.1 = iN k ∧ Fr pPs h s.2 ∧ x.1 ≤ len ∧ TpC s.2 b len ∧ SC s.2 b len x.1 ∧ CC s.2 x.2.1 x.2.2 ∧ FTW x.2.2 ∧ CWF x.2.1) (Q := fun v r => Fr pPs h r.2 ∧ PRr r.2 len v) (go := fun n _ x => prs b len sort n x.1 x.2.1 x.2.2) 600 (fun n k x s hn hR => by
    obtain ⟨z1, z2, z3, z4, z5, z6, z7, z8⟩ := hR
    obtain ⟨p, c, f⟩ := x
    have z3 : p ≤ len := z3
    have w2 := z4.1
    have s3 := z5.2.2.1
    have hkk := tkK_le (b := b) (len := len) (p := p)
    by_cases e0 : tkK b len p = 0
    · obtain ⟨h1, d1, d2, d3⟩ := t19f hl z6 z7 z8
      refine Or.inr ⟨((), h1), ?_, z2.tr (d2.mono p37_Ps), ?_⟩
      · unfold f19_55
        rw [z1]
        have s3 : mI s.2 52 3 = iN (tkK b len p) := s3
        rw [e0] at s3
        simp (disch := omega) only [gT, nbeq, Option.isSome_some, Option.getD_some, Bool.and_true, Bool.true_and, Bool.and_self, mX_some, bS, bN_if, bN_01, i1_01, i0_01, if_true, if_false, Bool.false_eq_true, false_and, and_false, and_true, true_and, and_self, Bool.or_false, Bool.false_or, Bool.or_true, Bool.true_or, Bool.false_and, Bool.and_false, decide_true, decide_false, L0, L1, L2, L3, L4, L5, L6, L7, L8, L9, L10, L11, L12, L13, L14, L15, L16, L17, L18, L19, L20, L21, L22, L23, L24, L25, L27, L33, L39, L40, L45, L48, L57, L60, L72, L90, L97, L98, L99, L100, L121, L122, L242, L255, L256, L580, L600, L1000, L1584, L1000000, Ln1, iN_add, iN_and, iN_or, iN_nd, iN_shl, iN_shr, iN_cl, iN_in, iN_mul, ile_n, k37 w2, r37_0 w2, r37_1 w2, r37_2 w2, r37_5 w2, r37_6 w2, r37_7 w2, k52 w2, s3, ieq_p, d1]
      · show PRr h1 len (prs b len sort (n + 1) p c f)
        rw [prs_0 e0]; exact d3
    · obtain ⟨h1, d1, d2, d3⟩ := t26 hs z3 z4 z5 z6 z7 z8
      have w3 := w2.fr d2
      have s3 : mI s.2 52 3 = iN (tkK b len p) := s3
      cases hr : lnS b len sort p c f with
      | inl y =>
        have d3 : RLr b len p h1 (lnS b len sort p c f) := d3
        rw [hr] at d3
        obtain ⟨y1, y2, y3⟩ := d3
        refine Or.inr ⟨((), h1), ?_, z2.tr d2, ?_⟩
        · unfold f19_55
          rw [z1]
          simp (disch := omega) only [gT, nbeq, Option.isSome_some, Option.getD_some, Bool.and_true, Bool.true_and, Bool.and_self, mX_some, bS, bN_if, bN_01, i1_01, i0_01, if_true, if_false, Bool.false_eq_true, false_and, and_false, and_true, true_and, and_self, Bool.or_false, Bool.false_or, Bool.or_true, Bool.true_or, Bool.false_and, Bool.and_false, decide_true, decide_false, L0, L1, L2, L3, L4, L5, L6, L7, L8, L9, L10, L11, L12, L13, L14, L15, L16, L17, L18, L19, L20, L21, L22, L23, L24, L25, L27, L33, L39, L40, L45, L48, L57, L60, L72, L90, L97, L98, L99, L100, L121, L122, L242, L255, L256, L580, L600, L1000, L1584, L1000000, Ln1, iN_add, iN_and, iN_or, iN_nd, iN_shl, iN_shr, iN_cl, iN_in, iN_mul, ile_n, k37 w2, r37_0 w2, r37_1 w2, r37_2 w2, r37_5 w2, r37_6 w2, r37_7 w2, k52 w2, s3, ieq_n, d1, k37 w3, r37_0 w3, r37_1 w3, r37_2 w3, r37_5 w3, r37_6 w3, r37_7 w3, y2, ieq_p]
        · show PRr h1 len (prs b len sort (n + 1) p c f)
          rw [prs_l e0 hr]; exact ⟨y1, y2, y3⟩
      | inr y =>
        have d3 : RLr b len p h1 (lnS b len sort p c f) := d3
        rw [hr] at d3
        obtain ⟨⟨y1, y2⟩, y3, y4, y5, y6, y7⟩ := d3
        have ny : ∃ m, m ≠ 1 ∧ m < 5 ∧ mI h1 37 3 = iN m := by
          have cF := y5.2.2.2.2.2.2
          cases hf : y.2.2 with
          | none => rw [hf] at cF; exact ⟨0, by omega, by omega, cF.1⟩
          | some u =>
            rw [hf] at cF y6
            have := y6 u.1 u.2 rfl
            exact ⟨u.1, by omega, by omega, cF.1⟩
        obtain ⟨m, m1, m2, m3⟩ := ny
        refine Or.inl ⟨(iN (k + 1), h1), y, ?_, ⟨rfl, z2.tr d2, y1, y3, y4, y5, y6, y7⟩, ?_⟩
        · unfold f19_55
          rw [z1]
          simp (disch := omega) only [gT, nbeq, Option.isSome_some, Option.getD_some, Bool.and_true, Bool.true_and, Bool.and_self, mX_some, bS, bN_if, bN_01, i1_01, i0_01, if_true, if_false, Bool.false_eq_true, false_and, and_false, and_true, true_and, and_self, Bool.or_false, Bool.false_or, Bool.or_true, Bool.true_or, Bool.false_and, Bool.and_false, decide_true, decide_false, L0, L1, L2, L3, L4, L5, L6, L7, L8, L9, L10, L11, L12, L13, L14, L15, L16, L17, L18, L19, L20, L21, L22, L23, L24, L25, L27, L33, L39, L40, L45, L48, L57, L60, L72, L90, L97, L98, L99, L100, L121, L122, L242, L255, L256, L580, L600, L1000, L1584, L1000000, Ln1, iN_add, iN_and, iN_or, iN_nd, iN_shl, iN_shr, iN_cl, iN_in, iN_mul, ile_n, k37 w2, r37_0 w2, r37_1 w2, r37_2 w2, r37_5 w2, r37_6 w2, r37_7 w2, k52 w2, s3, ieq_n, d1, k37 w3, r37_0 w3, r37_1 w3, r37_2 w3, r37_5 w3, r37_6 w3, r37_7 w3, m3]
        · show prs b len sort (n + 1) p c f = prs b len sort n y.1 y.2.1 y.2.2
          rw [prs_r e0 hr]) (fun x s hR => by
    obtain ⟨z1, z2, z3, z4, z5, z6, z7, z8⟩ := hR
    obtain ⟨h1, d1, d2, d3⟩ := t19f hl z6 z7 z8
    refine ⟨((), h1), ?_, z2.tr (d2.mono p37_Ps), ?_⟩
    · unfold f19_55
      rw [z1]
      simp (disch := omega) only [gT, nbeq, Option.isSome_some, Option.getD_some, Bool.and_true, Bool.true_and, Bool.and_self, mX_some, bS, bN_if, bN_01, i1_01, i0_01, if_true, if_false, Bool.false_eq_true, false_and, and_false, and_true, true_and, and_self, Bool.or_false, Bool.false_or, Bool.or_true, Bool.true_or, Bool.false_and, Bool.and_false, decide_true, decide_false, L0, L1, L2, L3, L4, L5, L6, L7, L8, L9, L10, L11, L12, L13, L14, L15, L16, L17, L18, L19, L20, L21, L22, L23, L24, L25, L27, L33, L39, L40, L45, L48, L57, L60, L72, L90, L97, L98, L99, L100, L121, L122, L242, L255, L256, L580, L600, L1000, L1584, L1000000, Ln1, iN_add, iN_and, iN_or, iN_nd, iN_shl, iN_shr, iN_cl, iN_in, iN_mul, ile_p, d1]
    · exact d3) (by omega) (x0 := (0, cE, none)) (s := (iN 0, h)) ⟨rfl, Fr.rfl, Nat.zero_le _, T, S, C, fun k pl e => (by cases e), cE_ok⟩
  obtain ⟨⟨r, h'⟩, r1, r2, r3⟩ := this
  exact ⟨h', r1, r2, r3⟩
theorem pPs_C : ∀ x, pPs x = true → pC x = true := fun x h => by
  by_cases e : 37 ≤ x ∧ x < 56
  · unfold pC
    rw [nble e.1]
    have : Nat.blt x 91 = true := Nat.ble_eq_true_of_le (by omega)
    rw [this]; rfl
  · have : pPs x = false := pRg_f (by omega)
    rw [this] at h; cases h
theorem FQ.sr {v : Option Nat} : FQ h (mSR h 52 0 v) := ⟨Eq.refl _, fun a j p => by
  rw [mR_SR, if_neg (fun q => by rw [q.1, q.2] at p; cases p)], fun a _ _ j => by rw [mI_SR]⟩
theorem t19 (hs : sort < 3) (w : Wd h) (hl : len ≤ 600) (hb : ∀ i, i < len → b i < 256 ∧ mI h 2 i = iN (b i)) : ∃ h', f19 h 37 (iN sort) 2 (iN len) = some ((), h') ∧ FQ h h' ∧ PRr h' len (prs b len sort 600 0 cE none) := by
  obtain ⟨h1, a1, a2, a3⟩ := t3 w
  have w1 := w.fr a2
  have F2 : Fr pPs h1 (mSI (mSI (mSI (mSI (mSI (mSI h1 45 3 (iN 0)) 49 2 (iN 0)) 37 9 (iN 0)) 37 10 (iN 0)) 37 3 (iN 0)) 37 4 jN) := (((((Fr.rfl.si (by decide)).si (by decide)).si (by decide)).si (by decide)).si (by decide)).si (by decide)
  generalize hg : mSI (mSI (mSI (mSI (mSI (mSI h1 45 3 (iN 0)) 49 2 (iN 0)) 37 9 (iN 0)) 37 10 (iN 0)) 37 3 (iN 0)) 37 4 jN = g at F2
  have wg := w1.fr F2
  have C2 : CC g cE none := by
    refine ⟨wg, ?_, ⟨lk45 wg, ?_, fun k hk => (by have : k < 0 := hk; omega)⟩, ⟨lk49 wg, ?_, fun k hk => (by have : k < 0 := hk; omega)⟩, ?_, ?_, ?_, ?_⟩
    · refine a3.st (fun i hi => ⟨F2.k _, fun j _ => F2.r _ _, fun j => ?_⟩)
      rw [← hg]; simp (disch := omega) only [si_ne, si_nk, si_eq]
    · rw [← hg]; simp (disch := omega) only [si_ne, si_nk, si_eq]; rfl
    · rw [← hg]; simp (disch := omega) only [si_ne, si_nk, si_eq]; rfl
    · rw [← hg]; simp (disch := omega) only [si_ne, si_nk, si_eq]; rfl
    · rw [← hg]; simp (disch := omega) only [si_ne, si_nk, si_eq]; rfl
    · rw [← hg]; simp (disch := omega) only [si_ne, si_nk, si_eq]
    · rw [← hg]; simp (disch := omega) only [si_ne, si_nk, si_eq]
  have w3 : Wd (mSR g 52 0 (some 2)) := wg.q FQ.sr
  have F4 : Fr p52 (mSR g 52 0 (some 2)) (mSI (mSI (mSR g 52 0 (some 2)) 52 1 (iN len)) 52 2 (iN 0)) := (Fr.rfl.si rfl).si rfl
  have w4 := w3.fr F4
  have tp : ∀ i, mI g 2 i = mI h 2 i := fun i => by rw [F2.i (pRg_f (by omega)), a2.i (pRg_f (by omega))]
  have T4 : TpC (mSI (mSI (mSR g 52 0 (some 2)) 52 1 (iN len)) 52 2 (iN 0)) b len := ⟨w4, by rw [mR_SI, mR_SI, mR_SR, if_pos ⟨rfl, rfl⟩], by simp (disch := omega) only [si_ne, si_nk, si_eq], hl, fun i hi => ⟨(hb i hi).1, by rw [F4.i rfl, mI_SR, tp]; exact (hb i hi).2⟩⟩
  obtain ⟨h5, b1, b2, b3, b4⟩ := t21 T4 (Nat.zero_le _) (by simp only [si_ne, si_nk, si_eq])
  have C5 : CC h5 cE none := by
    have C3 : CC (mSR g 52 0 (some 2)) cE none := by
      obtain ⟨_, cL, cY, cG, cA, cB, cF⟩ := C2
      have st : ∀ x, x ≠ 52 → St g (mSR g 52 0 (some 2)) x := fun x hx => ⟨rfl, fun j _ => by rw [mR_SR, if_neg (fun q => hx q.1)], fun j => by rw [mI_SR]⟩
      exact ⟨w3, cL.st (fun i hi => st _ (by omega)), cY.st (fun i hi => st _ (by omega)), cG.st (fun i hi => st _ (by omega)), by rw [mI_SR]; exact cA, by rw [mI_SR]; exact cB, by rw [mI_SR]; exact cF.1, by rw [mI_SR]; exact cF.2⟩
    exact (C3.fr F4 (fun i g1 g2 => nbq (by omega))).fr b2 (fun i g1 g2 => nbq (by omega))
  obtain ⟨h6, c1, c2, c3⟩ := t19l hs b3 b4 C5
  have Q1 : FQ h h1 := (a2.mono (fun x hx => pPs_C x (pPr_Ps x (pRL_Pr x hx)))).qC
  have Q2 : FQ h1 g := (F2.mono pPs_C).qC
  have Q3 : FQ (mSR g 52 0 (some 2)) h5 := ((F4.tr b2).mono (fun x hx => pPs_C x (pSn_Ps x (p52_Sn x hx)))).qC
  have Q4 : FQ h5 h6 := (c2.mono pPs_C).qC
  refine ⟨h6, ?_, (((Q1.tr Q2).tr FQ.sr).tr Q3).tr Q4, c3⟩
  unfold f19 f20
  simp (disch := omega) only [gT, nbeq, Option.isSome_some, Option.getD_some, Bool.and_true, Bool.true_and, Bool.and_self, mX_some, bS, bN_if, bN_01, i1_01, i0_01, if_true, if_false, Bool.false_eq_true, false_and, and_false, and_true, true_and, and_self, Bool.or_false, Bool.false_or, Bool.or_true, Bool.true_or, Bool.false_and, Bool.and_false, decide_true, decide_false, L0, L1, L2, L3, L4, L5, L6, L7, L8, L9, L10, L11, L12, L13, L14, L15, L16, L17, L18, L19, L20, L21, L22, L23, L24, L25, L27, L33, L39, L40, L45, L48, L57, L60, L72, L90, L97, L98, L99, L100, L121, L122, L242, L255, L256, L580, L600, L1000, L1584, L1000000, Ln1, iN_add, iN_and, iN_or, iN_nd, iN_shl, iN_shr, iN_cl, iN_in, iN_mul, k37 w, r37_0 w, r37_1 w, r37_2 w, r37_5 w, r37_6 w, r37_7 w, k38 w, a1, k37 w1, r37_0 w1, r37_1 w1, r37_2 w1, r37_5 w1, r37_6 w1, r37_7 w1, k52 w1, k45 w1, k49 w1, hg]
  simp (disch := omega) only [gT, nbeq, Option.isSome_some, Option.getD_some, Bool.and_true, Bool.true_and, Bool.and_self, mX_some, bS, bN_if, bN_01, i1_01, i0_01, if_true, if_false, Bool.false_eq_true, false_and, and_false, and_true, true_and, and_self, Bool.or_false, Bool.false_or, Bool.or_true, Bool.true_or, Bool.false_and, Bool.and_false, decide_true, decide_false, L0, L1, L2, L3, L4, L5, L6, L7, L8, L9, L10, L11, L12, L13, L14, L15, L16, L17, L18, L19, L20, L21, L22, L23, L24, L25, L27, L33, L39, L40, L45, L48, L57, L60, L72, L90, L97, L98, L99, L100, L121, L122, L242, L255, L256, L580, L600, L1000, L1584, L1000000, Ln1, iN_add, iN_and, iN_or, iN_nd, iN_shl, iN_shr, iN_cl, iN_in, iN_mul, k52 wg, k2 wg, ofN, ilt_n]
  have e52 : mK (mSR g 52 0 (some 2)) 52 = mK g 52 := rfl
  simp (disch := omega) only [gT, nbeq, Option.isSome_some, Option.getD_some, Bool.and_true, Bool.true_and, Bool.and_self, mX_some, bS, bN_if, bN_01, i1_01, i0_01, if_true, if_false, Bool.false_eq_true, false_and, and_false, and_true, true_and, and_self, Bool.or_false, Bool.false_or, Bool.or_true, Bool.true_or, Bool.false_and, Bool.and_false, decide_true, decide_false, L0, L1, L2, L3, L4, L5, L6, L7, L8, L9, L10, L11, L12, L13, L14, L15, L16, L17, L18, L19, L20, L21, L22, L23, L24, L25, L27, L33, L39, L40, L45, L48, L57, L60, L72, L90, L97, L98, L99, L100, L121, L122, L242, L255, L256, L580, L600, L1000, L1584, L1000000, Ln1, iN_add, iN_and, iN_or, iN_nd, iN_shl, iN_shr, iN_cl, iN_in, iN_mul, e52, k52 wg, mK_SR, k2 wg, b1, c1]
end PS
