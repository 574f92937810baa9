/-! PEOPLE and days that FIT -/
def faB (g : GQ) (x : Nat) : Nat → Bool
  | 0 => true
  | n + 1 => faB g x n && decide (x.testBit (g.2.2 n) = decide (g.2.1 n = 0))
theorem faB_f {g : GQ} {x : Nat} : ∀ {i n : Nat}, i ≤ n → faB g x i = false → faB g x n = false := by
  intro i n
  induction n with
  | zero => intro h e; have : i = 0 := by omega
            subst this; exact e
  | succ n ih =>
    intro h e
    by_cases e2 : i = n + 1
    · subst e2; exact e
    · simp only [faB]; rw [ih (by omega) e]; rfl
def oth (g : GQ) (m : Nat) : Nat → Bool
  | 0 => false
  | n + 1 => oth g m n || decide (¬ g.2.2 n < m)
theorem oth_t {g : GQ} {m : Nat} : ∀ {i n : Nat}, i ≤ n → oth g m i = true → oth g m n = true := by
  intro i n
  induction n with
  | zero => intro h e; have : i = 0 := by omega
            subst this; exact e
  | succ n ih =>
    intro h e
    by_cases e2 : i = n + 1
    · subst e2; exact e
    · simp only [oth]; rw [ih (by omega) e]; rfl
theorem oth_lt {g : GQ} {m n : Nat} (h : oth g m n = false) : ∀ k, k < n → g.2.2 k < m := by
  induction n with
  | zero => intro k hk; omega
  | succ n ih =>
    simp only [oth, Bool.or_eq_false_iff] at h
    intro k hk
    by_cases e : k = n
    · subst e
      have := h.2
      rw [decide_eq_false_iff_not] at this
      omega
    · exact ih h.1 k (by omega)
def kw (q : LQ) (f : Nat) : Nat := nws q 0 (f % 10) (1 <<< (f / 10))
def fitB (q : LQ) (g : GQ) (f : Nat) : Bool := faB g (kw q f) g.1
def ftf (q : LQ) (g : GQ) : Nat → List Nat → List Nat := fun f l => if fitB q g f = true then l ++ [f] else l
def ftl (q : LQ) (g : GQ) (n : Nat) : List Nat := up (ftf q g) n []
theorem ftl_s (q : LQ) (g : GQ) (n : Nat) : ftl q g (n + 1) = if fitB q g n = true then ftl q g n ++ [n] else ftl q g n := rfl
theorem ftl_ok (q : LQ) (g : GQ) : ∀ n, (ftl q g n).length ≤ n ∧ (∀ k, k < (ftl q g n).length → (ftl q g n).getD k 0 < n) ∧ ∀ i j, i < j → j < (ftl q g n).length → (ftl q g n).getD i 0 < (ftl q g n).getD j 0 := by
  intro n
  induction n with
  | zero => exact ⟨Nat.le_refl _, fun k hk => absurd hk (by simp [ftl, up]), fun i j _ hj => absurd hj (by simp [ftl, up])⟩
  | succ n ih =>
    obtain ⟨h1, h2, h3⟩ := ih
    rw [ftl_s]
    generalize ftl q g n = l at h1 h2 h3
    split
    · refine ⟨by simp; omega, fun k hk => ?_, fun i j hij hj => ?_⟩
      · simp at hk
        by_cases e : k < l.length
        · have := h2 k e
          rw [List.getD_eq_getElem?_getD, List.getElem?_append_left e, ← List.getD_eq_getElem?_getD]; omega
        · have e2 : k = l.length := by omega
          subst e2
          rw [List.getD_eq_getElem?_getD, List.getElem?_append_right (Nat.le_refl _)]; simp
      · simp at hj
        have hi : i < l.length := by omega
        rw [List.getD_eq_getElem?_getD, List.getElem?_append_left hi, ← List.getD_eq_getElem?_getD]
        by_cases e : j < l.length
        · rw [List.getD_eq_getElem?_getD (l := l ++ [n]), List.getElem?_append_left e, ← List.getD_eq_getElem?_getD]
          exact h3 i j hij e
        · have e2 : j = l.length := by omega
          subst e2
          rw [List.getD_eq_getElem?_getD (l := l ++ [n]), List.getElem?_append_right (Nat.le_refl _)]
          have := h2 i hi
          simpa using this
    · exact ⟨by omega, fun k hk => by have := h2 k hk; omega, h3⟩
theorem app_l {l : List Nat} {x k : Nat} (h : k < l.length) : (l ++ [x]).getD k 0 = l.getD k 0 := by
  rw [List.getD_eq_getElem?_getD, List.getElem?_append_left h, ← List.getD_eq_getElem?_getD]
theorem app_r {l : List Nat} {x : Nat} : (l ++ [x]).getD l.length 0 = x := by
  rw [List.getD_eq_getElem?_getD, List.getElem?_append_right (Nat.le_refl _)]; simp
section LF
variable {h : mH} {la ga : Nat} {q : LQ} {g : GQ}
theorem t116 (H : LibS h la q) (W : QW q) (G : LgS h ga g) (V : GW g) : f116 h ga la = some (bN (oth g (q 0 1) g.1)) := by
  have hg := V.1
  have := lp_inv (body := f116_2 h ga la) (P := fun i s => s = iN i ∧ oth g (q 0 1) i = false) (Q := fun r => r = bN (oth g (q 0 1) g.1)) g.1 (fun i s hi hP => by
    obtain ⟨rfl, ho⟩ := hP
    have hp := (V.2 i hi).2
    by_cases e : g.2.2 i < q 0 1
    · refine Or.inl ⟨iN (i + 1), ?_, rfl, ?_⟩
      · unfold f116_2
        simp (disch := omega) only [gT, nbeq, Option.isSome_some, Option.getD_some, Bool.and_true, Bool.true_and, Bool.and_self, mX_some, bS, bN_if, bN_01, i1_01, i0_01, if_true, if_false, Bool.false_eq_true, false_and, and_false, and_true, true_and, and_self, Bool.or_false, Bool.false_or, Bool.or_true, Bool.true_or, Bool.false_and, Bool.and_false, decide_true, decide_false, L0, L1, L2, L3, L4, L5, L6, L7, L8, L9, L10, L11, L12, L13, L14, L15, L16, L17, L18, L19, L20, L21, L22, L23, L24, L25, L27, L33, L39, L40, L45, L48, L57, L60, L72, L90, L97, L98, L99, L100, L121, L122, L242, L255, L256, L580, L600, L1000, L1584, L1000000, Ln1, iN_add, iN_and, iN_or, iN_nd, iN_shl, iN_shr, iN_cl, iN_in, iN_mul, G.k, G.r1, G.k2, G.n, G.a1, H.k, ile_n, t57 H W, rg_iN, e]
      · simp only [oth]; rw [ho, decide_eq_false (by omega)]; rfl
    · refine Or.inr ⟨iN 1, ?_, ?_⟩
      · unfold f116_2
        simp (disch := omega) only [gT, nbeq, Option.isSome_some, Option.getD_some, Bool.and_true, Bool.true_and, Bool.and_self, mX_some, bS, bN_if, bN_01, i1_01, i0_01, if_true, if_false, Bool.false_eq_true, false_and, and_false, and_true, true_and, and_self, Bool.or_false, Bool.false_or, Bool.or_true, Bool.true_or, Bool.false_and, Bool.and_false, decide_true, decide_false, L0, L1, L2, L3, L4, L5, L6, L7, L8, L9, L10, L11, L12, L13, L14, L15, L16, L17, L18, L19, L20, L21, L22, L23, L24, L25, L27, L33, L39, L40, L45, L48, L57, L60, L72, L90, L97, L98, L99, L100, L121, L122, L242, L255, L256, L580, L600, L1000, L1584, L1000000, Ln1, iN_add, iN_and, iN_or, iN_nd, iN_shl, iN_shr, iN_cl, iN_in, iN_mul, G.k, G.r1, G.k2, G.n, G.a1, H.k, ile_n, t57 H W, rg_iN, e]
      · rw [oth_t (i := i + 1) (by omega) (by simp only [oth]; rw [decide_eq_true e]; simp)]; rfl) (fun s hP => by
    obtain ⟨rfl, ho⟩ := hP
    refine ⟨iN 0, ?_, by rw [ho]; rfl⟩
    unfold f116_2
    simp (disch := omega) only [gT, nbeq, Option.isSome_some, Option.getD_some, Bool.and_true, Bool.true_and, Bool.and_self, mX_some, bS, bN_if, bN_01, i1_01, i0_01, if_true, if_false, Bool.false_eq_true, false_and, and_false, and_true, true_and, and_self, Bool.or_false, Bool.false_or, Bool.or_true, Bool.true_or, Bool.false_and, Bool.and_false, decide_true, decide_false, L0, L1, L2, L3, L4, L5, L6, L7, L8, L9, L10, L11, L12, L13, L14, L15, L16, L17, L18, L19, L20, L21, L22, L23, L24, L25, L27, L33, L39, L40, L45, L48, L57, L60, L72, L90, L97, L98, L99, L100, L121, L122, L242, L255, L256, L580, L600, L1000, L1584, L1000000, Ln1, iN_add, iN_and, iN_or, iN_nd, iN_shl, iN_shr, iN_cl, iN_in, iN_mul, G.k, G.n, ile_p]) (by omega) (s := 0) ⟨rfl, rfl⟩
  obtain ⟨r, r1, r2⟩ := this
  unfold f116
  rw [r1, r2]
theorem t117 (G : LgS h ga g) (V : GW g) {x : Nat} (hx : x < 2147483648) : f117 h ga (iN x) = some (bN (faB g x g.1)) := by
  have hg := V.1
  have := lp_inv (body := f117_2 h ga (iN x)) (P := fun i s => s = iN i ∧ faB g x i = true) (Q := fun r => r = bN (faB g x g.1)) g.1 (fun i s hi hP => by
    obtain ⟨rfl, ho⟩ := hP
    obtain ⟨hk, hp⟩ := V.2 i hi
    have b : f117_2 h ga (iN x) (iN i) = if x.testBit (g.2.2 i) = decide (g.2.1 i = 0) then some (.inl (iN (i + 1))) else some (.inr (iN 0)) := by
      unfold f117_2 f117_36
      simp (disch := omega) only [gT, nbeq, Option.isSome_some, Option.getD_some, Bool.and_true, Bool.true_and, Bool.and_self, mX_some, bS, bN_if, bN_01, i1_01, i0_01, if_true, if_false, Bool.false_eq_true, false_and, and_false, and_true, true_and, and_self, Bool.or_false, Bool.false_or, Bool.or_true, Bool.true_or, Bool.false_and, Bool.and_false, decide_true, decide_false, L0, L1, L2, L3, L4, L5, L6, L7, L8, L9, L10, L11, L12, L13, L14, L15, L16, L17, L18, L19, L20, L21, L22, L23, L24, L25, L27, L33, L39, L40, L45, L48, L57, L60, L72, L90, L97, L98, L99, L100, L121, L122, L242, L255, L256, L580, L600, L1000, L1584, L1000000, Ln1, iN_add, iN_and, iN_or, iN_nd, iN_shl, iN_shr, iN_cl, iN_in, iN_mul, G.k, G.r0, G.r1, G.k1, G.k2, G.n, G.a0, G.a1, ile_n, t71]
      by_cases e0 : g.2.1 i = 0
      · rw [ieq_p (by omega), e0]
        cases x.testBit (g.2.2 i)
        · rw [show bN false = iN 0 from rfl, ieq_n (by omega) (by omega) (by omega)]; rfl
        · rw [show bN true = iN 1 from rfl, ieq_p rfl]; rfl
      · rw [ieq_n (by omega) (by omega) (by omega), decide_eq_false e0]
        cases x.testBit (g.2.2 i) <;> rfl
    by_cases e : x.testBit (g.2.2 i) = decide (g.2.1 i = 0)
    · refine Or.inl ⟨iN (i + 1), by rw [b, if_pos e], rfl, ?_⟩
      simp only [faB]; rw [ho, decide_eq_true e]; rfl
    · refine Or.inr ⟨iN 0, by rw [b, if_neg e], ?_⟩
      rw [faB_f (i := i + 1) (by omega) (by simp only [faB]; rw [decide_eq_false e]; simp)]; rfl) (fun s hP => by
    obtain ⟨rfl, ho⟩ := hP
    refine ⟨iN 1, ?_, by rw [ho]; rfl⟩
    unfold f117_2
    simp (disch := omega) only [gT, nbeq, Option.isSome_some, Option.getD_some, Bool.and_true, Bool.true_and, Bool.and_self, mX_some, bS, bN_if, bN_01, i1_01, i0_01, if_true, if_false, Bool.false_eq_true, false_and, and_false, and_true, true_and, and_self, Bool.or_false, Bool.false_or, Bool.or_true, Bool.true_or, Bool.false_and, Bool.and_false, decide_true, decide_false, L0, L1, L2, L3, L4, L5, L6, L7, L8, L9, L10, L11, L12, L13, L14, L15, L16, L17, L18, L19, L20, L21, L22, L23, L24, L25, L27, L33, L39, L40, L45, L48, L57, L60, L72, L90, L97, L98, L99, L100, L121, L122, L242, L255, L256, L580, L600, L1000, L1584, L1000000, Ln1, iN_add, iN_and, iN_or, iN_nd, iN_shl, iN_shr, iN_cl, iN_in, iN_mul, G.k, G.n, ile_p]) (by omega) (s := 0) ⟨rfl, rfl⟩
  obtain ⟨r, r1, r2⟩ := this
  unfold f117
  rw [r1, r2]
def pG (b : Nat) : Bool := Nat.beq b 88 || Nat.beq b 89 || Nat.beq b 90
theorem pG_n {b : Nat} (h : b < 88) : pG b = false := by
  have : ∀ b, b < 88 → pG b = false := by decide +kernel
  exact this b h
theorem pG_pC : ∀ b, pG b = true → pC b = true := by
  intro b hb
  unfold pG at hb
  simp only [Bool.or_eq_true] at hb
  rcases hb with (hb | hb) | hb
  · rw [Nat.eq_of_beq_eq_true hb]; decide
  · rw [Nat.eq_of_beq_eq_true hb]; decide
  · rw [Nat.eq_of_beq_eq_true hb]; decide
def CG (h : mH) (q : LQ) (l : List Nat) : Prop := mI h 88 1 = iN l.length ∧ ∀ k, k < l.length → mI h 89 k = iN (l.getD k 0) ∧ mI h 90 k = iN (kw q (l.getD k 0))
theorem kw_s {q : LQ} {p d : Nat} (hd : d < 9) : kw q (10 * p + (d + 1)) = spr q (kw q (10 * p + d)) := by
  unfold kw
  rw [show (10 * p + (d + 1)) % 10 = d + 1 by omega, show (10 * p + (d + 1)) / 10 = p by omega, show (10 * p + d) % 10 = d by omega, show (10 * p + d) / 10 = p by omega]
  show nd (spr q (nws q 0 d (1 <<< p))) 0 = _
  rw [nd_0]
theorem kw_lt {q : LQ} {f : Nat} (h : f / 10 < q 0 1) : kw q f < 2 ^ q 0 1 := nws_lt (sh1_lt h)
theorem t115 (w : Wd h) (H : LibS h la q) (W : QW q) (G : LgS h ga g) (V : GW g) (pl : la + 7 ≤ 88) (pg : ga + 3 ≤ 88) : ∃ h', f115 h 88 la ga = some (bN (!oth g (q 0 1) g.1), h') ∧ Fr pG h h' ∧ (oth g (q 0 1) g.1 = false → CG h' q (ftl q g (10 * q 0 1)) ∧ mI h' 88 3 = iN (q 0 1)) := by
  have hm := W.1.2.1
  have h6 := pw_6 hm
  have F1 : Fr pG h (mSI (mSI h 88 1 (iN 0)) 88 3 (iN (q 0 1))) := (Fr.rfl.si (by decide)).si (by decide)
  have lf : ∀ {z : mH}, Fr pG h z → LibS z la q := fun x => H.fr x (fun i hi => pG_n (by omega))
  have gf : ∀ {z : mH}, Fr pG h z → LgS z ga g := fun x => G.st (fun i hi => x.st (pG_n (by omega)))
  unfold f115
  simp (disch := omega) only [gT, nbeq, Option.isSome_some, Option.getD_some, Bool.and_true, Bool.true_and, Bool.and_self, mX_some, bS, bN_if, bN_01, i1_01, i0_01, if_true, if_false, Bool.false_eq_true, false_and, and_false, and_true, true_and, and_self, Bool.or_false, Bool.false_or, Bool.or_true, Bool.true_or, Bool.false_and, Bool.and_false, decide_true, decide_false, L0, L1, L2, L3, L4, L5, L6, L7, L8, L9, L10, L11, L12, L13, L14, L15, L16, L17, L18, L19, L20, L21, L22, L23, L24, L25, L27, L33, L39, L40, L45, L48, L57, L60, L72, L90, L97, L98, L99, L100, L121, L122, L242, L255, L256, L580, L600, L1000, L1584, L1000000, Ln1, iN_add, iN_and, iN_or, iN_nd, iN_shl, iN_shr, iN_cl, iN_in, iN_mul, k88 w, r88_0 w, r88_2 w, H.k, H.m, si_ne, si_nk, si_eq, G.k]
  rw [t116 (lf F1) W (gf F1) V]
  simp only [gT, nbeq, Option.isSome_some, Option.getD_some, Bool.and_true, Bool.true_and, Bool.and_self, mX_some, bS, bN_if, bN_01, i1_01, i0_01, if_true, if_false, Bool.false_eq_true, false_and, and_false, and_true, true_and, and_self, Bool.or_false, Bool.false_or, Bool.or_true, Bool.true_or, Bool.false_and, Bool.and_false, decide_true, decide_false]
  cases ho : oth g (q 0 1) g.1 with
  | true =>
    simp only [gT, nbeq, Option.isSome_some, Option.getD_some, Bool.and_true, Bool.true_and, Bool.and_self, mX_some, bS, bN_if, bN_01, i1_01, i0_01, if_true, if_false, Bool.false_eq_true, false_and, and_false, and_true, true_and, and_self, Bool.or_false, Bool.false_or, Bool.or_true, Bool.true_or, Bool.false_and, Bool.and_false, decide_true, decide_false, Bool.not_true]
    exact ⟨_, rfl, F1, fun e => by cases e⟩
  | false =>
    simp only [gT, nbeq, Option.isSome_some, Option.getD_some, Bool.and_true, Bool.true_and, Bool.and_self, mX_some, bS, bN_if, bN_01, i1_01, i0_01, if_true, if_false, Bool.false_eq_true, false_and, and_false, and_true, true_and, and_self, Bool.or_false, Bool.false_or, Bool.or_true, Bool.true_or, Bool.false_and, Bool.and_false, decide_true, decide_false, Bool.not_false]
    -- the days of one PERSON
    have inn : ∀ p (z : mH), p < q 0 1 → Fr pG h z → CG z q (ftl q g (10 * p)) → mI z 88 3 = iN (q 0 1) → ∃ r, mLoop (f115_41 88 la ga (iN p)) mFuel (iN (1 <<< p), iN 0, z) = some r ∧ ∃ z', r = .inl (iN (p + 1), z') ∧ Fr pG h z' ∧ CG z' q (ftl q g (10 * (p + 1))) ∧ mI z' 88 3 = iN (q 0 1) := by
      intro p z hp hz hc h3
      refine lp_inv (body := f115_41 88 la ga (iN p)) (P := fun d y => y.2.1 = iN d ∧ (d ≤ 9 → y.1 = iN (kw q (10 * p + d))) ∧ Fr pG h y.2.2 ∧ CG y.2.2 q (ftl q g (10 * p + d)) ∧ mI y.2.2 88 3 = iN (q 0 1)) (Q := fun r => ∃ z', r = .inl (iN (p + 1), z') ∧ Fr pG h z' ∧ CG z' q (ftl q g (10 * (p + 1))) ∧ mI z' 88 3 = iN (q 0 1)) 10 (fun d y hd hP => ?_) (fun y hP => ?_) (by omega) ⟨rfl, fun _ => by unfold kw; rw [show (10 * p + 0) % 10 = 0 by omega, show (10 * p + 0) / 10 = p by omega]; rfl, hz, hc, h3⟩
      · obtain ⟨y1, y2, y3, y4, y5⟩ := hP
        have y2' := y2 (by omega)
        have w2 := w.fr y3
        have H2 := lf y3
        have G2 := gf y3
        have hl := ftl_ok q g (10 * p + d)
        have hk := kw_lt (q := q) (f := 10 * p + d) (by omega)
        obtain ⟨c1, c2⟩ := y4
        have h103 : ∀ z', Fr pG h z' → f115_103 z' 88 la ga (iN p) (iN (kw q (10 * p + d))) (iN d) = some (.inl (iN (spr q (kw q (10 * p + d))), iN (d + 1), z')) := by
          intro z' hz'
          have H3 := lf hz'
          unfold f115_103
          simp (disch := omega) only [gT, nbeq, Option.isSome_some, Option.getD_some, Bool.and_true, Bool.true_and, Bool.and_self, mX_some, bS, bN_if, bN_01, i1_01, i0_01, if_true, if_false, Bool.false_eq_true, false_and, and_false, and_true, true_and, and_self, Bool.or_false, Bool.false_or, Bool.or_true, Bool.true_or, Bool.false_and, Bool.and_false, decide_true, decide_false, L0, L1, L2, L3, L4, L5, L6, L7, L8, L9, L10, L11, L12, L13, L14, L15, L16, L17, L18, L19, L20, L21, L22, L23, L24, L25, L27, L33, L39, L40, L45, L48, L57, L60, L72, L90, L97, L98, L99, L100, L121, L122, L242, L255, L256, L580, L600, L1000, L1584, L1000000, Ln1, iN_add, iN_and, iN_or, iN_nd, iN_shl, iN_shr, iN_cl, iN_in, iN_mul, H3.k, t98 H3 W, t99 H3 W]
          congr 4
          show spr q (kw q (10 * p + d)) &&& (2 ^ q 0 1 - 1) = _
          exact and_all (spr_lt hk)
        have hst : ftl q g (10 * p + d + 1) = if fitB q g (10 * p + d) = true then ftl q g (10 * p + d) ++ [10 * p + d] else ftl q g (10 * p + d) := ftl_s q g (10 * p + d)
        refine Or.inl ?_
        unfold f115_41 f115_93
        rw [y1, y2']
        simp (disch := omega) only [gT, nbeq, Option.isSome_some, Option.getD_some, Bool.and_true, Bool.true_and, Bool.and_self, mX_some, bS, bN_if, bN_01, i1_01, i0_01, if_true, if_false, Bool.false_eq_true, false_and, and_false, and_true, true_and, and_self, Bool.or_false, Bool.false_or, Bool.or_true, Bool.true_or, Bool.false_and, Bool.and_false, decide_true, decide_false, L0, L1, L2, L3, L4, L5, L6, L7, L8, L9, L10, L11, L12, L13, L14, L15, L16, L17, L18, L19, L20, L21, L22, L23, L24, L25, L27, L33, L39, L40, L45, L48, L57, L60, L72, L90, L97, L98, L99, L100, L121, L122, L242, L255, L256, L580, L600, L1000, L1584, L1000000, Ln1, iN_add, iN_and, iN_or, iN_nd, iN_shl, iN_shr, iN_cl, iN_in, iN_mul, ilt_n, G2.k, t117 G2 V]
        cases hf : fitB q g (10 * p + d) with
        | false =>
          have hf2 : faB g (kw q (10 * p + d)) g.1 = false := hf
          rw [hf2]
          simp only [gT, nbeq, Option.isSome_some, Option.getD_some, Bool.and_true, Bool.true_and, Bool.and_self, mX_some, bS, bN_if, bN_01, i1_01, i0_01, if_true, if_false, Bool.false_eq_true, false_and, and_false, and_true, true_and, and_self, Bool.or_false, Bool.false_or, Bool.or_true, Bool.true_or, Bool.false_and, Bool.and_false, decide_true, decide_false]
          rw [h103 _ y3]
          rw [hf] at hst
          refine ⟨_, rfl, rfl, fun hd2 => by rw [← kw_s (by omega)], y3, ?_, y5⟩
          show CG y.2.2 q (ftl q g (10 * p + d + 1))
          rw [hst]; exact ⟨c1, c2⟩
        | true =>
          have hf2 : faB g (kw q (10 * p + d)) g.1 = true := hf
          rw [hf2]
          simp (disch := omega) only [gT, nbeq, Option.isSome_some, Option.getD_some, Bool.and_true, Bool.true_and, Bool.and_self, mX_some, bS, bN_if, bN_01, i1_01, i0_01, if_true, if_false, Bool.false_eq_true, false_and, and_false, and_true, true_and, and_self, Bool.or_false, Bool.false_or, Bool.or_true, Bool.true_or, Bool.false_and, Bool.and_false, decide_true, decide_false, L0, L1, L2, L3, L4, L5, L6, L7, L8, L9, L10, L11, L12, L13, L14, L15, L16, L17, L18, L19, L20, L21, L22, L23, L24, L25, L27, L33, L39, L40, L45, L48, L57, L60, L72, L90, L97, L98, L99, L100, L121, L122, L242, L255, L256, L580, L600, L1000, L1584, L1000000, Ln1, iN_add, iN_and, iN_or, iN_nd, iN_shl, iN_shr, iN_cl, iN_in, iN_mul, mK_SI, k88 w2, r88_0 w2, r88_2 w2, k89 w2, k90 w2, c1, ile_n, si_ne, si_nk, si_eq]
          rw [hf] at hst
          generalize ftl q g (10 * p + d) = l at hst c1 c2 hl ⊢
          have FZ : Fr pG h (mSI (mSI (mSI y.2.2 89 l.length (iN (10 * p + d))) 90 l.length (iN (kw q (10 * p + d)))) 88 1 (iN (l.length + 1))) := ((y3.si (by decide)).si (by decide)).si (by decide)
          rw [h103 _ FZ]
          refine ⟨(iN (spr q (kw q (10 * p + d))), iN (d + 1), mSI (mSI (mSI y.2.2 89 l.length (iN (10 * p + d))) 90 l.length (iN (kw q (10 * p + d)))) 88 1 (iN (l.length + 1))), rfl, rfl, fun hd2 => by rw [← kw_s (by omega)], FZ, ?_, ?_⟩
          · show CG _ q (ftl q g (10 * p + d + 1))
            rw [hst]
            simp only [if_true]
            refine ⟨?_, fun k hk2 => ?_⟩
            · simp (disch := omega) only [si_ne, si_nk, si_eq]; rw [List.length_append]; rfl
            · rw [List.length_append] at hk2
              have hk3 : k < l.length + 1 := hk2
              by_cases e : k < l.length
              · rw [app_l e]
                simp (disch := omega) only [si_ne, si_nk, si_eq]
                exact c2 k e
              · have e2 : k = l.length := by omega
                subst e2
                rw [app_r]
                simp (disch := omega) only [si_ne, si_nk, si_eq]
                exact ⟨trivial, trivial⟩
          · simp (disch := omega) only [si_ne, si_nk, si_eq]; exact y5
      · obtain ⟨y1, y2, y3, y4, y5⟩ := hP
        refine ⟨.inl (iN (p + 1), y.2.2), ?_, _, rfl, y3, y4, y5⟩
        unfold f115_41
        rw [y1]
        simp (disch := omega) only [gT, nbeq, Option.isSome_some, Option.getD_some, Bool.and_true, Bool.true_and, Bool.and_self, mX_some, bS, bN_if, bN_01, i1_01, i0_01, if_true, if_false, Bool.false_eq_true, false_and, and_false, and_true, true_and, and_self, Bool.or_false, Bool.false_or, Bool.or_true, Bool.true_or, Bool.false_and, Bool.and_false, decide_true, decide_false, L0, L1, L2, L3, L4, L5, L6, L7, L8, L9, L10, L11, L12, L13, L14, L15, L16, L17, L18, L19, L20, L21, L22, L23, L24, L25, L27, L33, L39, L40, L45, L48, L57, L60, L72, L90, L97, L98, L99, L100, L121, L122, L242, L255, L256, L580, L600, L1000, L1584, L1000000, Ln1, iN_add, iN_and, iN_or, iN_nd, iN_shl, iN_shr, iN_cl, iN_in, iN_mul, ilt_p]
    have := lp_inv (body := f115_25 88 la ga) (P := fun p z => z.1 = iN p ∧ Fr pG h z.2 ∧ CG z.2 q (ftl q g (10 * p)) ∧ mI z.2 88 3 = iN (q 0 1)) (Q := fun r => r.1 = iN 1 ∧ Fr pG h r.2 ∧ CG r.2 q (ftl q g (10 * q 0 1)) ∧ mI r.2 88 3 = iN (q 0 1)) (q 0 1) (fun p z hp hP => by
      obtain ⟨z1, z2, z3, z4⟩ := hP
      have w2 := w.fr z2
      obtain ⟨r, r1, z', r2, r3⟩ := inn p z.2 hp z2 z3 z4
      refine Or.inl ⟨(iN (p + 1), z'), ?_, rfl, r3⟩
      unfold f115_25
      rw [z1]
      simp (disch := omega) only [gT, nbeq, Option.isSome_some, Option.getD_some, Bool.and_true, Bool.true_and, Bool.and_self, mX_some, bS, bN_if, bN_01, i1_01, i0_01, if_true, if_false, Bool.false_eq_true, false_and, and_false, and_true, true_and, and_self, Bool.or_false, Bool.false_or, Bool.or_true, Bool.true_or, Bool.false_and, Bool.and_false, decide_true, decide_false, L0, L1, L2, L3, L4, L5, L6, L7, L8, L9, L10, L11, L12, L13, L14, L15, L16, L17, L18, L19, L20, L21, L22, L23, L24, L25, L27, L33, L39, L40, L45, L48, L57, L60, L72, L90, L97, L98, L99, L100, L121, L122, L242, L255, L256, L580, L600, L1000, L1584, L1000000, Ln1, iN_add, iN_and, iN_or, iN_nd, iN_shl, iN_shr, iN_cl, iN_in, iN_mul, k88 w2, r88_0 w2, r88_2 w2, z4, ile_n, r1, r2]) (fun z hP => by
      obtain ⟨z1, z2, z3, z4⟩ := hP
      have w2 := w.fr z2
      refine ⟨(iN 1, z.2), ?_, rfl, z2, z3, z4⟩
      unfold f115_25
      rw [z1]
      simp (disch := omega) only [gT, nbeq, Option.isSome_some, Option.getD_some, Bool.and_true, Bool.true_and, Bool.and_self, mX_some, bS, bN_if, bN_01, i1_01, i0_01, if_true, if_false, Bool.false_eq_true, false_and, and_false, and_true, true_and, and_self, Bool.or_false, Bool.false_or, Bool.or_true, Bool.true_or, Bool.false_and, Bool.and_false, decide_true, decide_false, L0, L1, L2, L3, L4, L5, L6, L7, L8, L9, L10, L11, L12, L13, L14, L15, L16, L17, L18, L19, L20, L21, L22, L23, L24, L25, L27, L33, L39, L40, L45, L48, L57, L60, L72, L90, L97, L98, L99, L100, L121, L122, L242, L255, L256, L580, L600, L1000, L1584, L1000000, Ln1, iN_add, iN_and, iN_or, iN_nd, iN_shl, iN_shr, iN_cl, iN_in, iN_mul, k88 w2, r88_0 w2, r88_2 w2, z4, ile_p]) (by omega) (s := (iN 0, mSI (mSI h 88 1 (iN 0)) 88 3 (iN (q 0 1)))) ⟨rfl, F1, ⟨by simp (disch := omega) only [si_ne, si_nk, si_eq]; rfl, fun k hk => absurd hk (by simp [ftl, up])⟩, by simp (disch := omega) only [si_ne, si_nk, si_eq]⟩
    obtain ⟨⟨r, h'⟩, r1, r2, r3⟩ := this
    have r2' : r = iN 1 := r2
    rw [r2'] at r1
    rw [r1]
    exact ⟨h', rfl, r3.1, fun _ => r3.2⟩
end LF
