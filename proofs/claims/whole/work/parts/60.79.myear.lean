/-! the reference's lines of years and logs -/
def RC1 (g : mH) (c : CQ) : FT → Prop
  | none => mI g 202 0 = iN c.2.2.1.1 ∧ ∀ k, k < c.2.2.1.1 → mI g 202 (1 + 3 * k) = iN (c.2.2.1.2.1 k) ∧ mI g 202 (1 + 3 * k + 1) = zN (c.2.2.1.2.2.1 k) ∧ mI g 202 (1 + 3 * k + 2) = zN (c.2.2.1.2.2.2 k)
  | some _ => ∃ n, n ≤ 40 ∧ mI g 202 0 = iN n
def RC2 (g : mH) (c : CQ) : FT → Prop
  | none => mI g 202 0 = iN c.2.2.2.1 ∧ ∀ k, k < c.2.2.2.1 → mI g 202 (1 + 2 * k) = iN (c.2.2.2.2.1 k) ∧ mI g 202 (1 + 2 * k + 1) = iN (c.2.2.2.2.2 k)
  | some _ => ∃ n, n ≤ 8 ∧ mI g 202 0 = iN n
theorem RC1.bd {g : mH} {c : CQ} {f : FT} (R : RC1 g c f) (V : CWF c) : ∃ n, n ≤ 40 ∧ mI g 202 0 = iN n ∧ (f = none → n = c.2.2.1.1) := by
  cases f with
  | none => exact ⟨_, V.2.2.2.1.1, R.1, fun _ => rfl⟩
  | some x => obtain ⟨n, a, b⟩ := R; exact ⟨n, a, b, fun h => by cases h⟩
theorem RC2.bd {g : mH} {c : CQ} {f : FT} (R : RC2 g c f) (V : CWF c) : ∃ n, n ≤ 8 ∧ mI g 202 0 = iN n ∧ (f = none → n = c.2.2.2.1) := by
  cases f with
  | none => exact ⟨_, V.2.2.2.2.1, R.1, fun _ => rfl⟩
  | some x => obtain ⟨n, a, b⟩ := R; exact ⟨n, a, b, fun h => by cases h⟩
section MY
variable {g0 g : mH} {b : Nat → Nat} {len e : Nat} {c : CQ} {f : FT} {gd : Bool}
theorem t200 {wide most n : Nat} (w : Wd g) (hw : wide ≤ 3) (hn : n < most) (hm : most ≤ 40) (hs : 1 + wide * n + wide ≤ 121) (h0 : mI g 202 0 = iN n) : ∃ g', f200 g 193 (iN wide) (iN most) = some ((), g') ∧ Fr (fun x => Nat.beq x 202) g g' ∧ (∀ i, i < wide → mI g' 202 (1 + wide * n + i) = mI g 203 i) ∧ mI g' 202 0 = iN (n + 1) ∧ (∀ j, j ≠ 0 → (j < 1 + wide * n ∨ 1 + wide * n + wide ≤ j) → mI g' 202 j = mI g 202 j) ∧ mL g' 193 14 = mL g 193 14 := by
  unfold f200
  simp (disch := omega) only [gT, nbeq, Option.isSome_some, Option.getD_some, Bool.and_true, Bool.true_and, Bool.and_self, mX_some, bS, bN_if, bN_01, i1_01, i0_01, if_true, if_false, Bool.false_eq_true, false_and, and_false, and_true, true_and, and_self, Bool.or_false, Bool.false_or, Bool.or_true, Bool.true_or, Bool.false_and, Bool.and_false, decide_true, decide_false, L0, L1, L2, L3, L4, L5, L6, L7, L8, L9, L10, L11, L12, L13, L14, L15, L16, L17, L18, L19, L20, L21, L22, L23, L24, L25, L27, L33, L39, L40, L45, L48, L57, L60, L72, L90, L97, L98, L99, L100, L121, L122, L242, L255, L256, L580, L600, L1000, L1584, L1000000, Ln1, iN_add, iN_and, iN_or, iN_nd, iN_shl, iN_shr, iN_cl, iN_in, iN_mul, k193 w, r193_1 w, r193_2 w, r193_3 w, r193_4 w, r193_5 w, r193_6 w, r193_7 w, r193_8 w, r193_18 w, r193_19 w, r193_32 w, r193_33 w, r193_34 w, r193_36 w, r193_38 w, r193_39 w, r193_40 w, r193_42 w, r193_45 w, r193_46 w, r193_47 w, r193_48 w, r193_49 w, r193_50 w, k202 w, iN_in, iN_cl, h0, ieq_n]
  have := lp_inv (body := f200_16 193 (iN wide) (iN n)) (P := fun i z => z.1 = iN i ∧ Fr (fun x => Nat.beq x 202) g z.2 ∧ (∀ k, k < i → mI z.2 202 (1 + wide * n + k) = mI g 203 k) ∧ mI z.2 202 0 = iN n ∧ (∀ j, j ≠ 0 → (j < 1 + wide * n ∨ 1 + wide * n + wide ≤ j) → mI z.2 202 j = mI g 202 j) ∧ mL z.2 193 14 = mL g 193 14) (Q := fun r => Fr (fun x => Nat.beq x 202) g r.2 ∧ (∀ i, i < wide → mI r.2 202 (1 + wide * n + i) = mI g 203 i) ∧ mI r.2 202 0 = iN (n + 1) ∧ (∀ j, j ≠ 0 → (j < 1 + wide * n ∨ 1 + wide * n + wide ≤ j) → mI r.2 202 j = mI g 202 j) ∧ mL r.2 193 14 = mL g 193 14) wide (fun i z hi hP => by
    obtain ⟨z1, z2, z3, z4, z5, z6⟩ := hP
    have w2 := w.fr z2
    have e3 : mI z.2 203 i = mI g 203 i := z2.i rfl i
    refine Or.inl ⟨(iN (i + 1), mSI z.2 202 (1 + wide * n + i) (mI g 203 i)), ?_, rfl, z2.si rfl, fun k hk => ?_, by simp (disch := omega) only [si_ne, si_nk, si_eq]; exact z4, fun j h1 h2 => by simp (disch := omega) only [si_ne, si_nk, si_eq]; exact z5 j h1 h2, (mL_SI _ _ _ _ _ _).trans z6⟩
    · unfold f200_16
      rw [z1]
      simp (disch := omega) only [gT, nbeq, Option.isSome_some, Option.getD_some, Bool.and_true, Bool.true_and, Bool.and_self, mX_some, bS, bN_if, bN_01, i1_01, i0_01, if_true, if_false, Bool.false_eq_true, false_and, and_false, and_true, true_and, and_self, Bool.or_false, Bool.false_or, Bool.or_true, Bool.true_or, Bool.false_and, Bool.and_false, decide_true, decide_false, L0, L1, L2, L3, L4, L5, L6, L7, L8, L9, L10, L11, L12, L13, L14, L15, L16, L17, L18, L19, L20, L21, L22, L23, L24, L25, L27, L33, L39, L40, L45, L48, L57, L60, L72, L90, L97, L98, L99, L100, L121, L122, L242, L255, L256, L580, L600, L1000, L1584, L1000000, Ln1, iN_add, iN_and, iN_or, iN_nd, iN_shl, iN_shr, iN_cl, iN_in, iN_mul, ile_n, k193 w2, r193_1 w2, r193_2 w2, r193_3 w2, r193_4 w2, r193_5 w2, r193_6 w2, r193_7 w2, r193_8 w2, r193_18 w2, r193_19 w2, r193_32 w2, r193_33 w2, r193_34 w2, r193_36 w2, r193_38 w2, r193_39 w2, r193_40 w2, r193_42 w2, r193_45 w2, r193_46 w2, r193_47 w2, r193_48 w2, r193_49 w2, r193_50 w2, k202 w2, k203 w2, iN_in, iN_cl, e3]
    · by_cases e : k = i
      · subst e; simp only [si_ne, si_nk, si_eq]
      · simp (disch := omega) only [si_ne, si_nk, si_eq]; exact z3 k (by omega)) (fun z hP => by
    obtain ⟨z1, z2, z3, z4, z5, z6⟩ := hP
    have w2 := w.fr z2
    refine ⟨((), mSI z.2 202 0 (iN (n + 1))), ?_, z2.si rfl, fun k hk => by simp (disch := omega) only [si_ne, si_nk, si_eq]; exact z3 k hk, by simp only [si_ne, si_nk, si_eq], fun j h1 h2 => by simp (disch := omega) only [si_ne, si_nk, si_eq]; exact z5 j h1 h2, (mL_SI _ _ _ _ _ _).trans z6⟩
    unfold f200_16
    rw [z1]
    simp (disch := omega) only [gT, nbeq, Option.isSome_some, Option.getD_some, Bool.and_true, Bool.true_and, Bool.and_self, mX_some, bS, bN_if, bN_01, i1_01, i0_01, if_true, if_false, Bool.false_eq_true, false_and, and_false, and_true, true_and, and_self, Bool.or_false, Bool.false_or, Bool.or_true, Bool.true_or, Bool.false_and, Bool.and_false, decide_true, decide_false, L0, L1, L2, L3, L4, L5, L6, L7, L8, L9, L10, L11, L12, L13, L14, L15, L16, L17, L18, L19, L20, L21, L22, L23, L24, L25, L27, L33, L39, L40, L45, L48, L57, L60, L72, L90, L97, L98, L99, L100, L121, L122, L242, L255, L256, L580, L600, L1000, L1584, L1000000, Ln1, iN_add, iN_and, iN_or, iN_nd, iN_shl, iN_shr, iN_cl, iN_in, iN_mul, ile_p, k193 w2, r193_1 w2, r193_2 w2, r193_3 w2, r193_4 w2, r193_5 w2, r193_6 w2, r193_7 w2, r193_8 w2, r193_18 w2, r193_19 w2, r193_32 w2, r193_33 w2, r193_34 w2, r193_36 w2, r193_38 w2, r193_39 w2, r193_40 w2, r193_42 w2, r193_45 w2, r193_46 w2, r193_47 w2, r193_48 w2, r193_49 w2, r193_50 w2, k202 w2, iN_in, iN_cl, z4]) (by omega) (s := (iN 0, g)) ⟨rfl, Fr.rfl, fun k hk => by omega, h0, fun j _ _ => rfl, rfl⟩
  obtain ⟨⟨r, g'⟩, r1, r2⟩ := this
  exact ⟨g', r1, r2⟩
theorem t200f {wide most : Nat} (w : Wd g) (hm : most ≤ 40) (h0 : mI g 202 0 = iN most) : f200 g 193 (iN wide) (iN most) = some ((), g) := by
  unfold f200
  simp (disch := omega) only [gT, nbeq, Option.isSome_some, Option.getD_some, Bool.and_true, Bool.true_and, Bool.and_self, mX_some, bS, bN_if, bN_01, i1_01, i0_01, if_true, if_false, Bool.false_eq_true, false_and, and_false, and_true, true_and, and_self, Bool.or_false, Bool.false_or, Bool.or_true, Bool.true_or, Bool.false_and, Bool.and_false, decide_true, decide_false, L0, L1, L2, L3, L4, L5, L6, L7, L8, L9, L10, L11, L12, L13, L14, L15, L16, L17, L18, L19, L20, L21, L22, L23, L24, L25, L27, L33, L39, L40, L45, L48, L57, L60, L72, L90, L97, L98, L99, L100, L121, L122, L242, L255, L256, L580, L600, L1000, L1584, L1000000, Ln1, iN_add, iN_and, iN_or, iN_nd, iN_shl, iN_shr, iN_cl, iN_in, iN_mul, k193 w, r193_1 w, r193_2 w, r193_3 w, r193_4 w, r193_5 w, r193_6 w, r193_7 w, r193_8 w, r193_18 w, r193_19 w, r193_32 w, r193_33 w, r193_34 w, r193_36 w, r193_38 w, r193_39 w, r193_40 w, r193_42 w, r193_45 w, r193_46 w, r193_47 w, r193_48 w, r193_49 w, r193_50 w, k202 w, iN_in, iN_cl, h0, ieq_p]
theorem MS.rd {i : Nat} {v : Int32} (S : MS g0 g b len e f gd) : MS g0 (mSI g 203 i v) b len e f gd := by
  obtain ⟨s1, s2, s3, s4, s5, s6, s7⟩ := S
  have F0 : Fr pRd g (mSI g 203 i v) := Fr.rfl.si (by decide)
  refine ⟨s1.tr F0, s2.fr F0 rfl (by simp (disch := omega) only [si_ne, si_nk, si_eq]), s3.fr (fun j hj => by simp (disch := omega) only [si_ne, si_nk, si_eq]) (mL_SI _ _ _ _ _ _), ?_, by simp (disch := omega) only [si_ne, si_nk, si_eq]; exact s5, by simp (disch := omega) only [si_ne, si_nk, si_eq]; exact s6, by simp (disch := omega) only [si_ne, si_nk, si_eq]; exact s7⟩
  cases f with
  | none => exact (by simp (disch := omega) only [si_ne, si_nk, si_eq]; exact s4 : mI (mSI g 203 i v) 193 16 = iN 0)
  | some x => exact ⟨by simp (disch := omega) only [si_ne, si_nk, si_eq]; exact s4.1, by simp (disch := omega) only [si_ne, si_nk, si_eq]; exact s4.2⟩
theorem p202_Tl : ∀ x, (fun x => Nat.beq x 202) x = true → pTl x = true := fun x h => by
  have : x = 202 := Nat.eq_of_beq_eq_true h
  rw [this]; decide
/-- the end of a deed's line -/
theorem t199e {k v1 v2 : Nat} {fc : FT} {o1 o2 : Option Nat} (h6 : 6 ≤ k) (h12 : k < 12) (S : MS g0 g b len e fc gd) (V : CWF c) (R0 : RC1 g0 c f) (hn : fc = none → f = none ∧ c.2.2.1.1 < 40) (r1 : mI g 203 1 = zN o1) (r2 : mI g 203 2 = zN o2) (e1 : o1 = if k ≤ 9 then some v1 else none) (e2 : o2 = if k = 9 then some v2 else none) : ∃ g', f199_160 g 193 (iN (k - 6)) (iN 1) = some (iN 1, g') ∧ Fr pTl g0 g' ∧ TpM g' b len ∧ SM g' b len e ∧ FMf g' fc ∧ RC1 g' (upf k c v1 v2 fc) fc := by
  have S0 := S.rd (i := 0) (v := iN (k - 6))
  have w0 := S0.2.1.1
  have w := S.2.1.1
  obtain ⟨n, b0, b1, b2⟩ := R0.bd V
  have d0 : mI (mSI g 203 0 (iN (k - 6))) 202 0 = iN n := (S0.told 0).trans b1
  have go : ∀ g', f200 (mSI g 203 0 (iN (k - 6))) 193 (iN 3) (iN 40) = some ((), g') → f199_160 g 193 (iN (k - 6)) (iN 1) = some (iN 1, g') := fun g' h => by
    unfold f199_160 f199_182
    simp (disch := omega) only [gT, nbeq, Option.isSome_some, Option.getD_some, Bool.and_true, Bool.true_and, Bool.and_self, mX_some, bS, bN_if, bN_01, i1_01, i0_01, if_true, if_false, Bool.false_eq_true, false_and, and_false, and_true, true_and, and_self, Bool.or_false, Bool.false_or, Bool.or_true, Bool.true_or, Bool.false_and, Bool.and_false, decide_true, decide_false, L0, L1, L2, L3, L4, L5, L6, L7, L8, L9, L10, L11, L12, L13, L14, L15, L16, L17, L18, L19, L20, L21, L22, L23, L24, L25, L27, L33, L39, L40, L45, L48, L57, L60, L72, L90, L97, L98, L99, L100, L121, L122, L242, L255, L256, L580, L600, L1000, L1584, L1000000, Ln1, iN_add, iN_and, iN_or, iN_nd, iN_shl, iN_shr, iN_cl, iN_in, iN_mul, ieq_n, k193 w, r193_1 w, r193_2 w, r193_3 w, r193_4 w, r193_5 w, r193_6 w, r193_7 w, r193_8 w, r193_18 w, r193_19 w, r193_32 w, r193_33 w, r193_34 w, r193_36 w, r193_38 w, r193_39 w, r193_40 w, r193_42 w, r193_45 w, r193_46 w, r193_47 w, r193_48 w, r193_49 w, r193_50 w, k203 w, iN_in, iN_cl, k193 w0, r193_1 w0, r193_2 w0, r193_3 w0, r193_4 w0, r193_5 w0, r193_6 w0, r193_7 w0, r193_8 w0, r193_18 w0, r193_19 w0, r193_32 w0, r193_33 w0, r193_34 w0, r193_36 w0, r193_38 w0, r193_39 w0, r193_40 w0, r193_42 w0, r193_45 w0, r193_46 w0, r193_47 w0, r193_48 w0, r193_49 w0, r193_50 w0, h]
  by_cases e40 : n = 40
  · subst e40
    have hf : ∃ x, fc = some x := by
      cases hfc : fc with
      | some x => exact ⟨x, rfl⟩
      | none => obtain ⟨h1, h2⟩ := hn hfc; have := b2 h1; omega
    obtain ⟨x, rfl⟩ := hf
    exact ⟨_, go _ (t200f w0 (by omega) d0), S0.1.mono pRd_Tl, S0.2.1, S0.2.2.1, S0.2.2.2.1, 40, by omega, d0⟩
  · obtain ⟨g1, a1, a2, a3, a4, a5, eL⟩ := t200 (wide := 3) (most := 40) w0 (by omega) (show n < 40 by omega) (by omega) (by omega) d0
    obtain ⟨m1, m2, m3, m4⟩ := S0.st (a2.mono p202_Tl) (fun j h1 h2 => a2.i rfl j) eL
    refine ⟨g1, go _ a1, m1, m2, m3, m4, ?_⟩
    cases hfc : fc with
    | some x => exact ⟨n + 1, by omega, a4⟩
    | none =>
      obtain ⟨h1, h2⟩ := hn hfc
      have en := b2 h1
      subst en
      subst h1
      obtain ⟨R1, R2⟩ := R0
      show RC1 g1 (upc k c v1 v2) none
      rw [upc_y h6 h12, ← e1, ← e2]
      refine ⟨a4, fun j hj => ?_⟩
      have hj : j < c.2.2.1.1 + 1 := hj
      show mI g1 202 (1 + 3 * j) = iN (ud c.2.2.1.2.1 c.2.2.1.1 (k - 6) j) ∧ mI g1 202 (1 + 3 * j + 1) = zN (ud c.2.2.1.2.2.1 c.2.2.1.1 o1 j) ∧ mI g1 202 (1 + 3 * j + 2) = zN (ud c.2.2.1.2.2.2 c.2.2.1.1 o2 j)
      by_cases ej : j = c.2.2.1.1
      · subst ej
        rw [ud_eq, ud_eq, ud_eq]
        have z0 := a3 0 (by decide)
        have z1 := a3 1 (by decide)
        have z2 := a3 2 (by decide)
        refine ⟨z0.trans (by simp only [si_ne, si_nk, si_eq]), z1.trans (by simp (disch := omega) only [si_ne, si_nk, si_eq]; exact r1), z2.trans (by simp (disch := omega) only [si_ne, si_nk, si_eq]; exact r2)⟩
      · rw [ud_ne _ _ ej, ud_ne _ _ ej, ud_ne _ _ ej]
        obtain ⟨u0, u1, u2⟩ := R2 j (by omega)
        refine ⟨(a5 _ (by omega) (by omega)).trans ((S0.told _).trans u0), (a5 _ (by omega) (by omega)).trans ((S0.told _).trans u1), (a5 _ (by omega) (by omega)).trans ((S0.told _).trans u2)⟩
theorem chk_yv {k p : Nat} {s1 s2 v1 v2 : Nat} {x : FT} (h6 : 6 ≤ k) (h12 : k < 12) (h : chk k c (tkS b len p) s1 s2 v1 v2 x = none) : x = none ∧ c.2.2.1.1 < 40 := by
  obtain ⟨⟨h1, _⟩, h2⟩ := chk_y h6 h12 h
  exact ⟨h2, h1⟩
theorem t199y {k p : Nat} (h6 : 6 ≤ k) (h12 : k < 12) (hp : p ≤ len) (hne : tkK b len p ≠ 0) (S : MS g0 g b len p f true) (W : FTW f) (P : PLW f (tkS b len p)) (V : CWF c) (R0 : RC1 g0 c f) : ∃ ok g', f199_73 g 193 (iN (tkS b len p)) (iN (k - 6)) = some (ok, g') ∧ LNr RC1 g0 b len g' ok (lnN b len k p (tkE b len p) c f) := by
  have w := S.2.1.1
  have lt1 := tS_lt (b := b) hp hne
  obtain ⟨n, b0, b1, b2⟩ := R0.bd V
  have en : nt (decide (n < 40)) 3 (tkS b len p) f = nt (decide (c.2.2.1.1 < 40)) 3 (tkS b len p) f := by
    cases hf : f with
    | none => rw [b2 hf]
    | some x => rw [nt_s, nt_s]
  obtain ⟨u1, q1, q2, q3⟩ := t187 (i := 0) (m := n) (M := 40) (by decide) ((S.told 0).trans b1) b0 (by decide) S W P hp
  obtain ⟨u2, x1, x2, x3⟩ := q2.tk hp
  rw [en] at x2 q3
  have wu1 := q2.2.1.1
  have wu2 := x2.2.1.1
  have S3 := (x2.rd (i := 1) (v := jN)).rd (i := 2) (v := jN)
  have w3 := S3.2.1.1
  have he := (tkE_ok (b := b) hp).2.1
  have P3 : PLW (nt (decide (c.2.2.1.1 < 40)) 3 (tkS b len p) f) (tkS b len (tkE b len p)) := (P.mono (by omega)).nt lt1
  have i1 : mI (mSI (mSI u2 203 1 jN) 203 2 jN) 203 1 = jN := by simp (disch := omega) only [si_ne, si_nk, si_eq]
  have i2 : mI (mSI (mSI u2 203 1 jN) 203 2 jN) 203 2 = jN := by simp only [si_ne, si_nk, si_eq]
  unfold f199_73
  simp (disch := omega) only [gT, nbeq, Option.isSome_some, Option.getD_some, Bool.and_true, Bool.true_and, Bool.and_self, mX_some, bS, bN_if, bN_01, i1_01, i0_01, if_true, if_false, Bool.false_eq_true, false_and, and_false, and_true, true_and, and_self, Bool.or_false, Bool.false_or, Bool.or_true, Bool.true_or, Bool.false_and, Bool.and_false, decide_true, decide_false, L0, L1, L2, L3, L4, L5, L6, L7, L8, L9, L10, L11, L12, L13, L14, L15, L16, L17, L18, L19, L20, L21, L22, L23, L24, L25, L27, L33, L39, L40, L45, L48, L57, L60, L72, L90, L97, L98, L99, L100, L121, L122, L242, L255, L256, L580, L600, L1000, L1584, L1000000, Ln1, iN_add, iN_and, iN_or, iN_nd, iN_shl, iN_shr, iN_cl, iN_in, iN_mul, ij_n, k193 w, q1, k193 wu1, x1, k193 wu2, r193_1 wu2, r193_2 wu2, r193_3 wu2, r193_4 wu2, r193_5 wu2, r193_6 wu2, r193_7 wu2, r193_8 wu2, r193_18 wu2, r193_19 wu2, r193_32 wu2, r193_33 wu2, r193_34 wu2, r193_36 wu2, r193_38 wu2, r193_39 wu2, r193_40 wu2, r193_42 wu2, r193_45 wu2, r193_46 wu2, r193_47 wu2, r193_48 wu2, r193_49 wu2, r193_50 wu2, k203 wu2, iN_in, iN_cl]
  generalize mSI (mSI u2 203 1 jN) 203 2 jN = g3 at S3 w3 i1 i2
  -- one number
  have one : ∀ (hi : Nat), hi < 1000 → nbk k = 1 → k ≠ 9 → k ≤ 9 → (∀ v, chk k c (tkS b len p) (tkS b len (tkE b len p)) 0 v 0 f = nt (decide (v ≤ hi)) 2 (tkS b len (tkE b len p)) (nt (decide (c.2.2.1.1 < 40)) 3 (tkS b len p) f)) → ∃ ok g1, f190 g3 193 (iN 1) (iN 0) (iN hi) = some (ok, g1) ∧ ∃ g', (ok = iN 0 ∧ f199_160 g1 193 (iN (k - 6)) (iN 0) = some (ok, g') ∨ ok = iN 1 ∧ f199_160 g1 193 (iN (k - 6)) (iN 1) = some (ok, g')) ∧ LNr RC1 g0 b len g' ok (lnN b len k p (tkE b len p) c f) := fun hi hhi nb1 k9 k10 hch => by
    unfold lnN
    rw [if_neg (show ¬ nbk k = 0 by omega)]
    obtain ⟨y1, y2⟩ := t190 (i := 1) (lo := iN 0) (hi := iN hi) (ok := decide (0 ≤ tkV b len (tkE b len p) ∧ tkV b len (tkE b len p) ≤ hi)) (by omega) S3 q3 P3 he (fun hk => inK (by omega) (by omega) (by have := tkV_le he hk; omega))
    by_cases k1 : tkK b len (tkE b len p) = 2
    · rw [if_pos k1, if_pos nb1]
      obtain ⟨g4, c1, c2, c3, c4, c5⟩ := y1 k1
      have hv1 := tkV_le he k1
      generalize tkV b len (tkE b len p) = v1 at hv1 c4 c2 c3
      have e1 : decide (0 ≤ v1 ∧ v1 ≤ hi) = decide (v1 ≤ hi) := by rw [decide_eq_decide]; omega
      rw [e1, ← hch v1] at c2 c3
      obtain ⟨g5, d1, d2, d3, d4, d5, d6⟩ := t199e (v1 := v1) (v2 := 0) h6 h12 c2 V R0 (fun h => chk_yv h6 h12 h) (o1 := some v1) (o2 := none) c4 ((c5 2 (by decide)).trans i2) (by rw [if_pos k10]) (by rw [if_neg k9])
      exact ⟨iN 1, g4, c1, g5, Or.inr ⟨rfl, d1⟩, rfl, d2, d3, d4, d5, c3, d6⟩
    · rw [if_neg k1]
      obtain ⟨g4, c1, c2, c3⟩ := y2 k1
      refine ⟨iN 0, g4, c1, g4, Or.inl ⟨rfl, ?_⟩, rfl, c2.mono pRd_Tl, c3⟩
      unfold f199_160 f199_182
      simp (disch := omega) only [gT, nbeq, Option.isSome_some, Option.getD_some, Bool.and_true, Bool.true_and, Bool.and_self, mX_some, bS, bN_if, bN_01, i1_01, i0_01, if_true, if_false, Bool.false_eq_true, false_and, and_false, and_true, true_and, and_self, Bool.or_false, Bool.false_or, Bool.or_true, Bool.true_or, Bool.false_and, Bool.and_false, decide_true, decide_false, L0, L1, L2, L3, L4, L5, L6, L7, L8, L9, L10, L11, L12, L13, L14, L15, L16, L17, L18, L19, L20, L21, L22, L23, L24, L25, L27, L33, L39, L40, L45, L48, L57, L60, L72, L90, L97, L98, L99, L100, L121, L122, L242, L255, L256, L580, L600, L1000, L1584, L1000000, Ln1, iN_add, iN_and, iN_or, iN_nd, iN_shl, iN_shr, iN_cl, iN_in, iN_mul, ieq_p]
  -- none
  have non : nbk k = 0 → 10 ≤ k → chk k c (tkS b len p) 0 0 0 0 f = nt (decide (c.2.2.1.1 < 40)) 3 (tkS b len p) f → ∃ g', f199_160 g3 193 (iN (k - 6)) (iN 1) = some (iN 1, g') ∧ LNr RC1 g0 b len g' (iN 1) (lnN b len k p (tkE b len p) c f) := fun nb0 k10 hch => by
    unfold lnN
    rw [if_pos nb0]
    rw [← hch] at S3 q3
    obtain ⟨g5, d1, d2, d3, d4, d5, d6⟩ := t199e (v1 := 0) (v2 := 0) h6 h12 S3 V R0 (fun h => chk_yv h6 h12 h) (o1 := none) (o2 := none) i1 i2 (by rw [if_neg (by omega)]) (by rw [if_neg (by omega)])
    exact ⟨g5, d1, rfl, d2, d3, d4, d5, q3, d6⟩
  have : k = 6 ∨ k = 7 ∨ k = 8 ∨ k = 9 ∨ k = 10 ∨ k = 11 := by omega
  rcases this with rfl | rfl | rfl | rfl | rfl | rfl
  · obtain ⟨ok, g1, y1, g', y2, y3⟩ := one 7 (by omega) rfl (by omega) (by omega) (fun v => rfl)
    refine ⟨ok, g', ?_, y3⟩
    unfold f199_155 f199_159
    simp (disch := omega) only [gT, nbeq, Option.isSome_some, Option.getD_some, Bool.and_true, Bool.true_and, Bool.and_self, mX_some, bS, bN_if, bN_01, i1_01, i0_01, if_true, if_false, Bool.false_eq_true, false_and, and_false, and_true, true_and, and_self, Bool.or_false, Bool.false_or, Bool.or_true, Bool.true_or, Bool.false_and, Bool.and_false, decide_true, decide_false, L0, L1, L2, L3, L4, L5, L6, L7, L8, L9, L10, L11, L12, L13, L14, L15, L16, L17, L18, L19, L20, L21, L22, L23, L24, L25, L27, L33, L39, L40, L45, L48, L57, L60, L72, L90, L97, L98, L99, L100, L121, L122, L242, L255, L256, L580, L600, L1000, L1584, L1000000, Ln1, iN_add, iN_and, iN_or, iN_nd, iN_shl, iN_shr, iN_cl, iN_in, iN_mul, Nat.reduceSub, ile_n, ineF, if_false, k193 w3, y1]
    rcases y2 with ⟨rfl, y2⟩ | ⟨rfl, y2⟩
    · simp (disch := omega) only [eq_self, if_true, y2]
    · simp (disch := omega) only [ieq_n, y2]
  · obtain ⟨ok, g1, y1, g', y2, y3⟩ := one 7 (by omega) rfl (by omega) (by omega) (fun v => rfl)
    refine ⟨ok, g', ?_, y3⟩
    unfold f199_155 f199_159
    simp (disch := omega) only [gT, nbeq, Option.isSome_some, Option.getD_some, Bool.and_true, Bool.true_and, Bool.and_self, mX_some, bS, bN_if, bN_01, i1_01, i0_01, if_true, if_false, Bool.false_eq_true, false_and, and_false, and_true, true_and, and_self, Bool.or_false, Bool.false_or, Bool.or_true, Bool.true_or, Bool.false_and, Bool.and_false, decide_true, decide_false, L0, L1, L2, L3, L4, L5, L6, L7, L8, L9, L10, L11, L12, L13, L14, L15, L16, L17, L18, L19, L20, L21, L22, L23, L24, L25, L27, L33, L39, L40, L45, L48, L57, L60, L72, L90, L97, L98, L99, L100, L121, L122, L242, L255, L256, L580, L600, L1000, L1584, L1000000, Ln1, iN_add, iN_and, iN_or, iN_nd, iN_shl, iN_shr, iN_cl, iN_in, iN_mul, Nat.reduceSub, ile_n, ineF, if_false, k193 w3, y1]
    rcases y2 with ⟨rfl, y2⟩ | ⟨rfl, y2⟩
    · simp (disch := omega) only [eq_self, if_true, y2]
    · simp (disch := omega) only [ieq_n, y2]
  · obtain ⟨ok, g1, y1, g', y2, y3⟩ := one 5 (by omega) rfl (by omega) (by omega) (fun v => rfl)
    refine ⟨ok, g', ?_, y3⟩
    unfold f199_155 f199_159
    simp (disch := omega) only [gT, nbeq, Option.isSome_some, Option.getD_some, Bool.and_true, Bool.true_and, Bool.and_self, mX_some, bS, bN_if, bN_01, i1_01, i0_01, if_true, if_false, Bool.false_eq_true, false_and, and_false, and_true, true_and, and_self, Bool.or_false, Bool.false_or, Bool.or_true, Bool.true_or, Bool.false_and, Bool.and_false, decide_true, decide_false, L0, L1, L2, L3, L4, L5, L6, L7, L8, L9, L10, L11, L12, L13, L14, L15, L16, L17, L18, L19, L20, L21, L22, L23, L24, L25, L27, L33, L39, L40, L45, L48, L57, L60, L72, L90, L97, L98, L99, L100, L121, L122, L242, L255, L256, L580, L600, L1000, L1584, L1000000, Ln1, iN_add, iN_and, iN_or, iN_nd, iN_shl, iN_shr, iN_cl, iN_in, iN_mul, Nat.reduceSub, ile_n, ineF, eq_self, if_false, if_true, k193 w3, y1]
    rcases y2 with ⟨rfl, y2⟩ | ⟨rfl, y2⟩
    · simp (disch := omega) only [eq_self, if_true, y2]
    · simp (disch := omega) only [ieq_n, y2]
  · unfold lnN
    rw [if_neg (show ¬ nbk 9 = 0 by decide)]
    obtain ⟨y1, y2⟩ := t190 (i := 1) (lo := iN 0) (hi := iN 7) (ok := decide (0 ≤ tkV b len (tkE b len p) ∧ tkV b len (tkE b len p) ≤ 7)) (by omega) S3 q3 P3 he (fun hk => inK (by omega) (by omega) (by have := tkV_le he hk; omega))
    by_cases k1 : tkK b len (tkE b len p) = 2
    · rw [if_pos k1, if_neg (show ¬ nbk 9 = 1 by decide)]
      obtain ⟨g4, c1, c2, c3, c4, c5⟩ := y1 k1
      have w4 := c2.2.1.1
      have he1 := (tkE_ok (b := b) he).2.1
      have lt2 := tS_lt (b := b) he (by omega)
      have P4 : PLW (nt (decide (0 ≤ tkV b len (tkE b len p) ∧ tkV b len (tkE b len p) ≤ 7)) 2 (tkS b len (tkE b len p)) (nt (decide (c.2.2.1.1 < 40)) 3 (tkS b len p) f)) (tkS b len (tkE b len (tkE b len p))) := (P3.mono (by omega)).nt lt2
      obtain ⟨z1, z2⟩ := t190 (i := 2) (lo := iN 0) (hi := iN 5) (ok := decide (0 ≤ tkV b len (tkE b len (tkE b len p)) ∧ tkV b len (tkE b len (tkE b len p)) ≤ 5)) (by omega) c2 c3 P4 he1 (fun hk => inK (by omega) (by omega) (by have := tkV_le he1 hk; omega))
      by_cases k2 : tkK b len (tkE b len (tkE b len p)) = 2
      · rw [if_pos k2]
        obtain ⟨g5, d1, d2, d3, d4, d5⟩ := z1 k2
        have hv1 := tkV_le he k1
        have hv2 := tkV_le he1 k2
        have r1 : mI g5 203 1 = iN (tkV b len (tkE b len p)) := (d5 1 (by decide)).trans c4
        generalize tkV b len (tkE b len p) = v1 at hv1 r1 c2 c3 d2 d3
        generalize tkV b len (tkE b len (tkE b len p)) = v2 at hv2 d4 d2 d3
        have ec : nt (decide (0 ≤ v2 ∧ v2 ≤ 5)) 2 (tkS b len (tkE b len (tkE b len p))) (nt (decide (0 ≤ v1 ∧ v1 ≤ 7)) 2 (tkS b len (tkE b len p)) (nt (decide (c.2.2.1.1 < 40)) 3 (tkS b len p) f)) = chk 9 c (tkS b len p) (tkS b len (tkE b len p)) (tkS b len (tkE b len (tkE b len p))) v1 v2 f := by
          have n1' : decide (0 ≤ v1 ∧ v1 ≤ 7) = decide (v1 ≤ 7) := by rw [decide_eq_decide]; omega
          have n2' : decide (0 ≤ v2 ∧ v2 ≤ 5) = decide (v2 ≤ 5) := by rw [decide_eq_decide]; omega
          rw [n1', n2']; rfl
        rw [ec] at d2 d3
        obtain ⟨g6, m1, m2, m3, m4, m5, m6⟩ := t199e (v1 := v1) (v2 := v2) h6 h12 d2 V R0 (fun h => chk_yv h6 h12 h) (o1 := some v1) (o2 := some v2) r1 d4 rfl rfl
        refine ⟨iN 1, g6, ?_, rfl, m2, m3, m4, m5, d3, m6⟩
        unfold f199_155
        simp (disch := omega) only [gT, nbeq, Option.isSome_some, Option.getD_some, Bool.and_true, Bool.true_and, Bool.and_self, mX_some, bS, bN_if, bN_01, i1_01, i0_01, if_true, if_false, Bool.false_eq_true, false_and, and_false, and_true, true_and, and_self, Bool.or_false, Bool.false_or, Bool.or_true, Bool.true_or, Bool.false_and, Bool.and_false, decide_true, decide_false, L0, L1, L2, L3, L4, L5, L6, L7, L8, L9, L10, L11, L12, L13, L14, L15, L16, L17, L18, L19, L20, L21, L22, L23, L24, L25, L27, L33, L39, L40, L45, L48, L57, L60, L72, L90, L97, L98, L99, L100, L121, L122, L242, L255, L256, L580, L600, L1000, L1584, L1000000, Ln1, iN_add, iN_and, iN_or, iN_nd, iN_shl, iN_shr, iN_cl, iN_in, iN_mul, Nat.reduceSub, ile_n, ineF, eq_self, if_false, if_true, k193 w3, c1, k193 w4, d1]
        exact m1
      · rw [if_neg k2]
        obtain ⟨g5, d1, d2, d3⟩ := z2 k2
        refine ⟨iN 0, g5, ?_, rfl, d2.mono pRd_Tl, d3⟩
        unfold f199_159 f199_160 f199_182
        simp (disch := omega) only [gT, nbeq, Option.isSome_some, Option.getD_some, Bool.and_true, Bool.true_and, Bool.and_self, mX_some, bS, bN_if, bN_01, i1_01, i0_01, if_true, if_false, Bool.false_eq_true, false_and, and_false, and_true, true_and, and_self, Bool.or_false, Bool.false_or, Bool.or_true, Bool.true_or, Bool.false_and, Bool.and_false, decide_true, decide_false, L0, L1, L2, L3, L4, L5, L6, L7, L8, L9, L10, L11, L12, L13, L14, L15, L16, L17, L18, L19, L20, L21, L22, L23, L24, L25, L27, L33, L39, L40, L45, L48, L57, L60, L72, L90, L97, L98, L99, L100, L121, L122, L242, L255, L256, L580, L600, L1000, L1584, L1000000, Ln1, iN_add, iN_and, iN_or, iN_nd, iN_shl, iN_shr, iN_cl, iN_in, iN_mul, Nat.reduceSub, ile_n, ineF, eq_self, if_false, if_true, k193 w3, c1, k193 w4, d1]
    · rw [if_neg k1]
      obtain ⟨g4, c1, c2, c3⟩ := y2 k1
      refine ⟨iN 0, g4, ?_, rfl, c2.mono pRd_Tl, c3⟩
      unfold f199_159 f199_160 f199_182
      simp (disch := omega) only [gT, nbeq, Option.isSome_some, Option.getD_some, Bool.and_true, Bool.true_and, Bool.and_self, mX_some, bS, bN_if, bN_01, i1_01, i0_01, if_true, if_false, Bool.false_eq_true, false_and, and_false, and_true, true_and, and_self, Bool.or_false, Bool.false_or, Bool.or_true, Bool.true_or, Bool.false_and, Bool.and_false, decide_true, decide_false, L0, L1, L2, L3, L4, L5, L6, L7, L8, L9, L10, L11, L12, L13, L14, L15, L16, L17, L18, L19, L20, L21, L22, L23, L24, L25, L27, L33, L39, L40, L45, L48, L57, L60, L72, L90, L97, L98, L99, L100, L121, L122, L242, L255, L256, L580, L600, L1000, L1584, L1000000, Ln1, iN_add, iN_and, iN_or, iN_nd, iN_shl, iN_shr, iN_cl, iN_in, iN_mul, Nat.reduceSub, ile_n, ineF, eq_self, if_false, if_true, k193 w3, c1]
  · obtain ⟨g', y1, y2⟩ := non rfl (by omega) rfl
    refine ⟨iN 1, g', ?_, y2⟩
    unfold f199_155
    simp (disch := omega) only [Nat.reduceSub, ile_p]
    exact y1
  · obtain ⟨g', y1, y2⟩ := non rfl (by omega) rfl
    refine ⟨iN 1, g', ?_, y2⟩
    unfold f199_155
    simp (disch := omega) only [Nat.reduceSub, ile_p]
    exact y1
theorem t199 {p : Nat} (hp : p ≤ len) (hne : tkK b len p ≠ 0) (S : MS g0 g b len p f true) (W : FTW f) (P : PLW f (tkS b len p)) (V : CWF c) (R0 : RC1 g0 c f) : ∃ ok g', f199 g 193 (gN (wv b len p)) (iN (tkS b len p)) = some (ok, g') ∧ LNr RC1 g0 b len g' ok (lnW b len 1 p c f) := by
  have w := S.2.1.1
  unfold lnW
  unfold f199
  simp (disch := omega) only [L0, L1, L2, L3, L4, L5, L6, L7, L8, L9, L10, L11, L12, L13, L14, L15, L16, L17, L18, L19, L20, L21, L22, L23, L24, L25, L27, L33, L39, L40, L45, L48, L57, L60, L72, L90, L97, L98, L99, L100, L121, L122, L242, L255, L256, L580, L600, L1000, L1584, L1000000, Ln1, iN_add, iN_and, iN_or, iN_nd, iN_shl, iN_shr, iN_cl, iN_in, iN_mul, KC6, KC7, KC8, KC9, KC10, KC11, wcmp hp (show 6 < 14 by decide), wcmp hp (show 7 < 14 by decide), wcmp hp (show 8 < 14 by decide), wcmp hp (show 9 < 14 by decide), wcmp hp (show 10 < 14 by decide), wcmp hp (show 11 < 14 by decide)]
  cases hw : wF b len p 1 with
  | none =>
    have z := fz_all 6 6 hw
    refine ⟨iN 0, mSI g 193 15 (iN (tkS b len p)), ?_, rfl, (S.1.mono pRd_Tl).si (by decide), by simp only [si_ne, si_nk, si_eq]⟩
    unfold f199_73
    simp (disch := omega) only [z 6 (by omega) (by omega), z 7 (by omega) (by omega), z 8 (by omega) (by omega), z 9 (by omega) (by omega), z 10 (by omega) (by omega), z 11 (by omega) (by omega), Bool.false_eq_true, if_false, gT, nbeq, Option.isSome_some, Option.getD_some, Bool.and_true, Bool.true_and, Bool.and_self, mX_some, bS, bN_if, bN_01, i1_01, i0_01, if_true, if_false, Bool.false_eq_true, false_and, and_false, and_true, true_and, and_self, Bool.or_false, Bool.false_or, Bool.or_true, Bool.true_or, Bool.false_and, Bool.and_false, decide_true, decide_false, L0, L1, L2, L3, L4, L5, L6, L7, L8, L9, L10, L11, L12, L13, L14, L15, L16, L17, L18, L19, L20, L21, L22, L23, L24, L25, L27, L33, L39, L40, L45, L48, L57, L60, L72, L90, L97, L98, L99, L100, L121, L122, L242, L255, L256, L580, L600, L1000, L1584, L1000000, Ln1, iN_add, iN_and, iN_or, iN_nd, iN_shl, iN_shr, iN_cl, iN_in, iN_mul, jj_p, k193 w, t192 w S.2.2.1.2.1]
  | some k =>
    obtain ⟨hk, h1, h2, h3⟩ := wF_k (by decide) hw
    have h2 : 6 ≤ k := h2
    have h3 : k < 6 + 6 := h3
    have o := fun j (hj : j < 14) (hne : j ≠ k) => wF_one (b := b) (len := len) (p := p) hk hj h1 hne
    obtain ⟨ok, g', y1, y2⟩ := t199y (k := k) h2 (by omega) hp hne S W P V R0
    refine ⟨ok, g', ?_, y2⟩
    have : k = 6 ∨ k = 7 ∨ k = 8 ∨ k = 9 ∨ k = 10 ∨ k = 11 := by omega
    rcases this with rfl | rfl | rfl | rfl | rfl | rfl
    · simp only [h1, if_true]; exact y1
    · simp only [o 6 (by decide) (by decide), h1, Bool.false_eq_true, if_false, if_true]; exact y1
    · simp only [o 6 (by decide) (by decide), o 7 (by decide) (by decide), h1, Bool.false_eq_true, if_false, if_true]; exact y1
    · simp only [o 6 (by decide) (by decide), o 7 (by decide) (by decide), o 8 (by decide) (by decide), h1, Bool.false_eq_true, if_false, if_true]; exact y1
    · simp only [o 6 (by decide) (by decide), o 7 (by decide) (by decide), o 8 (by decide) (by decide), o 9 (by decide) (by decide), h1, Bool.false_eq_true, if_false, if_true]; exact y1
    · simp only [o 6 (by decide) (by decide), o 7 (by decide) (by decide), o 8 (by decide) (by decide), o 9 (by decide) (by decide), o 10 (by decide) (by decide), h1, Bool.false_eq_true, if_false, if_true]; exact y1
end MY
section MG
variable {g0 g : mH} {b : Nat → Nat} {len : Nat} {c : CQ} {f : FT}
theorem t201k {k p : Nat} (hk : k ≤ 1) (h1 : wIs b len p 12 = decide (k = 0)) (hp : p ≤ len) (hne : tkK b len p ≠ 0) (S : MS g0 g b len p f true) (W : FTW f) (P : PLW f (tkS b len p)) (V : CWF c) (R0 : RC2 g0 c f) : ∃ ok g', f201_21 g 193 (gN (wv b len p)) (iN (tkS b len p)) = some (ok, g') ∧ LNr RC2 g0 b len g' ok (lnN b len (12 + k) p (tkE b len p) c f) := by
  have w := S.2.1.1
  have lt1 := tS_lt (b := b) hp hne
  obtain ⟨n, b0, b1, b2⟩ := R0.bd V
  have en : nt (decide (n < 8)) 3 (tkS b len p) f = nt (decide (c.2.2.2.1 < 8)) 3 (tkS b len p) f := by
    cases hf : f with
    | none => rw [b2 hf]
    | some x => rw [nt_s, nt_s]
  obtain ⟨u1, q1, q2, q3⟩ := t187 (i := 0) (m := n) (M := 8) (by decide) ((S.told 0).trans b1) b0 (by decide) S W P hp
  obtain ⟨u2, x1, x2, x3⟩ := q2.tk hp
  rw [en] at x2 q3
  have wu1 := q2.2.1.1
  have wu2 := x2.2.1.1
  have he := (tkE_ok (b := b) hp).2.1
  have P3 : PLW (nt (decide (c.2.2.2.1 < 8)) 3 (tkS b len p) f) (tkS b len (tkE b len p)) := (P.mono (by omega)).nt lt1
  have nb : nbk (12 + k) = 1 := by
    have : k = 0 ∨ k = 1 := by omega
    rcases this with rfl | rfl <;> rfl
  unfold lnN
  rw [if_neg (show ¬ nbk (12 + k) = 0 by omega)]
  obtain ⟨y1, y2⟩ := t190 (i := 1) (lo := iN 0) (hi := iN 5) (ok := decide (0 ≤ tkV b len (tkE b len p) ∧ tkV b len (tkE b len p) ≤ 5)) (by omega) x2 q3 P3 he (fun hk => inK (by omega) (by omega) (by have := tkV_le he hk; omega))
  unfold f201_21
  simp (disch := omega) only [gT, nbeq, Option.isSome_some, Option.getD_some, Bool.and_true, Bool.true_and, Bool.and_self, mX_some, bS, bN_if, bN_01, i1_01, i0_01, if_true, if_false, Bool.false_eq_true, false_and, and_false, and_true, true_and, and_self, Bool.or_false, Bool.false_or, Bool.or_true, Bool.true_or, Bool.false_and, Bool.and_false, decide_true, decide_false, L0, L1, L2, L3, L4, L5, L6, L7, L8, L9, L10, L11, L12, L13, L14, L15, L16, L17, L18, L19, L20, L21, L22, L23, L24, L25, L27, L33, L39, L40, L45, L48, L57, L60, L72, L90, L97, L98, L99, L100, L121, L122, L242, L255, L256, L580, L600, L1000, L1584, L1000000, Ln1, iN_add, iN_and, iN_or, iN_nd, iN_shl, iN_shr, iN_cl, iN_in, iN_mul, k193 w, q1, k193 wu1, x1, k193 wu2]
  by_cases k1 : tkK b len (tkE b len p) = 2
  · rw [if_pos k1, if_pos nb]
    obtain ⟨g4, c1, c2, c3, c4, c5⟩ := y1 k1
    have w4 := c2.2.1.1
    have hv1 := tkV_le he k1
    generalize tkV b len (tkE b len p) = v1 at hv1 c4 c2 c3
    have ec : nt (decide (0 ≤ v1 ∧ v1 ≤ 5)) 2 (tkS b len (tkE b len p)) (nt (decide (c.2.2.2.1 < 8)) 3 (tkS b len p) f) = chk (12 + k) c (tkS b len p) (tkS b len (tkE b len p)) 0 v1 0 f := by
      have n1' : decide (0 ≤ v1 ∧ v1 ≤ 5) = decide (v1 ≤ 5) := by rw [decide_eq_decide]; omega
      rw [n1']
      unfold chk
      rw [if_neg (by omega), if_neg (by omega), if_neg (by omega), if_neg (by omega), if_neg (by omega), if_neg (by omega), if_neg (by omega), if_neg (by omega), if_neg (by omega), if_neg (by omega)]
    rw [ec] at c2 c3
    have S5 := c2.rd (i := 0) (v := iN k)
    have w5 := S5.2.1.1
    have d0 : mI (mSI g4 203 0 (iN k)) 202 0 = iN n := (S5.told 0).trans b1
    obtain ⟨g', hg, m1, m2, m3, m4, m5⟩ : ∃ g', f200 (mSI g4 203 0 (iN k)) 193 (iN 2) (iN 8) = some ((), g') ∧ Fr pTl g0 g' ∧ TpM g' b len ∧ SM g' b len (tkE b len (tkE b len p)) ∧ FMf g' (chk (12 + k) c (tkS b len p) (tkS b len (tkE b len p)) 0 v1 0 f) ∧ RC2 g' (upf (12 + k) c v1 0 (chk (12 + k) c (tkS b len p) (tkS b len (tkE b len p)) 0 v1 0 f)) (chk (12 + k) c (tkS b len p) (tkS b len (tkE b len p)) 0 v1 0 f) := by
      by_cases e8 : n = 8
      · subst e8
        refine ⟨_, t200f w5 (by omega) d0, S5.1.mono pRd_Tl, S5.2.1, S5.2.2.1, S5.2.2.2.1, ?_⟩
        cases hfc : chk (12 + k) c (tkS b len p) (tkS b len (tkE b len p)) 0 v1 0 f with
        | some x => exact ⟨8, by omega, d0⟩
        | none =>
          obtain ⟨⟨h2, _⟩, h3⟩ := chk_g (by omega) hfc
          have := b2 h3
          omega
      · obtain ⟨g1, a1, a2, a3, a4, a5, eL⟩ := t200 (wide := 2) (most := 8) w5 (by omega) (show n < 8 by omega) (by omega) (by omega) d0
        obtain ⟨m1, m2, m3, m4⟩ := S5.st (a2.mono p202_Tl) (fun j h1 h2 => a2.i rfl j) eL
        refine ⟨g1, a1, m1, m2, m3, m4, ?_⟩
        cases hfc : chk (12 + k) c (tkS b len p) (tkS b len (tkE b len p)) 0 v1 0 f with
        | some x => exact ⟨n + 1, by omega, a4⟩
        | none =>
          obtain ⟨⟨h2, _⟩, h3⟩ := chk_g (by omega) hfc
          have en := b2 h3
          subst en
          subst h3
          obtain ⟨R1, R2⟩ := R0
          show RC2 g1 (upc (12 + k) c v1 0) none
          rw [upc_g (by omega), show 12 + k - 12 = k by omega]
          refine ⟨a4, fun j hj => ?_⟩
          have hj : j < c.2.2.2.1 + 1 := hj
          show mI g1 202 (1 + 2 * j) = iN (ud c.2.2.2.2.1 c.2.2.2.1 k j) ∧ mI g1 202 (1 + 2 * j + 1) = iN (ud c.2.2.2.2.2 c.2.2.2.1 v1 j)
          by_cases ej : j = c.2.2.2.1
          · subst ej
            rw [ud_eq, ud_eq]
            have z0 := a3 0 (by decide)
            have z1 := a3 1 (by decide)
            refine ⟨z0.trans (by simp only [si_ne, si_nk, si_eq]), z1.trans (by simp (disch := omega) only [si_ne, si_nk, si_eq]; exact c4)⟩
          · rw [ud_ne _ _ ej, ud_ne _ _ ej]
            obtain ⟨u0, u1⟩ := R2 j (by omega)
            refine ⟨(a5 _ (by omega) (by omega)).trans ((S5.told _).trans u0), (a5 _ (by omega) (by omega)).trans ((S5.told _).trans u1)⟩
    refine ⟨iN 1, g', ?_, rfl, m1, m2, m3, m4, c3, m5⟩
    have : k = 0 ∨ k = 1 := by omega
    rcases this with rfl | rfl
    · have h1 : wIs b len p 12 = true := h1
      simp (disch := omega) only [gT, nbeq, Option.isSome_some, Option.getD_some, Bool.and_true, Bool.true_and, Bool.and_self, mX_some, bS, bN_if, bN_01, i1_01, i0_01, if_true, if_false, Bool.false_eq_true, false_and, and_false, and_true, true_and, and_self, Bool.or_false, Bool.false_or, Bool.or_true, Bool.true_or, Bool.false_and, Bool.and_false, decide_true, decide_false, L0, L1, L2, L3, L4, L5, L6, L7, L8, L9, L10, L11, L12, L13, L14, L15, L16, L17, L18, L19, L20, L21, L22, L23, L24, L25, L27, L33, L39, L40, L45, L48, L57, L60, L72, L90, L97, L98, L99, L100, L121, L122, L242, L255, L256, L580, L600, L1000, L1584, L1000000, Ln1, iN_add, iN_and, iN_or, iN_nd, iN_shl, iN_shr, iN_cl, iN_in, iN_mul, c1, ieq_n, k193 w4, r193_1 w4, r193_2 w4, r193_3 w4, r193_4 w4, r193_5 w4, r193_6 w4, r193_7 w4, r193_8 w4, r193_18 w4, r193_19 w4, r193_32 w4, r193_33 w4, r193_34 w4, r193_36 w4, r193_38 w4, r193_39 w4, r193_40 w4, r193_42 w4, r193_45 w4, r193_46 w4, r193_47 w4, r193_48 w4, r193_49 w4, r193_50 w4, k203 w4, KC12, wcmp hp (show 12 < 14 by decide), h1, if_true, iN_in, iN_cl, hg]
    · have h1 : wIs b len p 12 = false := h1
      simp (disch := omega) only [gT, nbeq, Option.isSome_some, Option.getD_some, Bool.and_true, Bool.true_and, Bool.and_self, mX_some, bS, bN_if, bN_01, i1_01, i0_01, if_true, if_false, Bool.false_eq_true, false_and, and_false, and_true, true_and, and_self, Bool.or_false, Bool.false_or, Bool.or_true, Bool.true_or, Bool.false_and, Bool.and_false, decide_true, decide_false, L0, L1, L2, L3, L4, L5, L6, L7, L8, L9, L10, L11, L12, L13, L14, L15, L16, L17, L18, L19, L20, L21, L22, L23, L24, L25, L27, L33, L39, L40, L45, L48, L57, L60, L72, L90, L97, L98, L99, L100, L121, L122, L242, L255, L256, L580, L600, L1000, L1584, L1000000, Ln1, iN_add, iN_and, iN_or, iN_nd, iN_shl, iN_shr, iN_cl, iN_in, iN_mul, c1, ieq_n, k193 w4, r193_1 w4, r193_2 w4, r193_3 w4, r193_4 w4, r193_5 w4, r193_6 w4, r193_7 w4, r193_8 w4, r193_18 w4, r193_19 w4, r193_32 w4, r193_33 w4, r193_34 w4, r193_36 w4, r193_38 w4, r193_39 w4, r193_40 w4, r193_42 w4, r193_45 w4, r193_46 w4, r193_47 w4, r193_48 w4, r193_49 w4, r193_50 w4, k203 w4, KC12, wcmp hp (show 12 < 14 by decide), h1, Bool.false_eq_true, if_false, iN_in, iN_cl, hg]
  · rw [if_neg k1]
    obtain ⟨g4, c1, c2, c3⟩ := y2 k1
    refine ⟨iN 0, g4, ?_, rfl, c2.mono pRd_Tl, c3⟩
    simp (disch := omega) only [gT, nbeq, Option.isSome_some, Option.getD_some, Bool.and_true, Bool.true_and, Bool.and_self, mX_some, bS, bN_if, bN_01, i1_01, i0_01, if_true, if_false, Bool.false_eq_true, false_and, and_false, and_true, true_and, and_self, Bool.or_false, Bool.false_or, Bool.or_true, Bool.true_or, Bool.false_and, Bool.and_false, decide_true, decide_false, c1, ieq_p]
theorem t201 {p : Nat} (hp : p ≤ len) (hne : tkK b len p ≠ 0) (S : MS g0 g b len p f true) (W : FTW f) (P : PLW f (tkS b len p)) (V : CWF c) (R0 : RC2 g0 c f) : ∃ ok g', f201 g 193 (gN (wv b len p)) (iN (tkS b len p)) = some (ok, g') ∧ LNr RC2 g0 b len g' ok (lnW b len 2 p c f) := by
  have w := S.2.1.1
  unfold lnW
  unfold f201
  simp (disch := omega) only [L0, L1, L2, L3, L4, L5, L6, L7, L8, L9, L10, L11, L12, L13, L14, L15, L16, L17, L18, L19, L20, L21, L22, L23, L24, L25, L27, L33, L39, L40, L45, L48, L57, L60, L72, L90, L97, L98, L99, L100, L121, L122, L242, L255, L256, L580, L600, L1000, L1584, L1000000, Ln1, iN_add, iN_and, iN_or, iN_nd, iN_shl, iN_shr, iN_cl, iN_in, iN_mul, KC12, KC13, wcmp hp (show 12 < 14 by decide), wcmp hp (show 13 < 14 by decide)]
  cases hw : wF b len p 2 with
  | none =>
    have z := fz_all 2 12 hw
    refine ⟨iN 0, mSI g 193 15 (iN (tkS b len p)), ?_, rfl, (S.1.mono pRd_Tl).si (by decide), by simp only [si_ne, si_nk, si_eq]⟩
    simp (disch := omega) only [z 12 (by omega) (by omega), z 13 (by omega) (by omega), Bool.false_eq_true, if_false, gT, nbeq, Option.isSome_some, Option.getD_some, Bool.and_true, Bool.true_and, Bool.and_self, mX_some, bS, bN_if, bN_01, i1_01, i0_01, if_true, if_false, Bool.false_eq_true, false_and, and_false, and_true, true_and, and_self, Bool.or_false, Bool.false_or, Bool.or_true, Bool.true_or, Bool.false_and, Bool.and_false, decide_true, decide_false, L0, L1, L2, L3, L4, L5, L6, L7, L8, L9, L10, L11, L12, L13, L14, L15, L16, L17, L18, L19, L20, L21, L22, L23, L24, L25, L27, L33, L39, L40, L45, L48, L57, L60, L72, L90, L97, L98, L99, L100, L121, L122, L242, L255, L256, L580, L600, L1000, L1584, L1000000, Ln1, iN_add, iN_and, iN_or, iN_nd, iN_shl, iN_shr, iN_cl, iN_in, iN_mul, k193 w, t192 w S.2.2.1.2.1]
  | some k =>
    obtain ⟨hk, h1, h2, h3⟩ := wF_k (by decide) hw
    have h2 : 12 ≤ k := h2
    have o := fun j (hj : j < 14) (hne : j ≠ k) => wF_one (b := b) (len := len) (p := p) hk hj h1 hne
    have : k = 12 ∨ k = 13 := by omega
    rcases this with rfl | rfl
    · obtain ⟨ok, g', y1, y2⟩ := t201k (k := 0) (by omega) h1 hp hne S W P V R0
      refine ⟨ok, g', ?_, y2⟩
      simp only [h1, if_true]; exact y1
    · obtain ⟨ok, g', y1, y2⟩ := t201k (k := 1) (by omega) (o 12 (by decide) (by decide)) hp hne S W P V R0
      refine ⟨ok, g', ?_, y2⟩
      simp only [o 12 (by decide) (by decide), h1, Bool.false_eq_true, if_false, if_true]; exact y1
end MG
