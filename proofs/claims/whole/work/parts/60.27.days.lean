/-! HIMSELF: the days -/
abbrev AZ := LSt × Nat × (Nat → Nat)
def aRd (q : LQ) (x : AZ) (c : Nat) : AZ := (sRead q x.1 c, x.2.1 + 1, ud x.2.2 x.2.1 c)
def dgo (q : LQ) : Nat → AZ → AZ
  | 0, x => x
  | n + 1, x => match fav q x.1 with
    | none => x
    | some c => dgo q n (aRd q x c)
theorem dgo_n {q : LQ} {x : AZ} (e : fav q x.1 = none) : ∀ n, dgo q n x = x := by
  intro n
  cases n with
  | zero => rfl
  | succ n => unfold dgo; rw [e]
theorem dgo_s {q : LQ} {x : AZ} {c : Nat} (e : fav q x.1 = some c) (n : Nat) : dgo q (n + 1) x = dgo q n (aRd q x c) := by
  show (match fav q x.1 with
    | none => x
    | some c => dgo q n (aRd q x c)) = _
  rw [e]
def mor (q : LQ) (s : LSt) : LSt := (sLk s, sKn s, sDy s, sRd s, sSk s, q 0 2, false, sFg s)
def amor (q : LQ) (x : AZ) : AZ := (mor q x.1, x.2.1, x.2.2)
theorem amor2 (q : LQ) (x : AZ) : amor q (amor q x) = amor q x := rfl
theorem co_mor {q : LQ} {s t : LSt} (h : co s = co t) : co (sMorn q s) = co (mor q t) := by
  have h1 : sLk s = sLk t := congrArg (fun z => z.1) h
  have h2 : sRd s = sRd t := congrArg (fun z => z.2.1) h
  have h3 : sSk s = sSk t := congrArg (fun z => z.2.2.1) h
  show (sLk s, sRd s, sSk s, q 0 2, false) = (sLk t, sRd t, sSk t, q 0 2, false)
  rw [h1, h2, h3]
theorem pc_or : ∀ r, r < 256 → ∀ c, c < 8 → r.testBit c = false → pc (r ||| 1 <<< c) = pc r + 1 := by decide +kernel
theorem fav_pc {q : LQ} {s : LSt} {c : Nat} (W : QW q) (S : SW q s) (e : fav q s = some c) : pc (sRd (sRead q s c)) = pc (sRd s) + 1 ∧ pc (sRd s) < 8 := by
  obtain ⟨hc, hr⟩ := fav_ok e
  have hn := W.1.1
  have h8 := S.rd8 W
  have hb : (sRd s).testBit c = false := by
    unfold cR mayB at hr
    simp only [Bool.and_eq_true, Nat.testBit_or, Bool.not_eq_true', Bool.or_eq_false_iff] at hr
    exact hr.1.1.1.1.1
  have := pc_or _ h8 c (by omega) hb
  have l := pc_le (sRd s ||| 1 <<< c)
  exact ⟨this, by omega⟩
theorem dgo_m {q : LQ} : ∀ n (x : AZ), x.2.1 ≤ (dgo q n x).2.1 := by
  intro n
  induction n with
  | zero => intro x; exact Nat.le_refl _
  | succ n ih =>
    intro x
    cases e : fav q x.1 with
    | none => rw [dgo_n e]; exact Nat.le_refl _
    | some c =>
      rw [dgo_s e]
      have := ih (aRd q x c)
      have h1 : (aRd q x c).2.1 = x.2.1 + 1 := rfl
      omega
theorem dgo_lt {q : LQ} {n : Nat} {x : AZ} (h : (dgo q (n + 1) x).2.1 ≤ x.2.1) : fav q x.1 = none := by
  cases e : fav q x.1 with
  | none => rfl
  | some c =>
    rw [dgo_s e] at h
    have := dgo_m (q := q) n (aRd q x c)
    have h1 : (aRd q x c).2.1 = x.2.1 + 1 := rfl
    omega
theorem co_rd {s t : LSt} (h : co s = co t) : sRd s = sRd t := congrArg (fun z => z.2.1) h
/-- the class's ALONE at 66 stands at x -/
def AL (h : mH) (la : Nat) (q : LQ) (x : AZ) : Prop := Wd h ∧ LfS h 70 la ∧ LibS h la q ∧ (∃ s, CLS h 70 s ∧ SW q s ∧ co s = co x.1) ∧ mI h 66 3 = iN x.2.1 ∧ (∀ j, j < x.2.1 → mI h 67 j = iN (x.2.2 j)) ∧ x.2.1 ≤ pc (sRd x.1)
def pZ (b : Nat) : Bool := Nat.beq b 66 || Nat.beq b 67 || Nat.beq b 70 || Nat.beq b 71 || Nat.beq b 72
theorem pZ_L : ∀ b, pL 70 b = true → pZ b = true := by
  intro b hb
  unfold pL at hb
  simp only [Bool.or_eq_true] at hb
  rcases hb with (hb | hb) | hb
  · rw [Nat.eq_of_beq_eq_true hb]; decide
  · rw [Nat.eq_of_beq_eq_true hb]; decide
  · rw [Nat.eq_of_beq_eq_true hb]; decide
theorem pZ_C : ∀ b, pZ b = true → pC b = true := by
  intro b hb
  unfold pZ at hb
  simp only [Bool.or_eq_true] at hb
  rcases hb with (((hb | hb) | hb) | hb) | hb
  all_goals rw [Nat.eq_of_beq_eq_true hb]; decide
theorem pZ_n : ∀ b, b < 66 → pZ b = false := by decide +kernel
section AL
variable {h : mH} {la : Nat} {q : LQ} {x : AZ}
theorem AL.lt (A : AL h la q x) (W : QW q) {c : Nat} (e : fav q x.1 = some c) : x.2.1 < 8 := by
  obtain ⟨_, _, _, ⟨s, _, S, E⟩, _, _, hp⟩ := A
  rw [← co_fav E] at e
  have := (fav_pc W S e).2
  rw [co_rd E] at this
  omega
theorem t85_76 (A : AL h la q x) (W : QW q) (p : la + 7 ≤ 66) (m : Nat) (hm : m ≤ 8) : ∃ h', f85_76 h 66 (iN m) = some (bN (decide (m < x.2.1)), h') ∧ Fr pZ h h' ∧ AL h' la q (amor q x) ∧ mI h' 66 5 = mI h 66 5 := by
  obtain ⟨w, L, H, ⟨s, C, S, E⟩, a1, a2, a3⟩ := A
  obtain ⟨h1, b1, b2, b3, b4, b5⟩ := t79 L H C (by omega)
  have w1 := w.fr b2
  have hl := pc_le (sRd x.1)
  have e1 : mI h1 66 3 = iN x.2.1 := (b2.i (by decide) _).trans a1
  refine ⟨h1, ?_, b2.mono pZ_L, ⟨w1, L.fr b2, H.fl b2 (by omega), ⟨_, b3, SW.morn W S, co_mor E⟩, e1, fun j hj => (b2.i (by decide) _).trans (a2 j hj), a3⟩, b2.i (by decide) _⟩
  unfold f85_76 f85_96
  simp (disch := omega) only [gT, nbeq, Option.isSome_some, Option.getD_some, Bool.and_true, Bool.true_and, Bool.and_self, mX_some, bS, bN_if, bN_01, i1_01, i0_01, if_true, if_false, Bool.false_eq_true, false_and, and_false, and_true, true_and, and_self, Bool.or_false, Bool.false_or, Bool.or_true, Bool.true_or, Bool.false_and, Bool.and_false, decide_true, decide_false, L0, L1, L2, L3, L4, L5, L6, L7, L8, L9, L10, L11, L12, L13, L14, L15, L16, L17, L18, L19, L20, L21, L22, L23, L24, L25, L27, L33, L39, L40, L45, L48, L57, L60, L72, L90, L97, L98, L99, L100, L121, L122, L242, L255, L256, L580, L600, L1000, L1584, L1000000, Ln1, iN_add, iN_and, iN_or, iN_nd, iN_shl, iN_shr, iN_cl, iN_in, iN_mul, k66 w, r66_0 w, r66_1 w, r66_2 w, r66_4 w, k70 w, r70_0 w, r70_2 w, k66 w1, r66_0 w1, r66_1 w1, r66_2 w1, r66_4 w1, k70 w1, r70_0 w1, r70_2 w1, b1, e1]
  by_cases d : m < x.2.1
  · rw [ile_n (by omega) (by omega) d, decide_eq_true d]; rfl
  · rw [ile_p (by omega) (by omega) (by omega), decide_eq_false d]; rfl
theorem AL.rd (A : AL h la q x) (W : QW q) (p : la + 7 ≤ 66) {c : Nat} (e : fav q x.1 = some c) : ∃ h1, f68 h 70 (iN c) = some (bN true, h1) ∧ Fr pZ h h1 ∧ mI h1 66 5 = mI h 66 5 ∧ mI h1 66 3 = iN x.2.1 ∧ AL (mSI (mSI h1 67 x.2.1 (iN c)) 66 3 (iN (x.2.1 + 1))) la q (aRd q x c) := by
  have h8 := A.lt W e
  obtain ⟨w, L, H, ⟨s, C, S, E⟩, a1, a2, a3⟩ := A
  rw [← co_fav E] at e
  have hn := W.1.1
  obtain ⟨hc, hr⟩ := fav_ok e
  obtain ⟨hq, _⟩ := fav_pc W S e
  obtain ⟨h1, b1, b2, b3, b4, b5, b6⟩ := t68y L H W C S (by omega) (c := c) (by omega) (by rw [hr, decide_eq_true hc]; rfl)
  have x2 : Fr pZ h1 (mSI (mSI h1 67 x.2.1 (iN c)) 66 3 (iN (x.2.1 + 1))) := (Fr.rfl.si (by decide)).si (by decide)
  refine ⟨h1, b1, b2.mono pZ_L, b2.i (by decide) _, (b2.i (by decide) _).trans a1, (w.fr b2).fr x2, (L.fr b2).fr x2, (H.fl b2 (by omega)).fr x2 (fun i hi => pZ_n _ (by omega)), ⟨_, b3.x (fun j hj => by simp (disch := omega) only [si_ne, si_nk, si_eq]) (fun j => by simp (disch := omega) only [si_ne, si_nk, si_eq]) (fun j => by simp (disch := omega) only [si_ne, si_nk, si_eq]), b4, co_read E c⟩, ?_, fun j hj => ?_, ?_⟩
  · simp (disch := omega) only [si_ne, si_nk, si_eq]; rfl
  · have hj : j < x.2.1 + 1 := hj
    show _ = iN (ud x.2.2 x.2.1 c j)
    by_cases d : j = x.2.1
    · subst d; rw [ud_eq]; simp (disch := omega) only [si_ne, si_nk, si_eq]
    · rw [ud_ne _ _ d]; simp (disch := omega) only [si_ne, si_nk, si_eq]; exact (b2.i (by decide) _).trans (a2 j (by omega))
  · have e2 : sRd (aRd q x c).1 = sRd (sRead q s c) := (co_rd (co_read (q := q) E c)).symm
    have e3 : (aRd q x c).2.1 = x.2.1 + 1 := rfl
    rw [e2, e3, hq, co_rd E]
    omega
theorem AL.fv (A : AL h la q x) (W : QW q) : f86 h 66 la = some (zN (fav q x.1)) := by
  obtain ⟨w, L, H, ⟨s, C, S, E⟩, _⟩ := A
  rw [← co_fav E]
  exact t86 w L H W C S
theorem t85 (A : AL h la q x) (W : QW q) (p : la + 7 ≤ 66) : ∃ h', f85 h 66 la = some (bN (decide (x.2.1 < (dgo q 8 x).2.1)), h') ∧ Fr pZ h h' ∧ AL h' la q (amor q (dgo q 8 x)) ∧ mI h' 66 5 = mI h 66 5 := by
  have w := A.1
  have hn := W.1.1
  have a1 := A.2.2.2.2.1
  have hl := pc_le (sRd x.1)
  have hm := A.2.2.2.2.2.2
  unfold f85
  simp only [gT, nbeq, Option.isSome_some, Option.getD_some, Bool.and_true, Bool.true_and, Bool.and_self, mX_some, bS, bN_if, bN_01, i1_01, i0_01, if_true, if_false, Bool.false_eq_true, false_and, and_false, and_true, true_and, and_self, Bool.or_false, Bool.false_or, Bool.or_true, Bool.true_or, Bool.false_and, Bool.and_false, decide_true, decide_false, k66 w, r66_0 w, r66_1 w, r66_2 w, r66_4 w, A.fv W, a1]
  have := lp_run2 (body := f85_14 66 la (iN x.2.1)) (R := fun k (y : AZ) z => z.1 = zN (fav q y.1) ∧ z.2.1 = iN k ∧ AL z.2.2 la q y ∧ Fr pZ h z.2.2 ∧ mI z.2.2 66 5 = mI h 66 5) (Q := fun y r => r.1 = bN (decide (x.2.1 < y.2.1)) ∧ Fr pZ h r.2 ∧ AL r.2 la q (amor q y) ∧ mI r.2 66 5 = mI h 66 5) (go := fun n _ y => dgo q n y) 8 (fun n k y z hk hR => by
    obtain ⟨z1, z2, z3, z4, z5⟩ := hR
    obtain ⟨u1, u2, u3⟩ := z
    have z1 : u1 = zN (fav q y.1) := z1
    have z2 : u2 = iN k := z2
    subst z1 z2
    have w2 := z3.1
    cases e : fav q y.1 with
    | none =>
      right
      obtain ⟨h', b1, b2, b3, b4⟩ := t85_76 z3 W p x.2.1 (by omega)
      refine ⟨(bN (decide (x.2.1 < (dgo q (n + 1) y).2.1)), h'), ?_, rfl, z4.tr b2, (by rw [dgo_n e]; exact b3), b4.trans z5⟩
      unfold f85_14
      rw [dgo_n e]
      simp (disch := omega) only [gT, nbeq, Option.isSome_some, Option.getD_some, Bool.and_true, Bool.true_and, Bool.and_self, mX_some, bS, bN_if, bN_01, i1_01, i0_01, if_true, if_false, Bool.false_eq_true, false_and, and_false, and_true, true_and, and_self, Bool.or_false, Bool.false_or, Bool.or_true, Bool.true_or, Bool.false_and, Bool.and_false, decide_true, decide_false, L0, L1, L2, L3, L4, L5, L6, L7, L8, L9, L10, L11, L12, L13, L14, L15, L16, L17, L18, L19, L20, L21, L22, L23, L24, L25, L27, L33, L39, L40, L45, L48, L57, L60, L72, L90, L97, L98, L99, L100, L121, L122, L242, L255, L256, L580, L600, L1000, L1584, L1000000, Ln1, iN_add, iN_and, iN_or, iN_nd, iN_shl, iN_shr, iN_cl, iN_in, iN_mul, ile_n, zN_none, jj_p, b1]
    | some c =>
      left
      have hy := z3.lt W e
      obtain ⟨hc, _⟩ := fav_ok e
      obtain ⟨h1, b1, b2, b3, b4, b5⟩ := z3.rd W p e
      have w3 := w2.fr b2
      have y3 := z3.2.2.2.2.1
      refine ⟨(zN (fav q (aRd q y c).1), iN (k + 1), mSI (mSI h1 67 y.2.1 (iN c)) 66 3 (iN (y.2.1 + 1))), aRd q y c, ?_, ⟨rfl, rfl, b5, (z4.tr b2).tr ((Fr.rfl.si (by decide)).si (by decide)), ?_⟩, dgo_s e n⟩
      · unfold f85_14 f85_64
        have v3 : mI u3 66 3 = iN y.2.1 := y3
        simp (disch := omega) only [gT, nbeq, Option.isSome_some, Option.getD_some, Bool.and_true, Bool.true_and, Bool.and_self, mX_some, bS, bN_if, bN_01, i1_01, i0_01, if_true, if_false, Bool.false_eq_true, false_and, and_false, and_true, true_and, and_self, Bool.or_false, Bool.false_or, Bool.or_true, Bool.true_or, Bool.false_and, Bool.and_false, decide_true, decide_false, L0, L1, L2, L3, L4, L5, L6, L7, L8, L9, L10, L11, L12, L13, L14, L15, L16, L17, L18, L19, L20, L21, L22, L23, L24, L25, L27, L33, L39, L40, L45, L48, L57, L60, L72, L90, L97, L98, L99, L100, L121, L122, L242, L255, L256, L580, L600, L1000, L1584, L1000000, Ln1, iN_add, iN_and, iN_or, iN_nd, iN_shl, iN_shr, iN_cl, iN_in, iN_mul, k66 w2, r66_0 w2, r66_1 w2, r66_2 w2, r66_4 w2, k70 w2, r70_0 w2, r70_2 w2, k66 w3, r66_0 w3, r66_1 w3, r66_2 w3, r66_4 w3, k67 w3, k70 w3, r70_0 w3, r70_2 w3, ile_n, zN_some, ij_n, b1, b4, v3, si_ne, b5.fv W, k66 b5.1]
      · show mI (mSI (mSI h1 67 y.2.1 (iN c)) 66 3 (iN (y.2.1 + 1))) 66 5 = _
        simp (disch := omega) only [si_ne, si_nk, si_eq]
        exact b3.trans z5) (fun y z hR => by
    obtain ⟨z1, z2, z3, z4, z5⟩ := hR
    obtain ⟨u1, u2, u3⟩ := z
    have z1 : u1 = zN (fav q y.1) := z1
    have z2 : u2 = iN 8 := z2
    subst z1 z2
    obtain ⟨h', b1, b2, b3, b4⟩ := t85_76 z3 W p x.2.1 (by omega)
    refine ⟨(bN (decide (x.2.1 < y.2.1)), h'), ?_, rfl, z4.tr b2, b3, b4.trans z5⟩
    unfold f85_14
    simp (disch := omega) only [gT, nbeq, Option.isSome_some, Option.getD_some, Bool.and_true, Bool.true_and, Bool.and_self, mX_some, bS, bN_if, bN_01, i1_01, i0_01, if_true, if_false, Bool.false_eq_true, false_and, and_false, and_true, true_and, and_self, Bool.or_false, Bool.false_or, Bool.or_true, Bool.true_or, Bool.false_and, Bool.and_false, decide_true, decide_false, L0, L1, L2, L3, L4, L5, L6, L7, L8, L9, L10, L11, L12, L13, L14, L15, L16, L17, L18, L19, L20, L21, L22, L23, L24, L25, L27, L33, L39, L40, L45, L48, L57, L60, L72, L90, L97, L98, L99, L100, L121, L122, L242, L255, L256, L580, L600, L1000, L1584, L1000000, Ln1, iN_add, iN_and, iN_or, iN_nd, iN_shl, iN_shr, iN_cl, iN_in, iN_mul, ile_p, b1]) (by omega) (x0 := x) (s := (zN (fav q x.1), iN 0, h)) ⟨rfl, rfl, A, Fr.rfl, rfl⟩
  obtain ⟨⟨r, h'⟩, r1, r2, r3, r4, r5⟩ := this
  have r2' : r = bN (decide (x.2.1 < (dgo q 8 x).2.1)) := r2
  rw [r2'] at r1
  exact ⟨h', by simp only [L0, L1, L2, L3, L4, L5, L6, L7, L8, L9, L10, L11, L12, L13, L14, L15, L16, L17, L18, L19, L20, L21, L22, L23, L24, L25, L27, L33, L39, L40, L45, L48, L57, L60, L72, L90, L97, L98, L99, L100, L121, L122, L242, L255, L256, L580, L600, L1000, L1584, L1000000, Ln1, iN_add, iN_and, iN_or, iN_nd, iN_shl, iN_shr, iN_cl, iN_in, iN_mul]; exact r1, r3, r4, r5⟩
end AL
