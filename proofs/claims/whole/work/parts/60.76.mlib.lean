/-! the reference's lines of a library -/
def MLb (g : mH) (q : LQ) (A B : Nat) : Prop := (∀ j, j < 45 → mI g 202 j = iN (flat q j)) ∧ mI g 193 20 = pN A ∧ mI g 193 21 = pN B
def BD0 (g : mH) : Prop := ∃ n0 n1, n0 ≤ 8 ∧ n1 ≤ 6 ∧ mI g 202 0 = iN n0 ∧ mI g 202 1 = iN n1
def RC0 (g : mH) (c : CQ) : FT → Prop
  | none => MLb g c.1 c.2.1.1 c.2.1.2
  | some _ => BD0 g
theorem RC0.bd {g : mH} {c : CQ} {f : FT} (R : RC0 g c f) (V : CWF c) : ∃ n0 n1, n0 ≤ 8 ∧ n1 ≤ 6 ∧ mI g 202 0 = iN n0 ∧ mI g 202 1 = iN n1 ∧ (f = none → n0 = c.1 0 0 ∧ n1 = c.1 0 1) := by
  cases f with
  | none =>
    obtain ⟨h1, _, _⟩ := R
    exact ⟨c.1 0 0, c.1 0 1, V.1.1.1, V.1.1.2.1, h1 0 (by decide), h1 1 (by decide), fun _ => ⟨rfl, rfl⟩⟩
  | some x =>
    obtain ⟨n0, n1, a, b, d, e⟩ := R
    exact ⟨n0, n1, a, b, d, e, fun h => by cases h⟩
def pTl (x : Nat) : Bool := Nat.beq x 193 || Nat.beq x 202 || Nat.beq x 203
theorem pRd_Tl : ∀ x, pRd x = true → pTl x = true := fun x h => by
  unfold pRd at h
  rw [Bool.or_eq_true] at h
  rcases h with h | h
  · have : x = 193 := Nat.eq_of_beq_eq_true h
    rw [this]; decide
  · have : x = 203 := Nat.eq_of_beq_eq_true h
    rw [this]; decide
/-- the numbers of a line, its semicolon being still ahead -/
def lnN (b : Nat → Nat) (len k p e0 : Nat) (c : CQ) (f : FT) : Nat ⊕ (Nat × CQ × FT) :=
  if nbk k = 0 then .inr (e0, upf k c 0 0 (chk k c (tkS b len p) 0 0 0 0 f), chk k c (tkS b len p) 0 0 0 0 f)
  else if tkK b len e0 = 2 then
    if nbk k = 1 then .inr (tkE b len e0, upf k c (tkV b len e0) 0 (chk k c (tkS b len p) (tkS b len e0) 0 (tkV b len e0) 0 f), chk k c (tkS b len p) (tkS b len e0) 0 (tkV b len e0) 0 f)
    else if tkK b len (tkE b len e0) = 2 then .inr (tkE b len (tkE b len e0), upf k c (tkV b len e0) (tkV b len (tkE b len e0)) (chk k c (tkS b len p) (tkS b len e0) (tkS b len (tkE b len e0)) (tkV b len e0) (tkV b len (tkE b len e0)) f), chk k c (tkS b len p) (tkS b len e0) (tkS b len (tkE b len e0)) (tkV b len e0) (tkV b len (tkE b len e0)) f)
    else .inl (tkS b len (tkE b len e0))
  else .inl (tkS b len e0)
/-- the semicolon -/
def lnZ (b : Nat → Nat) (len : Nat) : Nat ⊕ (Nat × CQ × FT) → Nat ⊕ (Nat × CQ × FT)
  | .inl x => .inl x
  | .inr y => if tkK b len y.1 = 3 then .inr (tkE b len y.1, y.2) else .inl (tkS b len y.1)
theorem lnS_N {b : Nat → Nat} {len sort p k : Nat} {c : CQ} {f : FT} (h : wF b len p sort = some k) : lnS b len sort p c f = lnZ b len (lnN b len k p (tkE b len p) c f) := by
  unfold lnS lnN
  rw [h]
  simp only
  by_cases e1 : nbk k = 0
  · rw [if_pos e1, if_pos e1]; rfl
  · rw [if_neg e1, if_neg e1]
    unfold ln1
    by_cases e2 : tkK b len (tkE b len p) = 2
    · rw [if_pos e2, if_pos e2]
      by_cases e3 : nbk k = 1
      · rw [if_pos e3, if_pos e3]; rfl
      · rw [if_neg e3, if_neg e3]
        by_cases e4 : tkK b len (tkE b len (tkE b len p)) = 2
        · rw [if_pos e4, if_pos e4]; rfl
        · rw [if_neg e4, if_neg e4]; rfl
    · rw [if_neg e2, if_neg e2]; rfl
theorem lnS_0 {b : Nat → Nat} {len sort p : Nat} {c : CQ} {f : FT} (h : wF b len p sort = none) : lnS b len sort p c f = .inl (tkS b len p) := by
  unfold lnS
  rw [h]
theorem tS_lt {b : Nat → Nat} {len p : Nat} (hp : p ≤ len) (h : tkK b len p ≠ 0) : tkS b len p < tkS b len (tkE b len p) := by
  obtain ⟨_, h2, h3⟩ := tkE_ok (b := b) hp
  have := h3 h
  have := (tkS_ok (b := b) h2).1
  omega
def LNr (R : mH → CQ → FT → Prop) (g0 : mH) (b : Nat → Nat) (len : Nat) (g : mH) (ok : Int32) : Nat ⊕ (Nat × CQ × FT) → Prop
  | .inl x => ok = iN 0 ∧ Fr pTl g0 g ∧ mI g 193 15 = iN x
  | .inr y => ok = iN 1 ∧ Fr pTl g0 g ∧ TpM g b len ∧ SM g b len y.1 ∧ FMf g y.2.2 ∧ FTW y.2.2 ∧ R g y.2.1 y.2.2
section ML0
variable {g0 g : mH} {b : Nat → Nat} {len e : Nat} {c : CQ} {f f1 : FT} {gd : Bool}
/-- the end of a reading: told is still as it was -/
theorem MS.told (S : MS g0 g b len e f gd) (j : Nat) : mI g 202 j = mI g0 202 j := S.1.i rfl j
theorem MS.st {g' : mH} {f2 : FT} {gd2 : Bool} (S : MS g0 g b len e f2 gd2) (x : Fr pTl g g') (h : ∀ j, j ≠ 20 → j ≠ 21 → mI g' 193 j = mI g 193 j) (hL : mL g' 193 14 = mL g 193 14) : Fr pTl g0 g' ∧ TpM g' b len ∧ SM g' b len e ∧ FMf g' f2 := by
  obtain ⟨s1, s2, s3, s4, s5, s6, s7⟩ := S
  refine ⟨(s1.mono pRd_Tl).tr x, s2.fr x rfl (h 10 (by decide) (by decide)), s3.fr (fun j hj => h j (by omega) (by omega)) hL, ?_⟩
  cases f2 with
  | none => exact (h 16 (by decide) (by decide)).trans s4
  | some y => exact ⟨(h 16 (by decide) (by decide)).trans s4.1, (h 17 (by decide) (by decide)).trans s4.2⟩
theorem t196g {h : mH} {a b : Int32} : f196 h a b = some (if a ≤ b then b else a) := by
  unfold f196 f196_10
  by_cases e : a ≤ b
  · rw [if_pos e, if_pos e]; simp only [gT, nbeq, Option.isSome_some, Option.getD_some, Bool.and_true, Bool.true_and, Bool.and_self, mX_some, bS, bN_if, bN_01, i1_01, i0_01, if_true, if_false, Bool.false_eq_true, false_and, and_false, and_true, true_and, and_self, Bool.or_false, Bool.false_or, Bool.or_true, Bool.true_or, Bool.false_and, Bool.and_false, decide_true, decide_false]
  · rw [if_neg e, if_neg e]; simp only [gT, nbeq, Option.isSome_some, Option.getD_some, Bool.and_true, Bool.true_and, Bool.and_self, mX_some, bS, bN_if, bN_01, i1_01, i0_01, if_true, if_false, Bool.false_eq_true, false_and, and_false, and_true, true_and, and_self, Bool.or_false, Bool.false_or, Bool.or_true, Bool.true_or, Bool.false_and, Bool.and_false, decide_true, decide_false]
theorem gr_p {A v : Nat} (hA : A ≤ 100) (hv : v ≤ 100) : (if pN A ≤ iN v then iN v else pN A) = pN (max A (v + 1)) := by
  cases A with
  | zero =>
    rw [pN_z, if_pos (by rw [Int32.le_iff_toInt_le, jN_toInt, iN_toInt (by omega)]; omega), Nat.max_eq_right (by omega), pN_s]
  | succ A =>
    rw [pN_s, ile_d (by omega) (by omega)]
    by_cases e : A ≤ v
    · rw [if_pos e, Nat.max_eq_right (by omega), pN_s]
    · rw [if_neg e, Nat.max_eq_left (by omega), pN_s]
/-- chapter -/
theorem t189 {p : Nat} (hp : p ≤ len) (e0 : e = tkE b len p) (S : MS g0 g b len e f1 gd) (W : FTW f1) (P : PLW f1 (tkS b len e)) (V : CWF c) (R0 : RC0 g0 c f) (ef : f1 = nt (decide (c.1 0 0 < 8)) 3 (tkS b len p) f) : ∃ ok g', f189 g 193 = some (ok, g') ∧ LNr RC0 g0 b len g' ok (lnN b len 0 p e c f) := by
  have he : e ≤ len := by rw [e0]; exact (tkE_ok (b := b) hp).2.1
  have w := S.2.1.1
  unfold lnN
  rw [if_neg (show ¬ nbk 0 = 0 by decide)]
  obtain ⟨y1, y2⟩ := t190 (i := 0) (lo := iN 1) (hi := iN 9) (ok := decide (1 ≤ tkV b len e ∧ tkV b len e ≤ 9)) (by omega) S W P he (fun hk => inK (by omega) (by omega) (by have := tkV_le he hk; omega))
  by_cases k1 : tkK b len e = 2
  · rw [if_pos k1, if_neg (show ¬ nbk 0 = 1 by decide)]
    obtain ⟨g1, a1, a2, a3, a4, a5⟩ := y1 k1
    have w1 := a2.2.1.1
    have he1 := (tkE_ok (b := b) he).2.1
    have lt1 := tS_lt (b := b) he (by omega)
    have P1 : PLW (nt (decide (1 ≤ tkV b len e ∧ tkV b len e ≤ 9)) 2 (tkS b len e) f1) (tkS b len (tkE b len e)) := (P.mono (by omega)).nt lt1
    obtain ⟨z1, z2⟩ := t190 (i := 1) (lo := iN 0) (hi := iN 5) (ok := decide (0 ≤ tkV b len (tkE b len e) ∧ tkV b len (tkE b len e) ≤ 5)) (by omega) a2 a3 P1 he1 (fun hk => inK (by omega) (by omega) (by have := tkV_le he1 hk; omega))
    by_cases k2 : tkK b len (tkE b len e) = 2
    · rw [if_pos k2]
      obtain ⟨g2, c1, c2, c3, c4, c5⟩ := z1 k2
      have w2 := c2.2.1.1
      have hv1 := tkV_le he k1
      have hv2 := tkV_le he1 k2
      have r0 : mI g2 203 0 = iN (tkV b len e) := (c5 0 (by decide)).trans a4
      generalize tkV b len e = v1 at hv1 r0 a2 a3 c2 c3
      generalize tkV b len (tkE b len e) = v2 at hv2 c4 c2 c3
      have ec : nt (decide (0 ≤ v2 ∧ v2 ≤ 5)) 2 (tkS b len (tkE b len e)) (nt (decide (1 ≤ v1 ∧ v1 ≤ 9)) 2 (tkS b len e) f1) = chk 0 c (tkS b len p) (tkS b len e) (tkS b len (tkE b len e)) v1 v2 f := by
        have : decide (0 ≤ v2 ∧ v2 ≤ 5) = decide (v2 ≤ 5) := by rw [decide_eq_decide]; omega
        rw [this, ef]; rfl
      rw [ec] at c2 c3
      obtain ⟨n0, n1, b0, b1, b2, b3, b4⟩ := R0.bd V
      have d0 : mI g2 202 0 = iN n0 := (c2.told 0).trans b2
      have d1 : mI g2 202 1 = iN n1 := (c2.told 1).trans b3
      cases hf : chk 0 c (tkS b len p) (tkS b len e) (tkS b len (tkE b len e)) v1 v2 f with
      | some x =>
        rw [hf] at c2 c3
        by_cases e8 : 8 ≤ n0
        · refine ⟨iN 1, g2, ?_, rfl, c2.1.mono pRd_Tl, c2.2.1, c2.2.2.1, c2.2.2.2.1, c3, n0, n1, b0, b1, d0, d1⟩
          unfold f189 f189_75
          simp (disch := omega) only [gT, nbeq, Option.isSome_some, Option.getD_some, Bool.and_true, Bool.true_and, Bool.and_self, mX_some, bS, bN_if, bN_01, i1_01, i0_01, if_true, if_false, Bool.false_eq_true, false_and, and_false, and_true, true_and, and_self, Bool.or_false, Bool.false_or, Bool.or_true, Bool.true_or, Bool.false_and, Bool.and_false, decide_true, decide_false, L0, L1, L2, L3, L4, L5, L6, L7, L8, L9, L10, L11, L12, L13, L14, L15, L16, L17, L18, L19, L20, L21, L22, L23, L24, L25, L27, L33, L39, L40, L45, L48, L57, L60, L72, L90, L97, L98, L99, L100, L121, L122, L242, L255, L256, L580, L600, L1000, L1584, L1000000, Ln1, iN_add, iN_and, iN_or, iN_nd, iN_shl, iN_shr, iN_cl, iN_in, iN_mul, k193 w, a1, ieq_n, k193 w1, c1, k193 w2, r193_1 w2, r193_2 w2, r193_3 w2, r193_4 w2, r193_5 w2, r193_6 w2, r193_7 w2, r193_8 w2, r193_18 w2, r193_19 w2, r193_32 w2, r193_33 w2, r193_34 w2, r193_36 w2, r193_38 w2, r193_39 w2, r193_40 w2, r193_42 w2, r193_45 w2, r193_46 w2, r193_47 w2, r193_48 w2, r193_49 w2, r193_50 w2, k202 w2, iN_in, iN_cl, d0, ile_p]
        · have G : ∀ u1 u2, Fr pTl g2 (mSI (mSI (mSI g2 202 (3 + n0) u1) 202 (11 + n0) u2) 202 0 (iN (n0 + 1))) := fun _ _ => ((Fr.rfl.si (by decide)).si (by decide)).si (by decide)
          obtain ⟨m1, m2, m3, m4⟩ := c2.st (G (iN v1) (iN v2)) (fun j _ _ => by simp (disch := omega) only [si_ne, si_nk, si_eq]) rfl
          have w3 : Wd (mSI g2 202 (3 + n0) (iN v1)) := w2.fr (Fr.rfl.si (P := pTl) (by decide))
          refine ⟨iN 1, mSI (mSI (mSI g2 202 (3 + n0) (iN v1)) 202 (11 + n0) (iN v2)) 202 0 (iN (n0 + 1)), ?_, rfl, m1, m2, m3, m4, c3, n0 + 1, n1, by omega, b1, by simp (disch := omega) only [si_ne, si_nk, si_eq], by simp (disch := omega) only [si_ne, si_nk, si_eq]; exact d1⟩
          unfold f189 f189_50 f189_75
          simp (disch := omega) only [gT, nbeq, Option.isSome_some, Option.getD_some, Bool.and_true, Bool.true_and, Bool.and_self, mX_some, bS, bN_if, bN_01, i1_01, i0_01, if_true, if_false, Bool.false_eq_true, false_and, and_false, and_true, true_and, and_self, Bool.or_false, Bool.false_or, Bool.or_true, Bool.true_or, Bool.false_and, Bool.and_false, decide_true, decide_false, L0, L1, L2, L3, L4, L5, L6, L7, L8, L9, L10, L11, L12, L13, L14, L15, L16, L17, L18, L19, L20, L21, L22, L23, L24, L25, L27, L33, L39, L40, L45, L48, L57, L60, L72, L90, L97, L98, L99, L100, L121, L122, L242, L255, L256, L580, L600, L1000, L1584, L1000000, Ln1, iN_add, iN_and, iN_or, iN_nd, iN_shl, iN_shr, iN_cl, iN_in, iN_mul, k193 w, a1, ieq_n, k193 w1, c1, k193 w2, r193_1 w2, r193_2 w2, r193_3 w2, r193_4 w2, r193_5 w2, r193_6 w2, r193_7 w2, r193_8 w2, r193_18 w2, r193_19 w2, r193_32 w2, r193_33 w2, r193_34 w2, r193_36 w2, r193_38 w2, r193_39 w2, r193_40 w2, r193_42 w2, r193_45 w2, r193_46 w2, r193_47 w2, r193_48 w2, r193_49 w2, r193_50 w2, k202 w2, k203 w2, iN_in, iN_cl, d0, ile_n, r0, k193 w3, r193_1 w3, r193_2 w3, r193_3 w3, r193_4 w3, r193_5 w3, r193_6 w3, r193_7 w3, r193_8 w3, r193_18 w3, r193_19 w3, r193_32 w3, r193_33 w3, r193_34 w3, r193_36 w3, r193_38 w3, r193_39 w3, r193_40 w3, r193_42 w3, r193_45 w3, r193_46 w3, r193_47 w3, r193_48 w3, r193_49 w3, r193_50 w3, k202 w3, k203 w3, si_ne, si_nk, si_eq, c4, iN_add]
      | none =>
        rw [hf] at c2 c3
        obtain ⟨⟨q1, q2, q3⟩, hf0⟩ := chk_0 hf
        obtain ⟨en0, en1⟩ := b4 hf0
        subst en0
        subst hf0
        obtain ⟨R1, R2, R3⟩ := R0
        have G : Fr pTl g2 (mSI (mSI (mSI g2 202 (3 + c.1 0 0) (iN v1)) 202 (11 + c.1 0 0) (iN v2)) 202 0 (iN (c.1 0 0 + 1))) := ((Fr.rfl.si (by decide)).si (by decide)).si (by decide)
        obtain ⟨m1, m2, m3, m4⟩ := c2.st G (fun j _ _ => by simp (disch := omega) only [si_ne, si_nk, si_eq]) rfl
        have w3 : Wd (mSI g2 202 (3 + c.1 0 0) (iN v1)) := w2.fr (Fr.rfl.si (P := pTl) (by decide))
        refine ⟨iN 1, mSI (mSI (mSI g2 202 (3 + c.1 0 0) (iN v1)) 202 (11 + c.1 0 0) (iN v2)) 202 0 (iN (c.1 0 0 + 1)), ?_, rfl, m1, m2, m3, m4, c3, fun j hj => ?_, ?_, ?_⟩
        · unfold f189 f189_50 f189_75
          simp (disch := omega) only [gT, nbeq, Option.isSome_some, Option.getD_some, Bool.and_true, Bool.true_and, Bool.and_self, mX_some, bS, bN_if, bN_01, i1_01, i0_01, if_true, if_false, Bool.false_eq_true, false_and, and_false, and_true, true_and, and_self, Bool.or_false, Bool.false_or, Bool.or_true, Bool.true_or, Bool.false_and, Bool.and_false, decide_true, decide_false, L0, L1, L2, L3, L4, L5, L6, L7, L8, L9, L10, L11, L12, L13, L14, L15, L16, L17, L18, L19, L20, L21, L22, L23, L24, L25, L27, L33, L39, L40, L45, L48, L57, L60, L72, L90, L97, L98, L99, L100, L121, L122, L242, L255, L256, L580, L600, L1000, L1584, L1000000, Ln1, iN_add, iN_and, iN_or, iN_nd, iN_shl, iN_shr, iN_cl, iN_in, iN_mul, k193 w, a1, ieq_n, k193 w1, c1, k193 w2, r193_1 w2, r193_2 w2, r193_3 w2, r193_4 w2, r193_5 w2, r193_6 w2, r193_7 w2, r193_8 w2, r193_18 w2, r193_19 w2, r193_32 w2, r193_33 w2, r193_34 w2, r193_36 w2, r193_38 w2, r193_39 w2, r193_40 w2, r193_42 w2, r193_45 w2, r193_46 w2, r193_47 w2, r193_48 w2, r193_49 w2, r193_50 w2, k202 w2, k203 w2, iN_in, iN_cl, d0, ile_n, r0, k193 w3, r193_1 w3, r193_2 w3, r193_3 w3, r193_4 w3, r193_5 w3, r193_6 w3, r193_7 w3, r193_8 w3, r193_18 w3, r193_19 w3, r193_32 w3, r193_33 w3, r193_34 w3, r193_36 w3, r193_38 w3, r193_39 w3, r193_40 w3, r193_42 w3, r193_45 w3, r193_46 w3, r193_47 w3, r193_48 w3, r193_49 w3, r193_50 w3, k202 w3, k203 w3, si_ne, si_nk, si_eq, c4, iN_add]
        · show _ = iN (flat (u2 (u2 (u2 c.1 1 (c.1 0 0) v1) 2 (c.1 0 0) v2) 0 0 (c.1 0 0 + 1)) j)
          rw [fu0 (by omega) hj, fu2 (by omega) hj, fu1 (by omega) hj]
          by_cases j0 : j = 0
          · subst j0; rw [if_pos rfl]; simp only [si_ne, si_nk, si_eq]
          · rw [if_neg j0, si_nk _ _ _ _ _ _ j0]
            by_cases j1 : j = 11 + c.1 0 0
            · subst j1; rw [if_pos rfl]; simp only [si_ne, si_nk, si_eq]
            · rw [if_neg j1, si_nk _ _ _ _ _ _ j1]
              by_cases j2 : j = 3 + c.1 0 0
              · subst j2; rw [if_pos rfl]; simp only [si_ne, si_nk, si_eq]
              · rw [if_neg j2, si_nk _ _ _ _ _ _ j2, c2.told j]; exact R1 j hj
        · simp (disch := omega) only [si_ne, si_nk, si_eq]; exact c2.2.2.2.2.2.1.trans R2
        · simp (disch := omega) only [si_ne, si_nk, si_eq]; exact c2.2.2.2.2.2.2.trans R3
    · rw [if_neg k2]
      obtain ⟨g2, c1, c2, c3⟩ := z2 k2
      refine ⟨iN 0, g2, ?_, rfl, c2.mono pRd_Tl, c3⟩
      unfold f189 f189_21
      simp (disch := omega) only [gT, nbeq, Option.isSome_some, Option.getD_some, Bool.and_true, Bool.true_and, Bool.and_self, mX_some, bS, bN_if, bN_01, i1_01, i0_01, if_true, if_false, Bool.false_eq_true, false_and, and_false, and_true, true_and, and_self, Bool.or_false, Bool.false_or, Bool.or_true, Bool.true_or, Bool.false_and, Bool.and_false, decide_true, decide_false, L0, L1, L2, L3, L4, L5, L6, L7, L8, L9, L10, L11, L12, L13, L14, L15, L16, L17, L18, L19, L20, L21, L22, L23, L24, L25, L27, L33, L39, L40, L45, L48, L57, L60, L72, L90, L97, L98, L99, L100, L121, L122, L242, L255, L256, L580, L600, L1000, L1584, L1000000, Ln1, iN_add, iN_and, iN_or, iN_nd, iN_shl, iN_shr, iN_cl, iN_in, iN_mul, k193 w, a1, ieq_n, k193 w1, c1, ieq_p]
  · rw [if_neg k1]
    obtain ⟨g1, a1, a2, a3⟩ := y2 k1
    refine ⟨iN 0, g1, ?_, rfl, a2.mono pRd_Tl, a3⟩
    unfold f189 f189_21
    simp (disch := omega) only [gT, nbeq, Option.isSome_some, Option.getD_some, Bool.and_true, Bool.true_and, Bool.and_self, mX_some, bS, bN_if, bN_01, i1_01, i0_01, if_true, if_false, Bool.false_eq_true, false_and, and_false, and_true, true_and, and_self, Bool.or_false, Bool.false_or, Bool.or_true, Bool.true_or, Bool.false_and, Bool.and_false, decide_true, decide_false, L0, L1, L2, L3, L4, L5, L6, L7, L8, L9, L10, L11, L12, L13, L14, L15, L16, L17, L18, L19, L20, L21, L22, L23, L24, L25, L27, L33, L39, L40, L45, L48, L57, L60, L72, L90, L97, L98, L99, L100, L121, L122, L242, L255, L256, L580, L600, L1000, L1584, L1000000, Ln1, iN_add, iN_and, iN_or, iN_nd, iN_shl, iN_shr, iN_cl, iN_in, iN_mul, k193 w, a1, ieq_p]
/-- person -/
theorem t193 {p : Nat} (hp : p ≤ len) (e0 : e = tkE b len p) (S : MS g0 g b len e f1 gd) (W : FTW f1) (P : PLW f1 (tkS b len e)) (V : CWF c) (R0 : RC0 g0 c f) (ef : f1 = nt (decide (c.1 0 1 < 6)) 3 (tkS b len p) f) : ∃ ok g', f193 g 193 = some (ok, g') ∧ LNr RC0 g0 b len g' ok (lnN b len 4 p e c f) := by
  have he : e ≤ len := by rw [e0]; exact (tkE_ok (b := b) hp).2.1
  have w := S.2.1.1
  unfold lnN
  rw [if_neg (show ¬ nbk 4 = 0 by decide)]
  obtain ⟨y1, y2⟩ := t190 (i := 0) (lo := iN 1) (hi := iN 9) (ok := decide (1 ≤ tkV b len e ∧ tkV b len e ≤ 9)) (by omega) S W P he (fun hk => inK (by omega) (by omega) (by have := tkV_le he hk; omega))
  by_cases k1 : tkK b len e = 2
  · rw [if_pos k1, if_pos (show nbk 4 = 1 by decide)]
    obtain ⟨g2, c1, c2, c3, c4, c5⟩ := y1 k1
    have w2 := c2.2.1.1
    have hv1 := tkV_le he k1
    generalize tkV b len e = v1 at hv1 c4 c2 c3
    have ec : nt (decide (1 ≤ v1 ∧ v1 ≤ 9)) 2 (tkS b len e) f1 = chk 4 c (tkS b len p) (tkS b len e) 0 v1 0 f := by rw [ef]; rfl
    rw [ec] at c2 c3
    obtain ⟨n0, n1, b0, b1, b2, b3, b4⟩ := R0.bd V
    have d0 : mI g2 202 0 = iN n0 := (c2.told 0).trans b2
    have d1 : mI g2 202 1 = iN n1 := (c2.told 1).trans b3
    cases hf : chk 4 c (tkS b len p) (tkS b len e) 0 v1 0 f with
    | some x =>
      rw [hf] at c2 c3
      by_cases e8 : 6 ≤ n1
      · refine ⟨iN 1, g2, ?_, rfl, c2.1.mono pRd_Tl, c2.2.1, c2.2.2.1, c2.2.2.2.1, c3, n0, n1, b0, b1, d0, d1⟩
        unfold f193 f193_51
        simp (disch := omega) only [gT, nbeq, Option.isSome_some, Option.getD_some, Bool.and_true, Bool.true_and, Bool.and_self, mX_some, bS, bN_if, bN_01, i1_01, i0_01, if_true, if_false, Bool.false_eq_true, false_and, and_false, and_true, true_and, and_self, Bool.or_false, Bool.false_or, Bool.or_true, Bool.true_or, Bool.false_and, Bool.and_false, decide_true, decide_false, L0, L1, L2, L3, L4, L5, L6, L7, L8, L9, L10, L11, L12, L13, L14, L15, L16, L17, L18, L19, L20, L21, L22, L23, L24, L25, L27, L33, L39, L40, L45, L48, L57, L60, L72, L90, L97, L98, L99, L100, L121, L122, L242, L255, L256, L580, L600, L1000, L1584, L1000000, Ln1, iN_add, iN_and, iN_or, iN_nd, iN_shl, iN_shr, iN_cl, iN_in, iN_mul, k193 w, c1, ieq_n, k193 w2, r193_1 w2, r193_2 w2, r193_3 w2, r193_4 w2, r193_5 w2, r193_6 w2, r193_7 w2, r193_8 w2, r193_18 w2, r193_19 w2, r193_32 w2, r193_33 w2, r193_34 w2, r193_36 w2, r193_38 w2, r193_39 w2, r193_40 w2, r193_42 w2, r193_45 w2, r193_46 w2, r193_47 w2, r193_48 w2, r193_49 w2, r193_50 w2, k202 w2, iN_in, iN_cl, d1, ile_p]
      · have G : Fr pTl g2 (mSI (mSI g2 202 (33 + n1) (iN v1)) 202 1 (iN (n1 + 1))) := (Fr.rfl.si (by decide)).si (by decide)
        obtain ⟨m1, m2, m3, m4⟩ := c2.st G (fun j _ _ => by simp (disch := omega) only [si_ne, si_nk, si_eq]) rfl
        have w3 : Wd (mSI g2 202 (33 + n1) (iN v1)) := w2.fr (Fr.rfl.si (P := pTl) (by decide))
        refine ⟨iN 1, mSI (mSI g2 202 (33 + n1) (iN v1)) 202 1 (iN (n1 + 1)), ?_, rfl, m1, m2, m3, m4, c3, n0, n1 + 1, b0, by omega, by simp (disch := omega) only [si_ne, si_nk, si_eq]; exact d0, by simp (disch := omega) only [si_ne, si_nk, si_eq]⟩
        unfold f193 f193_41 f193_51
        simp (disch := omega) only [gT, nbeq, Option.isSome_some, Option.getD_some, Bool.and_true, Bool.true_and, Bool.and_self, mX_some, bS, bN_if, bN_01, i1_01, i0_01, if_true, if_false, Bool.false_eq_true, false_and, and_false, and_true, true_and, and_self, Bool.or_false, Bool.false_or, Bool.or_true, Bool.true_or, Bool.false_and, Bool.and_false, decide_true, decide_false, L0, L1, L2, L3, L4, L5, L6, L7, L8, L9, L10, L11, L12, L13, L14, L15, L16, L17, L18, L19, L20, L21, L22, L23, L24, L25, L27, L33, L39, L40, L45, L48, L57, L60, L72, L90, L97, L98, L99, L100, L121, L122, L242, L255, L256, L580, L600, L1000, L1584, L1000000, Ln1, iN_add, iN_and, iN_or, iN_nd, iN_shl, iN_shr, iN_cl, iN_in, iN_mul, k193 w, c1, ieq_n, k193 w2, r193_1 w2, r193_2 w2, r193_3 w2, r193_4 w2, r193_5 w2, r193_6 w2, r193_7 w2, r193_8 w2, r193_18 w2, r193_19 w2, r193_32 w2, r193_33 w2, r193_34 w2, r193_36 w2, r193_38 w2, r193_39 w2, r193_40 w2, r193_42 w2, r193_45 w2, r193_46 w2, r193_47 w2, r193_48 w2, r193_49 w2, r193_50 w2, k202 w2, k203 w2, iN_in, iN_cl, d1, ile_n, c4, k193 w3, r193_1 w3, r193_2 w3, r193_3 w3, r193_4 w3, r193_5 w3, r193_6 w3, r193_7 w3, r193_8 w3, r193_18 w3, r193_19 w3, r193_32 w3, r193_33 w3, r193_34 w3, r193_36 w3, r193_38 w3, r193_39 w3, r193_40 w3, r193_42 w3, r193_45 w3, r193_46 w3, r193_47 w3, r193_48 w3, r193_49 w3, r193_50 w3, k202 w3, si_ne, si_nk, si_eq, iN_add]
    | none =>
      rw [hf] at c2 c3
      obtain ⟨⟨q1, q2, q3⟩, hf0⟩ := chk_4 hf
      obtain ⟨en0, en1⟩ := b4 hf0
      subst en1
      subst hf0
      obtain ⟨R1, R2, R3⟩ := R0
      have G : Fr pTl g2 (mSI (mSI g2 202 (33 + c.1 0 1) (iN v1)) 202 1 (iN (c.1 0 1 + 1))) := (Fr.rfl.si (by decide)).si (by decide)
      obtain ⟨m1, m2, m3, m4⟩ := c2.st G (fun j _ _ => by simp (disch := omega) only [si_ne, si_nk, si_eq]) rfl
      have w3 : Wd (mSI g2 202 (33 + c.1 0 1) (iN v1)) := w2.fr (Fr.rfl.si (P := pTl) (by decide))
      refine ⟨iN 1, mSI (mSI g2 202 (33 + c.1 0 1) (iN v1)) 202 1 (iN (c.1 0 1 + 1)), ?_, rfl, m1, m2, m3, m4, c3, fun j hj => ?_, ?_, ?_⟩
      · unfold f193 f193_41 f193_51
        simp (disch := omega) only [gT, nbeq, Option.isSome_some, Option.getD_some, Bool.and_true, Bool.true_and, Bool.and_self, mX_some, bS, bN_if, bN_01, i1_01, i0_01, if_true, if_false, Bool.false_eq_true, false_and, and_false, and_true, true_and, and_self, Bool.or_false, Bool.false_or, Bool.or_true, Bool.true_or, Bool.false_and, Bool.and_false, decide_true, decide_false, L0, L1, L2, L3, L4, L5, L6, L7, L8, L9, L10, L11, L12, L13, L14, L15, L16, L17, L18, L19, L20, L21, L22, L23, L24, L25, L27, L33, L39, L40, L45, L48, L57, L60, L72, L90, L97, L98, L99, L100, L121, L122, L242, L255, L256, L580, L600, L1000, L1584, L1000000, Ln1, iN_add, iN_and, iN_or, iN_nd, iN_shl, iN_shr, iN_cl, iN_in, iN_mul, k193 w, c1, ieq_n, k193 w2, r193_1 w2, r193_2 w2, r193_3 w2, r193_4 w2, r193_5 w2, r193_6 w2, r193_7 w2, r193_8 w2, r193_18 w2, r193_19 w2, r193_32 w2, r193_33 w2, r193_34 w2, r193_36 w2, r193_38 w2, r193_39 w2, r193_40 w2, r193_42 w2, r193_45 w2, r193_46 w2, r193_47 w2, r193_48 w2, r193_49 w2, r193_50 w2, k202 w2, k203 w2, iN_in, iN_cl, d1, ile_n, c4, k193 w3, r193_1 w3, r193_2 w3, r193_3 w3, r193_4 w3, r193_5 w3, r193_6 w3, r193_7 w3, r193_8 w3, r193_18 w3, r193_19 w3, r193_32 w3, r193_33 w3, r193_34 w3, r193_36 w3, r193_38 w3, r193_39 w3, r193_40 w3, r193_42 w3, r193_45 w3, r193_46 w3, r193_47 w3, r193_48 w3, r193_49 w3, r193_50 w3, k202 w3, si_ne, si_nk, si_eq, iN_add]
      · show _ = iN (flat (u2 (u2 c.1 5 (c.1 0 1) v1) 0 1 (c.1 0 1 + 1)) j)
        rw [fu0 (by omega) hj, fu5 (by omega) hj]
        by_cases j0 : j = 1
        · subst j0; rw [if_pos rfl]; simp only [si_ne, si_nk, si_eq]
        · rw [if_neg j0, si_nk _ _ _ _ _ _ j0]
          by_cases j2 : j = 33 + c.1 0 1
          · subst j2; rw [if_pos rfl]; simp only [si_ne, si_nk, si_eq]
          · rw [if_neg j2, si_nk _ _ _ _ _ _ j2, c2.told j]; exact R1 j hj
      · simp (disch := omega) only [si_ne, si_nk, si_eq]; exact c2.2.2.2.2.2.1.trans R2
      · simp (disch := omega) only [si_ne, si_nk, si_eq]; exact c2.2.2.2.2.2.2.trans R3
  · rw [if_neg k1]
    obtain ⟨g1, a1, a2, a3⟩ := y2 k1
    refine ⟨iN 0, g1, ?_, rfl, a2.mono pRd_Tl, a3⟩
    unfold f193
    simp (disch := omega) only [gT, nbeq, Option.isSome_some, Option.getD_some, Bool.and_true, Bool.true_and, Bool.and_self, mX_some, bS, bN_if, bN_01, i1_01, i0_01, if_true, if_false, Bool.false_eq_true, false_and, and_false, and_true, true_and, and_self, Bool.or_false, Bool.false_or, Bool.or_true, Bool.true_or, Bool.false_and, Bool.and_false, decide_true, decide_false, L0, L1, L2, L3, L4, L5, L6, L7, L8, L9, L10, L11, L12, L13, L14, L15, L16, L17, L18, L19, L20, L21, L22, L23, L24, L25, L27, L33, L39, L40, L45, L48, L57, L60, L72, L90, L97, L98, L99, L100, L121, L122, L242, L255, L256, L580, L600, L1000, L1584, L1000000, Ln1, iN_add, iN_and, iN_or, iN_nd, iN_shl, iN_shr, iN_cl, iN_in, iN_mul, k193 w, a1, ieq_p]
end ML0
