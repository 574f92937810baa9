/-! the reference's lines of a library: which -/
theorem KC0 : (27980790402147698 : Int64) = gN (pkL 0) := by rw [pkL_n.1]; unfold gN; rfl
theorem KC1 : (465557352051 : Int64) = gN (pkL 1) := by rw [pkL_n.2.1]; unfold gN; rfl
theorem KC2 : (465625113971 : Int64) = gN (pkL 2) := by rw [pkL_n.2.2.1]; unfold gN; rfl
theorem KC3 : (1818324336 : Int64) = gN (pkL 3) := by rw [pkL_n.2.2.2.1]; unfold gN; rfl
theorem KC4 : (123581014175598 : Int64) = gN (pkL 4) := by rw [pkL_n.2.2.2.2.1]; unfold gN; rfl
theorem KC5 : (448377483891 : Int64) = gN (pkL 5) := by rw [pkL_n.2.2.2.2.2.1]; unfold gN; rfl
theorem KC6 : (1919246692 : Int64) = gN (pkL 6) := by rw [pkL_n.2.2.2.2.2.2.1]; unfold gN; rfl
theorem KC7 : (1936419184 : Int64) = gN (pkL 7) := by rw [pkL_n.2.2.2.2.2.2.2.1]; unfold gN; rfl
theorem KC8 : (7367013 : Int64) = gN (pkL 8) := by rw [pkL_n.2.2.2.2.2.2.2.2.1]; unfold gN; rfl
theorem KC9 : (1952803948 : Int64) = gN (pkL 9) := by rw [pkL_n.2.2.2.2.2.2.2.2.2.1]; unfold gN; rfl
theorem KC10 : (1668246628 : Int64) = gN (pkL 10) := by rw [pkL_n.2.2.2.2.2.2.2.2.2.2.1]; unfold gN; rfl
theorem KC11 : (6578553 : Int64) = gN (pkL 11) := by rw [pkL_n.2.2.2.2.2.2.2.2.2.2.2.1]; unfold gN; rfl
theorem KC12 : (461414299507 : Int64) = gN (pkL 12) := by rw [pkL_n.2.2.2.2.2.2.2.2.2.2.2.2.1]; unfold gN; rfl
theorem KC13 : (7237492 : Int64) = gN (pkL 13) := by rw [pkL_n.2.2.2.2.2.2.2.2.2.2.2.2.2]; unfold gN; rfl
section ML2
variable {g0 g : mH} {b : Nat → Nat} {len : Nat} {c : CQ} {f : FT}
/-- what a library's line comes to ahead of its semicolon -/
def lnW (b : Nat → Nat) (len sort p : Nat) (c : CQ) (f : FT) : Nat ⊕ (Nat × CQ × FT) := match wF b len p sort with
  | none => .inl (tkS b len p)
  | some k => lnN b len k p (tkE b len p) c f
theorem lnS_W {sort p : Nat} : lnS b len sort p c f = lnZ b len (lnW b len sort p c f) := by
  unfold lnW
  cases h : wF b len p sort with
  | none => rw [lnS_0 h]; rfl
  | some k => exact lnS_N h
theorem wF_one {p k j : Nat} (hk : k < 14) (hj : j < 14) (h : wIs b len p k = true) (hne : j ≠ k) : wIs b len p j = false := by
  cases e : wIs b len p j with
  | false => rfl
  | true => exact absurd (wIs_1 hj hk e h) hne
theorem fz_all {Z : Nat → Bool} : ∀ n k, fz Z n k = none → ∀ j, k ≤ j → j < k + n → Z j = false := by
  intro n
  induction n with
  | zero => intro k _ j h1 h2; omega
  | succ n ih =>
    intro k h j h1 h2
    rw [fz_c] at h
    split at h
    · cases h
    next hz =>
      by_cases e : j = k
      · rw [e]; simpa using hz
      · exact ih (k + 1) h j (by omega) (by omega)
/-- lamp -/
theorem t186l {p e : Nat} (hp : p ≤ len) (e0 : e = tkE b len p) (S : MS g0 g b len e f true) (W : FTW f) (P : PLW f (tkS b len e)) (V : CWF c) (R0 : RC0 g0 c f) : ∃ ok g1 g', f190 g 193 (iN 0) (iN 1) (iN 12) = some (ok, g1) ∧ (ok = iN 0 ∧ g' = g1 ∨ ok = iN 1 ∧ mR g1 193 19 = some 203 ∧ mK g1 193 = (12, 51) ∧ mK g1 203 = (100, 3) ∧ f198 g1 193 (iN 2) (mI g1 203 0) = some (iN 1, g')) ∧ LNr RC0 g0 b len g' ok (lnN b len 3 p e c f) := by
  have he : e ≤ len := by rw [e0]; exact (tkE_ok (b := b) hp).2.1
  unfold lnN
  rw [if_neg (show ¬ nbk 3 = 0 by decide)]
  obtain ⟨y1, y2⟩ := t190 (i := 0) (lo := iN 1) (hi := iN 12) (ok := decide (1 ≤ tkV b len e ∧ tkV b len e ≤ 12)) (by omega) S W P he (fun hk => inK (by omega) (by omega) (by have := tkV_le he hk; omega))
  by_cases k1 : tkK b len e = 2
  · rw [if_pos k1, if_pos (show nbk 3 = 1 by decide)]
    obtain ⟨g2, c1, c2, c3, c4, c5⟩ := y1 k1
    have w2 := c2.2.1.1
    have hv1 := tkV_le he k1
    generalize tkV b len e = v1 at hv1 c4 c2 c3
    rw [Bool.true_and] at c2
    have ec : nt (decide (1 ≤ v1 ∧ v1 ≤ 12)) 2 (tkS b len e) f = chk 3 c (tkS b len p) (tkS b len e) 0 v1 0 f := rfl
    rw [ec] at c2 c3
    obtain ⟨n0, n1, b0, b1, b2, b3, b4⟩ := R0.bd V
    have d0 : mI g2 202 0 = iN n0 := (c2.told 0).trans b2
    have d1 : mI g2 202 1 = iN n1 := (c2.told 1).trans b3
    have g22 := c2.2.2.2.2.1
    have pt := t198 (v := iN v1) w2 (show 2 < 121 by decide) g22
    refine ⟨iN 1, g2, _, c1, Or.inr ⟨rfl, r193_19 w2, k193 w2, k203 w2, by rw [c4]; exact pt⟩, ?_⟩
    cases hf : chk 3 c (tkS b len p) (tkS b len e) 0 v1 0 f with
    | some x =>
      rw [hf] at c2 c3
      cases hg : decide (1 ≤ v1 ∧ v1 ≤ 12) with
      | false =>
        rw [if_neg (by decide)]
        exact ⟨rfl, c2.1.mono pRd_Tl, c2.2.1, c2.2.2.1, c2.2.2.2.1, c3, n0, n1, b0, b1, d0, d1⟩
      | true =>
        rw [if_pos rfl]
        have G : Fr pTl g2 (mSI g2 202 2 (iN v1)) := Fr.rfl.si (by decide)
        obtain ⟨m1, m2, m3, m4⟩ := c2.st G (fun j h1 h2 => by simp (disch := omega) only [si_ne, si_nk, si_eq]) rfl
        exact ⟨rfl, m1, m2, m3, m4, c3, n0, n1, b0, b1, by simp (disch := omega) only [si_ne, si_nk, si_eq]; exact d0, by simp (disch := omega) only [si_ne, si_nk, si_eq]; exact d1⟩
    | none =>
      rw [hf] at c2 c3
      obtain ⟨⟨q1, q2⟩, hf0⟩ := chk_3 hf
      subst hf0
      obtain ⟨R1, R2, R3⟩ := R0
      rw [decide_eq_true (show 1 ≤ v1 ∧ v1 ≤ 12 from ⟨q1, q2⟩), if_pos rfl]
      have G : Fr pTl g2 (mSI g2 202 2 (iN v1)) := Fr.rfl.si (by decide)
      obtain ⟨m1, m2, m3, m4⟩ := c2.st G (fun j h1 h2 => by simp (disch := omega) only [si_ne, si_nk, si_eq]) rfl
      refine ⟨rfl, m1, m2, m3, m4, c3, fun j hj => ?_, ?_, ?_⟩
      · show _ = iN (flat (u2 c.1 0 2 v1) j)
        rw [fu0 (by omega) hj]
        by_cases j2 : j = 2
        · subst j2; rw [if_pos rfl]; simp only [si_ne, si_nk, si_eq]
        · rw [if_neg j2, si_nk _ _ _ _ _ _ j2, c2.told j]; exact R1 j hj
      · simp (disch := omega) only [si_ne, si_nk, si_eq]; exact c2.2.2.2.2.2.1.trans R2
      · simp (disch := omega) only [si_ne, si_nk, si_eq]; exact c2.2.2.2.2.2.2.trans R3
  · rw [if_neg k1]
    obtain ⟨g1, a1, a2, a3⟩ := y2 k1
    exact ⟨iN 0, g1, g1, a1, Or.inl ⟨rfl, rfl⟩, rfl, a2.mono pRd_Tl, a3⟩
/-- likes -/
theorem t186k {p e : Nat} (hp : p ≤ len) (e0 : e = tkE b len p) (S : MS g0 g b len e f true) (W : FTW f) (P : PLW f (tkS b len e)) (V : CWF c) (R0 : RC0 g0 c f) : ∃ ok1 g1, f190 g 193 (iN 0) (iN 0) (iN 5) = some (ok1, g1) ∧ (ok1 = iN 0 ∧ LNr RC0 g0 b len g1 (iN 0) (lnN b len 2 p e c f) ∨ ok1 = iN 1 ∧ mK g1 193 = (12, 51) ∧ ∃ ok2 g2, f190 g1 193 (iN 1) (iN 0) (iN 9) = some (ok2, g2) ∧ (ok2 = iN 0 ∧ LNr RC0 g0 b len g2 (iN 0) (lnN b len 2 p e c f) ∨ ok2 = iN 1 ∧ Wd g2 ∧ ∃ v1 v2 g', v1 ≤ 99 ∧ mI g2 203 0 = iN v1 ∧ mI g2 203 1 = iN v2 ∧ f198 g2 193 (iN (27 + min 5 v1)) (iN v2) = some (iN 1, g') ∧ LNr RC0 g0 b len g' (iN 1) (lnN b len 2 p e c f))) := by
  have he : e ≤ len := by rw [e0]; exact (tkE_ok (b := b) hp).2.1
  unfold lnN
  rw [if_neg (show ¬ nbk 2 = 0 by decide)]
  obtain ⟨y1, y2⟩ := t190 (i := 0) (lo := iN 0) (hi := iN 5) (ok := decide (0 ≤ tkV b len e ∧ tkV b len e ≤ 5)) (by omega) S W P he (fun hk => inK (by omega) (by omega) (by have := tkV_le he hk; omega))
  by_cases k1 : tkK b len e = 2
  · rw [if_pos k1, if_neg (show ¬ nbk 2 = 1 by decide)]
    obtain ⟨g1, a1, a2, a3, a4, a5⟩ := y1 k1
    have w1 := a2.2.1.1
    have he1 := (tkE_ok (b := b) he).2.1
    have lt1 := tS_lt (b := b) he (by omega)
    have P1 : PLW (nt (decide (0 ≤ tkV b len e ∧ tkV b len e ≤ 5)) 2 (tkS b len e) f) (tkS b len (tkE b len e)) := (P.mono (by omega)).nt lt1
    obtain ⟨z1, z2⟩ := t190 (i := 1) (lo := iN 0) (hi := iN 9) (ok := decide (0 ≤ tkV b len (tkE b len e) ∧ tkV b len (tkE b len e) ≤ 9)) (by omega) a2 a3 P1 he1 (fun hk => inK (by omega) (by omega) (by have := tkV_le he1 hk; omega))
    by_cases k2 : tkK b len (tkE b len e) = 2
    · rw [if_pos k2]
      obtain ⟨g2, c1, c2, c3, c4, c5⟩ := z1 k2
      have w2 := c2.2.1.1
      have hv1 := tkV_le he k1
      have hv2 := tkV_le he1 k2
      have r0 : mI g2 203 0 = iN (tkV b len e) := (c5 0 (by decide)).trans a4
      generalize tkV b len e = v1 at hv1 r0 a2 a3 c2 c3
      generalize tkV b len (tkE b len e) = v2 at hv2 c4 c2 c3
      rw [Bool.true_and] at c2
      have n1' : decide (0 ≤ v1 ∧ v1 ≤ 5) = decide (v1 ≤ 5) := by rw [decide_eq_decide]; omega
      have n2' : decide (0 ≤ v2 ∧ v2 ≤ 9) = decide (v2 ≤ 9) := by rw [decide_eq_decide]; omega
      rw [n1', n2'] at c2 c3
      have ec : nt (decide (v2 ≤ 9)) 2 (tkS b len (tkE b len e)) (nt (decide (v1 ≤ 5)) 2 (tkS b len e) f) = chk 2 c (tkS b len p) (tkS b len e) (tkS b len (tkE b len e)) v1 v2 f := rfl
      rw [ec] at c2 c3
      obtain ⟨n0, n1, b0, b1, b2, b3, b4⟩ := R0.bd V
      have d0 : mI g2 202 0 = iN n0 := (c2.told 0).trans b2
      have d1 : mI g2 202 1 = iN n1 := (c2.told 1).trans b3
      have g22 := c2.2.2.2.2.1
      have pt := t198 (v := iN v2) w2 (show 27 + min 5 v1 < 121 by omega) g22
      refine ⟨iN 1, g1, a1, Or.inr ⟨rfl, k193 w1, iN 1, g2, c1, Or.inr ⟨rfl, w2, v1, v2, _, hv1, r0, c4, pt, ?_⟩⟩⟩
      cases hf : chk 2 c (tkS b len p) (tkS b len e) (tkS b len (tkE b len e)) v1 v2 f with
      | some x =>
        rw [hf] at c2 c3
        cases hg : (decide (v1 ≤ 5) && decide (v2 ≤ 9)) with
        | false =>
          rw [if_neg (by decide)]
          exact ⟨rfl, c2.1.mono pRd_Tl, c2.2.1, c2.2.2.1, c2.2.2.2.1, c3, n0, n1, b0, b1, d0, d1⟩
        | true =>
          rw [if_pos rfl]
          have G : Fr pTl g2 (mSI g2 202 (27 + min 5 v1) (iN v2)) := Fr.rfl.si (by decide)
          obtain ⟨m1, m2, m3, m4⟩ := c2.st G (fun j h1 h2 => by simp (disch := omega) only [si_ne, si_nk, si_eq]) rfl
          exact ⟨rfl, m1, m2, m3, m4, c3, n0, n1, b0, b1, by simp (disch := omega) only [si_ne, si_nk, si_eq]; exact d0, by simp (disch := omega) only [si_ne, si_nk, si_eq]; exact d1⟩
      | none =>
        rw [hf] at c2 c3
        obtain ⟨⟨q1, q2⟩, hf0⟩ := chk_2 hf
        subst hf0
        obtain ⟨R1, R2, R3⟩ := R0
        rw [decide_eq_true q1, decide_eq_true q2, Bool.and_self, if_pos rfl, show min 5 v1 = v1 by omega]
        have G : Fr pTl g2 (mSI g2 202 (27 + v1) (iN v2)) := Fr.rfl.si (by decide)
        obtain ⟨m1, m2, m3, m4⟩ := c2.st G (fun j h1 h2 => by simp (disch := omega) only [si_ne, si_nk, si_eq]) rfl
        refine ⟨rfl, m1, m2, m3, m4, c3, fun j hj => ?_, ?_, ?_⟩
        · show _ = iN (flat (u2 c.1 4 v1 v2) j)
          rw [fu4 (by omega) hj]
          by_cases j2 : j = 27 + v1
          · subst j2; rw [if_pos rfl]; simp only [si_ne, si_nk, si_eq]
          · rw [if_neg j2, si_nk _ _ _ _ _ _ j2, c2.told j]; exact R1 j hj
        · simp (disch := omega) only [si_ne, si_nk, si_eq]; exact c2.2.2.2.2.2.1.trans R2
        · simp (disch := omega) only [si_ne, si_nk, si_eq]; exact c2.2.2.2.2.2.2.trans R3
    · rw [if_neg k2]
      obtain ⟨g2, c1, c2, c3⟩ := z2 k2
      exact ⟨iN 1, g1, a1, Or.inr ⟨rfl, k193 w1, iN 0, g2, c1, Or.inl ⟨rfl, rfl, c2.mono pRd_Tl, c3⟩⟩⟩
  · rw [if_neg k1]
    obtain ⟨g1, a1, a2, a3⟩ := y2 k1
    exact ⟨iN 0, g1, a1, Or.inl ⟨rfl, rfl, a2.mono pRd_Tl, a3⟩⟩
theorem LNr.ok {R : mH → CQ → FT → Prop} {ok : Int32} {r : Nat ⊕ (Nat × CQ × FT)} (h : LNr R g0 b len g ok r) : ok = iN 0 ∨ ok = iN 1 := by
  cases r with
  | inl x => exact Or.inl h.1
  | inr y => exact Or.inr h.1
theorem is01 {ok : Int32} (h : ok = iN 0 ∨ ok = iN 1) : mIs01 ok = true := by
  rcases h with h | h <;> rw [h] <;> decide
theorem t186 {p : Nat} (hp : p ≤ len) (hne : tkK b len p ≠ 0) (S : MS g0 g b len p f true) (W : FTW f) (P : PLW f (tkS b len p)) (V : CWF c) (R0 : RC0 g0 c f) : ∃ ok g', f186 g 193 (gN (wv b len p)) (iN (tkS b len p)) = some (ok, g') ∧ LNr RC0 g0 b len g' ok (lnW b len 0 p c f) := by
  have w := S.2.1.1
  have lt1 := tS_lt (b := b) hp hne
  unfold lnW
  unfold f186
  simp (disch := omega) only [L0, L1, L2, L3, L4, L5, L6, L7, L8, L9, L10, L11, L12, L13, L14, L15, L16, L17, L18, L19, L20, L21, L22, L23, L24, L25, L27, L33, L39, L40, L45, L48, L57, L60, L72, L90, L97, L98, L99, L100, L121, L122, L242, L255, L256, L580, L600, L1000, L1584, L1000000, Ln1, iN_add, iN_and, iN_or, iN_nd, iN_shl, iN_shr, iN_cl, iN_in, iN_mul, KC0, KC1, KC2, KC3, KC4, KC5, wcmp hp (show 0 < 14 by decide), wcmp hp (show 1 < 14 by decide), wcmp hp (show 2 < 14 by decide), wcmp hp (show 3 < 14 by decide), wcmp hp (show 4 < 14 by decide), wcmp hp (show 5 < 14 by decide)]
  cases hw : wF b len p 0 with
  | none =>
    have z := fz_all 6 0 hw
    simp (disch := omega) only [z 0 (by omega) (by omega), z 1 (by omega) (by omega), z 2 (by omega) (by omega), z 3 (by omega) (by omega), z 4 (by omega) (by omega), z 5 (by omega) (by omega), Bool.false_eq_true, if_false, gT, nbeq, Option.isSome_some, Option.getD_some, Bool.and_true, Bool.true_and, Bool.and_self, mX_some, bS, bN_if, bN_01, i1_01, i0_01, if_true, if_false, Bool.false_eq_true, false_and, and_false, and_true, true_and, and_self, Bool.or_false, Bool.false_or, Bool.or_true, Bool.true_or, Bool.false_and, Bool.and_false, decide_true, decide_false, k193 w, t192 w S.2.2.1.2.1]
    exact ⟨_, _, rfl, rfl, ((S.1.mono pRd_Tl).si (by decide)), by simp only [si_ne, si_nk, si_eq]⟩
  | some k =>
    obtain ⟨hk, h1, h2, h3⟩ := wF_k (by decide) hw
    have h3 : k < 0 + 6 := h3
    have this : k = 0 ∨ k = 1 ∨ k = 2 ∨ k = 3 ∨ k = 4 ∨ k = 5 := by omega
    have o := fun j (hj : j < 14) (hne : j ≠ k) => wF_one (b := b) (len := len) (p := p) hk hj h1 hne
    obtain ⟨n0, n1, b0, b1, b2, b3, b4⟩ := R0.bd V
    have en0 : nt (decide (n0 < 8)) 3 (tkS b len p) f = nt (decide (c.1 0 0 < 8)) 3 (tkS b len p) f := by
      cases hf : f with
      | none => rw [(b4 hf).1]
      | some x => rw [nt_s, nt_s]
    have en1 : nt (decide (n1 < 6)) 3 (tkS b len p) f = nt (decide (c.1 0 1 < 6)) 3 (tkS b len p) f := by
      cases hf : f with
      | none => rw [(b4 hf).2]
      | some x => rw [nt_s, nt_s]
    rcases this with rfl | rfl | rfl | rfl | rfl | rfl
    · obtain ⟨u1, v1, v2, v3⟩ := t187 (i := 0) (m := n0) (M := 8) (by decide) ((S.told 0).trans b2) b0 (by decide) S W P hp
      obtain ⟨u2, x1, x2, x3⟩ := v2.tk hp
      rw [en0] at x2 v3
      obtain ⟨ok, g', y1, y2⟩ := t189 hp rfl x2 v3 ((P.mono (by omega)).nt lt1) V R0 rfl
      refine ⟨ok, g', ?_, y2⟩
      have i01 := is01 y2.ok
      have wu := v2.2.1.1
      have wv' := x2.2.1.1
      unfold f186_16 f186_72
      simp (disch := omega) only [gT, nbeq, Option.isSome_some, Option.getD_some, Bool.and_true, Bool.true_and, Bool.and_self, mX_some, bS, bN_if, bN_01, i1_01, i0_01, if_true, if_false, Bool.false_eq_true, false_and, and_false, and_true, true_and, and_self, Bool.or_false, Bool.false_or, Bool.or_true, Bool.true_or, Bool.false_and, Bool.and_false, decide_true, decide_false, L0, L1, L2, L3, L4, L5, L6, L7, L8, L9, L10, L11, L12, L13, L14, L15, L16, L17, L18, L19, L20, L21, L22, L23, L24, L25, L27, L33, L39, L40, L45, L48, L57, L60, L72, L90, L97, L98, L99, L100, L121, L122, L242, L255, L256, L580, L600, L1000, L1584, L1000000, Ln1, iN_add, iN_and, iN_or, iN_nd, iN_shl, iN_shr, iN_cl, iN_in, iN_mul, KC0, wcmp hp (show 0 < 14 by decide), h1, if_true, k193 w, v1, k193 wu, x1, k193 wv', y1, i01]
    · obtain ⟨u2, x1, x2, x3⟩ := S.tk hp
      obtain ⟨ok, g', y1, y2⟩ := t194 hp rfl x2 W (P.mono (by omega)) V R0
      refine ⟨ok, g', ?_, y2⟩
      have i01 := is01 y2.ok
      have wu := x2.2.1.1
      simp (disch := omega) only [o 0 (by decide) (by decide), h1, o 4 (by decide) (by decide), Bool.false_eq_true, if_false, if_true]
      unfold f186_110
      simp (disch := omega) only [gT, nbeq, Option.isSome_some, Option.getD_some, Bool.and_true, Bool.true_and, Bool.and_self, mX_some, bS, bN_if, bN_01, i1_01, i0_01, if_true, if_false, Bool.false_eq_true, false_and, and_false, and_true, true_and, and_self, Bool.or_false, Bool.false_or, Bool.or_true, Bool.true_or, Bool.false_and, Bool.and_false, decide_true, decide_false, L0, L1, L2, L3, L4, L5, L6, L7, L8, L9, L10, L11, L12, L13, L14, L15, L16, L17, L18, L19, L20, L21, L22, L23, L24, L25, L27, L33, L39, L40, L45, L48, L57, L60, L72, L90, L97, L98, L99, L100, L121, L122, L242, L255, L256, L580, L600, L1000, L1584, L1000000, Ln1, iN_add, iN_and, iN_or, iN_nd, iN_shl, iN_shr, iN_cl, iN_in, iN_mul, KC1, wcmp hp (show 1 < 14 by decide), h1, if_true, k193 w, x1, k193 wu, y1, i01]
    · obtain ⟨u2, x1, x2, x3⟩ := S.tk hp
      have wu := x2.2.1.1
      obtain ⟨ok1, g1, y1, y2⟩ := t186k hp rfl x2 W (P.mono (by omega)) V R0
      simp (disch := omega) only [o 0 (by decide) (by decide), o 1 (by decide) (by decide), h1, o 4 (by decide) (by decide), Bool.false_eq_true, if_false, if_true]
      unfold f186_110 f186_234 f186_235
      rcases y2 with ⟨rfl, z1⟩ | ⟨rfl, z1, ok2, g2, z2, z3⟩
      · refine ⟨iN 0, g1, ?_, z1⟩
        simp (disch := omega) only [gT, nbeq, Option.isSome_some, Option.getD_some, Bool.and_true, Bool.true_and, Bool.and_self, mX_some, bS, bN_if, bN_01, i1_01, i0_01, if_true, if_false, Bool.false_eq_true, false_and, and_false, and_true, true_and, and_self, Bool.or_false, Bool.false_or, Bool.or_true, Bool.true_or, Bool.false_and, Bool.and_false, decide_true, decide_false, L0, L1, L2, L3, L4, L5, L6, L7, L8, L9, L10, L11, L12, L13, L14, L15, L16, L17, L18, L19, L20, L21, L22, L23, L24, L25, L27, L33, L39, L40, L45, L48, L57, L60, L72, L90, L97, L98, L99, L100, L121, L122, L242, L255, L256, L580, L600, L1000, L1584, L1000000, Ln1, iN_add, iN_and, iN_or, iN_nd, iN_shl, iN_shr, iN_cl, iN_in, iN_mul, KC1, KC5, KC3, wcmp hp (show 1 < 14 by decide), wcmp hp (show 5 < 14 by decide), wcmp hp (show 3 < 14 by decide), o 1 (by decide) (by decide), o 5 (by decide) (by decide), o 3 (by decide) (by decide), Bool.false_eq_true, if_false, k193 w, x1, k193 wu, y1, ieq_p]
      · rcases z3 with ⟨rfl, z4⟩ | ⟨rfl, z4, va, vb, g', z5, z6, z7, z8, z9⟩
        · refine ⟨iN 0, g2, ?_, z4⟩
          simp (disch := omega) only [gT, nbeq, Option.isSome_some, Option.getD_some, Bool.and_true, Bool.true_and, Bool.and_self, mX_some, bS, bN_if, bN_01, i1_01, i0_01, if_true, if_false, Bool.false_eq_true, false_and, and_false, and_true, true_and, and_self, Bool.or_false, Bool.false_or, Bool.or_true, Bool.true_or, Bool.false_and, Bool.and_false, decide_true, decide_false, L0, L1, L2, L3, L4, L5, L6, L7, L8, L9, L10, L11, L12, L13, L14, L15, L16, L17, L18, L19, L20, L21, L22, L23, L24, L25, L27, L33, L39, L40, L45, L48, L57, L60, L72, L90, L97, L98, L99, L100, L121, L122, L242, L255, L256, L580, L600, L1000, L1584, L1000000, Ln1, iN_add, iN_and, iN_or, iN_nd, iN_shl, iN_shr, iN_cl, iN_in, iN_mul, KC1, KC5, KC3, wcmp hp (show 1 < 14 by decide), wcmp hp (show 5 < 14 by decide), wcmp hp (show 3 < 14 by decide), o 1 (by decide) (by decide), o 5 (by decide) (by decide), o 3 (by decide) (by decide), Bool.false_eq_true, if_false, k193 w, x1, k193 wu, y1, ieq_n, z1, z2, ieq_p]
        · refine ⟨iN 1, g', ?_, z9⟩
          have q1 : f195 g2 (iN 5) (iN va) = some (iN (min 5 va)) := t195 (by omega) (by omega)
          have q2 : f196 g2 (iN 0) (iN (min 5 va)) = some (iN (max 0 (min 5 va))) := t196 (by omega) (by omega)
          rw [show max 0 (min 5 va) = min 5 va by omega] at q2
          simp (disch := omega) only [gT, nbeq, Option.isSome_some, Option.getD_some, Bool.and_true, Bool.true_and, Bool.and_self, mX_some, bS, bN_if, bN_01, i1_01, i0_01, if_true, if_false, Bool.false_eq_true, false_and, and_false, and_true, true_and, and_self, Bool.or_false, Bool.false_or, Bool.or_true, Bool.true_or, Bool.false_and, Bool.and_false, decide_true, decide_false, L0, L1, L2, L3, L4, L5, L6, L7, L8, L9, L10, L11, L12, L13, L14, L15, L16, L17, L18, L19, L20, L21, L22, L23, L24, L25, L27, L33, L39, L40, L45, L48, L57, L60, L72, L90, L97, L98, L99, L100, L121, L122, L242, L255, L256, L580, L600, L1000, L1584, L1000000, Ln1, iN_add, iN_and, iN_or, iN_nd, iN_shl, iN_shr, iN_cl, iN_in, iN_mul, KC1, KC5, KC3, wcmp hp (show 1 < 14 by decide), wcmp hp (show 5 < 14 by decide), wcmp hp (show 3 < 14 by decide), o 1 (by decide) (by decide), o 5 (by decide) (by decide), o 3 (by decide) (by decide), Bool.false_eq_true, if_false, k193 w, x1, k193 wu, y1, ieq_n, z1, z2, k193 z4, r193_1 z4, r193_2 z4, r193_3 z4, r193_4 z4, r193_5 z4, r193_6 z4, r193_7 z4, r193_8 z4, r193_18 z4, r193_19 z4, r193_32 z4, r193_33 z4, r193_34 z4, r193_36 z4, r193_38 z4, r193_39 z4, r193_40 z4, r193_42 z4, r193_45 z4, r193_46 z4, r193_47 z4, r193_48 z4, r193_49 z4, r193_50 z4, k203 z4, iN_in, iN_cl, z6, z7, q1, q2, z8]
    · obtain ⟨u2, x1, x2, x3⟩ := S.tk hp
      have wu := x2.2.1.1
      obtain ⟨ok, g1, g', y1, y2, y3⟩ := t186l hp rfl x2 W (P.mono (by omega)) V R0
      refine ⟨ok, g', ?_, y3⟩
      simp (disch := omega) only [o 0 (by decide) (by decide), o 1 (by decide) (by decide), o 2 (by decide) (by decide), h1, o 4 (by decide) (by decide), Bool.false_eq_true, if_false, if_true]
      unfold f186_110 f186_177 f186_178
      rcases y2 with ⟨rfl, rfl⟩ | ⟨rfl, z1, z2, z3, z4⟩
      · simp (disch := omega) only [gT, nbeq, Option.isSome_some, Option.getD_some, Bool.and_true, Bool.true_and, Bool.and_self, mX_some, bS, bN_if, bN_01, i1_01, i0_01, if_true, if_false, Bool.false_eq_true, false_and, and_false, and_true, true_and, and_self, Bool.or_false, Bool.false_or, Bool.or_true, Bool.true_or, Bool.false_and, Bool.and_false, decide_true, decide_false, L0, L1, L2, L3, L4, L5, L6, L7, L8, L9, L10, L11, L12, L13, L14, L15, L16, L17, L18, L19, L20, L21, L22, L23, L24, L25, L27, L33, L39, L40, L45, L48, L57, L60, L72, L90, L97, L98, L99, L100, L121, L122, L242, L255, L256, L580, L600, L1000, L1584, L1000000, Ln1, iN_add, iN_and, iN_or, iN_nd, iN_shl, iN_shr, iN_cl, iN_in, iN_mul, KC1, KC5, KC3, wcmp hp (show 1 < 14 by decide), wcmp hp (show 5 < 14 by decide), wcmp hp (show 3 < 14 by decide), o 1 (by decide) (by decide), o 5 (by decide) (by decide), h1, Bool.false_eq_true, if_false, if_true, k193 w, x1, k193 wu, y1, ieq_p]
      · simp (disch := omega) only [gT, nbeq, Option.isSome_some, Option.getD_some, Bool.and_true, Bool.true_and, Bool.and_self, mX_some, bS, bN_if, bN_01, i1_01, i0_01, if_true, if_false, Bool.false_eq_true, false_and, and_false, and_true, true_and, and_self, Bool.or_false, Bool.false_or, Bool.or_true, Bool.true_or, Bool.false_and, Bool.and_false, decide_true, decide_false, L0, L1, L2, L3, L4, L5, L6, L7, L8, L9, L10, L11, L12, L13, L14, L15, L16, L17, L18, L19, L20, L21, L22, L23, L24, L25, L27, L33, L39, L40, L45, L48, L57, L60, L72, L90, L97, L98, L99, L100, L121, L122, L242, L255, L256, L580, L600, L1000, L1584, L1000000, Ln1, iN_add, iN_and, iN_or, iN_nd, iN_shl, iN_shr, iN_cl, iN_in, iN_mul, KC1, KC5, KC3, wcmp hp (show 1 < 14 by decide), wcmp hp (show 5 < 14 by decide), wcmp hp (show 3 < 14 by decide), o 1 (by decide) (by decide), o 5 (by decide) (by decide), h1, Bool.false_eq_true, if_false, if_true, k193 w, x1, k193 wu, y1, ieq_n, z1, z2, z3, iN_in, iN_cl, z4]
    · obtain ⟨u1, v1, v2, v3⟩ := t187 (i := 1) (m := n1) (M := 6) (by decide) ((S.told 1).trans b3) b1 (by decide) S W P hp
      obtain ⟨u2, x1, x2, x3⟩ := v2.tk hp
      rw [en1] at x2 v3
      obtain ⟨ok, g', y1, y2⟩ := t193 hp rfl x2 v3 ((P.mono (by omega)).nt lt1) V R0 rfl
      refine ⟨ok, g', ?_, y2⟩
      have i01 := is01 y2.ok
      have wu := v2.2.1.1
      have wv' := x2.2.1.1
      simp (disch := omega) only [o 0 (by decide) (by decide), h1, Bool.false_eq_true, if_false, if_true]
      unfold f186_16 f186_72
      simp (disch := omega) only [gT, nbeq, Option.isSome_some, Option.getD_some, Bool.and_true, Bool.true_and, Bool.and_self, mX_some, bS, bN_if, bN_01, i1_01, i0_01, if_true, if_false, Bool.false_eq_true, false_and, and_false, and_true, true_and, and_self, Bool.or_false, Bool.false_or, Bool.or_true, Bool.true_or, Bool.false_and, Bool.and_false, decide_true, decide_false, L0, L1, L2, L3, L4, L5, L6, L7, L8, L9, L10, L11, L12, L13, L14, L15, L16, L17, L18, L19, L20, L21, L22, L23, L24, L25, L27, L33, L39, L40, L45, L48, L57, L60, L72, L90, L97, L98, L99, L100, L121, L122, L242, L255, L256, L580, L600, L1000, L1584, L1000000, Ln1, iN_add, iN_and, iN_or, iN_nd, iN_shl, iN_shr, iN_cl, iN_in, iN_mul, KC0, wcmp hp (show 0 < 14 by decide), o 0 (by decide) (by decide), Bool.false_eq_true, if_false, k193 w, v1, k193 wu, x1, k193 wv', y1, i01]
    · obtain ⟨u2, x1, x2, x3⟩ := S.tk hp
      obtain ⟨ok, g', y1, y2⟩ := t197 hp rfl x2 W (P.mono (by omega)) V R0
      refine ⟨ok, g', ?_, y2⟩
      have i01 := is01 y2.ok
      have wu := x2.2.1.1
      simp (disch := omega) only [o 0 (by decide) (by decide), o 1 (by decide) (by decide), o 2 (by decide) (by decide), o 3 (by decide) (by decide), h1, o 4 (by decide) (by decide), Bool.false_eq_true, if_false, if_true]
      unfold f186_110
      simp (disch := omega) only [gT, nbeq, Option.isSome_some, Option.getD_some, Bool.and_true, Bool.true_and, Bool.and_self, mX_some, bS, bN_if, bN_01, i1_01, i0_01, if_true, if_false, Bool.false_eq_true, false_and, and_false, and_true, true_and, and_self, Bool.or_false, Bool.false_or, Bool.or_true, Bool.true_or, Bool.false_and, Bool.and_false, decide_true, decide_false, L0, L1, L2, L3, L4, L5, L6, L7, L8, L9, L10, L11, L12, L13, L14, L15, L16, L17, L18, L19, L20, L21, L22, L23, L24, L25, L27, L33, L39, L40, L45, L48, L57, L60, L72, L90, L97, L98, L99, L100, L121, L122, L242, L255, L256, L580, L600, L1000, L1584, L1000000, Ln1, iN_add, iN_and, iN_or, iN_nd, iN_shl, iN_shr, iN_cl, iN_in, iN_mul, KC1, KC5, wcmp hp (show 1 < 14 by decide), wcmp hp (show 5 < 14 by decide), o 1 (by decide) (by decide), h1, Bool.false_eq_true, if_false, if_true, k193 w, x1, k193 wu, y1, i01]
end ML2
