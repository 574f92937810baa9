/-! tokens: pure, and the class's scanner -/
def isBl (x : Nat) : Bool := decide (x = 10) || decide (x = 32)
def isLt (x : Nat) : Bool := decide (97 ≤ x) && decide (x ≤ 122)
def isDg (x : Nat) : Bool := decide (48 ≤ x) && decide (x ≤ 57)
/-- the first place from p on whose byte isn't of the kind -/
def runB (P : Nat → Bool) (b : Nat → Nat) : Nat → Nat → Nat
  | 0, p => p
  | n + 1, p => if P (b p) = true then runB P b n (p + 1) else p
theorem runB_ok {P : Nat → Bool} {b : Nat → Nat} : ∀ n p, p ≤ runB P b n p ∧ runB P b n p ≤ p + n ∧ (∀ i, p ≤ i → i < runB P b n p → P (b i) = true) ∧ (runB P b n p < p + n → P (b (runB P b n p)) = false) := by
  intro n
  induction n with
  | zero => intro p; exact ⟨Nat.le_refl _, Nat.le_refl _, fun i h1 h2 => (by have : i < p := h2; omega), fun h => (by have : p < p + 0 := h; omega)⟩
  | succ n ih =>
    intro p
    show _ ≤ (if P (b p) = true then runB P b n (p + 1) else p) ∧ (if P (b p) = true then runB P b n (p + 1) else p) ≤ _ ∧ (∀ i, p ≤ i → i < (if P (b p) = true then runB P b n (p + 1) else p) → _) ∧ ((if P (b p) = true then runB P b n (p + 1) else p) < _ → P (b (if P (b p) = true then runB P b n (p + 1) else p)) = false)
    by_cases e : P (b p) = true
    · rw [if_pos e]
      obtain ⟨h1, h2, h3, h4⟩ := ih (p + 1)
      refine ⟨by omega, by omega, fun i g1 g2 => ?_, fun g => h4 (by omega)⟩
      by_cases ei : i = p
      · rw [ei]; exact e
      · exact h3 i (by omega) g2
    · rw [if_neg e]
      exact ⟨Nat.le_refl _, by omega, fun i g1 g2 => by omega, fun _ => by simpa using e⟩
section TK
variable (b : Nat → Nat) (len : Nat)
def tkS (p : Nat) : Nat := runB isBl b (len - p) p
def tkW (s : Nat) : Nat := runB isLt b (len - s) s
def tkD (s : Nat) : Nat := runB isDg b (len - s) s
def tkE (p : Nat) : Nat := if len ≤ tkS b len p then tkS b len p else if isLt (b (tkS b len p)) = true then tkW b len (tkS b len p) else if isDg (b (tkS b len p)) = true then tkD b len (tkS b len p) else tkS b len p + 1
/-- 0: the end, 1: a word, 2: a number, 3: a semicolon, 4: none -/
def tkK (p : Nat) : Nat := if len ≤ tkS b len p then 0 else if isLt (b (tkS b len p)) = true then 1 else if isDg (b (tkS b len p)) = true then (if tkD b len (tkS b len p) - tkS b len p ≤ 2 then 2 else 4) else if b (tkS b len p) = 59 then 3 else 4
def vlN (s i : Nat) : Nat := if i = 0 then 0 else if i = 1 then b s - 48 else 10 * (b s - 48) + (b (s + 1) - 48)
def tkV (p : Nat) : Nat := vlN b (tkS b len p) (tkE b len p - tkS b len p)
end TK
theorem tkS_ok {b : Nat → Nat} {len p : Nat} (hp : p ≤ len) : p ≤ tkS b len p ∧ tkS b len p ≤ len ∧ (∀ i, p ≤ i → i < tkS b len p → isBl (b i) = true) ∧ (tkS b len p < len → isBl (b (tkS b len p)) = false) := by
  obtain ⟨h1, h2, h3, h4⟩ := runB_ok (P := isBl) (b := b) (len - p) p
  exact ⟨h1, by unfold tkS; omega, h3, fun h => h4 (by unfold tkS at h; omega)⟩
theorem tkW_ok {b : Nat → Nat} {len s : Nat} (hp : s ≤ len) : s ≤ tkW b len s ∧ tkW b len s ≤ len ∧ (∀ i, s ≤ i → i < tkW b len s → isLt (b i) = true) ∧ (tkW b len s < len → isLt (b (tkW b len s)) = false) := by
  obtain ⟨h1, h2, h3, h4⟩ := runB_ok (P := isLt) (b := b) (len - s) s
  exact ⟨h1, by unfold tkW; omega, h3, fun h => h4 (by unfold tkW at h; omega)⟩
theorem tkD_ok {b : Nat → Nat} {len s : Nat} (hp : s ≤ len) : s ≤ tkD b len s ∧ tkD b len s ≤ len ∧ (∀ i, s ≤ i → i < tkD b len s → isDg (b i) = true) ∧ (tkD b len s < len → isDg (b (tkD b len s)) = false) := by
  obtain ⟨h1, h2, h3, h4⟩ := runB_ok (P := isDg) (b := b) (len - s) s
  exact ⟨h1, by unfold tkD; omega, h3, fun h => h4 (by unfold tkD at h; omega)⟩
theorem isLt_t {x : Nat} : isLt x = true ↔ 97 ≤ x ∧ x ≤ 122 := by unfold isLt; simp
theorem isDg_t {x : Nat} : isDg x = true ↔ 48 ≤ x ∧ x ≤ 57 := by unfold isDg; simp
theorem run_gt {P : Nat → Bool} {b : Nat → Nat} {n s : Nat} (hn : 0 < n) (h : P (b s) = true) : s < runB P b n s := by
  obtain ⟨m, rfl⟩ : ∃ m, n = m + 1 := ⟨n - 1, by omega⟩
  show s < if P (b s) = true then runB P b m (s + 1) else s
  rw [if_pos h]
  have := (runB_ok (P := P) (b := b) m (s + 1)).1
  omega
/-- every token but the end goes on -/
theorem tkE_ok {b : Nat → Nat} {len p : Nat} (hp : p ≤ len) : tkS b len p ≤ tkE b len p ∧ tkE b len p ≤ len ∧ (tkK b len p ≠ 0 → tkS b len p < tkE b len p) := by
  obtain ⟨h1, h2, _, _⟩ := tkS_ok (b := b) hp
  unfold tkE tkK
  by_cases e : len ≤ tkS b len p
  · rw [if_pos e, if_pos e]; exact ⟨Nat.le_refl _, h2, fun h => absurd rfl h⟩
  · rw [if_neg e, if_neg e]
    by_cases e2 : isLt (b (tkS b len p)) = true
    · rw [if_pos e2]
      obtain ⟨g1, g2, _, _⟩ := tkW_ok (b := b) (len := len) h2
      have := run_gt (n := len - tkS b len p) (by omega) e2
      exact ⟨g1, g2, fun _ => this⟩
    · rw [if_neg e2]
      by_cases e3 : isDg (b (tkS b len p)) = true
      · rw [if_pos e3]
        obtain ⟨g1, g2, _, _⟩ := tkD_ok (b := b) (len := len) h2
        have := run_gt (n := len - tkS b len p) (by omega) e3
        exact ⟨g1, g2, fun _ => this⟩
      · rw [if_neg e3]
        exact ⟨by omega, by omega, fun _ => by omega⟩
theorem tkK_0 {b : Nat → Nat} {len p : Nat} (hp : p ≤ len) (h : tkK b len p = 0) : tkS b len p = len := by
  have h2 := (tkS_ok (b := b) hp).2.1
  unfold tkK at h
  split at h
  · omega
  · split at h
    · omega
    · split at h
      · split at h <;> omega
      · split at h <;> omega
/-! the class's scanner -/
def TpC (h : mH) (b : Nat → Nat) (len : Nat) : Prop := Wd h ∧ mR h 52 0 = some 2 ∧ mI h 52 1 = iN len ∧ len ≤ 600 ∧ ∀ i, i < len → b i < 256 ∧ mI h 2 i = iN (b i)
def SC (h : mH) (b : Nat → Nat) (len p : Nat) : Prop := mI h 52 2 = iN (tkE b len p) ∧ mI h 52 4 = iN (tkS b len p) ∧ mI h 52 3 = iN (tkK b len p) ∧ (tkK b len p = 2 → mI h 52 5 = iN (tkV b len p))
def p52 (x : Nat) : Bool := Nat.beq x 52
section SCN
variable {h : mH} {b : Nat → Nat} {len : Nat}
theorem TpC.fr {h' : mH} {P : Nat → Bool} (T : TpC h b len) (x : Fr P h h') (p2 : P 2 = false) (e : mI h' 52 1 = mI h 52 1) : TpC h' b len := ⟨T.1.fr x, (x.r _ _).trans T.2.1, e.trans T.2.2.1, T.2.2.2.1, fun i hi => ⟨(T.2.2.2.2 i hi).1, (x.i p2 i).trans (T.2.2.2.2 i hi).2⟩⟩
theorem t22 {x : Nat} (hx : x < 256) : f22 h (iN x) = some (bN (isLt x)) := by
  unfold f22 f22_16 f22_17 isLt
  simp (disch := omega) only [L0, L1, L2, L3, L4, L5, L6, L7, L8, L9, L10, L11, L12, L13, L14, L15, L16, L17, L18, L19, L20, L21, L22, L23, L24, L25, L27, L33, L39, L40, L45, L48, L57, L60, L72, L90, L97, L98, L99, L100, L121, L122, L242, L255, L256, L580, L600, L1000, L1584, L1000000, Ln1, iN_add, iN_and, iN_or, iN_nd, iN_shl, iN_shr, iN_cl, iN_in, iN_mul, ilt_d]
  by_cases e1 : x < 97
  · rw [if_pos e1, decide_eq_false (show ¬ 97 ≤ x by omega)]; simp only [gT, nbeq, Option.isSome_some, Option.getD_some, Bool.and_true, Bool.true_and, Bool.and_self, mX_some, bS, bN_if, bN_01, i1_01, i0_01, if_true, if_false, Bool.false_eq_true, false_and, and_false, and_true, true_and, and_self, Bool.or_false, Bool.false_or, Bool.or_true, Bool.true_or, Bool.false_and, Bool.and_false, decide_true, decide_false]; rfl
  · rw [if_neg e1, decide_eq_true (show 97 ≤ x by omega)]
    by_cases e2 : 122 < x
    · rw [if_pos e2, decide_eq_false (show ¬ x ≤ 122 by omega)]; simp only [gT, nbeq, Option.isSome_some, Option.getD_some, Bool.and_true, Bool.true_and, Bool.and_self, mX_some, bS, bN_if, bN_01, i1_01, i0_01, if_true, if_false, Bool.false_eq_true, false_and, and_false, and_true, true_and, and_self, Bool.or_false, Bool.false_or, Bool.or_true, Bool.true_or, Bool.false_and, Bool.and_false, decide_true, decide_false]; rfl
    · rw [if_neg e2, decide_eq_true (show x ≤ 122 by omega)]; simp only [gT, nbeq, Option.isSome_some, Option.getD_some, Bool.and_true, Bool.true_and, Bool.and_self, mX_some, bS, bN_if, bN_01, i1_01, i0_01, if_true, if_false, Bool.false_eq_true, false_and, and_false, and_true, true_and, and_self, Bool.or_false, Bool.false_or, Bool.or_true, Bool.true_or, Bool.false_and, Bool.and_false, decide_true, decide_false]; rfl
theorem t24 {x : Nat} (hx : x < 256) : f24 h (iN x) = some (bN (isDg x)) := by
  unfold f24 f24_16 f24_17 isDg
  simp (disch := omega) only [L0, L1, L2, L3, L4, L5, L6, L7, L8, L9, L10, L11, L12, L13, L14, L15, L16, L17, L18, L19, L20, L21, L22, L23, L24, L25, L27, L33, L39, L40, L45, L48, L57, L60, L72, L90, L97, L98, L99, L100, L121, L122, L242, L255, L256, L580, L600, L1000, L1584, L1000000, Ln1, iN_add, iN_and, iN_or, iN_nd, iN_shl, iN_shr, iN_cl, iN_in, iN_mul, ilt_d]
  by_cases e1 : x < 48
  · rw [if_pos e1, decide_eq_false (show ¬ 48 ≤ x by omega)]; simp only [gT, nbeq, Option.isSome_some, Option.getD_some, Bool.and_true, Bool.true_and, Bool.and_self, mX_some, bS, bN_if, bN_01, i1_01, i0_01, if_true, if_false, Bool.false_eq_true, false_and, and_false, and_true, true_and, and_self, Bool.or_false, Bool.false_or, Bool.or_true, Bool.true_or, Bool.false_and, Bool.and_false, decide_true, decide_false]; rfl
  · rw [if_neg e1, decide_eq_true (show 48 ≤ x by omega)]
    by_cases e2 : 57 < x
    · rw [if_pos e2, decide_eq_false (show ¬ x ≤ 57 by omega)]; simp only [gT, nbeq, Option.isSome_some, Option.getD_some, Bool.and_true, Bool.true_and, Bool.and_self, mX_some, bS, bN_if, bN_01, i1_01, i0_01, if_true, if_false, Bool.false_eq_true, false_and, and_false, and_true, true_and, and_self, Bool.or_false, Bool.false_or, Bool.or_true, Bool.true_or, Bool.false_and, Bool.and_false, decide_true, decide_false]; rfl
    · rw [if_neg e2, decide_eq_true (show x ≤ 57 by omega)]; simp only [gT, nbeq, Option.isSome_some, Option.getD_some, Bool.and_true, Bool.true_and, Bool.and_self, mX_some, bS, bN_if, bN_01, i1_01, i0_01, if_true, if_false, Bool.false_eq_true, false_and, and_false, and_true, true_and, and_self, Bool.or_false, Bool.false_or, Bool.or_true, Bool.true_or, Bool.false_and, Bool.and_false, decide_true, decide_false]; rfl
theorem t23 {s : Nat} (T : TpC h b len) (hs : s ≤ len) (h2 : mI h 52 2 = iN s) : ∃ h', f23 h 52 = some ((), h') ∧ Fr p52 h h' ∧ mI h' 52 2 = iN (tkW b len s) ∧ mI h' 52 3 = iN 1 ∧ ∀ j, j ≠ 2 → j ≠ 3 → mI h' 52 j = mI h 52 j := by
  obtain ⟨g1, g2, g3, g4⟩ := tkW_ok (b := b) hs
  have hl := T.2.2.2.1
  unfold f23
  have := lp_inv (body := f23_0 52) (P := fun i z => Fr p52 h z ∧ mI z 52 2 = iN (s + i) ∧ ∀ j, j ≠ 2 → mI z 52 j = mI h 52 j) (Q := fun r => Fr p52 h r.2 ∧ mI r.2 52 2 = iN (tkW b len s) ∧ mI r.2 52 3 = iN 1 ∧ ∀ j, j ≠ 2 → j ≠ 3 → mI r.2 52 j = mI h 52 j) (tkW b len s - s) (fun i z hi hP => by
    obtain ⟨z1, z2, z3⟩ := hP
    have T2 := T.fr z1 rfl (z3 1 (by decide))
    obtain ⟨w2, t2, t3, t4, t5⟩ := id T2
    obtain ⟨b1, b2⟩ := t5 (s + i) (by omega)
    have b3 := g3 (s + i) (by omega) (by omega)
    refine Or.inl ⟨mSI z 52 2 (iN (s + i + 1)), ?_, z1.si rfl, by simp only [si_ne, si_nk, si_eq]; rfl, fun j hj => by simp (disch := omega) only [si_ne, si_nk, si_eq]; exact z3 j hj⟩
    unfold f23_0
    simp (disch := omega) only [gT, nbeq, Option.isSome_some, Option.getD_some, Bool.and_true, Bool.true_and, Bool.and_self, mX_some, bS, bN_if, bN_01, i1_01, i0_01, if_true, if_false, Bool.false_eq_true, false_and, and_false, and_true, true_and, and_self, Bool.or_false, Bool.false_or, Bool.or_true, Bool.true_or, Bool.false_and, Bool.and_false, decide_true, decide_false, L0, L1, L2, L3, L4, L5, L6, L7, L8, L9, L10, L11, L12, L13, L14, L15, L16, L17, L18, L19, L20, L21, L22, L23, L24, L25, L27, L33, L39, L40, L45, L48, L57, L60, L72, L90, L97, L98, L99, L100, L121, L122, L242, L255, L256, L580, L600, L1000, L1584, L1000000, Ln1, iN_add, iN_and, iN_or, iN_nd, iN_shl, iN_shr, iN_cl, iN_in, iN_mul, k2 w2, k52 w2, t2, t3, z2, ile_n, iN_in, iN_cl, b2, t22, b3]) (fun z hP => by
    obtain ⟨z1, z2, z3⟩ := hP
    have T2 := T.fr z1 rfl (z3 1 (by decide))
    obtain ⟨w2, t2, t3, t4, t5⟩ := id T2
    rw [show s + (tkW b len s - s) = tkW b len s by omega] at z2
    refine ⟨((), mSI z 52 3 (iN 1)), ?_, z1.si rfl, by simp (disch := omega) only [si_ne, si_nk, si_eq]; exact z2, by simp only [si_ne, si_nk, si_eq], fun j h1 h2 => by simp (disch := omega) only [si_ne, si_nk, si_eq]; exact z3 j h1⟩
    unfold f23_0 f23_39
    by_cases e : tkW b len s < len
    · obtain ⟨b1, b2⟩ := t5 _ e
      have b3 := g4 e
      simp (disch := omega) only [gT, nbeq, Option.isSome_some, Option.getD_some, Bool.and_true, Bool.true_and, Bool.and_self, mX_some, bS, bN_if, bN_01, i1_01, i0_01, if_true, if_false, Bool.false_eq_true, false_and, and_false, and_true, true_and, and_self, Bool.or_false, Bool.false_or, Bool.or_true, Bool.true_or, Bool.false_and, Bool.and_false, decide_true, decide_false, L0, L1, L2, L3, L4, L5, L6, L7, L8, L9, L10, L11, L12, L13, L14, L15, L16, L17, L18, L19, L20, L21, L22, L23, L24, L25, L27, L33, L39, L40, L45, L48, L57, L60, L72, L90, L97, L98, L99, L100, L121, L122, L242, L255, L256, L580, L600, L1000, L1584, L1000000, Ln1, iN_add, iN_and, iN_or, iN_nd, iN_shl, iN_shr, iN_cl, iN_in, iN_mul, k2 w2, k52 w2, t2, t3, z2, ile_n, iN_in, iN_cl, b2, t22, b3]
    · simp (disch := omega) only [gT, nbeq, Option.isSome_some, Option.getD_some, Bool.and_true, Bool.true_and, Bool.and_self, mX_some, bS, bN_if, bN_01, i1_01, i0_01, if_true, if_false, Bool.false_eq_true, false_and, and_false, and_true, true_and, and_self, Bool.or_false, Bool.false_or, Bool.or_true, Bool.true_or, Bool.false_and, Bool.and_false, decide_true, decide_false, L0, L1, L2, L3, L4, L5, L6, L7, L8, L9, L10, L11, L12, L13, L14, L15, L16, L17, L18, L19, L20, L21, L22, L23, L24, L25, L27, L33, L39, L40, L45, L48, L57, L60, L72, L90, L97, L98, L99, L100, L121, L122, L242, L255, L256, L580, L600, L1000, L1584, L1000000, Ln1, iN_add, iN_and, iN_or, iN_nd, iN_shl, iN_shr, iN_cl, iN_in, iN_mul, k52 w2, t3, z2, ile_p]) (by omega) (s := h) ⟨Fr.rfl, h2, fun j _ => rfl⟩
  obtain ⟨⟨r, h'⟩, r1, r2⟩ := this
  exact ⟨h', r1, r2⟩
theorem vlN_le {s i : Nat} (hd : ∀ j, s ≤ j → j < s + i → isDg (b j) = true) : vlN b s i ≤ 99 := by
  unfold vlN
  split
  · omega
  · split
    · have := isDg_t.1 (hd s (by omega) (by omega)); omega
    · have h1 := isDg_t.1 (hd s (by omega) (by omega))
      have h2 := isDg_t.1 (hd (s + 1) (by omega) (by omega))
      omega
theorem t25 {s : Nat} (T : TpC h b len) (hs : s ≤ len) (h2 : mI h 52 2 = iN s) (h4 : mI h 52 4 = iN s) : ∃ h', f25 h 52 = some ((), h') ∧ Fr p52 h h' ∧ mI h' 52 2 = iN (tkD b len s) ∧ mI h' 52 3 = iN (if tkD b len s - s ≤ 2 then 2 else 4) ∧ mI h' 52 5 = iN (vlN b s (tkD b len s - s)) ∧ mI h' 52 4 = iN s ∧ mI h' 52 1 = mI h 52 1 := by
  obtain ⟨g1, g2, g3, g4⟩ := tkD_ok (b := b) hs
  have hl := T.2.2.2.1
  have w := T.1
  unfold f25
  simp (disch := omega) only [gT, nbeq, Option.isSome_some, Option.getD_some, Bool.and_true, Bool.true_and, Bool.and_self, mX_some, bS, bN_if, bN_01, i1_01, i0_01, if_true, if_false, Bool.false_eq_true, false_and, and_false, and_true, true_and, and_self, Bool.or_false, Bool.false_or, Bool.or_true, Bool.true_or, Bool.false_and, Bool.and_false, decide_true, decide_false, L0, L1, L2, L3, L4, L5, L6, L7, L8, L9, L10, L11, L12, L13, L14, L15, L16, L17, L18, L19, L20, L21, L22, L23, L24, L25, L27, L33, L39, L40, L45, L48, L57, L60, L72, L90, L97, L98, L99, L100, L121, L122, L242, L255, L256, L580, L600, L1000, L1584, L1000000, Ln1, iN_add, iN_and, iN_or, iN_nd, iN_shl, iN_shr, iN_cl, iN_in, iN_mul, k52 w]
  have := lp_inv (body := f25_5 52) (P := fun i z => Fr p52 h z ∧ mI z 52 2 = iN (s + i) ∧ mI z 52 5 = iN (vlN b s i) ∧ mI z 52 4 = iN s ∧ mI z 52 1 = mI h 52 1) (Q := fun r => Fr p52 h r.2 ∧ mI r.2 52 2 = iN (tkD b len s) ∧ mI r.2 52 3 = iN (if tkD b len s - s ≤ 2 then 2 else 4) ∧ mI r.2 52 5 = iN (vlN b s (tkD b len s - s)) ∧ mI r.2 52 4 = iN s ∧ mI r.2 52 1 = mI h 52 1) (tkD b len s - s) (fun i z hi hP => by
    obtain ⟨z1, z2, z5, z4, z3⟩ := hP
    have T2 := T.fr z1 rfl z3
    obtain ⟨w2, t2, t3, t4, t5⟩ := id T2
    obtain ⟨b1, b2⟩ := t5 (s + i) (by omega)
    have b3 := g3 (s + i) (by omega) (by omega)
    have b4 := isDg_t.1 b3
    have vl := vlN_le (b := b) (s := s) (i := i) (fun j h1 h2 => g3 j h1 (by omega))
    by_cases e : 2 ≤ i
    · have ev : vlN b s (i + 1) = vlN b s i := by
        unfold vlN
        rw [if_neg (by omega), if_neg (by omega), if_neg (by omega), if_neg (by omega)]
      refine Or.inl ⟨mSI (mSI z 52 5 (iN (vlN b s i))) 52 2 (iN (s + i + 1)), ?_, (z1.si rfl).si rfl, by simp only [si_ne, si_nk, si_eq]; rfl, by rw [ev]; simp (disch := omega) only [si_ne, si_nk, si_eq], by simp (disch := omega) only [si_ne, si_nk, si_eq]; exact z4, by simp (disch := omega) only [si_ne, si_nk, si_eq]; exact z3⟩
      unfold f25_5
      simp (disch := omega) only [gT, nbeq, Option.isSome_some, Option.getD_some, Bool.and_true, Bool.true_and, Bool.and_self, mX_some, bS, bN_if, bN_01, i1_01, i0_01, if_true, if_false, Bool.false_eq_true, false_and, and_false, and_true, true_and, and_self, Bool.or_false, Bool.false_or, Bool.or_true, Bool.true_or, Bool.false_and, Bool.and_false, decide_true, decide_false, L0, L1, L2, L3, L4, L5, L6, L7, L8, L9, L10, L11, L12, L13, L14, L15, L16, L17, L18, L19, L20, L21, L22, L23, L24, L25, L27, L33, L39, L40, L45, L48, L57, L60, L72, L90, L97, L98, L99, L100, L121, L122, L242, L255, L256, L580, L600, L1000, L1584, L1000000, Ln1, iN_add, iN_and, iN_or, iN_nd, iN_shl, iN_shr, iN_cl, iN_in, iN_mul, k2 w2, k52 w2, t2, t3, z2, z4, z5, ile_n, iN_in, iN_cl, b2, t24, b3, iN_sub, ile_p, si_ne, si_nk, si_eq]
    · have ev : vlN b s (i + 1) = 10 * vlN b s i + b (s + i) - 48 := by
        unfold vlN
        have : i = 0 ∨ i = 1 := by omega
        rcases this with rfl | rfl
        · simp
        · have b5 := isDg_t.1 (g3 s (by omega) (by omega))
          simp
          omega
      refine Or.inl ⟨mSI (mSI z 52 5 (iN (vlN b s (i + 1)))) 52 2 (iN (s + i + 1)), ?_, (z1.si rfl).si rfl, by simp only [si_ne, si_nk, si_eq]; rfl, by simp (disch := omega) only [si_ne, si_nk, si_eq], by simp (disch := omega) only [si_ne, si_nk, si_eq]; exact z4, by simp (disch := omega) only [si_ne, si_nk, si_eq]; exact z3⟩
      rw [ev]
      unfold f25_5 f25_85
      simp (disch := omega) only [gT, nbeq, Option.isSome_some, Option.getD_some, Bool.and_true, Bool.true_and, Bool.and_self, mX_some, bS, bN_if, bN_01, i1_01, i0_01, if_true, if_false, Bool.false_eq_true, false_and, and_false, and_true, true_and, and_self, Bool.or_false, Bool.false_or, Bool.or_true, Bool.true_or, Bool.false_and, Bool.and_false, decide_true, decide_false, L0, L1, L2, L3, L4, L5, L6, L7, L8, L9, L10, L11, L12, L13, L14, L15, L16, L17, L18, L19, L20, L21, L22, L23, L24, L25, L27, L33, L39, L40, L45, L48, L57, L60, L72, L90, L97, L98, L99, L100, L121, L122, L242, L255, L256, L580, L600, L1000, L1584, L1000000, Ln1, iN_add, iN_and, iN_or, iN_nd, iN_shl, iN_shr, iN_cl, iN_in, iN_mul, k2 w2, k52 w2, t2, t3, z2, z4, z5, ile_n, iN_in, iN_cl, b2, t24, b3, iN_sub, si_ne, si_nk, si_eq]) (fun z hP => by
    obtain ⟨z1, z2, z5, z4, z3⟩ := hP
    have T2 := T.fr z1 rfl z3
    obtain ⟨w2, t2, t3, t4, t5⟩ := id T2
    rw [show s + (tkD b len s - s) = tkD b len s by omega] at z2
    refine ⟨((), mSI z 52 3 (iN (if tkD b len s - s ≤ 2 then 2 else 4))), ?_, z1.si rfl, by simp (disch := omega) only [si_ne, si_nk, si_eq]; exact z2, by simp only [si_ne, si_nk, si_eq], by simp (disch := omega) only [si_ne, si_nk, si_eq]; exact z5, by simp (disch := omega) only [si_ne, si_nk, si_eq]; exact z4, by simp (disch := omega) only [si_ne, si_nk, si_eq]; exact z3⟩
    have fin : f25_88 z 52 = some ((), mSI z 52 3 (iN (if tkD b len s - s ≤ 2 then 2 else 4))) := by
      unfold f25_88
      simp (disch := omega) only [gT, nbeq, Option.isSome_some, Option.getD_some, Bool.and_true, Bool.true_and, Bool.and_self, mX_some, bS, bN_if, bN_01, i1_01, i0_01, if_true, if_false, Bool.false_eq_true, false_and, and_false, and_true, true_and, and_self, Bool.or_false, Bool.false_or, Bool.or_true, Bool.true_or, Bool.false_and, Bool.and_false, decide_true, decide_false, L0, L1, L2, L3, L4, L5, L6, L7, L8, L9, L10, L11, L12, L13, L14, L15, L16, L17, L18, L19, L20, L21, L22, L23, L24, L25, L27, L33, L39, L40, L45, L48, L57, L60, L72, L90, L97, L98, L99, L100, L121, L122, L242, L255, L256, L580, L600, L1000, L1584, L1000000, Ln1, iN_add, iN_and, iN_or, iN_nd, iN_shl, iN_shr, iN_cl, iN_in, iN_mul, k52 w2, z2, z4, iN_sub, ilt_d]
      by_cases e : tkD b len s - s ≤ 2
      · rw [if_neg (by omega), if_pos e]
      · rw [if_pos (by omega), if_neg e]
    unfold f25_5
    by_cases e : tkD b len s < len
    · obtain ⟨b1, b2⟩ := t5 _ e
      have b3 := g4 e
      simp (disch := omega) only [gT, nbeq, Option.isSome_some, Option.getD_some, Bool.and_true, Bool.true_and, Bool.and_self, mX_some, bS, bN_if, bN_01, i1_01, i0_01, if_true, if_false, Bool.false_eq_true, false_and, and_false, and_true, true_and, and_self, Bool.or_false, Bool.false_or, Bool.or_true, Bool.true_or, Bool.false_and, Bool.and_false, decide_true, decide_false, L0, L1, L2, L3, L4, L5, L6, L7, L8, L9, L10, L11, L12, L13, L14, L15, L16, L17, L18, L19, L20, L21, L22, L23, L24, L25, L27, L33, L39, L40, L45, L48, L57, L60, L72, L90, L97, L98, L99, L100, L121, L122, L242, L255, L256, L580, L600, L1000, L1584, L1000000, Ln1, iN_add, iN_and, iN_or, iN_nd, iN_shl, iN_shr, iN_cl, iN_in, iN_mul, k2 w2, k52 w2, t2, t3, z2, ile_n, iN_in, iN_cl, b2, t24, b3, fin]
    · simp (disch := omega) only [gT, nbeq, Option.isSome_some, Option.getD_some, Bool.and_true, Bool.true_and, Bool.and_self, mX_some, bS, bN_if, bN_01, i1_01, i0_01, if_true, if_false, Bool.false_eq_true, false_and, and_false, and_true, true_and, and_self, Bool.or_false, Bool.false_or, Bool.or_true, Bool.true_or, Bool.false_and, Bool.and_false, decide_true, decide_false, L0, L1, L2, L3, L4, L5, L6, L7, L8, L9, L10, L11, L12, L13, L14, L15, L16, L17, L18, L19, L20, L21, L22, L23, L24, L25, L27, L33, L39, L40, L45, L48, L57, L60, L72, L90, L97, L98, L99, L100, L121, L122, L242, L255, L256, L580, L600, L1000, L1584, L1000000, Ln1, iN_add, iN_and, iN_or, iN_nd, iN_shl, iN_shr, iN_cl, iN_in, iN_mul, k52 w2, t3, z2, ile_p, fin]) (by omega) (s := mSI h 52 5 (iN 0)) ⟨Fr.rfl.si rfl, by simp (disch := omega) only [si_ne, si_nk, si_eq]; exact h2, by simp only [si_ne, si_nk, si_eq]; rfl, by simp (disch := omega) only [si_ne, si_nk, si_eq]; exact h4, by simp (disch := omega) only [si_ne, si_nk, si_eq]⟩
  obtain ⟨⟨r, h'⟩, r1, r2⟩ := this
  exact ⟨h', r1, r2⟩
theorem t21 {p : Nat} (T : TpC h b len) (hp : p ≤ len) (h2 : mI h 52 2 = iN p) : ∃ h', f21 h 52 = some ((), h') ∧ Fr p52 h h' ∧ TpC h' b len ∧ SC h' b len p := by
  obtain ⟨g1, g2, g3, g4⟩ := tkS_ok (b := b) hp
  have hl := T.2.2.2.1
  unfold f21
  have := lp_inv (body := f21_0 52) (P := fun i z => Fr p52 h z ∧ mI z 52 2 = iN (p + i) ∧ mI z 52 1 = mI h 52 1) (Q := fun r => Fr p52 h r.2 ∧ TpC r.2 b len ∧ SC r.2 b len p) (tkS b len p - p) (fun i z hi hP => by
    obtain ⟨z1, z2, z3⟩ := hP
    have T2 := T.fr z1 rfl z3
    obtain ⟨w2, t2, t3, t4, t5⟩ := id T2
    obtain ⟨b1, b2⟩ := t5 (p + i) (by omega)
    have b3 := g3 (p + i) (by omega) (by omega)
    refine Or.inl ⟨mSI z 52 2 (iN (p + i + 1)), ?_, z1.si rfl, by simp only [si_ne, si_nk, si_eq]; rfl, by simp (disch := omega) only [si_ne, si_nk, si_eq]; exact z3⟩
    unfold f21_0 f21_39
    simp (disch := omega) only [gT, nbeq, Option.isSome_some, Option.getD_some, Bool.and_true, Bool.true_and, Bool.and_self, mX_some, bS, bN_if, bN_01, i1_01, i0_01, if_true, if_false, Bool.false_eq_true, false_and, and_false, and_true, true_and, and_self, Bool.or_false, Bool.false_or, Bool.or_true, Bool.true_or, Bool.false_and, Bool.and_false, decide_true, decide_false, L0, L1, L2, L3, L4, L5, L6, L7, L8, L9, L10, L11, L12, L13, L14, L15, L16, L17, L18, L19, L20, L21, L22, L23, L24, L25, L27, L33, L39, L40, L45, L48, L57, L60, L72, L90, L97, L98, L99, L100, L121, L122, L242, L255, L256, L580, L600, L1000, L1584, L1000000, Ln1, iN_add, iN_and, iN_or, iN_nd, iN_shl, iN_shr, iN_cl, iN_in, iN_mul, L32, k2 w2, k52 w2, t2, t3, z2, ile_n, iN_in, iN_cl, b2, ieq_d]
    unfold isBl at b3
    by_cases e : b (p + i) = 10
    · rw [if_pos e]
    · rw [if_neg e]
      have e2 : b (p + i) = 32 := by simpa [e] using b3
      rw [if_pos e2]) (fun z hP => by
    obtain ⟨z1, z2, z3⟩ := hP
    have T2 := T.fr z1 rfl z3
    rw [show p + (tkS b len p - p) = tkS b len p by omega] at z2
    have fin : ∃ h', f21_52 z 52 = some ((), h') ∧ Fr p52 h h' ∧ TpC h' b len ∧ SC h' b len p := by
      obtain ⟨w2, t2, t3, t4, t5⟩ := id T2
      have F0 : Fr p52 z (mSI z 52 4 (iN (tkS b len p))) := Fr.rfl.si rfl
      have T3 := T2.fr F0 rfl (by simp (disch := omega) only [si_ne, si_nk, si_eq])
      have w3 := T3.1
      have z4 : mI (mSI z 52 4 (iN (tkS b len p))) 52 2 = iN (tkS b len p) := by simp (disch := omega) only [si_ne, si_nk, si_eq]; exact z2
      unfold f21_52 f21_156
      simp (disch := omega) only [gT, nbeq, Option.isSome_some, Option.getD_some, Bool.and_true, Bool.true_and, Bool.and_self, mX_some, bS, bN_if, bN_01, i1_01, i0_01, if_true, if_false, Bool.false_eq_true, false_and, and_false, and_true, true_and, and_self, Bool.or_false, Bool.false_or, Bool.or_true, Bool.true_or, Bool.false_and, Bool.and_false, decide_true, decide_false, L0, L1, L2, L3, L4, L5, L6, L7, L8, L9, L10, L11, L12, L13, L14, L15, L16, L17, L18, L19, L20, L21, L22, L23, L24, L25, L27, L33, L39, L40, L45, L48, L57, L60, L72, L90, L97, L98, L99, L100, L121, L122, L242, L255, L256, L580, L600, L1000, L1584, L1000000, Ln1, iN_add, iN_and, iN_or, iN_nd, iN_shl, iN_shr, iN_cl, iN_in, iN_mul, L59, k2 w2, k52 w2, t2, t3, z2, si_ne, si_nk, si_eq]
      by_cases e : len ≤ tkS b len p
      · rw [ilt_n (by omega) (by omega) e]
        have F9 : Fr p52 h (mSI (mSI z 52 4 (iN (tkS b len p))) 52 3 (iN 0)) := (z1.tr F0).si rfl
        refine ⟨_, rfl, F9, T.fr F9 rfl (by simp (disch := omega) only [si_ne, si_nk, si_eq]; exact z3), ?_, ?_, ?_, fun hk => ?_⟩
        · unfold tkE; rw [if_pos e]; simp (disch := omega) only [si_ne, si_nk, si_eq]; exact z2
        · simp (disch := omega) only [si_ne, si_nk, si_eq]
        · unfold tkK; rw [if_pos e]; simp (disch := omega) only [si_ne, si_nk, si_eq]
        · unfold tkK at hk; rw [if_pos e] at hk; cases hk
      · rw [ilt_p (by omega) (by omega) (by omega)]
        obtain ⟨b1, b2⟩ := t5 (tkS b len p) (by omega)
        simp (disch := omega) only [gT, nbeq, Option.isSome_some, Option.getD_some, Bool.and_true, Bool.true_and, Bool.and_self, mX_some, bS, bN_if, bN_01, i1_01, i0_01, if_true, if_false, Bool.false_eq_true, false_and, and_false, and_true, true_and, and_self, Bool.or_false, Bool.false_or, Bool.or_true, Bool.true_or, Bool.false_and, Bool.and_false, decide_true, decide_false, iN_in, iN_cl, b2, t22, t24]
        cases eL : isLt (b (tkS b len p)) with
        | true =>
          obtain ⟨h5, c1, c2, c3, c4, c5⟩ := t23 T3 g2 z4
          simp only [gT, nbeq, Option.isSome_some, Option.getD_some, Bool.and_true, Bool.true_and, Bool.and_self, mX_some, bS, bN_if, bN_01, i1_01, i0_01, if_true, if_false, Bool.false_eq_true, false_and, and_false, and_true, true_and, and_self, Bool.or_false, Bool.false_or, Bool.or_true, Bool.true_or, Bool.false_and, Bool.and_false, decide_true, decide_false, c1]
          have F9 := (z1.tr F0).tr c2
          refine ⟨h5, rfl, F9, T.fr F9 rfl ?_, ?_, ?_, ?_, fun hk => ?_⟩
          · rw [c5 1 (by decide) (by decide)]; simp (disch := omega) only [si_ne, si_nk, si_eq]; exact z3
          · unfold tkE; rw [if_neg e, if_pos eL]; exact c3
          · rw [c5 4 (by decide) (by decide)]; simp (disch := omega) only [si_ne, si_nk, si_eq]
          · unfold tkK; rw [if_neg e, if_pos eL]; exact c4
          · unfold tkK at hk; rw [if_neg e, if_pos eL] at hk; cases hk
        | false =>
          simp only [gT, nbeq, Option.isSome_some, Option.getD_some, Bool.and_true, Bool.true_and, Bool.and_self, mX_some, bS, bN_if, bN_01, i1_01, i0_01, if_true, if_false, Bool.false_eq_true, false_and, and_false, and_true, true_and, and_self, Bool.or_false, Bool.false_or, Bool.or_true, Bool.true_or, Bool.false_and, Bool.and_false, decide_true, decide_false]
          have eL2 : ¬ isLt (b (tkS b len p)) = true := by rw [eL]; decide
          cases eD : isDg (b (tkS b len p)) with
          | true =>
            obtain ⟨h5, c1, c2, c3, c4, c5, c6, c7⟩ := t25 T3 g2 z4 (by simp only [si_ne, si_nk, si_eq])
            simp only [gT, nbeq, Option.isSome_some, Option.getD_some, Bool.and_true, Bool.true_and, Bool.and_self, mX_some, bS, bN_if, bN_01, i1_01, i0_01, if_true, if_false, Bool.false_eq_true, false_and, and_false, and_true, true_and, and_self, Bool.or_false, Bool.false_or, Bool.or_true, Bool.true_or, Bool.false_and, Bool.and_false, decide_true, decide_false, c1]
            have F9 := (z1.tr F0).tr c2
            refine ⟨h5, rfl, F9, T.fr F9 rfl ?_, ?_, ?_, ?_, fun hk => ?_⟩
            · rw [c7]; simp (disch := omega) only [si_ne, si_nk, si_eq]; exact z3
            · unfold tkE; rw [if_neg e, if_neg eL2, if_pos eD]; exact c3
            · exact c6
            · unfold tkK; rw [if_neg e, if_neg eL2, if_pos eD]; exact c4
            · have eE : tkE b len p = tkD b len (tkS b len p) := by unfold tkE; rw [if_neg e, if_neg eL2, if_pos eD]
              unfold tkV
              rw [eE]; exact c5
          | false =>
            have eD2 : ¬ isDg (b (tkS b len p)) = true := by rw [eD]; decide
            simp (disch := omega) only [gT, nbeq, Option.isSome_some, Option.getD_some, Bool.and_true, Bool.true_and, Bool.and_self, mX_some, bS, bN_if, bN_01, i1_01, i0_01, if_true, if_false, Bool.false_eq_true, false_and, and_false, and_true, true_and, and_self, Bool.or_false, Bool.false_or, Bool.or_true, Bool.true_or, Bool.false_and, Bool.and_false, decide_true, decide_false, ieq_d]
            have F9 : ∀ v, Fr p52 h (mSI (mSI (mSI z 52 4 (iN (tkS b len p))) 52 3 v) 52 2 (iN (tkS b len p + 1))) := fun v => ((z1.tr F0).si rfl).si rfl
            by_cases e9 : b (tkS b len p) = 59
            · rw [if_pos e9]
              refine ⟨_, rfl, F9 _, T.fr (F9 _) rfl (by simp (disch := omega) only [si_ne, si_nk, si_eq]; exact z3), ?_, ?_, ?_, fun hk => ?_⟩
              · unfold tkE; rw [if_neg e, if_neg eL2, if_neg eD2]; simp (disch := omega) only [si_ne, si_nk, si_eq]
              · simp (disch := omega) only [si_ne, si_nk, si_eq]
              · unfold tkK; rw [if_neg e, if_neg eL2, if_neg eD2, if_pos e9]; simp (disch := omega) only [si_ne, si_nk, si_eq]
              · unfold tkK at hk; rw [if_neg e, if_neg eL2, if_neg eD2, if_pos e9] at hk; cases hk
            · rw [if_neg e9]
              refine ⟨_, rfl, F9 _, T.fr (F9 _) rfl (by simp (disch := omega) only [si_ne, si_nk, si_eq]; exact z3), ?_, ?_, ?_, fun hk => ?_⟩
              · unfold tkE; rw [if_neg e, if_neg eL2, if_neg eD2]; simp (disch := omega) only [si_ne, si_nk, si_eq]
              · simp (disch := omega) only [si_ne, si_nk, si_eq]
              · unfold tkK; rw [if_neg e, if_neg eL2, if_neg eD2, if_neg e9]; simp (disch := omega) only [si_ne, si_nk, si_eq]
              · unfold tkK at hk; rw [if_neg e, if_neg eL2, if_neg eD2, if_neg e9] at hk; cases hk
    obtain ⟨h', f1, f2, f3, f4⟩ := fin
    obtain ⟨w2, t2, t3, t4, t5⟩ := id T2
    refine ⟨((), h'), ?_, f2, f3, f4⟩
    unfold f21_0
    by_cases e : tkS b len p < len
    · obtain ⟨b1, b2⟩ := t5 _ e
      have b3 := g4 e
      unfold isBl at b3
      rw [Bool.or_eq_false_iff] at b3
      have e1 : ¬ b (tkS b len p) = 10 := of_decide_eq_false b3.1
      have e2 : ¬ b (tkS b len p) = 32 := of_decide_eq_false b3.2
      simp (disch := omega) only [gT, nbeq, Option.isSome_some, Option.getD_some, Bool.and_true, Bool.true_and, Bool.and_self, mX_some, bS, bN_if, bN_01, i1_01, i0_01, if_true, if_false, Bool.false_eq_true, false_and, and_false, and_true, true_and, and_self, Bool.or_false, Bool.false_or, Bool.or_true, Bool.true_or, Bool.false_and, Bool.and_false, decide_true, decide_false, L0, L1, L2, L3, L4, L5, L6, L7, L8, L9, L10, L11, L12, L13, L14, L15, L16, L17, L18, L19, L20, L21, L22, L23, L24, L25, L27, L33, L39, L40, L45, L48, L57, L60, L72, L90, L97, L98, L99, L100, L121, L122, L242, L255, L256, L580, L600, L1000, L1584, L1000000, Ln1, iN_add, iN_and, iN_or, iN_nd, iN_shl, iN_shr, iN_cl, iN_in, iN_mul, L32, k2 w2, k52 w2, t2, t3, z2, ile_n, iN_in, iN_cl, b2, ieq_n, f1]
    · simp (disch := omega) only [gT, nbeq, Option.isSome_some, Option.getD_some, Bool.and_true, Bool.true_and, Bool.and_self, mX_some, bS, bN_if, bN_01, i1_01, i0_01, if_true, if_false, Bool.false_eq_true, false_and, and_false, and_true, true_and, and_self, Bool.or_false, Bool.false_or, Bool.or_true, Bool.true_or, Bool.false_and, Bool.and_false, decide_true, decide_false, L0, L1, L2, L3, L4, L5, L6, L7, L8, L9, L10, L11, L12, L13, L14, L15, L16, L17, L18, L19, L20, L21, L22, L23, L24, L25, L27, L33, L39, L40, L45, L48, L57, L60, L72, L90, L97, L98, L99, L100, L121, L122, L242, L255, L256, L580, L600, L1000, L1584, L1000000, Ln1, iN_add, iN_and, iN_or, iN_nd, iN_shl, iN_shr, iN_cl, iN_in, iN_mul, k52 w2, t3, z2, ile_p, f1]) (by omega) (s := h) ⟨Fr.rfl, h2, rfl⟩
  obtain ⟨⟨r, h'⟩, r1, r2⟩ := this
  exact ⟨h', r1, r2⟩
end SCN
