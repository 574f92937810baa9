/-! A STATE of a YEAR; the class's Life. -/
/-- likes, known, day, read, skipped, left, cold, forgot -/
abbrev LSt : Type := (Nat → Nat) × (Nat → Option Nat) × Nat × Nat × Nat × Nat × Bool × Nat
def sLk (s : LSt) : Nat → Nat := s.1
def sKn (s : LSt) : Nat → Option Nat := s.2.1
def sDy (s : LSt) : Nat := s.2.2.1
def sRd (s : LSt) : Nat := s.2.2.2.1
def sSk (s : LSt) : Nat := s.2.2.2.2.1
def sLf (s : LSt) : Nat := s.2.2.2.2.2.1
def sCd (s : LSt) : Bool := s.2.2.2.2.2.2.1
def sFg (s : LSt) : Nat := s.2.2.2.2.2.2.2
def ud {α : Type} (f : Nat → α) (k : Nat) (v : α) : Nat → α := fun j => if j = k then v else f j
theorem ud_eq {α : Type} (f : Nat → α) (k : Nat) (v : α) : ud f k v k = v := if_pos rfl
theorem ud_ne {α : Type} (f : Nat → α) {k j : Nat} (v : α) (h : j ≠ k) : ud f k v j = f j := if_neg h
/-- a set by its members -/
def ups (P : Nat → Bool) (n : Nat) : Nat := up (fun c x => if P c = true then x ||| 1 <<< c else x) n 0
theorem ups_tb (P : Nat → Bool) (n j : Nat) : (ups P n).testBit j = (decide (j < n) && P j) := by
  unfold ups
  induction n with
  | zero => simp [up]
  | succ n ih =>
    simp only [up]
    cases hp : P n with
    | true =>
      simp only [if_true]
      rw [Nat.testBit_or, ih, tb_sh]
      by_cases e : n = j
      · subst e; simp [hp]
      · by_cases h : j < n
        · simp [h, e, show j < n + 1 by omega]
        · simp [h, e, show ¬ j < n + 1 by omega]
    | false =>
      simp only [Bool.false_eq_true, if_false]
      rw [ih]
      by_cases e : n = j
      · subst e; simp [hp]
      · by_cases h : j < n
        · simp [h, show j < n + 1 by omega]
        · simp [h, show ¬ j < n + 1 by omega]
theorem ups_lt (P : Nat → Bool) (n : Nat) : ups P n < 2 ^ n :=
  up_inv (I := fun _ x => x < 2 ^ n) (n := n) (fun k x hk hx => by
    split
    · exact or_lt hx (sh1_lt hk)
    · exact hx) (by exact Nat.two_pow_pos n) n (Nat.le_refl n)
theorem opn_ups (q : LQ) (d : Nat) : opn q d = ups (mayB q d) (q 0 0) := rfl
/-- he could read it now -/
def cR (q : LQ) (s : LSt) (c : Nat) : Bool := mayB q (sRd s ||| sSk s) c && decide (q 1 c ≤ sLf s) && decide (0 < sLk s (q 2 c)) && !sCd s
/-- the class's Life at the cell a, in the library at the cell la -/
def LfS (h : mH) (a la : Nat) : Prop := mK h a = (7, 15) ∧ mR h a 0 = some (a + 1) ∧ mR h a 2 = some (a + 2) ∧ mR h a 3 = some la ∧ mK h (a + 1) = (100, 6) ∧ mK h (a + 2) = (100, 48)
theorem LfS.k {h : mH} {a la : Nat} (H : LfS h a la) : mK h a = (7, 15) := H.1
theorem LfS.r0 {h : mH} {a la : Nat} (H : LfS h a la) : mR h a 0 = some (a + 1) := H.2.1
theorem LfS.r2 {h : mH} {a la : Nat} (H : LfS h a la) : mR h a 2 = some (a + 2) := H.2.2.1
theorem LfS.r3 {h : mH} {a la : Nat} (H : LfS h a la) : mR h a 3 = some la := H.2.2.2.1
theorem LfS.k1 {h : mH} {a la : Nat} (H : LfS h a la) : mK h (a + 1) = (100, 6) := H.2.2.2.2.1
theorem LfS.k2 {h : mH} {a la : Nat} (H : LfS h a la) : mK h (a + 2) = (100, 48) := H.2.2.2.2.2
/-- Life at the cell a, in whatever library -/
def Lf0 (h : mH) (a : Nat) : Prop := mK h a = (7, 15) ∧ mR h a 0 = some (a + 1) ∧ mR h a 2 = some (a + 2) ∧ mK h (a + 1) = (100, 6) ∧ mK h (a + 2) = (100, 48)
theorem Lf0.k {h : mH} {a : Nat} (H : Lf0 h a) : mK h a = (7, 15) := H.1
theorem Lf0.r0 {h : mH} {a : Nat} (H : Lf0 h a) : mR h a 0 = some (a + 1) := H.2.1
theorem Lf0.r2 {h : mH} {a : Nat} (H : Lf0 h a) : mR h a 2 = some (a + 2) := H.2.2.1
theorem Lf0.k1 {h : mH} {a : Nat} (H : Lf0 h a) : mK h (a + 1) = (100, 6) := H.2.2.2.1
theorem Lf0.k2 {h : mH} {a : Nat} (H : Lf0 h a) : mK h (a + 2) = (100, 48) := H.2.2.2.2
def pL (a b : Nat) : Bool := Nat.beq b a || Nat.beq b (a + 1) || Nat.beq b (a + 2)
theorem pL0 (a : Nat) : pL a a = true := by simp [pL]
theorem pL1 (a : Nat) : pL a (a + 1) = true := by simp [pL]
theorem pL2 (a : Nat) : pL a (a + 2) = true := by simp [pL]
theorem pL_n {a b : Nat} (h : b ≠ a) (h1 : b ≠ a + 1) (h2 : b ≠ a + 2) : pL a b = false := by
  unfold pL
  rw [Bool.or_eq_false_iff, Bool.or_eq_false_iff]
  refine ⟨⟨?_, ?_⟩, ?_⟩
  · cases e : Nat.beq b a with
    | false => rfl
    | true => exact absurd (Nat.eq_of_beq_eq_true e) h
  · cases e : Nat.beq b (a + 1) with
    | false => rfl
    | true => exact absurd (Nat.eq_of_beq_eq_true e) h1
  · cases e : Nat.beq b (a + 2) with
    | false => rfl
    | true => exact absurd (Nat.eq_of_beq_eq_true e) h2
theorem LfS.fr {P : Nat → Bool} {h h' : mH} {a la : Nat} (H : LfS h a la) (x : Fr P h h') : LfS h' a la := ⟨(x.k _).trans H.1, (x.r _ _).trans H.2.1, (x.r _ _).trans H.2.2.1, (x.r _ _).trans H.2.2.2.1, (x.k _).trans H.2.2.2.2.1, (x.k _).trans H.2.2.2.2.2⟩
theorem LibS.fr {P : Nat → Bool} {h h' : mH} {a : Nat} {q : LQ} (H : LibS h a q) (x : Fr P h h') (p : ∀ i, i < 7 → P (a + i) = false) : LibS h' a q := H.st (fun i hi => ⟨x.k _, fun j _ => x.r _ j, fun j => x.i (p i hi) j⟩)
theorem LibS.fl {h h' : mH} {a la : Nat} {q : LQ} (H : LibS h la q) (x : Fr (pL a) h h') (p : la + 7 ≤ a) : LibS h' la q := H.fr x (fun i hi => pL_n (by omega) (by omega) (by omega))
def CLS (h : mH) (a : Nat) (s : LSt) : Prop := (∀ t, t < 6 → mI h (a + 1) t = iN (sLk s t)) ∧ (∀ k, k < 48 → mI h (a + 2) k = zN (sKn s k)) ∧ mI h a 4 = iN (sDy s) ∧ mI h a 1 = iN (sRd s) ∧ mI h a 5 = iN (sSk s) ∧ mI h a 6 = iN (sLf s) ∧ mI h a 7 = bN (sCd s) ∧ mI h a 9 = iN (sFg s)
/-- a STATE that can be -/
def SW (q : LQ) (s : LSt) : Prop := (∀ t, t < 6 → sLk s t ≤ 9) ∧ (∀ k, k < 48 → ∀ v, sKn s k = some v → v + 1 ≤ q 5 (k / 8) ∧ k / 8 < q 0 1) ∧ sRd s < 2 ^ q 0 0 ∧ sSk s < 2 ^ q 0 0 ∧ sLf s ≤ 12
/-! begin -/
theorem t4 {h : mH} {b n v : Nat} {x : Int32} (hb : mK h b = (100, n)) (hn : n < 1000) (_ : v = v) : ∃ h', f4 h b x = some ((), h') ∧ Fr (fun y => Nat.beq y b) h h' ∧ ∀ k, k < n → mI h' b k = x := by
  unfold f4
  simp only [gT, nbeq, Option.isSome_some, Option.getD_some, Bool.and_true, Bool.true_and, Bool.and_self, mX_some, bS, bN_if, bN_01, i1_01, i0_01, if_true, if_false, Bool.false_eq_true, false_and, and_false, and_true, true_and, and_self, Bool.or_false, Bool.false_or, Bool.or_true, Bool.true_or, Bool.false_and, Bool.and_false, decide_true, decide_false, hb]
  have := lp_inv (body := f4_5 b x (Int32.ofNat n)) (P := fun i s => s.1 = iN i ∧ Fr (fun y => Nat.beq y b) h s.2 ∧ ∀ k, k < i → mI s.2 b k = x) (Q := fun r => Fr (fun y => Nat.beq y b) h r.2 ∧ ∀ k, k < n → mI r.2 b k = x) n (fun i s hi hP => by
    obtain ⟨h1, h2, h3⟩ := hP
    refine Or.inl ⟨(iN (i + 1), mSI s.2 b i x), ?_, rfl, h2.si (nbeq b), fun k hk => ?_⟩
    · unfold f4_5
      rw [h1, show Int32.ofNat n = iN n from rfl]
      have hk : mK s.2 b = (100, n) := (h2.k b).trans hb
      simp (disch := omega) only [gT, nbeq, Option.isSome_some, Option.getD_some, Bool.and_true, Bool.true_and, Bool.and_self, mX_some, bS, bN_if, bN_01, i1_01, i0_01, if_true, if_false, Bool.false_eq_true, false_and, and_false, and_true, true_and, and_self, Bool.or_false, Bool.false_or, Bool.or_true, Bool.true_or, Bool.false_and, Bool.and_false, decide_true, decide_false, L0, L1, L2, L3, L4, L5, L6, L7, L8, L9, L10, L11, L12, L13, L14, L15, L16, L17, L18, L19, L20, L21, L22, L23, L24, L25, L27, L33, L39, L40, L45, L48, L57, L60, L72, L90, L97, L98, L99, L100, L121, L122, L242, L255, L256, L580, L600, L1000, L1584, L1000000, Ln1, iN_add, iN_and, iN_or, iN_nd, iN_shl, iN_shr, iN_cl, iN_in, iN_mul, ile_p, ile_n, ilt_p, ilt_n, ieq_p, ieq_n, ij_n, jj_p, ijle, jile, ijlt, jilt, hk]
    · by_cases e : k = i
      · subst e; exact si_eq _ _ _ _
      · show mI (mSI s.2 b i x) b k = x
        rw [si_nk _ _ _ _ _ _ e]; exact h3 k (by omega)) (fun s hP => by
    obtain ⟨h1, h2, h3⟩ := hP
    refine ⟨((), s.2), ?_, h2, h3⟩
    unfold f4_5
    rw [h1, show Int32.ofNat n = iN n from rfl, if_pos ((iN_le (by omega) (by omega)).2 (Nat.le_refl n))]
    rfl) (by omega) (s := (0, h)) ⟨rfl, Fr.rfl, fun k hk => by omega⟩
  obtain ⟨⟨u, h'⟩, h1, h2, h3⟩ := this
  exact ⟨h', h1, h2, h3⟩
/-- a YEAR's first STATE -/
def s0 (q : LQ) : LSt := (q 4, fun _ => none, 0, 0, 0, q 0 2, false, 0)
theorem SW0 {q : LQ} (W : QW q) : SW q (s0 q) := ⟨fun t ht => W.2.2.2.2.2.1 t ht, fun k _ v h => (by cases h), Nat.two_pow_pos _, Nat.two_pow_pos _, W.1.2.2.2⟩
/-- what begin leaves: the library changed, else cells of Life alone -/
def FB (a la : Nat) (h h' : mH) : Prop := h'.1 = h.1 ∧ (∀ b j, ¬ (b = a ∧ j = 3) → mR h' b j = mR h b j) ∧ mR h' a 3 = some la ∧ ∀ b, pL a b = false → ∀ j, mI h' b j = mI h b j
theorem t63 {h : mH} {a la : Nat} {q : LQ} (L : Lf0 h a) (H : LibS h la q) (p : la + 7 ≤ a) : ∃ h', f63 h a la = some ((), h') ∧ FB a la h h' ∧ CLS h' a (s0 q) ∧ mI h' a 8 = iN 0 ∧ mI h' a 10 = jN ∧ mI h' a 11 = iN 0 ∧ mI h' a 12 = jN ∧ mI h' a 13 = iN 0 := by
  unfold f63 f63_20
  have e0 : mR (mSR h a 3 (some la)) la 3 = some (la + 4) := by rw [mR_SR, if_neg (by omega)]; exact H.r3
  have e1 : mR (mSR h a 3 (some la)) a 0 = some (a + 1) := by rw [mR_SR, if_neg (by omega)]; exact L.r0
  have z6 : Int32.toNatClampNeg 6 = 6 := by decide
  have z0 : Int32.toNatClampNeg 0 = 0 := by decide
  have d0 : decide (¬ (0 : Int32) < 0) = true := by decide
  have d6 : decide (¬ (6 : Int32) < 0) = true := by decide
  simp only [gT, nbeq, Option.isSome_some, Option.getD_some, Bool.and_true, Bool.true_and, Bool.and_self, mX_some, bS, bN_if, bN_01, i1_01, i0_01, if_true, if_false, Bool.false_eq_true, false_and, and_false, and_true, true_and, and_self, Bool.or_false, Bool.false_or, Bool.or_true, Bool.true_or, Bool.false_and, Bool.and_false, decide_true, decide_false, e0, e1, z6, z0, d0, d6, H.k, H.k4, L.k, L.k1, show Nat.ble (0 + 6) 6 = true from rfl, mR_Cp, mK_Cp, mK_SR]
  have e2 : mR (mSR h a 3 (some la)) a 2 = some (a + 2) := by rw [mR_SR, if_neg (by omega)]; exact L.r2
  simp only [gT, nbeq, Option.isSome_some, Option.getD_some, Bool.and_true, Bool.true_and, Bool.and_self, mX_some, bS, bN_if, bN_01, i1_01, i0_01, if_true, if_false, Bool.false_eq_true, false_and, and_false, and_true, true_and, and_self, Bool.or_false, Bool.false_or, Bool.or_true, Bool.true_or, Bool.false_and, Bool.and_false, decide_true, decide_false, e2]
  obtain ⟨h2, f1, f2, f3⟩ := t4 (h := mCp (mSR h a 3 (some la)) (la + 4) 0 (a + 1) 0 6) (b := a + 2) (n := 48) (v := 0) (x := jN) (by rw [mK_Cp, mK_SR]; exact L.k2) (by omega) rfl
  have k1 : mK h2 a = (7, 15) := by rw [f2.k, mK_Cp, mK_SR]; exact L.k
  have k2 : mK h2 la = (2, 9) := by rw [f2.k, mK_Cp, mK_SR]; exact H.k
  have il : ∀ b, b ≠ a + 2 → ∀ j, mI h2 b j = mI (mCp (mSR h a 3 (some la)) (la + 4) 0 (a + 1) 0 6) b j := fun b hb j => f2.i (by cases e : Nat.beq b (a + 2) with
    | false => rfl
    | true => exact absurd (Nat.eq_of_beq_eq_true e) hb) j
  unfold f63_71
  simp only [gT, nbeq, Option.isSome_some, Option.getD_some, Bool.and_true, Bool.true_and, Bool.and_self, mX_some, bS, bN_if, bN_01, i1_01, i0_01, if_true, if_false, Bool.false_eq_true, false_and, and_false, and_true, true_and, and_self, Bool.or_false, Bool.false_or, Bool.or_true, Bool.true_or, Bool.false_and, Bool.and_false, decide_true, decide_false, f1, k1, k2, mK_SI, show mIs01 (0 : Int32) = true from rfl, L0, L1, L2, L3, L4, L5, L6, L7, L8, L9, L10, L11, L12, L13, L14, L15, L16, L17, L18, L19, L20, L21, L22, L23, L24, L25, L27, L33, L39, L40, L45, L48, L57, L60, L72, L90, L97, L98, L99, L100, L121, L122, L242, L255, L256, L580, L600, L1000, L1584, L1000000, Ln1, iN_add, iN_and, iN_or, iN_nd, iN_shl, iN_shr, iN_cl, iN_in, iN_mul]
  refine ⟨_, rfl, ⟨?_, ?_, ?_, ?_⟩, ⟨?_, ?_, ?_, ?_, ?_, ?_, ?_, ?_⟩, ?_, ?_, ?_, ?_, ?_⟩
  · show h2.1 = h.1
    exact f2.1
  · intro b j hb
    show mR h2 b j = mR h b j
    rw [f2.r, mR_Cp, mR_SR, if_neg hb]
  · show mR h2 a 3 = some la
    rw [f2.r, mR_Cp, mR_SR, if_pos ⟨rfl, rfl⟩]
  · intro b hb j
    have n0 : b ≠ a := fun e => by rw [e, pL0] at hb; cases hb
    have n1 : b ≠ a + 1 := fun e => by rw [e, pL1] at hb; cases hb
    have n2 : b ≠ a + 2 := fun e => by rw [e, pL2] at hb; cases hb
    simp (disch := omega) only [si_ne, si_nk, si_eq]
    rw [il b n2, mI_Cp, if_neg (by omega), mI_SR]
  · intro t ht
    simp (disch := omega) only [si_ne, si_nk, si_eq]
    rw [il _ (by omega), mI_Cp, if_pos (by omega), mI_SR, Nat.zero_add, Nat.sub_zero, H.lk ht]; rfl
  · intro k hk
    simp (disch := omega) only [si_ne, si_nk, si_eq]
    rw [f3 k hk]; rfl
  all_goals (simp (disch := omega) only [si_ne, si_nk, si_eq])
  all_goals try rfl
  rw [il la (by omega), mI_Cp, if_neg (by omega), mI_SR, H.lp]; rfl
