/-! ladder: the class's -/
def lgo (q : LQ) (V : Nat → Nat) (c : Nat) : Nat → Nat → Nat := fun k a => if (q 3 (c + 1 + k)).testBit c = true then max a (V (c + 1 + k) + 1) else a
def lin (q : LQ) (V : Nat → Nat) (c : Nat) : Nat := up (lgo q V c) (q 0 0 - (c + 1)) 1
def lst (q : LQ) (c : Nat) (x : Nat × (Nat → Nat)) : Nat × (Nat → Nat) := (max x.1 (lin q x.2 c), ud x.2 c (lin q x.2 c))
theorem lin_congr {q : LQ} {V V' : Nat → Nat} {c : Nat} (h : ∀ j, c < j → V j = V' j) : lin q V c = lin q V' c := by
  have e : lgo q V c = lgo q V' c := by
    funext k a
    unfold lgo
    rw [h (c + 1 + k) (by omega)]
  unfold lin
  rw [e]
theorem lin_b {q : LQ} {V : Nat → Nat} {c : Nat} (hc : c < q 0 0) (h : ∀ j, c < j → j < q 0 0 → V j + j ≤ q 0 0) : ∀ k, k ≤ q 0 0 - (c + 1) → 1 ≤ up (lgo q V c) k 1 ∧ up (lgo q V c) k 1 + c ≤ q 0 0 :=
  up_inv (f := lgo q V c) (I := fun _ a => 1 ≤ a ∧ a + c ≤ q 0 0) (n := q 0 0 - (c + 1)) (fun k a hk ha => by
    have := h (c + 1 + k) (by omega) (by omega)
    unfold lgo
    split
    · omega
    · exact ha) (by omega)
theorem lin_ex (q : LQ) (V : Nat → Nat) (c : Nat) : lin q V c = 1 ∨ ∃ o, c < o ∧ o < q 0 0 ∧ (q 3 o).testBit c = true ∧ V o + 1 = lin q V c := by
  unfold lin
  exact up_inv (f := lgo q V c) (I := fun _ a => a = 1 ∨ ∃ o, c < o ∧ o < q 0 0 ∧ (q 3 o).testBit c = true ∧ V o + 1 = a) (n := q 0 0 - (c + 1)) (fun k a hk ha => by
    unfold lgo
    split
    next hb =>
      by_cases e : V (c + 1 + k) + 1 ≤ a
      · rw [Nat.max_eq_left e]; exact ha
      · rw [Nat.max_eq_right (by omega)]
        exact Or.inr ⟨c + 1 + k, by omega, by omega, hb, rfl⟩
    next => exact ha) (Or.inl rfl) _ (Nat.le_refl _)
section LD
variable {q : LQ} {X : Nat → Nat × (Nat → Nat)} {Y : Nat → Option Nat}
theorem lad_ok (X0 : X 0 = (0, fun _ => 0)) (Xs : ∀ i, X (i + 1) = lst q (q 0 0 - (i + 1)) (X i)) : ∀ i, i ≤ q 0 0 → (∀ c, q 0 0 - i ≤ c → c < q 0 0 → (X i).2 c = lin q (X i).2 c ∧ (X i).2 c ≤ (X i).1 ∧ 1 ≤ (X i).2 c ∧ (X i).2 c + c ≤ q 0 0) ∧ ((i = 0 ∧ (X i).1 = 0) ∨ ∃ c, q 0 0 - i ≤ c ∧ c < q 0 0 ∧ (X i).2 c = (X i).1) := by
  intro i
  induction i with
  | zero => intro _; rw [X0]; exact ⟨fun c h1 h2 => by omega, Or.inl ⟨rfl, rfl⟩⟩
  | succ i ih =>
    intro hi
    obtain ⟨i1, i2⟩ := ih (by omega)
    rw [Xs i]
    generalize X i = x at i1 i2
    obtain ⟨M, V⟩ := x
    obtain ⟨c0, hc0⟩ : ∃ c0, q 0 0 - (i + 1) = c0 := ⟨_, rfl⟩
    rw [hc0]
    have hb := lin_b (q := q) (V := V) (c := c0) (by omega) (fun j h1 h2 => (i1 j (by omega) h2).2.2.2) _ (Nat.le_refl _)
    change 1 ≤ lin q V c0 ∧ lin q V c0 + c0 ≤ q 0 0 at hb
    have i1' : ∀ c, c0 < c → c < q 0 0 → V c = lin q V c ∧ V c ≤ M ∧ 1 ≤ V c ∧ V c + c ≤ q 0 0 := fun c h1 h2 => i1 c (by omega) h2
    have i2' : (i = 0 ∧ M = 0) ∨ ∃ c, c0 < c ∧ c < q 0 0 ∧ V c = M := by
      rcases i2 with i2 | ⟨c, h1, h2, h3⟩
      · exact Or.inl i2
      · exact Or.inr ⟨c, by omega, h2, h3⟩
    show (∀ c, c0 ≤ c → c < q 0 0 → ud V c0 (lin q V c0) c = lin q (ud V c0 (lin q V c0)) c ∧ ud V c0 (lin q V c0) c ≤ max M (lin q V c0) ∧ 1 ≤ ud V c0 (lin q V c0) c ∧ ud V c0 (lin q V c0) c + c ≤ q 0 0) ∧ ((i + 1 = 0 ∧ max M (lin q V c0) = 0) ∨ ∃ c, c0 ≤ c ∧ c < q 0 0 ∧ ud V c0 (lin q V c0) c = max M (lin q V c0))
    refine ⟨fun c h1 h2 => ?_, ?_⟩
    · by_cases e : c = c0
      · subst e
        rw [ud_eq, lin_congr (V := ud V c (lin q V c)) (V' := V) (fun j hj => ud_ne _ _ (by omega))]
        exact ⟨rfl, Nat.le_max_right _ _, hb.1, hb.2⟩
      · rw [ud_ne _ _ e, lin_congr (V := ud V c0 (lin q V c0)) (V' := V) (fun j hj => ud_ne _ _ (by omega))]
        obtain ⟨k1, k2, k3, k4⟩ := i1' c (by omega) h2
        exact ⟨k1, by omega, k3, k4⟩
    · right
      by_cases e : lin q V c0 ≤ M
      · rcases i2' with ⟨h1, h2⟩ | ⟨c, h1, h2, h3⟩
        · omega
        · refine ⟨c, by omega, h2, ?_⟩
          rw [ud_ne _ _ (by omega), h3, Nat.max_eq_left e]
      · refine ⟨c0, by omega, by omega, ?_⟩
        rw [ud_eq, Nat.max_eq_right (by omega)]
end LD
def lok (q : LQ) (V : Nat → Nat) (M i : Nat) (t : Option Nat) (c : Nat) : Bool := decide (V c = M - i) && (match t with
  | none => true
  | some a => (q 3 c).testBit a)
theorem fz_first {Z : Nat → Bool} {c : Nat} (hz : Z c = true) : ∀ n k, k ≤ c → c < k + n → (∀ j, k ≤ j → j < c → Z j = false) → fz Z n k = some c := by
  intro n
  induction n with
  | zero => intro k h1 h2; omega
  | succ n ih =>
    intro k h1 h2 h3
    show (if Z k = true then some k else fz Z n (k + 1)) = _
    by_cases e : k = c
    · rw [e, if_pos hz]
    · rw [h3 k (by omega) (by omega)]
      exact ih (k + 1) (by omega) (by omega) (fun j h4 h5 => h3 j (by omega) h5)
theorem fz_ok {Z : Nat → Bool} {c : Nat} : ∀ n k, fz Z n k = some c → Z c = true := by
  intro n
  induction n with
  | zero => intro k h; cases h
  | succ n ih =>
    intro k h
    change (if Z k = true then some k else fz Z n (k + 1)) = some c at h
    by_cases e : Z k = true
    · rw [if_pos e] at h
      have : k = c := Option.some.inj h
      rw [← this]; exact e
    · rw [if_neg e] at h
      exact ih _ h
/-- a ladder's steps: V how long one may go from c on, M the longest -/
def lad (q : LQ) (V : Nat → Nat) (M : Nat) (Y : Nat → Option Nat) : Prop := (∀ c, c < q 0 0 → V c = lin q V c ∧ V c ≤ M ∧ 1 ≤ V c ∧ V c + c ≤ q 0 0) ∧ (M = 0 ∨ ∃ c, c < q 0 0 ∧ V c = M) ∧ M ≤ q 0 0 ∧ Y 0 = none ∧ ∀ i, Y (i + 1) = fz (lok q V M i (Y i)) (q 0 0) 0
theorem lad_ne {q : LQ} {V : Nat → Nat} {M : Nat} {Y : Nat → Option Nat} (A : lad q V M Y) {a : Nat} (ha : a < M) (hj : ∀ j, j < a → ∃ x, x < q 0 0 ∧ Y (j + 1) = some x) (hn : ∀ c, c < q 0 0 → lok q V M a (Y a) c = false) : False := by
  obtain ⟨a1, a2, a3, a4, a5⟩ := A
  cases a with
  | zero =>
    rcases a2 with a2 | ⟨c, hc, e⟩
    · omega
    · have := hn c hc
      rw [a4] at this
      unfold lok at this
      rw [decide_eq_true (by omega)] at this
      cases this
  | succ a =>
    obtain ⟨x, hx, e⟩ := hj a (by omega)
    have e1 := a5 a
    rw [e] at e1
    have e2 := fz_ok _ _ e1.symm
    unfold lok at e2
    rw [Bool.and_eq_true, decide_eq_true_eq] at e2
    obtain ⟨b1, _⟩ := a1 x hx
    rcases lin_ex q V x with h1 | ⟨o, h1, h2, h3, h4⟩
    · omega
    · have := hn o h2
      rw [e] at this
      unfold lok at this
      rw [decide_eq_true (by omega), Bool.true_and] at this
      change (q 3 o).testBit x = false at this
      rw [h3] at this
      cases this
theorem lad_ex {q : LQ} {X : Nat → Nat × (Nat → Nat)} (X0 : X 0 = (0, fun _ => 0)) (Xs : ∀ i, X (i + 1) = lst q (q 0 0 - (i + 1)) (X i)) : ∃ Y, lad q (X (q 0 0)).2 (X (q 0 0)).1 Y := by
  obtain ⟨b1, b2⟩ := lad_ok X0 Xs (q 0 0) (Nat.le_refl _)
  obtain ⟨Y, y0, ys⟩ := up_ex (fun i t => fz (lok q (X (q 0 0)).2 (X (q 0 0)).1 i t) (q 0 0) 0) none
  refine ⟨Y, fun c hc => b1 c (by omega) hc, ?_, ?_, y0, ys⟩
  · rcases b2 with b2 | ⟨c, _, h2, h3⟩
    · exact Or.inl b2.2
    · exact Or.inr ⟨c, h2, h3⟩
  · rcases b2 with b2 | ⟨c, _, h2, h3⟩
    · omega
    · have := (b1 c (by omega) h2).2.2.2
      omega
theorem imax {a b : Nat} (ha : a < 2147483648) (hb : b < 2147483648) : (if iN a < iN b then iN b else iN a) = iN (max a b) := by
  by_cases d : a < b
  · rw [ilt_p ha hb d, Nat.max_eq_right (by omega)]
  · rw [ilt_n ha hb (by omega), Nat.max_eq_left (by omega)]
