/-! Libraries: the class's and the reference's rows of one library, as numbers. -/
abbrev LQ : Type := Nat → Nat → Nat
def up {α : Type} (f : Nat → α → α) : Nat → α → α
  | 0, a => a
  | n + 1, a => f n (up f n a)
def dn {α : Type} (f : Nat → α → α) : Nat → α → α
  | 0, a => a
  | n + 1, a => dn f n (f n a)
theorem up_inv {α : Type} {f : Nat → α → α} {I : Nat → α → Prop} {n : Nat} (hI : ∀ k a, k < n → I k a → I (k + 1) (f k a)) {a : α} (h0 : I 0 a) : ∀ k, k ≤ n → I k (up f k a) := by
  intro k
  induction k with
  | zero => intro _; exact h0
  | succ k ih => intro hk; exact hI k _ (by omega) (ih (by omega))
theorem up_rel {α β : Type} {f : Nat → α → α} {g : Nat → β → β} {I : Nat → α → β → Prop} {n : Nat} (hI : ∀ k a b, k < n → I k a b → I (k + 1) (f k a) (g k b)) {a : α} {b : β} (h0 : I 0 a b) : ∀ k, k ≤ n → I k (up f k a) (up g k b) := by
  intro k
  induction k with
  | zero => intro _; exact h0
  | succ k ih => intro hk; exact hI k _ _ (by omega) (ih (by omega))
theorem up_congr {α : Type} {f g : Nat → α → α} {n : Nat} (h : ∀ k a, k < n → f k a = g k a) (a : α) : up f n a = up g n a :=
  up_rel (I := fun _ x y => x = y) (fun k x y hk e => by subst e; exact h k x hk) rfl n (Nat.le_refl n)
/-- a loop that counts upwards -/
theorem lp_up {σ ρ α : Type} {body : σ → Option (σ ⊕ ρ)} (S : Nat → α → σ) (f : Nat → α → α) (r : α → ρ) (I : Nat → α → Prop) (n : Nat) {a0 : α} (h0 : I 0 a0) (hI : ∀ k a, k < n → I k a → I (k + 1) (f k a)) (hs : ∀ k a, k < n → I k a → body (S k a) = some (.inl (S (k + 1) (f k a)))) (he : ∀ a, I n a → body (S n a) = some (.inr (r a))) (hn : n < 5000) : mLoop body mFuel (S 0 a0) = some (r (up f n a0)) := by
  refine lp_run (S := fun i => S i (up f i a0)) n ?_ ?_ hn
  · intro i hi
    exact hs i _ hi (up_inv hI h0 i (by omega))
  · exact he _ (up_inv hI h0 n (Nat.le_refl n))
def pN : Nat → Int32
  | 0 => jN
  | k + 1 => iN k
theorem pN_s (k : Nat) : pN (k + 1) = iN k := rfl
theorem pN_z : pN 0 = jN := rfl
theorem iN_p (k : Nat) : iN k - iN 1 = pN k := by
  cases k with
  | zero => decide
  | succ k => rw [iN_sub (by omega)]; rfl
theorem iN_pj (k : Nat) : iN k + jN = pN k := by
  rw [← iN_p, Int32.sub_eq_add_neg]; rfl
theorem lp_dn {σ ρ α : Type} {body : σ → Option (σ ⊕ ρ)} (S : Nat → α → σ) (f : Nat → α → α) (r : α → ρ) (I : Nat → α → Prop) (n : Nat) {a0 : α} (h0 : I n a0) (hI : ∀ k a, k < n → I (k + 1) a → I k (f k a)) (hs : ∀ k a, k < n → I (k + 1) a → body (S (k + 1) a) = some (.inl (S k (f k a)))) (he : ∀ a, I 0 a → body (S 0 a) = some (.inr (r a))) (hn : n < 5000) : mLoop body mFuel (S n a0) = some (r (dn f n a0)) := by
  have key : ∀ n' a, n' ≤ n → I n' a → ∀ fu, n' < fu → mLoop body fu (S n' a) = some (r (dn f n' a)) := by
    intro n'
    induction n' with
    | zero =>
      intro a _ ha fu hf
      obtain ⟨fu, rfl⟩ : ∃ g, fu = g + 1 := ⟨fu - 1, by omega⟩
      simp only [mLoop, he a ha, dn]
    | succ n' ih =>
      intro a hn' ha fu hf
      obtain ⟨fu, rfl⟩ : ∃ g, fu = g + 1 := ⟨fu - 1, by omega⟩
      simp only [mLoop, hs n' a (by omega) ha, dn]
      exact ih _ (by omega) (hI n' a (by omega) ha) fu (by omega)
  exact key n a0 (Nat.le_refl n) h0 mFuel (by show n < 5000; omega)
/-- the class's library at the cell a -/
def LibS (h : mH) (a : Nat) (q : LQ) : Prop := (mK h a = (2, 9) ∧ ∀ i, i < 6 → mR h a i = some (a + 1 + i) ∧ mK h (a + 1 + i) = (100, if i < 3 then 8 else 6)) ∧ (mI h a 6 = iN (q 0 0) ∧ mI h a 7 = iN (q 0 1) ∧ mI h a 8 = iN (q 0 2)) ∧ ∀ i, i < 6 → ∀ j, j < (if i < 3 then 8 else 6) → mI h (a + 1 + i) j = iN (q (i + 1) j)
section LS
variable {h : mH} {a : Nat} {q : LQ} (H : LibS h a q)
theorem LibS.k (H : LibS h a q) : mK h a = (2, 9) := H.1.1
theorem LibS.r0 (H : LibS h a q) : mR h a 0 = some (a + 1) := (H.1.2 0 (by decide)).1
theorem LibS.r1 (H : LibS h a q) : mR h a 1 = some (a + 2) := (H.1.2 1 (by decide)).1
theorem LibS.r2 (H : LibS h a q) : mR h a 2 = some (a + 3) := (H.1.2 2 (by decide)).1
theorem LibS.r3 (H : LibS h a q) : mR h a 3 = some (a + 4) := (H.1.2 3 (by decide)).1
theorem LibS.r4 (H : LibS h a q) : mR h a 4 = some (a + 5) := (H.1.2 4 (by decide)).1
theorem LibS.r5 (H : LibS h a q) : mR h a 5 = some (a + 6) := (H.1.2 5 (by decide)).1
theorem LibS.k1 (H : LibS h a q) : mK h (a + 1) = (100, 8) := (H.1.2 0 (by decide)).2
theorem LibS.k2 (H : LibS h a q) : mK h (a + 2) = (100, 8) := (H.1.2 1 (by decide)).2
theorem LibS.k3 (H : LibS h a q) : mK h (a + 3) = (100, 8) := (H.1.2 2 (by decide)).2
theorem LibS.k4 (H : LibS h a q) : mK h (a + 4) = (100, 6) := (H.1.2 3 (by decide)).2
theorem LibS.k5 (H : LibS h a q) : mK h (a + 5) = (100, 6) := (H.1.2 4 (by decide)).2
theorem LibS.k6 (H : LibS h a q) : mK h (a + 6) = (100, 6) := (H.1.2 5 (by decide)).2
theorem LibS.n (H : LibS h a q) : mI h a 6 = iN (q 0 0) := H.2.1.1
theorem LibS.m (H : LibS h a q) : mI h a 7 = iN (q 0 1) := H.2.1.2.1
theorem LibS.lp (H : LibS h a q) : mI h a 8 = iN (q 0 2) := H.2.1.2.2
theorem LibS.hr (H : LibS h a q) {j : Nat} (hj : j < 8) : mI h (a + 1) j = iN (q 1 j) := H.2.2 0 (by decide) j hj
theorem LibS.tp (H : LibS h a q) {j : Nat} (hj : j < 8) : mI h (a + 2) j = iN (q 2 j) := H.2.2 1 (by decide) j hj
theorem LibS.ln (H : LibS h a q) {j : Nat} (hj : j < 8) : mI h (a + 3) j = iN (q 3 j) := H.2.2 2 (by decide) j hj
theorem LibS.lk (H : LibS h a q) {j : Nat} (hj : j < 6) : mI h (a + 4) j = iN (q 4 j) := H.2.2 3 (by decide) j hj
theorem LibS.me (H : LibS h a q) {j : Nat} (hj : j < 6) : mI h (a + 5) j = iN (q 5 j) := H.2.2 4 (by decide) j hj
theorem LibS.he (H : LibS h a q) {j : Nat} (hj : j < 6) : mI h (a + 6) j = iN (q 6 j) := H.2.2 5 (by decide) j hj
end LS
/-- a library that can be -/
def QW (q : LQ) : Prop := (q 0 0 ≤ 8 ∧ q 0 1 ≤ 6 ∧ 1 ≤ q 0 2 ∧ q 0 2 ≤ 12) ∧ (∀ c, c < q 0 0 → 1 ≤ q 1 c) ∧ (∀ c, c < 8 → q 1 c ≤ 9) ∧ (∀ c, c < 8 → q 2 c ≤ 5) ∧ (∀ c, c < 8 → q 3 c < 2 ^ c) ∧ (∀ t, t < 6 → q 4 t ≤ 9) ∧ (∀ p, p < q 0 1 → 1 ≤ q 5 p) ∧ (∀ p, p < 6 → q 5 p ≤ 9) ∧ ∀ p, p < 6 → q 6 p < 2 ^ q 0 1
/-- the reference's library in hand, number s -/
def flat (q : LQ) (j : Nat) : Nat := if j < 3 then q 0 j else if j < 11 then q 1 (j - 3) else if j < 19 then q 2 (j - 11) else if j < 27 then q 3 (j - 19) else if j < 33 then q 4 (j - 27) else if j < 39 then q 5 (j - 33) else q 6 (j - 39)
def MoS (h : mH) (q : LQ) : Prop := Wd h ∧ mI h 193 24 = iN (q 0 0) ∧ mI h 193 25 = iN (q 0 1) ∧ ∃ s, s < 2 ∧ mI h 193 23 = iN s ∧ ∀ j, j < 45 → mI h 199 (45 * s + j) = iN (flat q j)
theorem MoS.n {h : mH} {q : LQ} (H : MoS h q) : mI h 193 24 = iN (q 0 0) := H.2.1
theorem MoS.m {h : mH} {q : LQ} (H : MoS h q) : mI h 193 25 = iN (q 0 1) := H.2.2.1
/-! small methods -/
theorem t17 {h : mH} {x a b : Int32} : f17 h x a b = some (bN (decide (a ≤ x) && decide (x ≤ b))) := by
  unfold f17 f17_14 f17_15
  by_cases h1 : x < a
  · rw [if_pos h1]
    have : ¬ a ≤ x := by rw [Int32.not_le]; exact h1
    simp [this, bN, L0, i0_01, mGd_t]
  · rw [if_neg h1]
    have h1' : a ≤ x := by rw [Int32.not_lt] at h1; exact h1
    by_cases h2 : b < x
    · rw [if_pos h2]
      have : ¬ x ≤ b := by rw [Int32.not_le]; exact h2
      simp [this, bN, L0, i0_01, mGd_t]
    · rw [if_neg h2]
      have h2' : x ≤ b := by rw [Int32.not_lt] at h2; exact h2
      simp [h1', h2', bN, L1, i1_01, mGd_t]
theorem t179 {h : mH} {x a b : Int32} : f179 h x a b = some (bN (decide (a ≤ x) && decide (x ≤ b))) := t17 (h := h)
theorem t71 {h : mH} {b i : Nat} (hb : b < 2147483648) (hi : i < 32) : f71 h (iN b) (iN i) = some (bN (b.testBit i)) := by
  unfold f71 f71_13
  rw [iN_shr hi hb, L1, iN_and, tb_and1]
  cases b.testBit i
  · simp (disch := omega) only [Bool.false_eq_true, if_false, gT, nbeq, Option.isSome_some, Option.getD_some, Bool.and_true, Bool.true_and, Bool.and_self, mX_some, bS, bN_if, bN_01, i1_01, i0_01, if_true, if_false, Bool.false_eq_true, false_and, and_false, and_true, true_and, and_self, Bool.or_false, Bool.false_or, Bool.or_true, Bool.true_or, Bool.false_and, Bool.and_false, decide_true, decide_false, L0, ile_p, ile_n, ilt_p, ilt_n, ieq_p, ieq_n, ij_n, jj_p, ijle, jile, ijlt, jilt]; rfl
  · simp (disch := omega) only [if_true, gT, nbeq, Option.isSome_some, Option.getD_some, Bool.and_true, Bool.true_and, Bool.and_self, mX_some, bS, bN_if, bN_01, i1_01, i0_01, if_true, if_false, Bool.false_eq_true, false_and, and_false, and_true, true_and, and_self, Bool.or_false, Bool.false_or, Bool.or_true, Bool.true_or, Bool.false_and, Bool.and_false, decide_true, decide_false, L0, ile_p, ile_n, ilt_p, ilt_n, ieq_p, ieq_n, ij_n, jj_p, ijle, jile, ijlt, jilt]; rfl
theorem t221 {h : mH} {b i : Nat} (hb : b < 2147483648) (hi : i < 32) : f221 h (iN b) (iN i) = some (bN (b.testBit i)) := by
  unfold f221 f221_14
  rw [iN_shr hi hb, L1, iN_and, tb_and1]
  cases b.testBit i
  · simp (disch := omega) only [Bool.false_eq_true, if_false, gT, nbeq, Option.isSome_some, Option.getD_some, Bool.and_true, Bool.true_and, Bool.and_self, mX_some, bS, bN_if, bN_01, i1_01, i0_01, if_true, if_false, Bool.false_eq_true, false_and, and_false, and_true, true_and, and_self, Bool.or_false, Bool.false_or, Bool.or_true, Bool.true_or, Bool.false_and, Bool.and_false, decide_true, decide_false, L0, ile_p, ile_n, ilt_p, ilt_n, ieq_p, ieq_n, ij_n, jj_p, ijle, jile, ijlt, jilt]; rfl
  · simp (disch := omega) only [if_true, gT, nbeq, Option.isSome_some, Option.getD_some, Bool.and_true, Bool.true_and, Bool.and_self, mX_some, bS, bN_if, bN_01, i1_01, i0_01, if_true, if_false, Bool.false_eq_true, false_and, and_false, and_true, true_and, and_self, Bool.or_false, Bool.false_or, Bool.or_true, Bool.true_or, Bool.false_and, Bool.and_false, decide_true, decide_false, L0, ile_p, ile_n, ilt_p, ilt_n, ieq_p, ieq_n, ij_n, jj_p, ijle, jile, ijlt, jilt]; rfl
theorem t195 {h : mH} {a b : Nat} (ha : a < 2147483648) (hb : b < 2147483648) : f195 h (iN a) (iN b) = some (iN (min a b)) := by
  unfold f195 f195_10
  rw [ile_d hb ha]
  by_cases hc : b ≤ a
  · rw [if_pos hc, Nat.min_eq_right hc]; rfl
  · rw [if_neg hc, Nat.min_eq_left (by omega)]; rfl
theorem t196 {h : mH} {a b : Nat} (ha : a < 2147483648) (hb : b < 2147483648) : f196 h (iN a) (iN b) = some (iN (max a b)) := by
  unfold f196 f196_10
  rw [ile_d ha hb]
  by_cases hc : a ≤ b
  · rw [if_pos hc, Nat.max_eq_right hc]; rfl
  · rw [if_neg hc, Nat.max_eq_left (by omega)]; rfl
theorem t206 {h : mH} {q : LQ} (H : MoS h q) {j : Nat} (hj : j < 45) : f206 h 193 (iN j) = some (iN (flat q j)) := by
  obtain ⟨w, _, _, s, hs, h1, h2⟩ := H
  unfold f206
  simp (disch := omega) only [gT, nbeq, Option.isSome_some, Option.getD_some, Bool.and_true, Bool.true_and, Bool.and_self, mX_some, bS, bN_if, bN_01, i1_01, i0_01, if_true, if_false, Bool.false_eq_true, false_and, and_false, and_true, true_and, and_self, Bool.or_false, Bool.false_or, Bool.or_true, Bool.true_or, Bool.false_and, Bool.and_false, decide_true, decide_false, L0, L1, L2, L3, L4, L5, L6, L7, L8, L9, L10, L11, L12, L13, L14, L15, L16, L17, L18, L19, L20, L21, L22, L23, L24, L25, L27, L33, L39, L40, L45, L48, L57, L60, L72, L90, L97, L98, L99, L100, L121, L122, L242, L255, L256, L580, L600, L1000, L1584, L1000000, Ln1, iN_add, iN_and, iN_or, iN_nd, iN_shl, iN_shr, iN_cl, iN_in, iN_mul, k193 w, r193_1 w, r193_2 w, r193_3 w, r193_4 w, r193_5 w, r193_6 w, r193_7 w, r193_8 w, r193_18 w, r193_19 w, r193_32 w, r193_33 w, r193_34 w, r193_36 w, r193_38 w, r193_39 w, r193_40 w, r193_42 w, r193_45 w, r193_46 w, r193_47 w, r193_48 w, r193_49 w, r193_50 w, k199 w, h1, h2]
/-- HOURS of a set -/
def hsf (q : LQ) (b : Nat) : Nat → Nat → Nat := fun c x => x + if b.testBit c = true then q 1 c else 0
def hs (q : LQ) (b : Nat) : Nat := up (hsf q b) (q 0 0) 0
theorem t95 {h : mH} {a : Nat} {q : LQ} (H : LibS h a q) (W : QW q) {b : Nat} (hb : b < 2147483648) : f95 h a (iN b) = some (iN (hs q b)) := by
  have hn := W.1.1
  unfold f95
  refine lp_up (fun k x => (iN x, iN k)) (hsf q b) iN (fun _ _ => True) (q 0 0) (a0 := 0) trivial (fun _ _ _ _ => trivial) ?_ ?_ (by omega)
  · intro k x hk _
    unfold f95_4 f95_29
    cases hc : b.testBit k <;> simp (disch := omega) only [gT, nbeq, Option.isSome_some, Option.getD_some, Bool.and_true, Bool.true_and, Bool.and_self, mX_some, bS, bN_if, bN_01, i1_01, i0_01, if_true, if_false, Bool.false_eq_true, false_and, and_false, and_true, true_and, and_self, Bool.or_false, Bool.false_or, Bool.or_true, Bool.true_or, Bool.false_and, Bool.and_false, decide_true, decide_false, L0, L1, L2, L3, L4, L5, L6, L7, L8, L9, L10, L11, L12, L13, L14, L15, L16, L17, L18, L19, L20, L21, L22, L23, L24, L25, L27, L33, L39, L40, L45, L48, L57, L60, L72, L90, L97, L98, L99, L100, L121, L122, L242, L255, L256, L580, L600, L1000, L1584, L1000000, Ln1, iN_add, iN_and, iN_or, iN_nd, iN_shl, iN_shr, iN_cl, iN_in, iN_mul, ile_p, ile_n, ilt_p, ilt_n, ieq_p, ieq_n, ij_n, jj_p, ijle, jile, ijlt, jilt, H.k, H.r0, H.r1, H.r2, H.r3, H.r4, H.r5, H.k1, H.k2, H.k3, H.k4, H.k5, H.k6, H.n, H.m, H.lp, H.hr, H.tp, H.ln, H.lk, H.me, H.he, t71, hc, hsf, Nat.add_zero]
  · intro x _
    unfold f95_4
    simp (disch := omega) only [gT, nbeq, Option.isSome_some, Option.getD_some, Bool.and_true, Bool.true_and, Bool.and_self, mX_some, bS, bN_if, bN_01, i1_01, i0_01, if_true, if_false, Bool.false_eq_true, false_and, and_false, and_true, true_and, and_self, Bool.or_false, Bool.false_or, Bool.or_true, Bool.true_or, Bool.false_and, Bool.and_false, decide_true, decide_false, L0, L1, L2, L3, L4, L5, L6, L7, L8, L9, L10, L11, L12, L13, L14, L15, L16, L17, L18, L19, L20, L21, L22, L23, L24, L25, L27, L33, L39, L40, L45, L48, L57, L60, L72, L90, L97, L98, L99, L100, L121, L122, L242, L255, L256, L580, L600, L1000, L1584, L1000000, Ln1, iN_add, iN_and, iN_or, iN_nd, iN_shl, iN_shr, iN_cl, iN_in, iN_mul, ile_p, ile_n, ilt_p, ilt_n, ieq_p, ieq_n, ij_n, jj_p, ijle, jile, ijlt, jilt, H.k, H.r0, H.r1, H.r2, H.r3, H.r4, H.r5, H.k1, H.k2, H.k3, H.k4, H.k5, H.k6, H.n, H.m, H.lp, H.hr, H.tp, H.ln, H.lk, H.me, H.he]
theorem t243 {h : mH} {q : LQ} (H : MoS h q) (W : QW q) {b : Nat} (hb : b < 2147483648) : f243 h 193 (iN b) = some (iN (hs q b)) := by
  have hn := W.1.1
  have w := H.1
  unfold f243
  refine lp_up (fun k x => (iN x, iN k)) (hsf q b) iN (fun _ _ => True) (q 0 0) (a0 := 0) trivial (fun _ _ _ _ => trivial) ?_ ?_ (by omega)
  · intro k x hk _
    unfold f243_4 f243_32
    have e : flat q (3 + k) = q 1 k := by unfold flat; rw [if_neg (by omega), if_pos (by omega)]; congr 1; omega
    cases hc : b.testBit k <;> simp (disch := omega) only [gT, nbeq, Option.isSome_some, Option.getD_some, Bool.and_true, Bool.true_and, Bool.and_self, mX_some, bS, bN_if, bN_01, i1_01, i0_01, if_true, if_false, Bool.false_eq_true, false_and, and_false, and_true, true_and, and_self, Bool.or_false, Bool.false_or, Bool.or_true, Bool.true_or, Bool.false_and, Bool.and_false, decide_true, decide_false, L0, L1, L2, L3, L4, L5, L6, L7, L8, L9, L10, L11, L12, L13, L14, L15, L16, L17, L18, L19, L20, L21, L22, L23, L24, L25, L27, L33, L39, L40, L45, L48, L57, L60, L72, L90, L97, L98, L99, L100, L121, L122, L242, L255, L256, L580, L600, L1000, L1584, L1000000, Ln1, iN_add, iN_and, iN_or, iN_nd, iN_shl, iN_shr, iN_cl, iN_in, iN_mul, ile_p, ile_n, ilt_p, ilt_n, ieq_p, ieq_n, ij_n, jj_p, ijle, jile, ijlt, jilt, k193 w, r193_1 w, r193_2 w, r193_3 w, r193_4 w, r193_5 w, r193_6 w, r193_7 w, r193_8 w, r193_18 w, r193_19 w, r193_32 w, r193_33 w, r193_34 w, r193_36 w, r193_38 w, r193_39 w, r193_40 w, r193_42 w, r193_45 w, r193_46 w, r193_47 w, r193_48 w, r193_49 w, r193_50 w, H.n, t221, t206 H, hc, hsf, Nat.add_zero, e]
  · intro x _
    unfold f243_4
    simp (disch := omega) only [gT, nbeq, Option.isSome_some, Option.getD_some, Bool.and_true, Bool.true_and, Bool.and_self, mX_some, bS, bN_if, bN_01, i1_01, i0_01, if_true, if_false, Bool.false_eq_true, false_and, and_false, and_true, true_and, and_self, Bool.or_false, Bool.false_or, Bool.or_true, Bool.true_or, Bool.false_and, Bool.and_false, decide_true, decide_false, L0, L1, L2, L3, L4, L5, L6, L7, L8, L9, L10, L11, L12, L13, L14, L15, L16, L17, L18, L19, L20, L21, L22, L23, L24, L25, L27, L33, L39, L40, L45, L48, L57, L60, L72, L90, L97, L98, L99, L100, L121, L122, L242, L255, L256, L580, L600, L1000, L1584, L1000000, Ln1, iN_add, iN_and, iN_or, iN_nd, iN_shl, iN_shr, iN_cl, iN_in, iN_mul, ile_p, ile_n, ilt_p, ilt_n, ieq_p, ieq_n, ij_n, jj_p, ijle, jile, ijlt, jilt, k193 w, r193_1 w, r193_2 w, r193_3 w, r193_4 w, r193_5 w, r193_6 w, r193_7 w, r193_8 w, r193_18 w, r193_19 w, r193_32 w, r193_33 w, r193_34 w, r193_36 w, r193_38 w, r193_39 w, r193_40 w, r193_42 w, r193_45 w, r193_46 w, r193_47 w, r193_48 w, r193_49 w, r193_50 w, H.n]
