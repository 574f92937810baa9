/-! Longs; fractions in least terms; share, waits. -/
def gN (n : Nat) : Int64 := Int64.ofNat n
def mN : Int64 := -1
theorem K0l : (0 : Int64) = gN 0 := by unfold gN; rfl
theorem K1l : (1 : Int64) = gN 1 := by unfold gN; rfl
theorem K10l : (10 : Int64) = gN 10 := by unfold gN; rfl
theorem Kn1 : -(gN 1) = mN := by unfold mN; rfl
theorem gN_toInt {n : Nat} (h : n < 9223372036854775808) : (gN n).toInt = (n : Int) := Int64.toInt_ofNat_of_lt h
theorem gN_eq {a b : Nat} (ha : a < 9223372036854775808) (hb : b < 9223372036854775808) : (gN a = gN b) ↔ a = b := by
  rw [← Int64.toInt_inj, gN_toInt ha, gN_toInt hb]; omega
theorem gN_nm {a : Nat} (ha : a < 9223372036854775808) : gN a ≠ -1 := by
  intro h; have h2 := congrArg Int64.toInt h; rw [gN_toInt ha] at h2
  have h3 : (-1 : Int64).toInt = -1 := by decide
  omega
theorem gN_add (a b : Nat) : gN a + gN b = gN (a + b) := (Int64.ofNat_add a b).symm
theorem gN_mul (a b : Nat) : gN a * gN b = gN (a * b) := (Int64.ofNat_mul a b).symm
theorem gN_sub {a b : Nat} (h : b ≤ a) : gN a - gN b = gN (a - b) := (Int64.ofNat_sub a b h).symm
theorem gN_div {a b : Nat} (ha : a < 9223372036854775808) (hb : b < 9223372036854775808) : gN a / gN b = gN (a / b) := by
  have h : a / b ≤ a := Nat.div_le_self _ _
  refine Int64.toInt.inj ?_
  rw [Int64.toInt_div_of_ne_right _ _ (gN_nm hb), gN_toInt ha, gN_toInt hb, gN_toInt (by omega)]
  exact Int.ofNat_tdiv a b
theorem gN_rem {a b : Nat} (ha : a < 9223372036854775808) (hb : b < 9223372036854775808) : gN a - gN a / gN b * gN b = gN (a % b) := by
  rw [gN_div ha hb, gN_mul, gN_sub (Nat.div_mul_le_self a b)]
  congr 1
  have := Nat.div_add_mod a b
  rw [Nat.mul_comm] at this
  omega
theorem iN_l {n : Nat} (h : n < 2147483648) : Int32.toInt64 (iN n) = gN n := by
  refine Int64.toInt.inj ?_
  rw [Int32.toInt_toInt64, iN_toInt h, gN_toInt (by omega)]
theorem gN_nz {b : Nat} (hb : b < 9223372036854775808) (h0 : 0 < b) : (!(gN b == gN 0)) = true := by
  have : ¬ gN b = gN 0 := by rw [gN_eq hb (by omega)]; omega
  simp [this]
theorem lc_p {α : Type} {x y : α} {b : Nat} (h : b = 0) : (if lg_cmp (gN b) (gN 0) = iN 0 then x else y) = x := if_pos ((lg_cmp_eq _ _).2 (by rw [h]))
theorem lc_n {α : Type} {x y : α} {b : Nat} (hb : b < 9223372036854775808) (h : b ≠ 0) : (if lg_cmp (gN b) (gN 0) = iN 0 then x else y) = y := if_neg (fun e => h ((gN_eq hb (by omega)).1 ((lg_cmp_eq _ _).1 e)))
theorem eu_half {a b k : Nat} (h0 : b ≠ 0) (hb : b < 2 ^ (k + 1)) (hr : a % b ≠ 0) : b % (a % b) < 2 ^ k := by
  have h1 : a % b < b := Nat.mod_lt _ (by omega)
  have h2 : b % (a % b) < a % b := Nat.mod_lt _ (by omega)
  have h3 := Nat.div_add_mod b (a % b)
  have h4 : 1 ≤ b / (a % b) := Nat.div_pos (by omega) (by omega)
  have h5 : a % b ≤ (a % b) * (b / (a % b)) := Nat.le_mul_of_pos_right _ h4
  rw [Nat.pow_succ] at hb
  omega
theorem gcd_st (a b : Nat) (h : b ≠ 0) : Nat.gcd a b = Nat.gcd b (a % b) := by
  rw [Nat.gcd_comm a b, Nat.gcd_rec b a, Nat.gcd_comm]
theorem t256a {h : mH} : ∀ k a b, a < 9223372036854775808 → b < 9223372036854775808 → b < 2 ^ k → ∀ f, 2 * k < f → mLoop (f256_6 h) f (gN a, gN b) = some (gN (Nat.gcd a b)) := by
  have ex : ∀ a f, 0 < f → mLoop (f256_6 h) f (gN a, gN 0) = some (gN (Nat.gcd a 0)) := by
    intro a f hf
    obtain ⟨f, rfl⟩ : ∃ g, f = g + 1 := ⟨f - 1, by omega⟩
    have : f256_6 h (gN a, gN 0) = some (.inr (gN a)) := by
      unfold f256_6
      simp only [L0, K0l, lc_p, gT, nbeq, Option.isSome_some, Option.getD_some, Bool.and_true, Bool.true_and, Bool.and_self, mX_some, bS, bN_if, bN_01, i1_01, i0_01, if_true, if_false, Bool.false_eq_true, false_and, and_false, and_true, true_and, and_self, Bool.or_false, Bool.false_or, Bool.or_true, Bool.true_or, Bool.false_and, Bool.and_false, decide_true, decide_false]
    simp only [mLoop, this, Nat.gcd_zero_right]
  have st : ∀ a b, a < 9223372036854775808 → b < 9223372036854775808 → b ≠ 0 → f256_6 h (gN a, gN b) = some (.inl (gN b, gN (a % b))) := by
    intro a b ha hb h0
    unfold f256_6
    simp (disch := omega) only [L0, K0l, lc_n, gT, nbeq, Option.isSome_some, Option.getD_some, Bool.and_true, Bool.true_and, Bool.and_self, mX_some, bS, bN_if, bN_01, i1_01, i0_01, if_true, if_false, Bool.false_eq_true, false_and, and_false, and_true, true_and, and_self, Bool.or_false, Bool.false_or, Bool.or_true, Bool.true_or, Bool.false_and, Bool.and_false, decide_true, decide_false, gN_nz, gN_rem]
  intro k
  induction k with
  | zero =>
    intro a b ha hb hk f hf
    have : b = 0 := by omega
    subst this
    exact ex a f (by omega)
  | succ k ih =>
    intro a b ha hb hk f hf
    by_cases b0 : b = 0
    · subst b0; exact ex a f (by omega)
    · obtain ⟨f, rfl⟩ : ∃ g, f = g + 2 := ⟨f - 2, by omega⟩
      have hm : a % b < b := Nat.mod_lt _ (by omega)
      rw [show f + 2 = (f + 1) + 1 by omega]
      rw [gcd_st a b b0]
      simp only [mLoop, st a b ha hb b0]
      by_cases r0 : a % b = 0
      · rw [r0]; exact ex b (f + 1) (by omega)
      · have hm2 : b % (a % b) < a % b := Nat.mod_lt _ (by omega)
        rw [gcd_st b (a % b) r0]
        simp only [mLoop, st b (a % b) hb (by omega) r0]
        exact ih (a % b) (b % (a % b)) (by omega) (by omega) (eu_half b0 hk r0) f (by omega)
theorem t255 {h : mH} {t b : Nat} {u : Int32} (ht : t < 1099511627776) (hb : b < 1099511627776) (h0 : 0 < b) : f255 h (gN t) (gN b) u = some (gN ((if u = iN 0 then t else b) / Nat.gcd b t)) := by
  have hg : 0 < Nat.gcd b t := Nat.gcd_pos_of_pos_left t h0
  have hg2 : Nat.gcd b t ≤ b := Nat.gcd_le_left t h0
  have e : f256 h (gN b) (gN t) = some (gN (Nat.gcd b t)) := by
    unfold f256
    exact t256a 40 b t (by omega) (by omega) (by omega) mFuel (by show 80 < 5000; omega)
  unfold f255 f255_10
  by_cases eu : u = iN 0
  · simp (disch := omega) only [L0, K0l, eu, gT, nbeq, Option.isSome_some, Option.getD_some, Bool.and_true, Bool.true_and, Bool.and_self, mX_some, bS, bN_if, bN_01, i1_01, i0_01, if_true, if_false, Bool.false_eq_true, false_and, and_false, and_true, true_and, and_self, Bool.or_false, Bool.false_or, Bool.or_true, Bool.true_or, Bool.false_and, Bool.and_false, decide_true, decide_false, e, gN_nz, gN_div]
  · simp (disch := omega) only [L0, K0l, eu, gT, nbeq, Option.isSome_some, Option.getD_some, Bool.and_true, Bool.true_and, Bool.and_self, mX_some, bS, bN_if, bN_01, i1_01, i0_01, if_true, if_false, Bool.false_eq_true, false_and, and_false, and_true, true_and, and_self, Bool.or_false, Bool.false_or, Bool.or_true, Bool.true_or, Bool.false_and, Bool.and_false, decide_true, decide_false, e, gN_nz, gN_div]
theorem t109a {h : mH} {l0 l2 : Int64} {u : Int32} : ∀ k a b c, a < 9223372036854775808 → b < 9223372036854775808 → b < 2 ^ k → c + 2 * k < 100 → ∀ f, 2 * k < f → mLoop (f109_9 h l0 l2 u) f (gN a, gN b, iN c) = f109_44 h l0 l2 u (gN (Nat.gcd a b)) := by
  have go : ∀ m : Option Int64, (match mX (σ := Int64 × Int64 × Int32) m with
      | some (.inl _) => none
      | some (.inr r) => some r
      | none => none) = m := by intro m; cases m <;> rfl
  have ex : ∀ a c f, c < 100 → 0 < f → mLoop (f109_9 h l0 l2 u) f (gN a, gN 0, iN c) = f109_44 h l0 l2 u (gN (Nat.gcd a 0)) := by
    intro a c f hc hf
    obtain ⟨f, rfl⟩ : ∃ g, f = g + 1 := ⟨f - 1, by omega⟩
    have : f109_9 h l0 l2 u (gN a, gN 0, iN c) = mX (f109_44 h l0 l2 u (gN a)) := by
      unfold f109_9
      simp (disch := omega) only [L0, L100, K0l, lc_p, gT, nbeq, Option.isSome_some, Option.getD_some, Bool.and_true, Bool.true_and, Bool.and_self, mX_some, bS, bN_if, bN_01, i1_01, i0_01, if_true, if_false, Bool.false_eq_true, false_and, and_false, and_true, true_and, and_self, Bool.or_false, Bool.false_or, Bool.or_true, Bool.true_or, Bool.false_and, Bool.and_false, decide_true, decide_false, ile_n]
    simp only [mLoop, this, Nat.gcd_zero_right]
    cases f109_44 h l0 l2 u (gN a) <;> rfl
  have st : ∀ a b c, a < 9223372036854775808 → b < 9223372036854775808 → b ≠ 0 → c < 100 → f109_9 h l0 l2 u (gN a, gN b, iN c) = some (.inl (gN b, gN (a % b), iN (c + 1))) := by
    intro a b c ha hb h0 hc
    unfold f109_9
    simp (disch := omega) only [L0, L1, L100, K0l, lc_n, gT, nbeq, Option.isSome_some, Option.getD_some, Bool.and_true, Bool.true_and, Bool.and_self, mX_some, bS, bN_if, bN_01, i1_01, i0_01, if_true, if_false, Bool.false_eq_true, false_and, and_false, and_true, true_and, and_self, Bool.or_false, Bool.false_or, Bool.or_true, Bool.true_or, Bool.false_and, Bool.and_false, decide_true, decide_false, gN_nz, gN_rem, ile_n, iN_add]
  intro k
  induction k with
  | zero =>
    intro a b c ha hb hk hc f hf
    have : b = 0 := by omega
    subst this
    exact ex a c f (by omega) (by omega)
  | succ k ih =>
    intro a b c ha hb hk hc f hf
    by_cases b0 : b = 0
    · subst b0; exact ex a c f (by omega) (by omega)
    · obtain ⟨f, rfl⟩ : ∃ g, f = g + 2 := ⟨f - 2, by omega⟩
      have hm : a % b < b := Nat.mod_lt _ (by omega)
      rw [show f + 2 = (f + 1) + 1 by omega]
      rw [gcd_st a b b0]
      simp only [mLoop, st a b c ha hb b0 (by omega)]
      by_cases r0 : a % b = 0
      · rw [r0]; exact ex b (c + 1) (f + 1) (by omega) (by omega)
      · have hm2 : b % (a % b) < a % b := Nat.mod_lt _ (by omega)
        rw [gcd_st b (a % b) r0]
        simp only [mLoop, st b (a % b) (c + 1) hb (by omega) r0 (by omega)]
        exact ih (a % b) (b % (a % b)) (c + 1 + 1) (by omega) (by omega) (eu_half b0 hk r0) (by omega) f (by omega)
theorem t109 {h : mH} {t b : Nat} {u : Int32} (ht : t < 1099511627776) (hb : b < 1099511627776) (h0 : 0 < b) : f109 h (gN t) (gN b) u = some (gN ((if u = iN 0 then t else b) / Nat.gcd b t)) := by
  have hg : 0 < Nat.gcd b t := Nat.gcd_pos_of_pos_left t h0
  have hg2 : Nat.gcd b t ≤ b := Nat.gcd_le_left t h0
  unfold f109
  simp only [L0]
  rw [t109a 40 b t 0 (by omega) (by omega) (by omega) (by omega) mFuel (by show 80 < 5000; omega)]
  unfold f109_44 f109_71
  by_cases eu : u = iN 0
  · simp (disch := omega) only [L0, K0l, eu, gT, nbeq, Option.isSome_some, Option.getD_some, Bool.and_true, Bool.true_and, Bool.and_self, mX_some, bS, bN_if, bN_01, i1_01, i0_01, if_true, if_false, Bool.false_eq_true, false_and, and_false, and_true, true_and, and_self, Bool.or_false, Bool.false_or, Bool.or_true, Bool.true_or, Bool.false_and, Bool.and_false, decide_true, decide_false, lc_n, gN_nz, gN_div]
  · simp (disch := omega) only [L0, K0l, eu, gT, nbeq, Option.isSome_some, Option.getD_some, Bool.and_true, Bool.true_and, Bool.and_self, mX_some, bS, bN_if, bN_01, i1_01, i0_01, if_true, if_false, Bool.false_eq_true, false_and, and_false, and_true, true_and, and_self, Bool.or_false, Bool.false_or, Bool.or_true, Bool.true_or, Bool.false_and, Bool.and_false, decide_true, decide_false, lc_n, gN_nz, gN_div]
/-! share -/
theorem tps_ups (q : LQ) (t : Nat) : tps q t = ups (fun c => decide (q 2 c = t)) (q 0 0) := by
  unfold tps ups
  refine up_congr (fun k x _ => ?_) 0
  unfold tpf
  by_cases e : q 2 k = t
  · rw [if_pos e, if_pos (decide_eq_true e)]
  · rw [if_neg e, if_neg (by show ¬ decide (q 2 k = t) = true; rw [decide_eq_false e]; decide)]
def tsf (q : LQ) (t : Nat) : Nat → Nat → Nat := fun c x => x + if q 2 c = t then q 1 c else 0
theorem ts_eq (q : LQ) (t : Nat) : hs q (tps q t) = up (tsf q t) (q 0 0) 0 := by
  unfold hs
  refine up_congr (fun k x hk => ?_) 0
  unfold hsf tsf
  rw [tps_ups, ups_tb]
  by_cases e : q 2 k = t
  · simp [hk, e]
  · simp [hk, e]
theorem hs_pos {q : LQ} (W : QW q) (hn : q 0 0 ≠ 0) : 0 < hs q (2 ^ q 0 0 - 1) := by
  have : ∀ k, k ≤ q 0 0 → k ≤ up (hsf q (2 ^ q 0 0 - 1)) k 0 := by
    intro k
    induction k with
    | zero => intro _; omega
    | succ k ih =>
      intro hk
      have h1 := ih (by omega)
      have h2 := W.2.1 k (by omega)
      simp only [up]
      unfold hsf at h1 ⊢
      rw [tb_all]
      simp only [show k < q 0 0 from by omega, decide_true, if_true]
      omega
  have := this (q 0 0) (Nat.le_refl _)
  unfold hs; omega
section PB
variable {h : mH}
theorem c_share (R : Rel h) (x1 x2 x3 : Int32) : ∃ v, f151 h 0 x1 x2 x3 = some v ∧ ∀ h0, FQ h h0 → ∃ h2, f285 h0 193 x1 x2 x3 = some (v, h2) ∧ FQ h0 h2 := by
  have w := R.1
  unfold f151 f151_32
  simp only [gT, nbeq, Option.isSome_some, Option.getD_some, Bool.and_true, Bool.true_and, Bool.and_self, mX_some, bS, bN_if, bN_01, i1_01, i0_01, if_true, if_false, Bool.false_eq_true, false_and, and_false, and_true, true_and, and_self, Bool.or_false, Bool.false_or, Bool.or_true, Bool.true_or, Bool.false_and, Bool.and_false, decide_true, decide_false, k0 w, r0_0 w, r0_1 w, r0_2 w, r0_3 w, r0_4 w, r0_5 w, r0_6 w, r0_7 w, r0_8 w, k1 w, r1_0 w, r1_1 w, r1_2 w, r1_3 w, r1_4 w]
  rcases R.pick x1 with ⟨e1, e2⟩ | ⟨i, q, hi, rfl, W, H, e1, e2⟩
  · simp only [gT, nbeq, Option.isSome_some, Option.getD_some, Bool.and_true, Bool.true_and, Bool.and_self, mX_some, bS, bN_if, bN_01, i1_01, i0_01, if_true, if_false, Bool.false_eq_true, false_and, and_false, and_true, true_and, and_self, Bool.or_false, Bool.false_or, Bool.or_true, Bool.true_or, Bool.false_and, Bool.and_false, decide_true, decide_false, e1, K1l, Kn1]
    refine ⟨_, rfl, fun h0 F => ?_⟩
    have w0 := R.1.q F
    unfold f285 f285_29
    simp (disch := omega) only [gT, nbeq, Option.isSome_some, Option.getD_some, Bool.and_true, Bool.true_and, Bool.and_self, mX_some, bS, bN_if, bN_01, i1_01, i0_01, if_true, if_false, Bool.false_eq_true, false_and, and_false, and_true, true_and, and_self, Bool.or_false, Bool.false_or, Bool.or_true, Bool.true_or, Bool.false_and, Bool.and_false, decide_true, decide_false, L0, L1, L2, L3, L4, L5, L6, L7, L8, L9, L10, L11, L12, L13, L14, L15, L16, L17, L18, L19, L20, L21, L22, L23, L24, L25, L27, L33, L39, L40, L45, L48, L57, L60, L72, L90, L97, L98, L99, L100, L121, L122, L242, L255, L256, L580, L600, L1000, L1584, L1000000, Ln1, iN_add, iN_and, iN_or, iN_nd, iN_shl, iN_shr, iN_cl, iN_in, iN_mul, K1l, Kn1, k193 w0, r193_1 w0, r193_2 w0, r193_3 w0, r193_4 w0, r193_5 w0, r193_6 w0, r193_7 w0, r193_8 w0, r193_18 w0, r193_19 w0, r193_32 w0, r193_33 w0, r193_34 w0, r193_36 w0, r193_38 w0, r193_39 w0, r193_40 w0, r193_42 w0, r193_45 w0, r193_46 w0, r193_47 w0, r193_48 w0, r193_49 w0, r193_50 w0, t179r, e2 _ F.co]
    cases rg x2 (5 + 1) <;> simp only [gT, nbeq, Option.isSome_some, Option.getD_some, Bool.and_true, Bool.true_and, Bool.and_self, mX_some, bS, bN_if, bN_01, i1_01, i0_01, if_true, if_false, Bool.false_eq_true, false_and, and_false, and_true, true_and, and_self, Bool.or_false, Bool.false_or, Bool.or_true, Bool.true_or, Bool.false_and, Bool.and_false, decide_true, decide_false] <;> exact ⟨_, rfl, FQ.c0⟩
  · have hn8 := W.1.1
    have h2p := pw_8 hn8
    have h1p := pw_pos (q 0 0)
    simp (disch := omega) only [gT, nbeq, Option.isSome_some, Option.getD_some, Bool.and_true, Bool.true_and, Bool.and_self, mX_some, bS, bN_if, bN_01, i1_01, i0_01, if_true, if_false, Bool.false_eq_true, false_and, and_false, and_true, true_and, and_self, Bool.or_false, Bool.false_or, Bool.or_true, Bool.true_or, Bool.false_and, Bool.and_false, decide_true, decide_false, L0, L1, L2, L3, L4, L5, L6, L7, L8, L9, L10, L11, L12, L13, L14, L15, L16, L17, L18, L19, L20, L21, L22, L23, L24, L25, L27, L33, L39, L40, L45, L48, L57, L60, L72, L90, L97, L98, L99, L100, L121, L122, L242, L255, L256, L580, L600, L1000, L1584, L1000000, Ln1, iN_add, iN_and, iN_or, iN_nd, iN_shl, iN_shr, iN_cl, iN_in, iN_mul, K1l, Kn1, e1, H.k, H.n, t17r]
    by_cases n0 : q 0 0 = 0
    · rw [ieq_p n0]
      refine ⟨_, rfl, fun h0 F => ?_⟩
      have w0 := R.1.q F
      obtain ⟨h', f1, f2, f3, f4, f5⟩ := e2 _ F.co
      have w1 := f4.1
      unfold f285 f285_29
      simp (disch := omega) only [gT, nbeq, Option.isSome_some, Option.getD_some, Bool.and_true, Bool.true_and, Bool.and_self, mX_some, bS, bN_if, bN_01, i1_01, i0_01, if_true, if_false, Bool.false_eq_true, false_and, and_false, and_true, true_and, and_self, Bool.or_false, Bool.false_or, Bool.or_true, Bool.true_or, Bool.false_and, Bool.and_false, decide_true, decide_false, L0, L1, L2, L3, L4, L5, L6, L7, L8, L9, L10, L11, L12, L13, L14, L15, L16, L17, L18, L19, L20, L21, L22, L23, L24, L25, L27, L33, L39, L40, L45, L48, L57, L60, L72, L90, L97, L98, L99, L100, L121, L122, L242, L255, L256, L580, L600, L1000, L1584, L1000000, Ln1, iN_add, iN_and, iN_or, iN_nd, iN_shl, iN_shr, iN_cl, iN_in, iN_mul, K1l, Kn1, k193 w0, r193_1 w0, r193_2 w0, r193_3 w0, r193_4 w0, r193_5 w0, r193_6 w0, r193_7 w0, r193_8 w0, r193_18 w0, r193_19 w0, r193_32 w0, r193_33 w0, r193_34 w0, r193_36 w0, r193_38 w0, r193_39 w0, r193_40 w0, r193_42 w0, r193_45 w0, r193_46 w0, r193_47 w0, r193_48 w0, r193_49 w0, r193_50 w0, k193 w1, r193_1 w1, r193_2 w1, r193_3 w1, r193_4 w1, r193_5 w1, r193_6 w1, r193_7 w1, r193_8 w1, r193_18 w1, r193_19 w1, r193_32 w1, r193_33 w1, r193_34 w1, r193_36 w1, r193_38 w1, r193_39 w1, r193_40 w1, r193_42 w1, r193_45 w1, r193_46 w1, r193_47 w1, r193_48 w1, r193_49 w1, r193_50 w1, t179r, f1, f4.n, ieq_p]
      cases rg x2 (5 + 1) <;> simp only [gT, nbeq, Option.isSome_some, Option.getD_some, Bool.and_true, Bool.true_and, Bool.and_self, mX_some, bS, bN_if, bN_01, i1_01, i0_01, if_true, if_false, Bool.false_eq_true, false_and, and_false, and_true, true_and, and_self, Bool.or_false, Bool.false_or, Bool.or_true, Bool.true_or, Bool.false_and, Bool.and_false, decide_true, decide_false]
      · exact ⟨_, rfl, FQ.c0⟩
      · exact ⟨_, rfl, FQ.c0.tr f2.qM⟩
    · rw [ieq_n (by omega) (by omega) n0]
      cases hr : rg x2 (5 + 1) with
      | false =>
        simp only [gT, nbeq, Option.isSome_some, Option.getD_some, Bool.and_true, Bool.true_and, Bool.and_self, mX_some, bS, bN_if, bN_01, i1_01, i0_01, if_true, if_false, Bool.false_eq_true, false_and, and_false, and_true, true_and, and_self, Bool.or_false, Bool.false_or, Bool.or_true, Bool.true_or, Bool.false_and, Bool.and_false, decide_true, decide_false]
        refine ⟨_, rfl, fun h0 F => ?_⟩
        have w0 := R.1.q F
        unfold f285 f285_29
        simp (disch := omega) only [gT, nbeq, Option.isSome_some, Option.getD_some, Bool.and_true, Bool.true_and, Bool.and_self, mX_some, bS, bN_if, bN_01, i1_01, i0_01, if_true, if_false, Bool.false_eq_true, false_and, and_false, and_true, true_and, and_self, Bool.or_false, Bool.false_or, Bool.or_true, Bool.true_or, Bool.false_and, Bool.and_false, decide_true, decide_false, L0, L1, L2, L3, L4, L5, L6, L7, L8, L9, L10, L11, L12, L13, L14, L15, L16, L17, L18, L19, L20, L21, L22, L23, L24, L25, L27, L33, L39, L40, L45, L48, L57, L60, L72, L90, L97, L98, L99, L100, L121, L122, L242, L255, L256, L580, L600, L1000, L1584, L1000000, Ln1, iN_add, iN_and, iN_or, iN_nd, iN_shl, iN_shr, iN_cl, iN_in, iN_mul, K1l, Kn1, k193 w0, r193_1 w0, r193_2 w0, r193_3 w0, r193_4 w0, r193_5 w0, r193_6 w0, r193_7 w0, r193_8 w0, r193_18 w0, r193_19 w0, r193_32 w0, r193_33 w0, r193_34 w0, r193_36 w0, r193_38 w0, r193_39 w0, r193_40 w0, r193_42 w0, r193_45 w0, r193_46 w0, r193_47 w0, r193_48 w0, r193_49 w0, r193_50 w0, t179r, hr]
        exact ⟨_, rfl, FQ.c0⟩
      | true =>
        obtain ⟨t, ht, rfl, _⟩ := rg_t hr
        have hts : tps q t < 256 := by have := ups_lt (fun c => decide (q 2 c = t)) (q 0 0); rw [tps_ups]; omega
        have l1 := hs_le W (b := tps q t)
        have l2 := hs_le W (b := 2 ^ q 0 0 - 1)
        have l3 := hs_pos W n0
        simp (disch := omega) only [gT, nbeq, Option.isSome_some, Option.getD_some, Bool.and_true, Bool.true_and, Bool.and_self, mX_some, bS, bN_if, bN_01, i1_01, i0_01, if_true, if_false, Bool.false_eq_true, false_and, and_false, and_true, true_and, and_self, Bool.or_false, Bool.false_or, Bool.or_true, Bool.true_or, Bool.false_and, Bool.and_false, decide_true, decide_false, t152 H W, t95 H W, t94 H W, iN_l, t109]
        refine ⟨_, rfl, fun h0 F => ?_⟩
        have w0 := R.1.q F
        obtain ⟨h', f1, f2, f3, f4, f5⟩ := e2 _ F.co
        have w1 := f4.1
        have key : mLoop (f285_39 h' 193 (iN t) x3) mFuel (iN 0, iN 0) = some (gN ((if x3 = iN 0 then hs q (tps q t) else hs q (2 ^ q 0 0 - 1)) / Nat.gcd (hs q (2 ^ q 0 0 - 1)) (hs q (tps q t))), h') := by
          rw [ts_eq]
          rw [ts_eq] at l1
          have lk : ∀ k, k ≤ q 0 0 → up (tsf q t) k 0 ≤ 9 * k := up_inv (f := tsf q t) (I := fun k x => x ≤ 9 * k) (n := q 0 0) (fun k x hk hx => by
            have h9 := W.2.2.1 k (by omega)
            unfold tsf
            split <;> omega) (by omega)
          refine lp_up (fun k x => (iN x, iN k)) (tsf q t) (fun x => (gN ((if x3 = iN 0 then x else hs q (2 ^ q 0 0 - 1)) / Nat.gcd (hs q (2 ^ q 0 0 - 1)) x), h')) (fun k x => x ≤ 9 * k) (q 0 0) (a0 := 0) (by omega) (fun k x hk hx => by
            have h9 := W.2.2.1 k (by omega)
            unfold tsf
            split <;> omega) ?_ ?_ (by omega)
          · intro k x hk hx
            have h5 := W.2.2.2.1 k (by omega)
            unfold f285_39 f285_75 tsf
            simp (disch := omega) only [gT, nbeq, Option.isSome_some, Option.getD_some, Bool.and_true, Bool.true_and, Bool.and_self, mX_some, bS, bN_if, bN_01, i1_01, i0_01, if_true, if_false, Bool.false_eq_true, false_and, and_false, and_true, true_and, and_self, Bool.or_false, Bool.false_or, Bool.or_true, Bool.true_or, Bool.false_and, Bool.and_false, decide_true, decide_false, L0, L1, L2, L3, L4, L5, L6, L7, L8, L9, L10, L11, L12, L13, L14, L15, L16, L17, L18, L19, L20, L21, L22, L23, L24, L25, L27, L33, L39, L40, L45, L48, L57, L60, L72, L90, L97, L98, L99, L100, L121, L122, L242, L255, L256, L580, L600, L1000, L1584, L1000000, Ln1, iN_add, iN_and, iN_or, iN_nd, iN_shl, iN_shr, iN_cl, iN_in, iN_mul, k193 w1, r193_1 w1, r193_2 w1, r193_3 w1, r193_4 w1, r193_5 w1, r193_6 w1, r193_7 w1, r193_8 w1, r193_18 w1, r193_19 w1, r193_32 w1, r193_33 w1, r193_34 w1, r193_36 w1, r193_38 w1, r193_39 w1, r193_40 w1, r193_42 w1, r193_45 w1, r193_46 w1, r193_47 w1, r193_48 w1, r193_49 w1, r193_50 w1, f4.n, ile_n, t206 f4, fl2, fl1, ieq_d]
            split
            · rfl
            · rw [Nat.add_zero]
          · intro x hx
            unfold f285_39
            simp (disch := omega) only [gT, nbeq, Option.isSome_some, Option.getD_some, Bool.and_true, Bool.true_and, Bool.and_self, mX_some, bS, bN_if, bN_01, i1_01, i0_01, if_true, if_false, Bool.false_eq_true, false_and, and_false, and_true, true_and, and_self, Bool.or_false, Bool.false_or, Bool.or_true, Bool.true_or, Bool.false_and, Bool.and_false, decide_true, decide_false, L0, L1, L2, L3, L4, L5, L6, L7, L8, L9, L10, L11, L12, L13, L14, L15, L16, L17, L18, L19, L20, L21, L22, L23, L24, L25, L27, L33, L39, L40, L45, L48, L57, L60, L72, L90, L97, L98, L99, L100, L121, L122, L242, L255, L256, L580, L600, L1000, L1584, L1000000, Ln1, iN_add, iN_and, iN_or, iN_nd, iN_shl, iN_shr, iN_cl, iN_in, iN_mul, k193 w1, r193_1 w1, r193_2 w1, r193_3 w1, r193_4 w1, r193_5 w1, r193_6 w1, r193_7 w1, r193_8 w1, r193_18 w1, r193_19 w1, r193_32 w1, r193_33 w1, r193_34 w1, r193_36 w1, r193_38 w1, r193_39 w1, r193_40 w1, r193_42 w1, r193_45 w1, r193_46 w1, r193_47 w1, r193_48 w1, r193_49 w1, r193_50 w1, f4.n, ile_p, iN_all, Nat.one_shiftLeft, iN_sub, t243 f4 W, iN_l, t255]
        unfold f285
        simp (disch := omega) only [gT, nbeq, Option.isSome_some, Option.getD_some, Bool.and_true, Bool.true_and, Bool.and_self, mX_some, bS, bN_if, bN_01, i1_01, i0_01, if_true, if_false, Bool.false_eq_true, false_and, and_false, and_true, true_and, and_self, Bool.or_false, Bool.false_or, Bool.or_true, Bool.true_or, Bool.false_and, Bool.and_false, decide_true, decide_false, L0, L1, L2, L3, L4, L5, L6, L7, L8, L9, L10, L11, L12, L13, L14, L15, L16, L17, L18, L19, L20, L21, L22, L23, L24, L25, L27, L33, L39, L40, L45, L48, L57, L60, L72, L90, L97, L98, L99, L100, L121, L122, L242, L255, L256, L580, L600, L1000, L1584, L1000000, Ln1, iN_add, iN_and, iN_or, iN_nd, iN_shl, iN_shr, iN_cl, iN_in, iN_mul, K1l, Kn1, k193 w0, r193_1 w0, r193_2 w0, r193_3 w0, r193_4 w0, r193_5 w0, r193_6 w0, r193_7 w0, r193_8 w0, r193_18 w0, r193_19 w0, r193_32 w0, r193_33 w0, r193_34 w0, r193_36 w0, r193_38 w0, r193_39 w0, r193_40 w0, r193_42 w0, r193_45 w0, r193_46 w0, r193_47 w0, r193_48 w0, r193_49 w0, r193_50 w0, k193 w1, r193_1 w1, r193_2 w1, r193_3 w1, r193_4 w1, r193_5 w1, r193_6 w1, r193_7 w1, r193_8 w1, r193_18 w1, r193_19 w1, r193_32 w1, r193_33 w1, r193_34 w1, r193_36 w1, r193_38 w1, r193_39 w1, r193_40 w1, r193_42 w1, r193_45 w1, r193_46 w1, r193_47 w1, r193_48 w1, r193_49 w1, r193_50 w1, t179r, hr, f1, f4.n, ieq_n, key]
        exact ⟨_, rfl, FQ.c0.tr f2.qM⟩
end PB
