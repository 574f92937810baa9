/-! waits, colds -/
theorem t252 {h : mH} {q : LQ} (H : MoS h q) (W : QW q) {x : Int32} : f252 h 193 x = some (bN (rg x (2 ^ q 0 0))) := by
  have hn := W.1.1
  have h8 := pw_8 hn
  have h1 := pw_pos (q 0 0)
  have w := H.1
  have e : 2 ^ q 0 0 = (2 ^ q 0 0 - 1) + 1 := by omega
  unfold f252
  simp (disch := omega) only [gT, nbeq, Option.isSome_some, Option.getD_some, Bool.and_true, Bool.true_and, Bool.and_self, mX_some, bS, bN_if, bN_01, i1_01, i0_01, if_true, if_false, Bool.false_eq_true, false_and, and_false, and_true, true_and, and_self, Bool.or_false, Bool.false_or, Bool.or_true, Bool.true_or, Bool.false_and, Bool.and_false, decide_true, decide_false, L0, L1, L2, L3, L4, L5, L6, L7, L8, L9, L10, L11, L12, L13, L14, L15, L16, L17, L18, L19, L20, L21, L22, L23, L24, L25, L27, L33, L39, L40, L45, L48, L57, L60, L72, L90, L97, L98, L99, L100, L121, L122, L242, L255, L256, L580, L600, L1000, L1584, L1000000, Ln1, iN_add, iN_and, iN_or, iN_nd, iN_shl, iN_shr, iN_cl, iN_in, iN_mul, k193 w, r193_1 w, r193_2 w, r193_3 w, r193_4 w, r193_5 w, r193_6 w, r193_7 w, r193_8 w, r193_18 w, r193_19 w, r193_32 w, r193_33 w, r193_34 w, r193_36 w, r193_38 w, r193_39 w, r193_40 w, r193_42 w, r193_45 w, r193_46 w, r193_47 w, r193_48 w, r193_49 w, r193_50 w, H.n, iN_all, Nat.one_shiftLeft, iN_sub, t179r]
  rw [← e]
theorem ldy_le {q : LQ} (W : QW q) {b : Nat} : ldy q b ≤ 100 := by
  have h1 := hs_le W (b := b)
  have h2 := W.1.2.2
  have h3 : (hs q b + q 0 2 - 1) / q 0 2 ≤ hs q b + q 0 2 - 1 := Nat.div_le_self _ _
  unfold ldy; omega
section PB
variable {h : mH}
theorem c_waits (R : Rel h) (x1 x2 x3 x4 : Int32) : ∃ v, f164 h 0 x1 x2 x3 x4 = some v ∧ ∀ h0, FQ h h0 → ∃ h2, f292 h0 193 x1 x2 x3 x4 = some (v, h2) ∧ FQ h0 h2 := by
  have w := R.1
  unfold f164 f164_38
  simp only [gT, nbeq, Option.isSome_some, Option.getD_some, Bool.and_true, Bool.true_and, Bool.and_self, mX_some, bS, bN_if, bN_01, i1_01, i0_01, if_true, if_false, Bool.false_eq_true, false_and, and_false, and_true, true_and, and_self, Bool.or_false, Bool.false_or, Bool.or_true, Bool.true_or, Bool.false_and, Bool.and_false, decide_true, decide_false, k0 w, r0_0 w, r0_1 w, r0_2 w, r0_3 w, r0_4 w, r0_5 w, r0_6 w, r0_7 w, r0_8 w, k1 w, r1_0 w, r1_1 w, r1_2 w, r1_3 w, r1_4 w]
  rcases R.pick x1 with ⟨e1, e2⟩ | ⟨i, q, hi, rfl, W, H, e1, e2⟩
  · simp only [gT, nbeq, Option.isSome_some, Option.getD_some, Bool.and_true, Bool.true_and, Bool.and_self, mX_some, bS, bN_if, bN_01, i1_01, i0_01, if_true, if_false, Bool.false_eq_true, false_and, and_false, and_true, true_and, and_self, Bool.or_false, Bool.false_or, Bool.or_true, Bool.true_or, Bool.false_and, Bool.and_false, decide_true, decide_false, e1, K1l, Kn1]
    refine ⟨_, rfl, fun h0 F => ?_⟩
    have w0 := R.1.q F
    unfold f292 f292_31
    simp (disch := omega) only [gT, nbeq, Option.isSome_some, Option.getD_some, Bool.and_true, Bool.true_and, Bool.and_self, mX_some, bS, bN_if, bN_01, i1_01, i0_01, if_true, if_false, Bool.false_eq_true, false_and, and_false, and_true, true_and, and_self, Bool.or_false, Bool.false_or, Bool.or_true, Bool.true_or, Bool.false_and, Bool.and_false, decide_true, decide_false, L0, L1, L2, L3, L4, L5, L6, L7, L8, L9, L10, L11, L12, L13, L14, L15, L16, L17, L18, L19, L20, L21, L22, L23, L24, L25, L27, L33, L39, L40, L45, L48, L57, L60, L72, L90, L97, L98, L99, L100, L121, L122, L242, L255, L256, L580, L600, L1000, L1584, L1000000, Ln1, iN_add, iN_and, iN_or, iN_nd, iN_shl, iN_shr, iN_cl, iN_in, iN_mul, K1l, Kn1, k193 w0, r193_1 w0, r193_2 w0, r193_3 w0, r193_4 w0, r193_5 w0, r193_6 w0, r193_7 w0, r193_8 w0, r193_18 w0, r193_19 w0, r193_32 w0, r193_33 w0, r193_34 w0, r193_36 w0, r193_38 w0, r193_39 w0, r193_40 w0, r193_42 w0, r193_45 w0, r193_46 w0, r193_47 w0, r193_48 w0, r193_49 w0, r193_50 w0, t179r, e2 _ F.co]
    cases rg x3 (9 + 1) <;> simp only [gT, nbeq, Option.isSome_some, Option.getD_some, Bool.and_true, Bool.true_and, Bool.and_self, mX_some, bS, bN_if, bN_01, i1_01, i0_01, if_true, if_false, Bool.false_eq_true, false_and, and_false, and_true, true_and, and_self, Bool.or_false, Bool.false_or, Bool.or_true, Bool.true_or, Bool.false_and, Bool.and_false, decide_true, decide_false] <;> exact ⟨_, rfl, FQ.c0⟩
  · have hn8 := W.1.1
    have h2p := pw_8 hn8
    have h1p := pw_pos (q 0 0)
    have e : 2 ^ q 0 0 - 1 + 1 = 2 ^ q 0 0 := by omega
    simp (disch := omega) only [gT, nbeq, Option.isSome_some, Option.getD_some, Bool.and_true, Bool.true_and, Bool.and_self, mX_some, bS, bN_if, bN_01, i1_01, i0_01, if_true, if_false, Bool.false_eq_true, false_and, and_false, and_true, true_and, and_self, Bool.or_false, Bool.false_or, Bool.or_true, Bool.true_or, Bool.false_and, Bool.and_false, decide_true, decide_false, L0, L1, L2, L3, L4, L5, L6, L7, L8, L9, L10, L11, L12, L13, L14, L15, L16, L17, L18, L19, L20, L21, L22, L23, L24, L25, L27, L33, L39, L40, L45, L48, L57, L60, L72, L90, L97, L98, L99, L100, L121, L122, L242, L255, L256, L580, L600, L1000, L1584, L1000000, Ln1, iN_add, iN_and, iN_or, iN_nd, iN_shl, iN_shr, iN_cl, iN_in, iN_mul, K1l, Kn1, e1, H.k, t94 H W, t17r, e]
    cases hc : rg x2 (2 ^ q 0 0) with
    | false =>
      simp only [gT, nbeq, Option.isSome_some, Option.getD_some, Bool.and_true, Bool.true_and, Bool.and_self, mX_some, bS, bN_if, bN_01, i1_01, i0_01, if_true, if_false, Bool.false_eq_true, false_and, and_false, and_true, true_and, and_self, Bool.or_false, Bool.false_or, Bool.or_true, Bool.true_or, Bool.false_and, Bool.and_false, decide_true, decide_false]
      refine ⟨_, rfl, fun h0 F => ?_⟩
      have w0 := R.1.q F
      obtain ⟨h', f1, f2, f3, f4, f5⟩ := e2 _ F.co
      have w1 := f4.1
      unfold f292 f292_31
      simp (disch := omega) only [gT, nbeq, Option.isSome_some, Option.getD_some, Bool.and_true, Bool.true_and, Bool.and_self, mX_some, bS, bN_if, bN_01, i1_01, i0_01, if_true, if_false, Bool.false_eq_true, false_and, and_false, and_true, true_and, and_self, Bool.or_false, Bool.false_or, Bool.or_true, Bool.true_or, Bool.false_and, Bool.and_false, decide_true, decide_false, L0, L1, L2, L3, L4, L5, L6, L7, L8, L9, L10, L11, L12, L13, L14, L15, L16, L17, L18, L19, L20, L21, L22, L23, L24, L25, L27, L33, L39, L40, L45, L48, L57, L60, L72, L90, L97, L98, L99, L100, L121, L122, L242, L255, L256, L580, L600, L1000, L1584, L1000000, Ln1, iN_add, iN_and, iN_or, iN_nd, iN_shl, iN_shr, iN_cl, iN_in, iN_mul, K1l, Kn1, k193 w0, r193_1 w0, r193_2 w0, r193_3 w0, r193_4 w0, r193_5 w0, r193_6 w0, r193_7 w0, r193_8 w0, r193_18 w0, r193_19 w0, r193_32 w0, r193_33 w0, r193_34 w0, r193_36 w0, r193_38 w0, r193_39 w0, r193_40 w0, r193_42 w0, r193_45 w0, r193_46 w0, r193_47 w0, r193_48 w0, r193_49 w0, r193_50 w0, k193 w1, r193_1 w1, r193_2 w1, r193_3 w1, r193_4 w1, r193_5 w1, r193_6 w1, r193_7 w1, r193_8 w1, r193_18 w1, r193_19 w1, r193_32 w1, r193_33 w1, r193_34 w1, r193_36 w1, r193_38 w1, r193_39 w1, r193_40 w1, r193_42 w1, r193_45 w1, r193_46 w1, r193_47 w1, r193_48 w1, r193_49 w1, r193_50 w1, t179r, f1, t252 f4 W, hc]
      cases rg x3 (9 + 1) <;> simp only [gT, nbeq, Option.isSome_some, Option.getD_some, Bool.and_true, Bool.true_and, Bool.and_self, mX_some, bS, bN_if, bN_01, i1_01, i0_01, if_true, if_false, Bool.false_eq_true, false_and, and_false, and_true, true_and, and_self, Bool.or_false, Bool.false_or, Bool.or_true, Bool.true_or, Bool.false_and, Bool.and_false, decide_true, decide_false]
      · exact ⟨_, rfl, FQ.c0⟩
      · exact ⟨_, rfl, FQ.c0.tr f2.qM⟩
    | true =>
      obtain ⟨b, hb, rfl, _⟩ := rg_t hc
      simp only [gT, nbeq, Option.isSome_some, Option.getD_some, Bool.and_true, Bool.true_and, Bool.and_self, mX_some, bS, bN_if, bN_01, i1_01, i0_01, if_true, if_false, Bool.false_eq_true, false_and, and_false, and_true, true_and, and_self, Bool.or_false, Bool.false_or, Bool.or_true, Bool.true_or, Bool.false_and, Bool.and_false, decide_true, decide_false]
      cases hp : rg x3 (9 + 1) with
      | false =>
        simp only [gT, nbeq, Option.isSome_some, Option.getD_some, Bool.and_true, Bool.true_and, Bool.and_self, mX_some, bS, bN_if, bN_01, i1_01, i0_01, if_true, if_false, Bool.false_eq_true, false_and, and_false, and_true, true_and, and_self, Bool.or_false, Bool.false_or, Bool.or_true, Bool.true_or, Bool.false_and, Bool.and_false, decide_true, decide_false]
        refine ⟨_, rfl, fun h0 F => ?_⟩
        have w0 := R.1.q F
        unfold f292 f292_31
        simp (disch := omega) only [gT, nbeq, Option.isSome_some, Option.getD_some, Bool.and_true, Bool.true_and, Bool.and_self, mX_some, bS, bN_if, bN_01, i1_01, i0_01, if_true, if_false, Bool.false_eq_true, false_and, and_false, and_true, true_and, and_self, Bool.or_false, Bool.false_or, Bool.or_true, Bool.true_or, Bool.false_and, Bool.and_false, decide_true, decide_false, L0, L1, L2, L3, L4, L5, L6, L7, L8, L9, L10, L11, L12, L13, L14, L15, L16, L17, L18, L19, L20, L21, L22, L23, L24, L25, L27, L33, L39, L40, L45, L48, L57, L60, L72, L90, L97, L98, L99, L100, L121, L122, L242, L255, L256, L580, L600, L1000, L1584, L1000000, Ln1, iN_add, iN_and, iN_or, iN_nd, iN_shl, iN_shr, iN_cl, iN_in, iN_mul, K1l, Kn1, k193 w0, r193_1 w0, r193_2 w0, r193_3 w0, r193_4 w0, r193_5 w0, r193_6 w0, r193_7 w0, r193_8 w0, r193_18 w0, r193_19 w0, r193_32 w0, r193_33 w0, r193_34 w0, r193_36 w0, r193_38 w0, r193_39 w0, r193_40 w0, r193_42 w0, r193_45 w0, r193_46 w0, r193_47 w0, r193_48 w0, r193_49 w0, r193_50 w0, t179r, hp]
        exact ⟨_, rfl, FQ.c0⟩
      | true =>
        obtain ⟨p, hpp, rfl, _⟩ := rg_t hp
        have hl := ldy_le W (b := b)
        simp (disch := omega) only [gT, nbeq, Option.isSome_some, Option.getD_some, Bool.and_true, Bool.true_and, Bool.and_self, mX_some, bS, bN_if, bN_01, i1_01, i0_01, if_true, if_false, Bool.false_eq_true, false_and, and_false, and_true, true_and, and_self, Bool.or_false, Bool.false_or, Bool.or_true, Bool.true_or, Bool.false_and, Bool.and_false, decide_true, decide_false, L0, L1, L2, L3, L4, L5, L6, L7, L8, L9, L10, L11, L12, L13, L14, L15, L16, L17, L18, L19, L20, L21, L22, L23, L24, L25, L27, L33, L39, L40, L45, L48, L57, L60, L72, L90, L97, L98, L99, L100, L121, L122, L242, L255, L256, L580, L600, L1000, L1584, L1000000, Ln1, iN_add, iN_and, iN_or, iN_nd, iN_shl, iN_shr, iN_cl, iN_in, iN_mul, K10l, t106 H W, iN_sub, iN_l, gN_mul, t109]
        refine ⟨_, rfl, fun h0 F => ?_⟩
        have w0 := R.1.q F
        obtain ⟨h', f1, f2, f3, f4, f5⟩ := e2 _ F.co
        have w1 := f4.1
        unfold f292
        simp (disch := omega) only [gT, nbeq, Option.isSome_some, Option.getD_some, Bool.and_true, Bool.true_and, Bool.and_self, mX_some, bS, bN_if, bN_01, i1_01, i0_01, if_true, if_false, Bool.false_eq_true, false_and, and_false, and_true, true_and, and_self, Bool.or_false, Bool.false_or, Bool.or_true, Bool.true_or, Bool.false_and, Bool.and_false, decide_true, decide_false, L0, L1, L2, L3, L4, L5, L6, L7, L8, L9, L10, L11, L12, L13, L14, L15, L16, L17, L18, L19, L20, L21, L22, L23, L24, L25, L27, L33, L39, L40, L45, L48, L57, L60, L72, L90, L97, L98, L99, L100, L121, L122, L242, L255, L256, L580, L600, L1000, L1584, L1000000, Ln1, iN_add, iN_and, iN_or, iN_nd, iN_shl, iN_shr, iN_cl, iN_in, iN_mul, K1l, Kn1, K10l, k193 w0, r193_1 w0, r193_2 w0, r193_3 w0, r193_4 w0, r193_5 w0, r193_6 w0, r193_7 w0, r193_8 w0, r193_18 w0, r193_19 w0, r193_32 w0, r193_33 w0, r193_34 w0, r193_36 w0, r193_38 w0, r193_39 w0, r193_40 w0, r193_42 w0, r193_45 w0, r193_46 w0, r193_47 w0, r193_48 w0, r193_49 w0, r193_50 w0, k193 w1, r193_1 w1, r193_2 w1, r193_3 w1, r193_4 w1, r193_5 w1, r193_6 w1, r193_7 w1, r193_8 w1, r193_18 w1, r193_19 w1, r193_32 w1, r193_33 w1, r193_34 w1, r193_36 w1, r193_38 w1, r193_39 w1, r193_40 w1, r193_42 w1, r193_45 w1, r193_46 w1, r193_47 w1, r193_48 w1, r193_49 w1, r193_50 w1, t179r, f1, t252 f4 W, hc, hp, t253 f4 W, iN_l, gN_mul, gN_sub, t255]
        exact ⟨_, rfl, FQ.c0.tr f2.qM⟩
end PB
theorem t108 {h : mH} {x k : Nat} (hk : k < 1000) : f108 h (gN x) (iN k) = some (gN (x ^ k)) := by
  have e : ∀ k, up (fun _ y => y * x) k 1 = x ^ k := by
    intro k
    induction k with
    | zero => rfl
    | succ k ih => simp only [up]; rw [ih, Nat.pow_succ]
  rw [← e k]
  unfold f108
  refine lp_up (fun i y => (gN y, iN i)) (fun _ y => y * x) gN (fun _ _ => True) k (a0 := 1) trivial (fun _ _ _ _ => trivial) ?_ ?_ (by omega)
  · intro i y hi _
    unfold f108_5
    simp (disch := omega) only [gT, nbeq, Option.isSome_some, Option.getD_some, Bool.and_true, Bool.true_and, Bool.and_self, mX_some, bS, bN_if, bN_01, i1_01, i0_01, if_true, if_false, Bool.false_eq_true, false_and, and_false, and_true, true_and, and_self, Bool.or_false, Bool.false_or, Bool.or_true, Bool.true_or, Bool.false_and, Bool.and_false, decide_true, decide_false, L0, L1, L2, L3, L4, L5, L6, L7, L8, L9, L10, L11, L12, L13, L14, L15, L16, L17, L18, L19, L20, L21, L22, L23, L24, L25, L27, L33, L39, L40, L45, L48, L57, L60, L72, L90, L97, L98, L99, L100, L121, L122, L242, L255, L256, L580, L600, L1000, L1584, L1000000, Ln1, iN_add, iN_and, iN_or, iN_nd, iN_shl, iN_shr, iN_cl, iN_in, iN_mul, ile_n, gN_mul]
  · intro y _
    unfold f108_5
    simp (disch := omega) only [gT, nbeq, Option.isSome_some, Option.getD_some, Bool.and_true, Bool.true_and, Bool.and_self, mX_some, bS, bN_if, bN_01, i1_01, i0_01, if_true, if_false, Bool.false_eq_true, false_and, and_false, and_true, true_and, and_self, Bool.or_false, Bool.false_or, Bool.or_true, Bool.true_or, Bool.false_and, Bool.and_false, decide_true, decide_false, L0, L1, L2, L3, L4, L5, L6, L7, L8, L9, L10, L11, L12, L13, L14, L15, L16, L17, L18, L19, L20, L21, L22, L23, L24, L25, L27, L33, L39, L40, L45, L48, L57, L60, L72, L90, L97, L98, L99, L100, L121, L122, L242, L255, L256, L580, L600, L1000, L1584, L1000000, Ln1, iN_add, iN_and, iN_or, iN_nd, iN_shl, iN_shr, iN_cl, iN_in, iN_mul, ile_p]
theorem t254 {h : mH} {x k : Nat} (hk : k < 1000) : f254 h (gN x) (iN k) = some (gN (x ^ k)) := t108 (h := h) hk
def chf (n k : Nat) : Nat → Nat → Nat := fun i x => x * (n - k + (i + 1)) / (i + 1)
def ch (n k : Nat) : Nat := up (chf n k) k 1
def wyf (n : Nat) : Nat → Nat → Nat := fun k x => x * (n - k) / (k + 1)
def wy (n k : Nat) : Nat := up (wyf n) k 1
theorem ch_wy : ∀ n, n < 10 → ∀ k, k < 10 → k ≤ n → ch n k = wy n k := by decide +kernel
def trm (n p k : Nat) : Nat := wy n k * (10 - p) ^ k * p ^ (n - k)
theorem trm_le : ∀ n, n < 10 → ∀ p, p < 11 → ∀ k, k < 10 → k ≤ n → trm n p k ≤ 1000000000 := by decide +kernel
theorem wy_le : ∀ n, n < 10 → ∀ k, k < 11 → wy n k ≤ 1000 := by decide +kernel
theorem t107 {h : mH} {n k : Nat} (hn : n < 10) (hk : k ≤ n) : f107 h (iN n) (iN k) = some (gN (ch n k)) := by
  have hb : ∀ i, i < 10 → 9 ^ i ≤ 387420489 := by decide
  unfold f107
  refine lp_up (fun i y => (gN y, iN (i + 1))) (chf n k) gN (fun i y => y ≤ 9 ^ i) k (a0 := 1) (by decide) ?_ ?_ ?_ (by omega)
  · intro i y hi hy
    unfold chf
    have h1 : y * (n - k + (i + 1)) ≤ 9 ^ i * 9 := Nat.mul_le_mul hy (by omega)
    have h2 : y * (n - k + (i + 1)) / (i + 1) ≤ y * (n - k + (i + 1)) := Nat.div_le_self _ _
    rw [Nat.pow_succ]; omega
  · intro i y hi hy
    have h3 := hb i (by omega)
    have h1 : y * (n - k + (i + 1)) ≤ 387420489 * 9 := Nat.mul_le_mul (by omega) (by omega)
    unfold f107_5 chf
    simp (disch := omega) only [gT, nbeq, Option.isSome_some, Option.getD_some, Bool.and_true, Bool.true_and, Bool.and_self, mX_some, bS, bN_if, bN_01, i1_01, i0_01, if_true, if_false, Bool.false_eq_true, false_and, and_false, and_true, true_and, and_self, Bool.or_false, Bool.false_or, Bool.or_true, Bool.true_or, Bool.false_and, Bool.and_false, decide_true, decide_false, L0, L1, L2, L3, L4, L5, L6, L7, L8, L9, L10, L11, L12, L13, L14, L15, L16, L17, L18, L19, L20, L21, L22, L23, L24, L25, L27, L33, L39, L40, L45, L48, L57, L60, L72, L90, L97, L98, L99, L100, L121, L122, L242, L255, L256, L580, L600, L1000, L1584, L1000000, Ln1, iN_add, iN_and, iN_or, iN_nd, iN_shl, iN_shr, iN_cl, iN_in, iN_mul, K0l, ilt_n, iN_sub, iN_l, gN_nz, gN_mul, gN_div]
  · intro y _
    unfold f107_5
    simp (disch := omega) only [gT, nbeq, Option.isSome_some, Option.getD_some, Bool.and_true, Bool.true_and, Bool.and_self, mX_some, bS, bN_if, bN_01, i1_01, i0_01, if_true, if_false, Bool.false_eq_true, false_and, and_false, and_true, true_and, and_self, Bool.or_false, Bool.false_or, Bool.or_true, Bool.true_or, Bool.false_and, Bool.and_false, decide_true, decide_false, L0, L1, L2, L3, L4, L5, L6, L7, L8, L9, L10, L11, L12, L13, L14, L15, L16, L17, L18, L19, L20, L21, L22, L23, L24, L25, L27, L33, L39, L40, L45, L48, L57, L60, L72, L90, L97, L98, L99, L100, L121, L122, L242, L255, L256, L580, L600, L1000, L1584, L1000000, Ln1, iN_add, iN_and, iN_or, iN_nd, iN_shl, iN_shr, iN_cl, iN_in, iN_mul, ilt_p]
theorem sm_off (T : Nat → Nat) (d : Nat) : ∀ j, sm (fun k => if d ≤ k then T k else 0) (d + j) = sm (fun i => T (d + i)) j := by
  intro j
  induction j with
  | zero =>
    have : ∀ m, m ≤ d → sm (fun k => if d ≤ k then T k else 0) m = 0 := by
      intro m
      induction m with
      | zero => intro _; rfl
      | succ m ih => intro hm; simp only [sm]; rw [ih (by omega), if_neg (by omega)]
    exact this d (Nat.le_refl d)
  | succ j ih =>
    show sm (fun k => if d ≤ k then T k else 0) (d + j) + (if d ≤ d + j then T (d + j) else 0) = sm (fun i => T (d + i)) j + T (d + j)
    rw [ih, if_pos (by omega)]
def cSum (n p d : Nat) : Nat := sm (fun k => if d ≤ k then trm n p k else 0) (n + 1)
theorem sm_le {f : Nat → Nat} {B : Nat} : ∀ n, (∀ k, k < n → f k ≤ B) → sm f n ≤ B * n := by
  intro n
  induction n with
  | zero => intro _; exact Nat.le_refl _
  | succ n ih =>
    intro h
    have h1 := ih (fun k hk => h k (by omega))
    have h2 := h n (by omega)
    simp only [sm]
    rw [Nat.mul_succ]; omega
theorem cSum_le {n p d : Nat} (hn : n < 10) (hp : p < 11) : cSum n p d ≤ 10000000000 := by
  have := sm_le (f := fun k => if d ≤ k then trm n p k else 0) (B := 1000000000) (n + 1) (fun k hk => by
    show (if d ≤ k then trm n p k else 0) ≤ _
    split
    · exact trm_le n hn p hp k (by omega) (by omega)
    · omega)
  unfold cSum; omega
theorem pw10 : ∀ n, n < 10 → 1 ≤ 10 ^ n ∧ 10 ^ n ≤ 1000000000 := by decide
theorem t105l {h : mH} {n p d : Nat} {u : Int32} (hn : n < 10) (hp : p < 11) (hd : d ≤ 100) : mLoop (f105_68 h (iN n) (iN p) u) mFuel (gN 0, iN d) = some (gN ((if u = iN 0 then cSum n p d else 10 ^ n) / Nat.gcd (10 ^ n) (cSum n p d))) := by
  have h10 := pw10 n hn
  have hc := cSum_le (d := d) hn hp
  have fin : ∀ x, x = cSum n p d → ∀ k, n < k → k < 1000 → f105_68 h (iN n) (iN p) u (gN x, iN k) = some (.inr (gN ((if u = iN 0 then cSum n p d else 10 ^ n) / Nat.gcd (10 ^ n) (cSum n p d)))) := by
    intro x hx k hk hk2
    subst hx
    unfold f105_68
    simp (disch := omega) only [gT, nbeq, Option.isSome_some, Option.getD_some, Bool.and_true, Bool.true_and, Bool.and_self, mX_some, bS, bN_if, bN_01, i1_01, i0_01, if_true, if_false, Bool.false_eq_true, false_and, and_false, and_true, true_and, and_self, Bool.or_false, Bool.false_or, Bool.or_true, Bool.true_or, Bool.false_and, Bool.and_false, decide_true, decide_false, L0, L1, L2, L3, L4, L5, L6, L7, L8, L9, L10, L11, L12, L13, L14, L15, L16, L17, L18, L19, L20, L21, L22, L23, L24, L25, L27, L33, L39, L40, L45, L48, L57, L60, L72, L90, L97, L98, L99, L100, L121, L122, L242, L255, L256, L580, L600, L1000, L1584, L1000000, Ln1, iN_add, iN_and, iN_or, iN_nd, iN_shl, iN_shr, iN_cl, iN_in, iN_mul, K10l, ilt_p, t108, t109]
  by_cases hdn : d ≤ n
  · have e : cSum n p d = up (fun j x => x + trm n p (d + j)) (n + 1 - d) 0 := by
      unfold cSum
      have e1 : n + 1 = d + (n + 1 - d) := by omega
      conv => lhs; rw [e1]
      rw [sm_off, up_sm, Nat.zero_add]
    have := lp_up (body := f105_68 h (iN n) (iN p) u) (fun j x => (gN x, iN (d + j))) (fun j x => x + trm n p (d + j)) (fun _ => gN ((if u = iN 0 then cSum n p d else 10 ^ n) / Nat.gcd (10 ^ n) (cSum n p d))) (fun j x => x = up (fun j x => x + trm n p (d + j)) j 0) (n + 1 - d) (a0 := 0) rfl (fun k a _ ha => by rw [ha]; rfl) (fun j x hj hx => by
      have c1 : ch n (d + j) = wy n (d + j) := ch_wy n hn (d + j) (by omega) (by omega)
      unfold f105_68
      simp (disch := omega) only [gT, nbeq, Option.isSome_some, Option.getD_some, Bool.and_true, Bool.true_and, Bool.and_self, mX_some, bS, bN_if, bN_01, i1_01, i0_01, if_true, if_false, Bool.false_eq_true, false_and, and_false, and_true, true_and, and_self, Bool.or_false, Bool.false_or, Bool.or_true, Bool.true_or, Bool.false_and, Bool.and_false, decide_true, decide_false, L0, L1, L2, L3, L4, L5, L6, L7, L8, L9, L10, L11, L12, L13, L14, L15, L16, L17, L18, L19, L20, L21, L22, L23, L24, L25, L27, L33, L39, L40, L45, L48, L57, L60, L72, L90, L97, L98, L99, L100, L121, L122, L242, L255, L256, L580, L600, L1000, L1584, L1000000, Ln1, iN_add, iN_and, iN_or, iN_nd, iN_shl, iN_shr, iN_cl, iN_in, iN_mul, ilt_n, t107, t108, iN_sub, iN_l, gN_mul, gN_add, c1]
      rfl) (fun x hx => fin x (by rw [hx, e]) _ (by omega) (by omega)) (by omega)
    exact this
  · have e : cSum n p d = 0 := by
      have : ∀ m, m ≤ d → sm (fun k => if d ≤ k then trm n p k else 0) m = 0 := by
        intro m
        induction m with
        | zero => intro _; rfl
        | succ m ih => intro hm; simp only [sm]; rw [ih (by omega), if_neg (by omega)]
      exact this (n + 1) (by omega)
    have := lp_run (body := f105_68 h (iN n) (iN p) u) (fun _ => (gN 0, iN d)) 0 (fun i hi => by omega) (fin 0 e.symm d (by omega) (by omega)) (by omega)
    exact this
theorem t251l {h : mH} {q : LQ} (H : MoS h q) (W : QW q) {b n p : Nat} {u : Int32} (hb : b < 2147483648) (hn : n < 10) (hp : p < 11) : mLoop (f251_55 h 193 (iN b) (iN n) (iN p) u) mFuel (gN 0, gN 1, iN 0) = some (gN ((if u = iN 0 then cSum n p (ldy q b) else 10 ^ n) / Nat.gcd (10 ^ n) (cSum n p (ldy q b))), h) := by
  have w := H.1
  have h10 := pw10 n hn
  have hc := cSum_le (d := ldy q b) hn hp
  have hl := ldy_le W (b := b)
  have := lp_up (body := f251_55 h 193 (iN b) (iN n) (iN p) u) (fun k (x : Nat × Nat) => (gN x.1, gN x.2, iN k)) (fun k x => (x.1 + (if ldy q b ≤ k then x.2 * (10 - p) ^ k * p ^ (n - k) else 0), wyf n k x.2)) (fun x => (gN ((if u = iN 0 then x.1 else 10 ^ n) / Nat.gcd (10 ^ n) x.1), h)) (fun k x => x.2 = wy n k ∧ x.1 = sm (fun k => if ldy q b ≤ k then trm n p k else 0) k) (n + 1) (a0 := (0, 1)) ⟨rfl, rfl⟩ (fun k x hk hx => by
      refine ⟨by show wyf n k x.2 = _; rw [hx.1]; rfl, ?_⟩
      show x.1 + _ = sm _ (k + 1)
      simp only [sm]
      rw [hx.2, hx.1]; rfl) (fun k x hk hx => by
      have hw := wy_le n hn k (by omega)
      have hx2 : x.2 ≤ 1000 := by rw [hx.1]; exact hw
      have hm : x.2 * (n - k) ≤ 1000 * 10 := Nat.mul_le_mul hx2 (by omega)
      unfold f251_55 f251_103 f251_106 f251_122 wyf
      simp (disch := omega) only [gT, nbeq, Option.isSome_some, Option.getD_some, Bool.and_true, Bool.true_and, Bool.and_self, mX_some, bS, bN_if, bN_01, i1_01, i0_01, if_true, if_false, Bool.false_eq_true, false_and, and_false, and_true, true_and, and_self, Bool.or_false, Bool.false_or, Bool.or_true, Bool.true_or, Bool.false_and, Bool.and_false, decide_true, decide_false, L0, L1, L2, L3, L4, L5, L6, L7, L8, L9, L10, L11, L12, L13, L14, L15, L16, L17, L18, L19, L20, L21, L22, L23, L24, L25, L27, L33, L39, L40, L45, L48, L57, L60, L72, L90, L97, L98, L99, L100, L121, L122, L242, L255, L256, L580, L600, L1000, L1584, L1000000, Ln1, iN_add, iN_and, iN_or, iN_nd, iN_shl, iN_shr, iN_cl, iN_in, iN_mul, K0l, K10l, k193 w, r193_1 w, r193_2 w, r193_3 w, r193_4 w, r193_5 w, r193_6 w, r193_7 w, r193_8 w, r193_18 w, r193_19 w, r193_32 w, r193_33 w, r193_34 w, r193_36 w, r193_38 w, r193_39 w, r193_40 w, r193_42 w, r193_45 w, r193_46 w, r193_47 w, r193_48 w, r193_49 w, r193_50 w, ilt_n, t253 H W]
      by_cases e : ldy q b ≤ k
      · rw [ilt_n (by omega) (by omega) e]
        simp (disch := omega) only [gT, nbeq, Option.isSome_some, Option.getD_some, Bool.and_true, Bool.true_and, Bool.and_self, mX_some, bS, bN_if, bN_01, i1_01, i0_01, if_true, if_false, Bool.false_eq_true, false_and, and_false, and_true, true_and, and_self, Bool.or_false, Bool.false_or, Bool.or_true, Bool.true_or, Bool.false_and, Bool.and_false, decide_true, decide_false, L0, L1, L2, L3, L4, L5, L6, L7, L8, L9, L10, L11, L12, L13, L14, L15, L16, L17, L18, L19, L20, L21, L22, L23, L24, L25, L27, L33, L39, L40, L45, L48, L57, L60, L72, L90, L97, L98, L99, L100, L121, L122, L242, L255, L256, L580, L600, L1000, L1584, L1000000, Ln1, iN_add, iN_and, iN_or, iN_nd, iN_shl, iN_shr, iN_cl, iN_in, iN_mul, K0l, iN_l, gN_sub, t254, iN_sub, gN_mul, gN_add, gN_nz, gN_div, e]
      · rw [ilt_p (by omega) (by omega) (by omega)]
        simp (disch := omega) only [gT, nbeq, Option.isSome_some, Option.getD_some, Bool.and_true, Bool.true_and, Bool.and_self, mX_some, bS, bN_if, bN_01, i1_01, i0_01, if_true, if_false, Bool.false_eq_true, false_and, and_false, and_true, true_and, and_self, Bool.or_false, Bool.false_or, Bool.or_true, Bool.true_or, Bool.false_and, Bool.and_false, decide_true, decide_false, L0, L1, L2, L3, L4, L5, L6, L7, L8, L9, L10, L11, L12, L13, L14, L15, L16, L17, L18, L19, L20, L21, L22, L23, L24, L25, L27, L33, L39, L40, L45, L48, L57, L60, L72, L90, L97, L98, L99, L100, L121, L122, L242, L255, L256, L580, L600, L1000, L1584, L1000000, Ln1, iN_add, iN_and, iN_or, iN_nd, iN_shl, iN_shr, iN_cl, iN_in, iN_mul, K0l, iN_l, iN_sub, gN_mul, gN_add, gN_nz, gN_div, e, Nat.add_zero]) (fun x hx => by
      have hx1 : x.1 = cSum n p (ldy q b) := hx.2
      unfold f251_55
      simp (disch := omega) only [gT, nbeq, Option.isSome_some, Option.getD_some, Bool.and_true, Bool.true_and, Bool.and_self, mX_some, bS, bN_if, bN_01, i1_01, i0_01, if_true, if_false, Bool.false_eq_true, false_and, and_false, and_true, true_and, and_self, Bool.or_false, Bool.false_or, Bool.or_true, Bool.true_or, Bool.false_and, Bool.and_false, decide_true, decide_false, L0, L1, L2, L3, L4, L5, L6, L7, L8, L9, L10, L11, L12, L13, L14, L15, L16, L17, L18, L19, L20, L21, L22, L23, L24, L25, L27, L33, L39, L40, L45, L48, L57, L60, L72, L90, L97, L98, L99, L100, L121, L122, L242, L255, L256, L580, L600, L1000, L1584, L1000000, Ln1, iN_add, iN_and, iN_or, iN_nd, iN_shl, iN_shr, iN_cl, iN_in, iN_mul, K10l, ilt_p, t254, t255]) (by omega)
  have e : (up (fun k (x : Nat × Nat) => (x.1 + (if ldy q b ≤ k then x.2 * (10 - p) ^ k * p ^ (n - k) else 0), wyf n k x.2)) (n + 1) (0, 1)).1 = cSum n p (ldy q b) := (up_inv (f := fun k (x : Nat × Nat) => (x.1 + (if ldy q b ≤ k then x.2 * (10 - p) ^ k * p ^ (n - k) else 0), wyf n k x.2)) (I := fun k x => x.2 = wy n k ∧ x.1 = sm (fun k => if ldy q b ≤ k then trm n p k else 0) k) (n := n + 1) (fun k x hk hx => by
      refine ⟨by show wyf n k x.2 = _; rw [hx.1]; rfl, ?_⟩
      show x.1 + _ = sm _ (k + 1)
      simp only [sm]
      rw [hx.2, hx.1]; rfl) ⟨rfl, rfl⟩ (n + 1) (Nat.le_refl _)).2
  rw [e] at this
  exact this
