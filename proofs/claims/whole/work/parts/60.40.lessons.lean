/-! lessons: the most HOURS of a row -/
def hsm (q : LQ) (a b : Nat) : Nat := up (fun k s => s + q 1 (a + k)) (b - a) 0
def pst (q : LQ) (m : Nat) (P : Nat → Nat) (k : Nat) : Nat := if k + 1 < m then P (k + 1) else q 0 0
def mst (q : LQ) (m : Nat) (P : Nat → Nat) : Nat := up (fun k x => max x (hsm q (P k) (pst q m P k))) m 0
theorem hs_b {q : LQ} (W : QW q) {a b : Nat} (hb : b ≤ q 0 0) : ∀ i, i ≤ b - a → up (fun k s => s + q 1 (a + k)) i 0 ≤ 9 * i :=
  up_inv (f := fun k s => s + q 1 (a + k)) (I := fun k s => s ≤ 9 * k) (n := b - a) (fun k s hk hs => by
    have hn := W.1.1
    have := W.2.2.1 (a + k) (by omega)
    omega) (by omega)
theorem hsm_b {q : LQ} (W : QW q) {a b : Nat} (hb : b ≤ q 0 0) : hsm q a b ≤ 72 := by
  have := hs_b W (a := a) hb (b - a) (Nat.le_refl _)
  have hn := W.1.1
  unfold hsm
  omega
section MH
variable {h : mH} {la m : Nat} {q : LQ} {P : Nat → Nat}
theorem pst_le (hP : ∀ i, i < m → P i ≤ q 0 0) (k : Nat) : pst q m P k ≤ q 0 0 := by
  unfold pst
  split
  next hk => exact hP _ hk
  next => exact Nat.le_refl _
theorem mst_b (W : QW q) (hP : ∀ i, i < m → P i ≤ q 0 0) : mst q m P ≤ 72 := by
  unfold mst
  exact up_inv (f := fun k x => max x (hsm q (P k) (pst q m P k))) (I := fun _ x => x ≤ 72) (n := m) (fun k x hk hx => by
    have := hsm_b W (a := P k) (pst_le hP k)
    show max x (hsm q (P k) (pst q m P k)) ≤ 72
    omega) (by omega) m (Nat.le_refl _)
theorem t139 (w : Wd h) (H : LibS h la q) (W : QW q) (h1 : 1 ≤ m) (hm : m ≤ 4) (hP : ∀ i, i < m → P i ≤ q 0 0) (hp : ∀ i, i < m → mI h 87 i = iN (P i)) : f139 h 85 la (iN m) = some (iN (mst q m P)) := by
  have hn := W.1.1
  unfold f139 mst
  simp only [L0, L1, L2, L3, L4, L5, L6, L7, L8, L9, L10, L11, L12, L13, L14, L15, L16, L17, L18, L19, L20, L21, L22, L23, L24, L25, L27, L33, L39, L40, L45, L48, L57, L60, L72, L90, L97, L98, L99, L100, L121, L122, L242, L255, L256, L580, L600, L1000, L1584, L1000000, Ln1, iN_add, iN_and, iN_or, iN_nd, iN_shl, iN_shr, iN_cl, iN_in, iN_mul]
  refine lp_up (body := f139_5 h 85 la (iN m)) (fun k (x : Nat) => (iN x, iN k)) (fun k x => max x (hsm q (P k) (pst q m P k))) iN (fun _ x => x ≤ 72) m (a0 := 0) (by omega) (fun k x hk hx => by
    have := hsm_b W (a := P k) (pst_le hP k)
    show max x (hsm q (P k) (pst q m P k)) ≤ 72
    omega) ?_ ?_ (by omega)
  · intro k x hk hx
    have hPk := hP k hk
    have hle := pst_le hP k
    have hb := hsm_b W (a := P k) hle
    have e49 : f139_49 h 85 la (iN m) (iN x) (iN k) (iN (pst q m P k)) = some (.inl (iN (max x (hsm q (P k) (pst q m P k))), iN (k + 1))) := by
      unfold f139_49
      simp (disch := omega) only [gT, nbeq, Option.isSome_some, Option.getD_some, Bool.and_true, Bool.true_and, Bool.and_self, mX_some, bS, bN_if, bN_01, i1_01, i0_01, if_true, if_false, Bool.false_eq_true, false_and, and_false, and_true, true_and, and_self, Bool.or_false, Bool.false_or, Bool.or_true, Bool.true_or, Bool.false_and, Bool.and_false, decide_true, decide_false, L0, L1, L2, L3, L4, L5, L6, L7, L8, L9, L10, L11, L12, L13, L14, L15, L16, L17, L18, L19, L20, L21, L22, L23, L24, L25, L27, L33, L39, L40, L45, L48, L57, L60, L72, L90, L97, L98, L99, L100, L121, L122, L242, L255, L256, L580, L600, L1000, L1584, L1000000, Ln1, iN_add, iN_and, iN_or, iN_nd, iN_shl, iN_shr, iN_cl, iN_in, iN_mul, k85 w, r85_0 w, r85_1 w, k87 w, hp k hk]
      refine lp_run (body := f139_63 h 85 la (iN m) (iN x) (iN k) (iN (pst q m P k))) (fun i => (iN (up (fun k' s => s + q 1 (P k + k')) i 0), iN (P k + i))) (pst q m P k - P k) (fun i hi => ?_) ?_ (by omega)
      · have hbi := hs_b W (a := P k) hle i (by omega)
        have h9 := W.2.2.1 (P k + i) (by omega)
        unfold f139_63
        simp (disch := omega) only [gT, nbeq, Option.isSome_some, Option.getD_some, Bool.and_true, Bool.true_and, Bool.and_self, mX_some, bS, bN_if, bN_01, i1_01, i0_01, if_true, if_false, Bool.false_eq_true, false_and, and_false, and_true, true_and, and_self, Bool.or_false, Bool.false_or, Bool.or_true, Bool.true_or, Bool.false_and, Bool.and_false, decide_true, decide_false, L0, L1, L2, L3, L4, L5, L6, L7, L8, L9, L10, L11, L12, L13, L14, L15, L16, L17, L18, L19, L20, L21, L22, L23, L24, L25, L27, L33, L39, L40, L45, L48, L57, L60, L72, L90, L97, L98, L99, L100, L121, L122, L242, L255, L256, L580, L600, L1000, L1584, L1000000, Ln1, iN_add, iN_and, iN_or, iN_nd, iN_shl, iN_shr, iN_cl, iN_in, iN_mul, H.k, H.r0, H.r1, H.r2, H.r3, H.r4, H.r5, H.k1, H.k2, H.k3, H.k4, H.k5, H.k6, H.n, H.m, H.lp, H.hr, H.tp, H.ln, H.lk, H.me, H.he, ile_n]
        rfl
      · unfold f139_63
        have e1 : up (fun k' s => s + q 1 (P k + k')) (pst q m P k - P k) 0 = hsm q (P k) (pst q m P k) := rfl
        rw [e1]
        simp (disch := omega) only [gT, nbeq, Option.isSome_some, Option.getD_some, Bool.and_true, Bool.true_and, Bool.and_self, mX_some, bS, bN_if, bN_01, i1_01, i0_01, if_true, if_false, Bool.false_eq_true, false_and, and_false, and_true, true_and, and_self, Bool.or_false, Bool.false_or, Bool.or_true, Bool.true_or, Bool.false_and, Bool.and_false, decide_true, decide_false, L0, L1, L2, L3, L4, L5, L6, L7, L8, L9, L10, L11, L12, L13, L14, L15, L16, L17, L18, L19, L20, L21, L22, L23, L24, L25, L27, L33, L39, L40, L45, L48, L57, L60, L72, L90, L97, L98, L99, L100, L121, L122, L242, L255, L256, L580, L600, L1000, L1584, L1000000, Ln1, iN_add, iN_and, iN_or, iN_nd, iN_shl, iN_shr, iN_cl, iN_in, iN_mul, ile_p, imax]
    unfold f139_5 f139_45
    by_cases d : k + 1 < m
    · have e2 : mI h 87 (k + 1) = iN (pst q m P k) := by
        rw [hp (k + 1) d]; unfold pst; rw [if_pos d]
      simp (disch := omega) only [gT, nbeq, Option.isSome_some, Option.getD_some, Bool.and_true, Bool.true_and, Bool.and_self, mX_some, bS, bN_if, bN_01, i1_01, i0_01, if_true, if_false, Bool.false_eq_true, false_and, and_false, and_true, true_and, and_self, Bool.or_false, Bool.false_or, Bool.or_true, Bool.true_or, Bool.false_and, Bool.and_false, decide_true, decide_false, L0, L1, L2, L3, L4, L5, L6, L7, L8, L9, L10, L11, L12, L13, L14, L15, L16, L17, L18, L19, L20, L21, L22, L23, L24, L25, L27, L33, L39, L40, L45, L48, L57, L60, L72, L90, L97, L98, L99, L100, L121, L122, L242, L255, L256, L580, L600, L1000, L1584, L1000000, Ln1, iN_add, iN_and, iN_or, iN_nd, iN_shl, iN_shr, iN_cl, iN_in, iN_mul, k85 w, r85_0 w, r85_1 w, k87 w, ile_n, e2, e49]
    · have e2 : q 0 0 = pst q m P k := by unfold pst; rw [if_neg d]
      rw [← e2] at e49
      simp (disch := omega) only [gT, nbeq, Option.isSome_some, Option.getD_some, Bool.and_true, Bool.true_and, Bool.and_self, mX_some, bS, bN_if, bN_01, i1_01, i0_01, if_true, if_false, Bool.false_eq_true, false_and, and_false, and_true, true_and, and_self, Bool.or_false, Bool.false_or, Bool.or_true, Bool.true_or, Bool.false_and, Bool.and_false, decide_true, decide_false, L0, L1, L2, L3, L4, L5, L6, L7, L8, L9, L10, L11, L12, L13, L14, L15, L16, L17, L18, L19, L20, L21, L22, L23, L24, L25, L27, L33, L39, L40, L45, L48, L57, L60, L72, L90, L97, L98, L99, L100, L121, L122, L242, L255, L256, L580, L600, L1000, L1584, L1000000, Ln1, iN_add, iN_and, iN_or, iN_nd, iN_shl, iN_shr, iN_cl, iN_in, iN_mul, k85 w, r85_0 w, r85_1 w, k87 w, ile_n, ile_p, H.k, H.n, e49, ← e2]
  · intro x hx
    unfold f139_5 f139_101
    simp (disch := omega) only [gT, nbeq, Option.isSome_some, Option.getD_some, Bool.and_true, Bool.true_and, Bool.and_self, mX_some, bS, bN_if, bN_01, i1_01, i0_01, if_true, if_false, Bool.false_eq_true, false_and, and_false, and_true, true_and, and_self, Bool.or_false, Bool.false_or, Bool.or_true, Bool.true_or, Bool.false_and, Bool.and_false, decide_true, decide_false, L0, L1, L2, L3, L4, L5, L6, L7, L8, L9, L10, L11, L12, L13, L14, L15, L16, L17, L18, L19, L20, L21, L22, L23, L24, L25, L27, L33, L39, L40, L45, L48, L57, L60, L72, L90, L97, L98, L99, L100, L121, L122, L242, L255, L256, L580, L600, L1000, L1584, L1000000, Ln1, iN_add, iN_and, iN_or, iN_nd, iN_shl, iN_shr, iN_cl, iN_in, iN_mul, ile_p]
theorem t278 (H : MoS h q) (W : QW q) (h1 : 1 ≤ m) (hm : m ≤ 4) (hP : ∀ i, i < m → P i ≤ q 0 0) (hp : ∀ i, i < m → mI h 214 i = iN (P i)) (he : mI h 214 m = iN (q 0 0)) : f278 h 193 (iN m) = some (iN (mst q m P)) := by
  have hn := W.1.1
  have w := H.1
  unfold f278 mst
  simp only [L0, L1, L2, L3, L4, L5, L6, L7, L8, L9, L10, L11, L12, L13, L14, L15, L16, L17, L18, L19, L20, L21, L22, L23, L24, L25, L27, L33, L39, L40, L45, L48, L57, L60, L72, L90, L97, L98, L99, L100, L121, L122, L242, L255, L256, L580, L600, L1000, L1584, L1000000, Ln1, iN_add, iN_and, iN_or, iN_nd, iN_shl, iN_shr, iN_cl, iN_in, iN_mul]
  refine lp_up (body := f278_4 h 193 (iN m)) (fun k (x : Nat) => (iN x, iN k)) (fun k x => max x (hsm q (P k) (pst q m P k))) iN (fun _ x => x ≤ 72) m (a0 := 0) (by omega) (fun k x hk hx => by
    have := hsm_b W (a := P k) (pst_le hP k)
    show max x (hsm q (P k) (pst q m P k)) ≤ 72
    omega) ?_ ?_ (by omega)
  · intro k x hk hx
    have hPk := hP k hk
    have hle := pst_le hP k
    have hb := hsm_b W (a := P k) hle
    have e2 : mI h 214 (k + 1) = iN (pst q m P k) := by
      unfold pst
      by_cases d : k + 1 < m
      · rw [if_pos d]; exact hp _ d
      · rw [if_neg d, show k + 1 = m by omega]; exact he
    unfold f278_4
    simp (disch := omega) only [gT, nbeq, Option.isSome_some, Option.getD_some, Bool.and_true, Bool.true_and, Bool.and_self, mX_some, bS, bN_if, bN_01, i1_01, i0_01, if_true, if_false, Bool.false_eq_true, false_and, and_false, and_true, true_and, and_self, Bool.or_false, Bool.false_or, Bool.or_true, Bool.true_or, Bool.false_and, Bool.and_false, decide_true, decide_false, L0, L1, L2, L3, L4, L5, L6, L7, L8, L9, L10, L11, L12, L13, L14, L15, L16, L17, L18, L19, L20, L21, L22, L23, L24, L25, L27, L33, L39, L40, L45, L48, L57, L60, L72, L90, L97, L98, L99, L100, L121, L122, L242, L255, L256, L580, L600, L1000, L1584, L1000000, Ln1, iN_add, iN_and, iN_or, iN_nd, iN_shl, iN_shr, iN_cl, iN_in, iN_mul, k193 w, r193_1 w, r193_2 w, r193_3 w, r193_4 w, r193_5 w, r193_6 w, r193_7 w, r193_8 w, r193_18 w, r193_19 w, r193_32 w, r193_33 w, r193_34 w, r193_36 w, r193_38 w, r193_39 w, r193_40 w, r193_42 w, r193_45 w, r193_46 w, r193_47 w, r193_48 w, r193_49 w, r193_50 w, k214 w, ile_n, hp k hk]
    refine lp_run (body := f278_20 h 193 (iN m) (iN x) (iN k)) (fun i => (iN (up (fun k' s => s + q 1 (P k + k')) i 0), iN (P k + i))) (pst q m P k - P k) (fun i hi => ?_) ?_ (by omega)
    · have hbi := hs_b W (a := P k) hle i (by omega)
      have h9 := W.2.2.1 (P k + i) (by omega)
      have e206 := t206 H (j := 3 + (P k + i)) (by omega)
      rw [fl1 (q := q) (k := P k + i) (by omega)] at e206
      unfold f278_20
      simp (disch := omega) only [gT, nbeq, Option.isSome_some, Option.getD_some, Bool.and_true, Bool.true_and, Bool.and_self, mX_some, bS, bN_if, bN_01, i1_01, i0_01, if_true, if_false, Bool.false_eq_true, false_and, and_false, and_true, true_and, and_self, Bool.or_false, Bool.false_or, Bool.or_true, Bool.true_or, Bool.false_and, Bool.and_false, decide_true, decide_false, L0, L1, L2, L3, L4, L5, L6, L7, L8, L9, L10, L11, L12, L13, L14, L15, L16, L17, L18, L19, L20, L21, L22, L23, L24, L25, L27, L33, L39, L40, L45, L48, L57, L60, L72, L90, L97, L98, L99, L100, L121, L122, L242, L255, L256, L580, L600, L1000, L1584, L1000000, Ln1, iN_add, iN_and, iN_or, iN_nd, iN_shl, iN_shr, iN_cl, iN_in, iN_mul, k193 w, r193_1 w, r193_2 w, r193_3 w, r193_4 w, r193_5 w, r193_6 w, r193_7 w, r193_8 w, r193_18 w, r193_19 w, r193_32 w, r193_33 w, r193_34 w, r193_36 w, r193_38 w, r193_39 w, r193_40 w, r193_42 w, r193_45 w, r193_46 w, r193_47 w, r193_48 w, r193_49 w, r193_50 w, k214 w, ile_n, e2, e206]
      rfl
    · unfold f278_20
      have e1 : up (fun k' s => s + q 1 (P k + k')) (pst q m P k - P k) 0 = hsm q (P k) (pst q m P k) := rfl
      rw [e1]
      simp (disch := omega) only [gT, nbeq, Option.isSome_some, Option.getD_some, Bool.and_true, Bool.true_and, Bool.and_self, mX_some, bS, bN_if, bN_01, i1_01, i0_01, if_true, if_false, Bool.false_eq_true, false_and, and_false, and_true, true_and, and_self, Bool.or_false, Bool.false_or, Bool.or_true, Bool.true_or, Bool.false_and, Bool.and_false, decide_true, decide_false, L0, L1, L2, L3, L4, L5, L6, L7, L8, L9, L10, L11, L12, L13, L14, L15, L16, L17, L18, L19, L20, L21, L22, L23, L24, L25, L27, L33, L39, L40, L45, L48, L57, L60, L72, L90, L97, L98, L99, L100, L121, L122, L242, L255, L256, L580, L600, L1000, L1584, L1000000, Ln1, iN_add, iN_and, iN_or, iN_nd, iN_shl, iN_shr, iN_cl, iN_in, iN_mul, k193 w, r193_1 w, r193_2 w, r193_3 w, r193_4 w, r193_5 w, r193_6 w, r193_7 w, r193_8 w, r193_18 w, r193_19 w, r193_32 w, r193_33 w, r193_34 w, r193_36 w, r193_38 w, r193_39 w, r193_40 w, r193_42 w, r193_45 w, r193_46 w, r193_47 w, r193_48 w, r193_49 w, r193_50 w, k214 w, ile_p, e2, t196]
  · intro x hx
    unfold f278_4
    simp (disch := omega) only [gT, nbeq, Option.isSome_some, Option.getD_some, Bool.and_true, Bool.true_and, Bool.and_self, mX_some, bS, bN_if, bN_01, i1_01, i0_01, if_true, if_false, Bool.false_eq_true, false_and, and_false, and_true, true_and, and_self, Bool.or_false, Bool.false_or, Bool.or_true, Bool.true_or, Bool.false_and, Bool.and_false, decide_true, decide_false, L0, L1, L2, L3, L4, L5, L6, L7, L8, L9, L10, L11, L12, L13, L14, L15, L16, L17, L18, L19, L20, L21, L22, L23, L24, L25, L27, L33, L39, L40, L45, L48, L57, L60, L72, L90, L97, L98, L99, L100, L121, L122, L242, L255, L256, L580, L600, L1000, L1584, L1000000, Ln1, iN_add, iN_and, iN_or, iN_nd, iN_shl, iN_shr, iN_cl, iN_in, iN_mul, ile_p]
end MH
