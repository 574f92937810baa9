/-! keystone: the class's -/
theorem pc_pos : ∀ x, x < 256 → 0 < x → 1 ≤ pc x := by decide +kernel
def skn (q : LQ) (c : Nat) : Nat := pc (sto q c) - 1
def ksf (q : LQ) : Nat → Option Nat → Option Nat := fun c b => match b with
  | none => some c
  | some x => if skn q c ≤ skn q x then some x else some c
def ksn (q : LQ) : Option Nat := up (ksf q) (q 0 0) none
theorem ksf_b {q : LQ} : ∀ k, k ≤ q 0 0 → ∀ v, up (ksf q) k none = some v → v < q 0 0 :=
  up_inv (f := ksf q) (I := fun _ b => ∀ v, b = some v → v < q 0 0) (n := q 0 0) (fun k b hk hb v hv => by
    unfold ksf at hv
    cases b with
    | none => have : k = v := Option.some.inj hv; omega
    | some x =>
      simp only at hv
      split at hv
      · exact hb v hv
      · have : k = v := Option.some.inj hv; omega) (fun v hv => by cases hv)
section KS
variable {h : mH} {a : Nat} {q : LQ}
theorem t129 (H : LibS h a q) (W : QW q) {c : Nat} (hc : c < q 0 0) : f129 h a (iN c) = some (iN (skn q c)) := by
  have hn := W.1.1
  have h8 := pw_8 hn
  have hb : sto q c < 2 ^ q 0 0 := sto_b hc _ (Nat.le_refl _)
  have h0 : 0 < sto q c := by
    unfold sto
    exact up_inv (f := stf q c) (I := fun _ s => 0 < s) (n := q 0 0 - (c + 1)) (fun k s _ hs => by
      unfold stf
      split
      · exact hs
      · exact Nat.lt_of_lt_of_le hs Nat.left_le_or) (by rw [Nat.one_shiftLeft]; exact Nat.two_pow_pos _) _ (Nat.le_refl _)
  have hp := pc_pos _ (by omega) h0
  have hl := pc_le (sto q c)
  have er : rg (iN c) (q 0 0) = true := by rw [rg_iN (by omega), decide_eq_true hc]
  unfold f129 f129_22 skn
  simp (disch := omega) only [gT, nbeq, Option.isSome_some, Option.getD_some, Bool.and_true, Bool.true_and, Bool.and_self, mX_some, bS, bN_if, bN_01, i1_01, i0_01, if_true, if_false, Bool.false_eq_true, false_and, and_false, and_true, true_and, and_self, Bool.or_false, Bool.false_or, Bool.or_true, Bool.true_or, Bool.false_and, Bool.and_false, decide_true, decide_false, L0, L1, L2, L3, L4, L5, L6, L7, L8, L9, L10, L11, L12, L13, L14, L15, L16, L17, L18, L19, L20, L21, L22, L23, L24, L25, L27, L33, L39, L40, L45, L48, L57, L60, L72, L90, L97, L98, L99, L100, L121, L122, L242, L255, L256, L580, L600, L1000, L1584, L1000000, Ln1, iN_add, iN_and, iN_or, iN_nd, iN_shl, iN_shr, iN_cl, iN_in, iN_mul, H.k, t56 H W, er, t130 H W hc, t66, iN_sub]
theorem t128 (H : LibS h a q) (W : QW q) : f128 h a = some (zN (ksn q)) := by
  have hn := W.1.1
  have hs : ∀ c, skn q c ≤ 8 := fun c => by
    have := pc_le (sto q c)
    unfold skn
    omega
  unfold f128 ksn
  simp only [L0, L1, L2, L3, L4, L5, L6, L7, L8, L9, L10, L11, L12, L13, L14, L15, L16, L17, L18, L19, L20, L21, L22, L23, L24, L25, L27, L33, L39, L40, L45, L48, L57, L60, L72, L90, L97, L98, L99, L100, L121, L122, L242, L255, L256, L580, L600, L1000, L1584, L1000000, Ln1, iN_add, iN_and, iN_or, iN_nd, iN_shl, iN_shr, iN_cl, iN_in, iN_mul]
  refine lp_up (body := f128_4 h a) (fun k (b : Option Nat) => (zN b, iN k)) (ksf q) zN (fun _ b => ∀ v, b = some v → v < q 0 0) (q 0 0) (a0 := none) (fun v hv => by cases hv) (fun k b hk hb v hv => by
    unfold ksf at hv
    cases b with
    | none => have : k = v := Option.some.inj hv; omega
    | some x =>
      simp only at hv
      split at hv
      · exact hb v hv
      · have : k = v := Option.some.inj hv; omega) ?_ ?_ (by omega)
  · intro k b hk hb
    unfold f128_4 f128_30 f128_32 ksf
    cases b with
    | none => simp (disch := omega) only [gT, nbeq, Option.isSome_some, Option.getD_some, Bool.and_true, Bool.true_and, Bool.and_self, mX_some, bS, bN_if, bN_01, i1_01, i0_01, if_true, if_false, Bool.false_eq_true, false_and, and_false, and_true, true_and, and_self, Bool.or_false, Bool.false_or, Bool.or_true, Bool.true_or, Bool.false_and, Bool.and_false, decide_true, decide_false, L0, L1, L2, L3, L4, L5, L6, L7, L8, L9, L10, L11, L12, L13, L14, L15, L16, L17, L18, L19, L20, L21, L22, L23, L24, L25, L27, L33, L39, L40, L45, L48, L57, L60, L72, L90, L97, L98, L99, L100, L121, L122, L242, L255, L256, L580, L600, L1000, L1584, L1000000, Ln1, iN_add, iN_and, iN_or, iN_nd, iN_shl, iN_shr, iN_cl, iN_in, iN_mul, H.k, H.r0, H.r1, H.r2, H.r3, H.r4, H.r5, H.k1, H.k2, H.k3, H.k4, H.k5, H.k6, H.n, H.m, H.lp, H.hr, H.tp, H.ln, H.lk, H.me, H.he, ile_n, zN_none, jj_p]; rfl
    | some x =>
      have hx := hb x rfl
      have s1 := hs k
      have s2 := hs x
      simp (disch := omega) only [gT, nbeq, Option.isSome_some, Option.getD_some, Bool.and_true, Bool.true_and, Bool.and_self, mX_some, bS, bN_if, bN_01, i1_01, i0_01, if_true, if_false, Bool.false_eq_true, false_and, and_false, and_true, true_and, and_self, Bool.or_false, Bool.false_or, Bool.or_true, Bool.true_or, Bool.false_and, Bool.and_false, decide_true, decide_false, L0, L1, L2, L3, L4, L5, L6, L7, L8, L9, L10, L11, L12, L13, L14, L15, L16, L17, L18, L19, L20, L21, L22, L23, L24, L25, L27, L33, L39, L40, L45, L48, L57, L60, L72, L90, L97, L98, L99, L100, L121, L122, L242, L255, L256, L580, L600, L1000, L1584, L1000000, Ln1, iN_add, iN_and, iN_or, iN_nd, iN_shl, iN_shr, iN_cl, iN_in, iN_mul, H.k, H.r0, H.r1, H.r2, H.r3, H.r4, H.r5, H.k1, H.k2, H.k3, H.k4, H.k5, H.k6, H.n, H.m, H.lp, H.hr, H.tp, H.ln, H.lk, H.me, H.he, ile_n, zN_some, ij_n, t129 H W hk, t129 H W hx]
      by_cases d : skn q k ≤ skn q x
      · rw [ile_p (by omega) (by omega) d, if_pos d]; rfl
      · rw [ile_n (by omega) (by omega) (by omega), if_neg d]; rfl
  · intro b _
    unfold f128_4
    simp (disch := omega) only [gT, nbeq, Option.isSome_some, Option.getD_some, Bool.and_true, Bool.true_and, Bool.and_self, mX_some, bS, bN_if, bN_01, i1_01, i0_01, if_true, if_false, Bool.false_eq_true, false_and, and_false, and_true, true_and, and_self, Bool.or_false, Bool.false_or, Bool.or_true, Bool.true_or, Bool.false_and, Bool.and_false, decide_true, decide_false, L0, L1, L2, L3, L4, L5, L6, L7, L8, L9, L10, L11, L12, L13, L14, L15, L16, L17, L18, L19, L20, L21, L22, L23, L24, L25, L27, L33, L39, L40, L45, L48, L57, L60, L72, L90, L97, L98, L99, L100, L121, L122, L242, L255, L256, L580, L600, L1000, L1584, L1000000, Ln1, iN_add, iN_and, iN_or, iN_nd, iN_shl, iN_shr, iN_cl, iN_in, iN_mul, H.k, H.r0, H.r1, H.r2, H.r3, H.r4, H.r5, H.k1, H.k2, H.k3, H.k4, H.k5, H.k6, H.n, H.m, H.lp, H.hr, H.tp, H.ln, H.lk, H.me, H.he, ile_p]
end KS
