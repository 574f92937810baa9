/-! Calls that ask of what was told: library, fact; till, state. -/
def laS (q : LQ) (v : Nat) : Int32 := if v / 10 = 0 then (if v < 3 then iN (q 0 v) else jN) else if v / 10 = 1 then (if v % 10 < q 0 0 then iN (q 1 (v % 10)) else jN) else if v / 10 = 2 then (if v % 10 < q 0 0 then iN (q 2 (v % 10)) else jN) else if v / 10 = 3 then (if v % 10 < q 0 0 then iN (q 3 (v % 10)) else jN) else if v / 10 = 4 then (if v % 10 < 6 then iN (q 4 (v % 10)) else jN) else if v / 10 = 5 then (if v % 10 < q 0 1 then iN (q 5 (v % 10)) else jN) else if v / 10 = 6 then (if v % 10 < q 0 1 then iN (q 6 (v % 10)) else jN) else jN
theorem t54 {h : mH} {a : Nat} {q : LQ} (H : LibS h a q) (W : QW q) {v : Nat} (hv : v < 2147483648) : f54 h a (iN v) = some (laS q v) := by
  have hn := W.1.1
  have hm := W.1.2.1
  have e6 : iN v - iN v / iN 10 * iN 10 = iN (v % 10) := iN_rem hv (by omega)
  have e7 : iN v / iN 10 = iN (v / 10) := iN_div hv (by omega)
  unfold f54 f54_12
  simp only [L0, L10, e6]
  simp (disch := omega) only [e7, gT, nbeq, Option.isSome_some, Option.getD_some, Bool.and_true, Bool.true_and, Bool.and_self, mX_some, bS, bN_if, bN_01, i1_01, i0_01, if_true, if_false, Bool.false_eq_true, false_and, and_false, and_true, true_and, and_self, Bool.or_false, Bool.false_or, Bool.or_true, Bool.true_or, Bool.false_and, Bool.and_false, decide_true, decide_false, i10nz, ile_p]
  unfold f54_25 laS
  simp only [L0, L1, L2, L3, L4, L5, L6, Ln1]
  by_cases v0 : v / 10 = 0
  · rw [ieq_p v0, if_pos v0]
    unfold f55
    simp (disch := omega) only [gT, nbeq, Option.isSome_some, Option.getD_some, Bool.and_true, Bool.true_and, Bool.and_self, mX_some, bS, bN_if, bN_01, i1_01, i0_01, if_true, if_false, Bool.false_eq_true, false_and, and_false, and_true, true_and, and_self, Bool.or_false, Bool.false_or, Bool.or_true, Bool.true_or, Bool.false_and, Bool.and_false, decide_true, decide_false, L0, L1, L2, L3, L4, L5, L6, L7, L8, L9, L10, L11, L12, L13, L14, L15, L16, L17, L18, L19, L20, L21, L22, L23, L24, L25, L27, L33, L39, L40, L45, L48, L57, L60, L72, L90, L97, L98, L99, L100, L121, L122, L242, L255, L256, L580, L600, L1000, L1584, L1000000, Ln1, iN_add, iN_and, iN_or, iN_nd, iN_shl, iN_shr, iN_cl, iN_in, iN_mul, H.k, H.n, H.m, H.lp]
    have e8 : v % 10 = v := by omega
    rw [e8]
    by_cases w0 : v = 0
    · subst w0; simp (disch := omega) only [gT, nbeq, Option.isSome_some, Option.getD_some, Bool.and_true, Bool.true_and, Bool.and_self, mX_some, bS, bN_if, bN_01, i1_01, i0_01, if_true, if_false, Bool.false_eq_true, false_and, and_false, and_true, true_and, and_self, Bool.or_false, Bool.false_or, Bool.or_true, Bool.true_or, Bool.false_and, Bool.and_false, decide_true, decide_false, ile_p, ile_n, ilt_p, ilt_n, ieq_p, ieq_n, ij_n, jj_p, ijle, jile, ijlt, jilt]; rfl
    · by_cases w1 : v = 1
      · subst w1; simp (disch := omega) only [gT, nbeq, Option.isSome_some, Option.getD_some, Bool.and_true, Bool.true_and, Bool.and_self, mX_some, bS, bN_if, bN_01, i1_01, i0_01, if_true, if_false, Bool.false_eq_true, false_and, and_false, and_true, true_and, and_self, Bool.or_false, Bool.false_or, Bool.or_true, Bool.true_or, Bool.false_and, Bool.and_false, decide_true, decide_false, ile_p, ile_n, ilt_p, ilt_n, ieq_p, ieq_n, ij_n, jj_p, ijle, jile, ijlt, jilt]; rfl
      · by_cases w2 : v = 2
        · subst w2; simp (disch := omega) only [gT, nbeq, Option.isSome_some, Option.getD_some, Bool.and_true, Bool.true_and, Bool.and_self, mX_some, bS, bN_if, bN_01, i1_01, i0_01, if_true, if_false, Bool.false_eq_true, false_and, and_false, and_true, true_and, and_self, Bool.or_false, Bool.false_or, Bool.or_true, Bool.true_or, Bool.false_and, Bool.and_false, decide_true, decide_false, ile_p, ile_n, ilt_p, ilt_n, ieq_p, ieq_n, ij_n, jj_p, ijle, jile, ijlt, jilt]; rfl
        · rw [ieq_n (by omega) (by omega) w0, ieq_n (by omega) (by omega) w1, ieq_n (by omega) (by omega) w2, if_neg (by omega)]
          simp only [gT, nbeq, Option.isSome_some, Option.getD_some, Bool.and_true, Bool.true_and, Bool.and_self, mX_some, bS, bN_if, bN_01, i1_01, i0_01, if_true, if_false, Bool.false_eq_true, false_and, and_false, and_true, true_and, and_self, Bool.or_false, Bool.false_or, Bool.or_true, Bool.true_or, Bool.false_and, Bool.and_false, decide_true, decide_false]
  · rw [ieq_n (by omega) (by omega) v0, if_neg v0]
    by_cases v1 : v / 10 = 1
    · rw [ieq_p v1, if_pos v1]
      unfold f54_92
      simp (disch := omega) only [gT, nbeq, Option.isSome_some, Option.getD_some, Bool.and_true, Bool.true_and, Bool.and_self, mX_some, bS, bN_if, bN_01, i1_01, i0_01, if_true, if_false, Bool.false_eq_true, false_and, and_false, and_true, true_and, and_self, Bool.or_false, Bool.false_or, Bool.or_true, Bool.true_or, Bool.false_and, Bool.and_false, decide_true, decide_false, L0, L1, L2, L3, L4, L5, L6, L7, L8, L9, L10, L11, L12, L13, L14, L15, L16, L17, L18, L19, L20, L21, L22, L23, L24, L25, L27, L33, L39, L40, L45, L48, L57, L60, L72, L90, L97, L98, L99, L100, L121, L122, L242, L255, L256, L580, L600, L1000, L1584, L1000000, Ln1, iN_add, iN_and, iN_or, iN_nd, iN_shl, iN_shr, iN_cl, iN_in, iN_mul, H.k, t56 H W, t57 H W, t17r, rg_iN]
      by_cases e : v % 10 < q 0 0
      · simp (disch := omega) only [e, gT, nbeq, Option.isSome_some, Option.getD_some, Bool.and_true, Bool.true_and, Bool.and_self, mX_some, bS, bN_if, bN_01, i1_01, i0_01, if_true, if_false, Bool.false_eq_true, false_and, and_false, and_true, true_and, and_self, Bool.or_false, Bool.false_or, Bool.or_true, Bool.true_or, Bool.false_and, Bool.and_false, decide_true, decide_false, L0, L1, L2, L3, L4, L5, L6, L7, L8, L9, L10, L11, L12, L13, L14, L15, L16, L17, L18, L19, L20, L21, L22, L23, L24, L25, L27, L33, L39, L40, L45, L48, L57, L60, L72, L90, L97, L98, L99, L100, L121, L122, L242, L255, L256, L580, L600, L1000, L1584, L1000000, Ln1, iN_add, iN_and, iN_or, iN_nd, iN_shl, iN_shr, iN_cl, iN_in, iN_mul, H.k, H.r0, H.r1, H.r2, H.r3, H.r4, H.r5, H.k1, H.k2, H.k3, H.k4, H.k5, H.k6, H.n, H.m, H.lp, H.hr, H.tp, H.ln, H.lk, H.me, H.he]
      · simp only [e, gT, nbeq, Option.isSome_some, Option.getD_some, Bool.and_true, Bool.true_and, Bool.and_self, mX_some, bS, bN_if, bN_01, i1_01, i0_01, if_true, if_false, Bool.false_eq_true, false_and, and_false, and_true, true_and, and_self, Bool.or_false, Bool.false_or, Bool.or_true, Bool.true_or, Bool.false_and, Bool.and_false, decide_true, decide_false]
    · rw [ieq_n (by omega) (by omega) v1, if_neg v1]
      by_cases v2 : v / 10 = 2
      · rw [ieq_p v2, if_pos v2]
        unfold f54_111
        simp (disch := omega) only [gT, nbeq, Option.isSome_some, Option.getD_some, Bool.and_true, Bool.true_and, Bool.and_self, mX_some, bS, bN_if, bN_01, i1_01, i0_01, if_true, if_false, Bool.false_eq_true, false_and, and_false, and_true, true_and, and_self, Bool.or_false, Bool.false_or, Bool.or_true, Bool.true_or, Bool.false_and, Bool.and_false, decide_true, decide_false, L0, L1, L2, L3, L4, L5, L6, L7, L8, L9, L10, L11, L12, L13, L14, L15, L16, L17, L18, L19, L20, L21, L22, L23, L24, L25, L27, L33, L39, L40, L45, L48, L57, L60, L72, L90, L97, L98, L99, L100, L121, L122, L242, L255, L256, L580, L600, L1000, L1584, L1000000, Ln1, iN_add, iN_and, iN_or, iN_nd, iN_shl, iN_shr, iN_cl, iN_in, iN_mul, H.k, t56 H W, t57 H W, t17r, rg_iN]
        by_cases e : v % 10 < q 0 0
        · simp (disch := omega) only [e, gT, nbeq, Option.isSome_some, Option.getD_some, Bool.and_true, Bool.true_and, Bool.and_self, mX_some, bS, bN_if, bN_01, i1_01, i0_01, if_true, if_false, Bool.false_eq_true, false_and, and_false, and_true, true_and, and_self, Bool.or_false, Bool.false_or, Bool.or_true, Bool.true_or, Bool.false_and, Bool.and_false, decide_true, decide_false, L0, L1, L2, L3, L4, L5, L6, L7, L8, L9, L10, L11, L12, L13, L14, L15, L16, L17, L18, L19, L20, L21, L22, L23, L24, L25, L27, L33, L39, L40, L45, L48, L57, L60, L72, L90, L97, L98, L99, L100, L121, L122, L242, L255, L256, L580, L600, L1000, L1584, L1000000, Ln1, iN_add, iN_and, iN_or, iN_nd, iN_shl, iN_shr, iN_cl, iN_in, iN_mul, H.k, H.r0, H.r1, H.r2, H.r3, H.r4, H.r5, H.k1, H.k2, H.k3, H.k4, H.k5, H.k6, H.n, H.m, H.lp, H.hr, H.tp, H.ln, H.lk, H.me, H.he]
        · simp only [e, gT, nbeq, Option.isSome_some, Option.getD_some, Bool.and_true, Bool.true_and, Bool.and_self, mX_some, bS, bN_if, bN_01, i1_01, i0_01, if_true, if_false, Bool.false_eq_true, false_and, and_false, and_true, true_and, and_self, Bool.or_false, Bool.false_or, Bool.or_true, Bool.true_or, Bool.false_and, Bool.and_false, decide_true, decide_false]
      · rw [ieq_n (by omega) (by omega) v2, if_neg v2]
        by_cases v3 : v / 10 = 3
        · rw [ieq_p v3, if_pos v3]
          unfold f54_130
          simp (disch := omega) only [gT, nbeq, Option.isSome_some, Option.getD_some, Bool.and_true, Bool.true_and, Bool.and_self, mX_some, bS, bN_if, bN_01, i1_01, i0_01, if_true, if_false, Bool.false_eq_true, false_and, and_false, and_true, true_and, and_self, Bool.or_false, Bool.false_or, Bool.or_true, Bool.true_or, Bool.false_and, Bool.and_false, decide_true, decide_false, L0, L1, L2, L3, L4, L5, L6, L7, L8, L9, L10, L11, L12, L13, L14, L15, L16, L17, L18, L19, L20, L21, L22, L23, L24, L25, L27, L33, L39, L40, L45, L48, L57, L60, L72, L90, L97, L98, L99, L100, L121, L122, L242, L255, L256, L580, L600, L1000, L1584, L1000000, Ln1, iN_add, iN_and, iN_or, iN_nd, iN_shl, iN_shr, iN_cl, iN_in, iN_mul, H.k, t56 H W, t57 H W, t17r, rg_iN]
          by_cases e : v % 10 < q 0 0
          · simp (disch := omega) only [e, gT, nbeq, Option.isSome_some, Option.getD_some, Bool.and_true, Bool.true_and, Bool.and_self, mX_some, bS, bN_if, bN_01, i1_01, i0_01, if_true, if_false, Bool.false_eq_true, false_and, and_false, and_true, true_and, and_self, Bool.or_false, Bool.false_or, Bool.or_true, Bool.true_or, Bool.false_and, Bool.and_false, decide_true, decide_false, L0, L1, L2, L3, L4, L5, L6, L7, L8, L9, L10, L11, L12, L13, L14, L15, L16, L17, L18, L19, L20, L21, L22, L23, L24, L25, L27, L33, L39, L40, L45, L48, L57, L60, L72, L90, L97, L98, L99, L100, L121, L122, L242, L255, L256, L580, L600, L1000, L1584, L1000000, Ln1, iN_add, iN_and, iN_or, iN_nd, iN_shl, iN_shr, iN_cl, iN_in, iN_mul, H.k, H.r0, H.r1, H.r2, H.r3, H.r4, H.r5, H.k1, H.k2, H.k3, H.k4, H.k5, H.k6, H.n, H.m, H.lp, H.hr, H.tp, H.ln, H.lk, H.me, H.he]
          · simp only [e, gT, nbeq, Option.isSome_some, Option.getD_some, Bool.and_true, Bool.true_and, Bool.and_self, mX_some, bS, bN_if, bN_01, i1_01, i0_01, if_true, if_false, Bool.false_eq_true, false_and, and_false, and_true, true_and, and_self, Bool.or_false, Bool.false_or, Bool.or_true, Bool.true_or, Bool.false_and, Bool.and_false, decide_true, decide_false]
        · rw [ieq_n (by omega) (by omega) v3, if_neg v3]
          by_cases v4 : v / 10 = 4
          · rw [ieq_p v4, if_pos v4]
            unfold f54_150
            simp (disch := omega) only [gT, nbeq, Option.isSome_some, Option.getD_some, Bool.and_true, Bool.true_and, Bool.and_self, mX_some, bS, bN_if, bN_01, i1_01, i0_01, if_true, if_false, Bool.false_eq_true, false_and, and_false, and_true, true_and, and_self, Bool.or_false, Bool.false_or, Bool.or_true, Bool.true_or, Bool.false_and, Bool.and_false, decide_true, decide_false, L0, L1, L2, L3, L4, L5, L6, L7, L8, L9, L10, L11, L12, L13, L14, L15, L16, L17, L18, L19, L20, L21, L22, L23, L24, L25, L27, L33, L39, L40, L45, L48, L57, L60, L72, L90, L97, L98, L99, L100, L121, L122, L242, L255, L256, L580, L600, L1000, L1584, L1000000, Ln1, iN_add, iN_and, iN_or, iN_nd, iN_shl, iN_shr, iN_cl, iN_in, iN_mul, H.k, t56 H W, t57 H W, t17r, rg_iN]
            by_cases e : v % 10 < 6
            · have e' : v % 10 < 5 + 1 := e
              simp (disch := omega) only [e, e', gT, nbeq, Option.isSome_some, Option.getD_some, Bool.and_true, Bool.true_and, Bool.and_self, mX_some, bS, bN_if, bN_01, i1_01, i0_01, if_true, if_false, Bool.false_eq_true, false_and, and_false, and_true, true_and, and_self, Bool.or_false, Bool.false_or, Bool.or_true, Bool.true_or, Bool.false_and, Bool.and_false, decide_true, decide_false, L0, L1, L2, L3, L4, L5, L6, L7, L8, L9, L10, L11, L12, L13, L14, L15, L16, L17, L18, L19, L20, L21, L22, L23, L24, L25, L27, L33, L39, L40, L45, L48, L57, L60, L72, L90, L97, L98, L99, L100, L121, L122, L242, L255, L256, L580, L600, L1000, L1584, L1000000, Ln1, iN_add, iN_and, iN_or, iN_nd, iN_shl, iN_shr, iN_cl, iN_in, iN_mul, H.k, H.r0, H.r1, H.r2, H.r3, H.r4, H.r5, H.k1, H.k2, H.k3, H.k4, H.k5, H.k6, H.n, H.m, H.lp, H.hr, H.tp, H.ln, H.lk, H.me, H.he]
            · have e' : ¬ v % 10 < 5 + 1 := e
              simp only [e, e', gT, nbeq, Option.isSome_some, Option.getD_some, Bool.and_true, Bool.true_and, Bool.and_self, mX_some, bS, bN_if, bN_01, i1_01, i0_01, if_true, if_false, Bool.false_eq_true, false_and, and_false, and_true, true_and, and_self, Bool.or_false, Bool.false_or, Bool.or_true, Bool.true_or, Bool.false_and, Bool.and_false, decide_true, decide_false]
          · rw [ieq_n (by omega) (by omega) v4, if_neg v4]
            by_cases v5 : v / 10 = 5
            · rw [ieq_p v5, if_pos v5]
              unfold f54_169
              simp (disch := omega) only [gT, nbeq, Option.isSome_some, Option.getD_some, Bool.and_true, Bool.true_and, Bool.and_self, mX_some, bS, bN_if, bN_01, i1_01, i0_01, if_true, if_false, Bool.false_eq_true, false_and, and_false, and_true, true_and, and_self, Bool.or_false, Bool.false_or, Bool.or_true, Bool.true_or, Bool.false_and, Bool.and_false, decide_true, decide_false, L0, L1, L2, L3, L4, L5, L6, L7, L8, L9, L10, L11, L12, L13, L14, L15, L16, L17, L18, L19, L20, L21, L22, L23, L24, L25, L27, L33, L39, L40, L45, L48, L57, L60, L72, L90, L97, L98, L99, L100, L121, L122, L242, L255, L256, L580, L600, L1000, L1584, L1000000, Ln1, iN_add, iN_and, iN_or, iN_nd, iN_shl, iN_shr, iN_cl, iN_in, iN_mul, H.k, t56 H W, t57 H W, t17r, rg_iN]
              by_cases e : v % 10 < q 0 1
              · simp (disch := omega) only [e, gT, nbeq, Option.isSome_some, Option.getD_some, Bool.and_true, Bool.true_and, Bool.and_self, mX_some, bS, bN_if, bN_01, i1_01, i0_01, if_true, if_false, Bool.false_eq_true, false_and, and_false, and_true, true_and, and_self, Bool.or_false, Bool.false_or, Bool.or_true, Bool.true_or, Bool.false_and, Bool.and_false, decide_true, decide_false, L0, L1, L2, L3, L4, L5, L6, L7, L8, L9, L10, L11, L12, L13, L14, L15, L16, L17, L18, L19, L20, L21, L22, L23, L24, L25, L27, L33, L39, L40, L45, L48, L57, L60, L72, L90, L97, L98, L99, L100, L121, L122, L242, L255, L256, L580, L600, L1000, L1584, L1000000, Ln1, iN_add, iN_and, iN_or, iN_nd, iN_shl, iN_shr, iN_cl, iN_in, iN_mul, H.k, H.r0, H.r1, H.r2, H.r3, H.r4, H.r5, H.k1, H.k2, H.k3, H.k4, H.k5, H.k6, H.n, H.m, H.lp, H.hr, H.tp, H.ln, H.lk, H.me, H.he]
              · simp only [e, gT, nbeq, Option.isSome_some, Option.getD_some, Bool.and_true, Bool.true_and, Bool.and_self, mX_some, bS, bN_if, bN_01, i1_01, i0_01, if_true, if_false, Bool.false_eq_true, false_and, and_false, and_true, true_and, and_self, Bool.or_false, Bool.false_or, Bool.or_true, Bool.true_or, Bool.false_and, Bool.and_false, decide_true, decide_false]
            · rw [ieq_n (by omega) (by omega) v5, if_neg v5]
              by_cases v6 : v / 10 = 6
              · rw [ieq_p v6, if_pos v6]
                unfold f54_188
                simp (disch := omega) only [gT, nbeq, Option.isSome_some, Option.getD_some, Bool.and_true, Bool.true_and, Bool.and_self, mX_some, bS, bN_if, bN_01, i1_01, i0_01, if_true, if_false, Bool.false_eq_true, false_and, and_false, and_true, true_and, and_self, Bool.or_false, Bool.false_or, Bool.or_true, Bool.true_or, Bool.false_and, Bool.and_false, decide_true, decide_false, L0, L1, L2, L3, L4, L5, L6, L7, L8, L9, L10, L11, L12, L13, L14, L15, L16, L17, L18, L19, L20, L21, L22, L23, L24, L25, L27, L33, L39, L40, L45, L48, L57, L60, L72, L90, L97, L98, L99, L100, L121, L122, L242, L255, L256, L580, L600, L1000, L1584, L1000000, Ln1, iN_add, iN_and, iN_or, iN_nd, iN_shl, iN_shr, iN_cl, iN_in, iN_mul, H.k, t56 H W, t57 H W, t17r, rg_iN]
                by_cases e : v % 10 < q 0 1
                · simp (disch := omega) only [e, gT, nbeq, Option.isSome_some, Option.getD_some, Bool.and_true, Bool.true_and, Bool.and_self, mX_some, bS, bN_if, bN_01, i1_01, i0_01, if_true, if_false, Bool.false_eq_true, false_and, and_false, and_true, true_and, and_self, Bool.or_false, Bool.false_or, Bool.or_true, Bool.true_or, Bool.false_and, Bool.and_false, decide_true, decide_false, L0, L1, L2, L3, L4, L5, L6, L7, L8, L9, L10, L11, L12, L13, L14, L15, L16, L17, L18, L19, L20, L21, L22, L23, L24, L25, L27, L33, L39, L40, L45, L48, L57, L60, L72, L90, L97, L98, L99, L100, L121, L122, L242, L255, L256, L580, L600, L1000, L1584, L1000000, Ln1, iN_add, iN_and, iN_or, iN_nd, iN_shl, iN_shr, iN_cl, iN_in, iN_mul, H.k, H.r0, H.r1, H.r2, H.r3, H.r4, H.r5, H.k1, H.k2, H.k3, H.k4, H.k5, H.k6, H.n, H.m, H.lp, H.hr, H.tp, H.ln, H.lk, H.me, H.he]
                · simp only [e, gT, nbeq, Option.isSome_some, Option.getD_some, Bool.and_true, Bool.true_and, Bool.and_self, mX_some, bS, bN_if, bN_01, i1_01, i0_01, if_true, if_false, Bool.false_eq_true, false_and, and_false, and_true, true_and, and_self, Bool.or_false, Bool.false_or, Bool.or_true, Bool.true_or, Bool.false_and, Bool.and_false, decide_true, decide_false]
              · rw [ieq_n (by omega) (by omega) v6, if_neg v6]
                simp only [gT, nbeq, Option.isSome_some, Option.getD_some, Bool.and_true, Bool.true_and, Bool.and_self, mX_some, bS, bN_if, bN_01, i1_01, i0_01, if_true, if_false, Bool.false_eq_true, false_and, and_false, and_true, true_and, and_self, Bool.or_false, Bool.false_or, Bool.or_true, Bool.true_or, Bool.false_and, Bool.and_false, decide_true, decide_false]
theorem t54n {h : mH} {a : Nat} {x : Int32} (hx : x.toInt < 0) : f54 h a x = some jN := by
  have g : ¬ iN 0 ≤ x := (lt_iN hx (by omega)).2.1
  unfold f54 f54_12
  simp only [L0, L10, L1, Ln1, if_neg g]
  unfold f54_25
  simp only [L0, L1, L2, L3, L4, L5, L6, Ln1]
  rw [if_neg (jN_ni (by omega)), if_neg (jN_ni (by omega)), if_neg (jN_ni (by omega)), if_neg (jN_ni (by omega)), if_neg (jN_ni (by omega)), if_neg (jN_ni (by omega)), if_neg (jN_ni (by omega))]
  simp only [gT, nbeq, Option.isSome_some, Option.getD_some, Bool.and_true, Bool.true_and, Bool.and_self, mX_some, bS, bN_if, bN_01, i1_01, i0_01, if_true, if_false, Bool.false_eq_true, false_and, and_false, and_true, true_and, and_self, Bool.or_false, Bool.false_or, Bool.or_true, Bool.true_or, Bool.false_and, Bool.and_false, decide_true, decide_false]
section PB
variable {h : mH}
theorem t204l {h' : mH} {q : LQ} (H : MoS h' q) (W : QW q) {v : Nat} (hv : v < 2147483648) {h0 : mH} {i : Nat} (w0 : Wd h0) (f1 : f205 (mSI h0 193 0 (iN 0)) 193 (iN i) = some (bN true, h')) : f204 h0 193 (iN i) (iN v) = some (laS q v, h') := by
  have hn := W.1.1
  have hm := W.1.2.1
  have w1 := H.1
  have e5 : v - v / 10 * 10 = v % 10 := by omega
  have e6 : iN v - iN v / iN 10 * iN 10 = iN (v % 10) := iN_rem hv (by omega)
  have e7 : iN v / iN 10 = iN (v / 10) := iN_div hv (by omega)
  unfold f204
  simp only [L0, L1, L2, L3, L4, L5, L6, L10, Ln1, e6]
  simp only [e7]
  simp (disch := omega) only [gT, nbeq, Option.isSome_some, Option.getD_some, Bool.and_true, Bool.true_and, Bool.and_self, mX_some, bS, bN_if, bN_01, i1_01, i0_01, if_true, if_false, Bool.false_eq_true, false_and, and_false, and_true, true_and, and_self, Bool.or_false, Bool.false_or, Bool.or_true, Bool.true_or, Bool.false_and, Bool.and_false, decide_true, decide_false, i10nz, k193 w0, r193_1 w0, r193_2 w0, r193_3 w0, r193_4 w0, r193_5 w0, r193_6 w0, r193_7 w0, r193_8 w0, r193_18 w0, r193_19 w0, r193_32 w0, r193_33 w0, r193_34 w0, r193_36 w0, r193_38 w0, r193_39 w0, r193_40 w0, r193_42 w0, r193_45 w0, r193_46 w0, r193_47 w0, r193_48 w0, r193_49 w0, r193_50 w0, f1]
  unfold laS
  by_cases v0 : v / 10 = 0
  · rw [ieq_p v0, if_pos v0]
    simp (disch := omega) only [t179r, rg_iN, bS]
    by_cases e : v < 3
    · have e' : v < 2 + 1 := e
      unfold f204_86
      simp (disch := omega) only [e, e', gT, nbeq, Option.isSome_some, Option.getD_some, Bool.and_true, Bool.true_and, Bool.and_self, mX_some, bS, bN_if, bN_01, i1_01, i0_01, if_true, if_false, Bool.false_eq_true, false_and, and_false, and_true, true_and, and_self, Bool.or_false, Bool.false_or, Bool.or_true, Bool.true_or, Bool.false_and, Bool.and_false, decide_true, decide_false, k193 w1, r193_1 w1, r193_2 w1, r193_3 w1, r193_4 w1, r193_5 w1, r193_6 w1, r193_7 w1, r193_8 w1, r193_18 w1, r193_19 w1, r193_32 w1, r193_33 w1, r193_34 w1, r193_36 w1, r193_38 w1, r193_39 w1, r193_40 w1, r193_42 w1, r193_45 w1, r193_46 w1, r193_47 w1, r193_48 w1, r193_49 w1, r193_50 w1, t206 H, fl0]
    · have e' : ¬ v < 2 + 1 := e
      unfold f204_86
      simp (disch := omega) only [e, e', gT, nbeq, Option.isSome_some, Option.getD_some, Bool.and_true, Bool.true_and, Bool.and_self, mX_some, bS, bN_if, bN_01, i1_01, i0_01, if_true, if_false, Bool.false_eq_true, false_and, and_false, and_true, true_and, and_self, Bool.or_false, Bool.false_or, Bool.or_true, Bool.true_or, Bool.false_and, Bool.and_false, decide_true, decide_false, L0, L1, L2, L3, L4, L5, L6, L7, L8, L9, L10, L11, L12, L13, L14, L15, L16, L17, L18, L19, L20, L21, L22, L23, L24, L25, L27, L33, L39, L40, L45, L48, L57, L60, L72, L90, L97, L98, L99, L100, L121, L122, L242, L255, L256, L580, L600, L1000, L1584, L1000000, Ln1, iN_add, iN_and, iN_or, iN_nd, iN_shl, iN_shr, iN_cl, iN_in, iN_mul]
  · rw [ieq_n (by omega) (by omega) v0, if_neg v0]
    by_cases v1 : v / 10 = 1
    · rw [ieq_p v1, if_pos v1]
      unfold f204_87 f204_116
      simp only [L0, L1, L3, L8, L10, Ln1, e7, v1]
      simp (disch := omega) only [gT, nbeq, Option.isSome_some, Option.getD_some, Bool.and_true, Bool.true_and, Bool.and_self, mX_some, bS, bN_if, bN_01, i1_01, i0_01, if_true, if_false, Bool.false_eq_true, false_and, and_false, and_true, true_and, and_self, Bool.or_false, Bool.false_or, Bool.or_true, Bool.true_or, Bool.false_and, Bool.and_false, decide_true, decide_false, i10nz, k193 w1, r193_1 w1, r193_2 w1, r193_3 w1, r193_4 w1, r193_5 w1, r193_6 w1, r193_7 w1, r193_8 w1, r193_18 w1, r193_19 w1, r193_32 w1, r193_33 w1, r193_34 w1, r193_36 w1, r193_38 w1, r193_39 w1, r193_40 w1, r193_42 w1, r193_45 w1, r193_46 w1, r193_47 w1, r193_48 w1, r193_49 w1, r193_50 w1, H.n, iN_sub, iN_mul, iN_add]
      by_cases e : v % 10 < q 0 0
      · rw [ile_n (by omega) (by omega) e, if_pos e, show 3 + 8 * (1 - 1) + v % 10 = 3 + v % 10 by omega, t206 H (by omega), fl1 (by omega)]; rfl
      · rw [ile_p (by omega) (by omega) (by omega), if_neg e]
    · rw [ieq_n (by omega) (by omega) v1, if_neg v1]
      by_cases v2 : v / 10 = 2
      · rw [ieq_p v2, if_pos v2]
        unfold f204_87 f204_116
        simp only [L0, L1, L3, L8, L10, Ln1, e7, v2]
        simp (disch := omega) only [gT, nbeq, Option.isSome_some, Option.getD_some, Bool.and_true, Bool.true_and, Bool.and_self, mX_some, bS, bN_if, bN_01, i1_01, i0_01, if_true, if_false, Bool.false_eq_true, false_and, and_false, and_true, true_and, and_self, Bool.or_false, Bool.false_or, Bool.or_true, Bool.true_or, Bool.false_and, Bool.and_false, decide_true, decide_false, i10nz, k193 w1, r193_1 w1, r193_2 w1, r193_3 w1, r193_4 w1, r193_5 w1, r193_6 w1, r193_7 w1, r193_8 w1, r193_18 w1, r193_19 w1, r193_32 w1, r193_33 w1, r193_34 w1, r193_36 w1, r193_38 w1, r193_39 w1, r193_40 w1, r193_42 w1, r193_45 w1, r193_46 w1, r193_47 w1, r193_48 w1, r193_49 w1, r193_50 w1, H.n, iN_sub, iN_mul, iN_add]
        by_cases e : v % 10 < q 0 0
        · rw [ile_n (by omega) (by omega) e, if_pos e, show 3 + 8 * (2 - 1) + v % 10 = 11 + v % 10 by omega, t206 H (by omega), fl2 (by omega)]; rfl
        · rw [ile_p (by omega) (by omega) (by omega), if_neg e]
      · rw [ieq_n (by omega) (by omega) v2, if_neg v2]
        by_cases v3 : v / 10 = 3
        · rw [ieq_p v3, if_pos v3]
          unfold f204_87 f204_116
          simp only [L0, L1, L3, L8, L10, Ln1, e7, v3]
          simp (disch := omega) only [gT, nbeq, Option.isSome_some, Option.getD_some, Bool.and_true, Bool.true_and, Bool.and_self, mX_some, bS, bN_if, bN_01, i1_01, i0_01, if_true, if_false, Bool.false_eq_true, false_and, and_false, and_true, true_and, and_self, Bool.or_false, Bool.false_or, Bool.or_true, Bool.true_or, Bool.false_and, Bool.and_false, decide_true, decide_false, i10nz, k193 w1, r193_1 w1, r193_2 w1, r193_3 w1, r193_4 w1, r193_5 w1, r193_6 w1, r193_7 w1, r193_8 w1, r193_18 w1, r193_19 w1, r193_32 w1, r193_33 w1, r193_34 w1, r193_36 w1, r193_38 w1, r193_39 w1, r193_40 w1, r193_42 w1, r193_45 w1, r193_46 w1, r193_47 w1, r193_48 w1, r193_49 w1, r193_50 w1, H.n, iN_sub, iN_mul, iN_add]
          by_cases e : v % 10 < q 0 0
          · rw [ile_n (by omega) (by omega) e, if_pos e, show 3 + 8 * (3 - 1) + v % 10 = 19 + v % 10 by omega, t206 H (by omega), fl3 (by omega)]; rfl
          · rw [ile_p (by omega) (by omega) (by omega), if_neg e]
        · rw [ieq_n (by omega) (by omega) v3, if_neg v3]
          by_cases v4 : v / 10 = 4
          · rw [ieq_p v4, if_pos v4]
            unfold f204_135
            by_cases e : v % 10 < 6
            · rw [ile_n (by omega) (by omega) e, if_pos e, L27, iN_add, t206 H (by omega), fl4 (by omega)]
              simp only [gT, nbeq, Option.isSome_some, Option.getD_some, Bool.and_true, Bool.true_and, Bool.and_self, mX_some, bS, bN_if, bN_01, i1_01, i0_01, if_true, if_false, Bool.false_eq_true, false_and, and_false, and_true, true_and, and_self, Bool.or_false, Bool.false_or, Bool.or_true, Bool.true_or, Bool.false_and, Bool.and_false, decide_true, decide_false, k193 w1, r193_1 w1, r193_2 w1, r193_3 w1, r193_4 w1, r193_5 w1, r193_6 w1, r193_7 w1, r193_8 w1, r193_18 w1, r193_19 w1, r193_32 w1, r193_33 w1, r193_34 w1, r193_36 w1, r193_38 w1, r193_39 w1, r193_40 w1, r193_42 w1, r193_45 w1, r193_46 w1, r193_47 w1, r193_48 w1, r193_49 w1, r193_50 w1]
            · rw [ile_p (by omega) (by omega) (by omega), if_neg e]; rfl
          · rw [ieq_n (by omega) (by omega) v4, if_neg v4]
            by_cases v5 : v / 10 = 5
            · rw [ieq_p v5, if_pos v5]
              unfold f204_136 f204_167
              simp (disch := omega) only [gT, nbeq, Option.isSome_some, Option.getD_some, Bool.and_true, Bool.true_and, Bool.and_self, mX_some, bS, bN_if, bN_01, i1_01, i0_01, if_true, if_false, Bool.false_eq_true, false_and, and_false, and_true, true_and, and_self, Bool.or_false, Bool.false_or, Bool.or_true, Bool.true_or, Bool.false_and, Bool.and_false, decide_true, decide_false, L0, L1, L2, L3, L4, L5, L6, L7, L8, L9, L10, L11, L12, L13, L14, L15, L16, L17, L18, L19, L20, L21, L22, L23, L24, L25, L27, L33, L39, L40, L45, L48, L57, L60, L72, L90, L97, L98, L99, L100, L121, L122, L242, L255, L256, L580, L600, L1000, L1584, L1000000, Ln1, iN_add, iN_and, iN_or, iN_nd, iN_shl, iN_shr, iN_cl, iN_in, iN_mul, k193 w1, r193_1 w1, r193_2 w1, r193_3 w1, r193_4 w1, r193_5 w1, r193_6 w1, r193_7 w1, r193_8 w1, r193_18 w1, r193_19 w1, r193_32 w1, r193_33 w1, r193_34 w1, r193_36 w1, r193_38 w1, r193_39 w1, r193_40 w1, r193_42 w1, r193_45 w1, r193_46 w1, r193_47 w1, r193_48 w1, r193_49 w1, r193_50 w1, H.m]
              by_cases e : v % 10 < q 0 1
              · rw [ile_n (by omega) (by omega) e, ile_n (by omega) (by omega) (by omega), if_pos e, t206 H (by omega), fl5 (by omega)]; rfl
              · rw [ile_p (by omega) (by omega) (by omega), if_neg e]
            · rw [ieq_n (by omega) (by omega) v5, if_neg v5]
              by_cases v6 : v / 10 = 6
              · rw [ieq_p v6, if_pos v6]
                unfold f204_136 f204_167
                simp (disch := omega) only [gT, nbeq, Option.isSome_some, Option.getD_some, Bool.and_true, Bool.true_and, Bool.and_self, mX_some, bS, bN_if, bN_01, i1_01, i0_01, if_true, if_false, Bool.false_eq_true, false_and, and_false, and_true, true_and, and_self, Bool.or_false, Bool.false_or, Bool.or_true, Bool.true_or, Bool.false_and, Bool.and_false, decide_true, decide_false, L0, L1, L2, L3, L4, L5, L6, L7, L8, L9, L10, L11, L12, L13, L14, L15, L16, L17, L18, L19, L20, L21, L22, L23, L24, L25, L27, L33, L39, L40, L45, L48, L57, L60, L72, L90, L97, L98, L99, L100, L121, L122, L242, L255, L256, L580, L600, L1000, L1584, L1000000, Ln1, iN_add, iN_and, iN_or, iN_nd, iN_shl, iN_shr, iN_cl, iN_in, iN_mul, k193 w1, r193_1 w1, r193_2 w1, r193_3 w1, r193_4 w1, r193_5 w1, r193_6 w1, r193_7 w1, r193_8 w1, r193_18 w1, r193_19 w1, r193_32 w1, r193_33 w1, r193_34 w1, r193_36 w1, r193_38 w1, r193_39 w1, r193_40 w1, r193_42 w1, r193_45 w1, r193_46 w1, r193_47 w1, r193_48 w1, r193_49 w1, r193_50 w1, H.m]
                by_cases e : v % 10 < q 0 1
                · rw [ile_n (by omega) (by omega) e, ile_p (by omega) (by omega) (by omega), if_pos e, t206 H (by omega), fl6 (by omega)]; rfl
                · rw [ile_p (by omega) (by omega) (by omega), if_neg e]
              · rw [ieq_n (by omega) (by omega) v6, if_neg v6]
theorem c_library (R : Rel h) (x1 x2 : Int32) : ∃ v, f52 h 0 x1 x2 = some v ∧ ∀ h0, FQ h h0 → ∃ h2, f204 h0 193 x1 x2 = some (v, h2) ∧ FQ h0 h2 := by
  have w := R.1
  unfold f52 f52_22
  simp only [gT, nbeq, Option.isSome_some, Option.getD_some, Bool.and_true, Bool.true_and, Bool.and_self, mX_some, bS, bN_if, bN_01, i1_01, i0_01, if_true, if_false, Bool.false_eq_true, false_and, and_false, and_true, true_and, and_self, Bool.or_false, Bool.false_or, Bool.or_true, Bool.true_or, Bool.false_and, Bool.and_false, decide_true, decide_false, k0 w, r0_0 w, r0_1 w, r0_2 w, r0_3 w, r0_4 w, r0_5 w, r0_6 w, r0_7 w, r0_8 w, k1 w, r1_0 w, r1_1 w, r1_2 w, r1_3 w, r1_4 w]
  rcases R.pick x1 with ⟨e1, e2⟩ | ⟨i, q, hi, rfl, W, H, e1, e2⟩
  · simp only [gT, nbeq, Option.isSome_some, Option.getD_some, Bool.and_true, Bool.true_and, Bool.and_self, mX_some, bS, bN_if, bN_01, i1_01, i0_01, if_true, if_false, Bool.false_eq_true, false_and, and_false, and_true, true_and, and_self, Bool.or_false, Bool.false_or, Bool.or_true, Bool.true_or, Bool.false_and, Bool.and_false, decide_true, decide_false, L0, L1, L2, L3, L4, L5, L6, L7, L8, L9, L10, L11, L12, L13, L14, L15, L16, L17, L18, L19, L20, L21, L22, L23, L24, L25, L27, L33, L39, L40, L45, L48, L57, L60, L72, L90, L97, L98, L99, L100, L121, L122, L242, L255, L256, L580, L600, L1000, L1584, L1000000, Ln1, iN_add, iN_and, iN_or, iN_nd, iN_shl, iN_shr, iN_cl, iN_in, iN_mul, e1]
    refine ⟨_, rfl, fun h0 F => ?_⟩
    have w0 := R.1.q F
    unfold f204
    simp (disch := omega) only [gT, nbeq, Option.isSome_some, Option.getD_some, Bool.and_true, Bool.true_and, Bool.and_self, mX_some, bS, bN_if, bN_01, i1_01, i0_01, if_true, if_false, Bool.false_eq_true, false_and, and_false, and_true, true_and, and_self, Bool.or_false, Bool.false_or, Bool.or_true, Bool.true_or, Bool.false_and, Bool.and_false, decide_true, decide_false, L0, L1, L2, L3, L4, L5, L6, L7, L8, L9, L10, L11, L12, L13, L14, L15, L16, L17, L18, L19, L20, L21, L22, L23, L24, L25, L27, L33, L39, L40, L45, L48, L57, L60, L72, L90, L97, L98, L99, L100, L121, L122, L242, L255, L256, L580, L600, L1000, L1584, L1000000, Ln1, iN_add, iN_and, iN_or, iN_nd, iN_shl, iN_shr, iN_cl, iN_in, iN_mul, k193 w0, r193_1 w0, r193_2 w0, r193_3 w0, r193_4 w0, r193_5 w0, r193_6 w0, r193_7 w0, r193_8 w0, r193_18 w0, r193_19 w0, r193_32 w0, r193_33 w0, r193_34 w0, r193_36 w0, r193_38 w0, r193_39 w0, r193_40 w0, r193_42 w0, r193_45 w0, r193_46 w0, r193_47 w0, r193_48 w0, r193_49 w0, r193_50 w0, e2 _ F.co]
    exact ⟨_, rfl, FQ.c0⟩
  · simp only [gT, nbeq, Option.isSome_some, Option.getD_some, Bool.and_true, Bool.true_and, Bool.and_self, mX_some, bS, bN_if, bN_01, i1_01, i0_01, if_true, if_false, Bool.false_eq_true, false_and, and_false, and_true, true_and, and_self, Bool.or_false, Bool.false_or, Bool.or_true, Bool.true_or, Bool.false_and, Bool.and_false, decide_true, decide_false, e1, H.k]
    by_cases hx : x2.toInt < 0
    · rw [t54n hx]
      simp only [gT, nbeq, Option.isSome_some, Option.getD_some, Bool.and_true, Bool.true_and, Bool.and_self, mX_some, bS, bN_if, bN_01, i1_01, i0_01, if_true, if_false, Bool.false_eq_true, false_and, and_false, and_true, true_and, and_self, Bool.or_false, Bool.false_or, Bool.or_true, Bool.true_or, Bool.false_and, Bool.and_false, decide_true, decide_false]
      refine ⟨_, rfl, fun h0 F => ?_⟩
      have w0 := R.1.q F
      obtain ⟨h', f1, f2, f3, f4, f5⟩ := e2 _ F.co
      have e : ∀ v, v < 2147483648 → (x2 = iN v) = False := fun v hv => eq_false (lt_iN hx hv).2.2
      have d : ∀ v, 1 ≤ v → v < 100 → (x2 / iN 10 = iN v) = False := fun v h1 h2 => eq_false (div10 hx v h1 h2)
      have hr : rg x2 (2 + 1) = false := by unfold rg; rw [decide_eq_false (by omega)]
      unfold f204 f204_86
      simp (disch := omega) only [gT, nbeq, Option.isSome_some, Option.getD_some, Bool.and_true, Bool.true_and, Bool.and_self, mX_some, bS, bN_if, bN_01, i1_01, i0_01, if_true, if_false, Bool.false_eq_true, false_and, and_false, and_true, true_and, and_self, Bool.or_false, Bool.false_or, Bool.or_true, Bool.true_or, Bool.false_and, Bool.and_false, decide_true, decide_false, L0, L1, L2, L3, L4, L5, L6, L7, L8, L9, L10, L11, L12, L13, L14, L15, L16, L17, L18, L19, L20, L21, L22, L23, L24, L25, L27, L33, L39, L40, L45, L48, L57, L60, L72, L90, L97, L98, L99, L100, L121, L122, L242, L255, L256, L580, L600, L1000, L1584, L1000000, Ln1, iN_add, iN_and, iN_or, iN_nd, iN_shl, iN_shr, iN_cl, iN_in, iN_mul, i10nz, k193 w0, r193_1 w0, r193_2 w0, r193_3 w0, r193_4 w0, r193_5 w0, r193_6 w0, r193_7 w0, r193_8 w0, r193_18 w0, r193_19 w0, r193_32 w0, r193_33 w0, r193_34 w0, r193_36 w0, r193_38 w0, r193_39 w0, r193_40 w0, r193_42 w0, r193_45 w0, r193_46 w0, r193_47 w0, r193_48 w0, r193_49 w0, r193_50 w0, f1, d, t179r, hr]
      refine ⟨h', ?_, FQ.c0.tr f2.qM⟩
      split <;> rfl
    · obtain ⟨v, hv, rfl⟩ := ge_iN hx
      rw [t54 H W hv]
      simp only [gT, nbeq, Option.isSome_some, Option.getD_some, Bool.and_true, Bool.true_and, Bool.and_self, mX_some, bS, bN_if, bN_01, i1_01, i0_01, if_true, if_false, Bool.false_eq_true, false_and, and_false, and_true, true_and, and_self, Bool.or_false, Bool.false_or, Bool.or_true, Bool.true_or, Bool.false_and, Bool.and_false, decide_true, decide_false]
      refine ⟨_, rfl, fun h0 F => ?_⟩
      obtain ⟨h', f1, f2, f3, f4, f5⟩ := e2 _ F.co
      exact ⟨h', t204l f4 W hv (R.1.q F) f1, FQ.c0.tr f2.qM⟩
end PB
