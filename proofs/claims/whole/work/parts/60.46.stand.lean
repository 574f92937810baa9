/-! what stands on a CHAPTER: the class's -/
def stf (q : LQ) (c : Nat) : Nat → Nat → Nat := fun k s => if q 3 (c + 1 + k) &&& s = 0 then s else s ||| 1 <<< (c + 1 + k)
def sto (q : LQ) (c : Nat) : Nat := up (stf q c) (q 0 0 - (c + 1)) (1 <<< c)
theorem sto_b {q : LQ} {c : Nat} (hc : c < q 0 0) : ∀ k, k ≤ q 0 0 - (c + 1) → up (stf q c) k (1 <<< c) < 2 ^ q 0 0 :=
  up_inv (f := stf q c) (I := fun _ s => s < 2 ^ q 0 0) (n := q 0 0 - (c + 1)) (fun k s hk hs => by
    unfold stf
    split
    · exact hs
    · exact or_lt hs (sh1_lt (by omega))) (sh1_lt hc)
theorem t130 {h : mH} {a : Nat} {q : LQ} (H : LibS h a q) (W : QW q) {c : Nat} (hc : c < q 0 0) : f130 h a (iN c) = some (iN (sto q c)) := by
  have hn := W.1.1
  have h8 := pw_8 hn
  unfold f130 sto
  simp (disch := omega) only [gT, nbeq, Option.isSome_some, Option.getD_some, Bool.and_true, Bool.true_and, Bool.and_self, mX_some, bS, bN_if, bN_01, i1_01, i0_01, if_true, if_false, Bool.false_eq_true, false_and, and_false, and_true, true_and, and_self, Bool.or_false, Bool.false_or, Bool.or_true, Bool.true_or, Bool.false_and, Bool.and_false, decide_true, decide_false, L0, L1, L2, L3, L4, L5, L6, L7, L8, L9, L10, L11, L12, L13, L14, L15, L16, L17, L18, L19, L20, L21, L22, L23, L24, L25, L27, L33, L39, L40, L45, L48, L57, L60, L72, L90, L97, L98, L99, L100, L121, L122, L242, L255, L256, L580, L600, L1000, L1584, L1000000, Ln1, iN_add, iN_and, iN_or, iN_nd, iN_shl, iN_shr, iN_cl, iN_in, iN_mul]
  refine lp_up (body := f130_8 h a) (fun k (s : Nat) => (iN s, iN (c + 1 + k))) (stf q c) iN (fun _ s => s < 2 ^ q 0 0) (q 0 0 - (c + 1)) (a0 := 1 <<< c) (sh1_lt hc) (fun k s hk hs => by
    unfold stf
    split
    · exact hs
    · exact or_lt hs (sh1_lt (by omega))) ?_ ?_ (by omega)
  · intro k s hk hs
    have hl := Nat.and_le_right (n := q 3 (c + 1 + k)) (m := s)
    unfold f130_8 f130_33 stf
    simp (disch := omega) only [gT, nbeq, Option.isSome_some, Option.getD_some, Bool.and_true, Bool.true_and, Bool.and_self, mX_some, bS, bN_if, bN_01, i1_01, i0_01, if_true, if_false, Bool.false_eq_true, false_and, and_false, and_true, true_and, and_self, Bool.or_false, Bool.false_or, Bool.or_true, Bool.true_or, Bool.false_and, Bool.and_false, decide_true, decide_false, L0, L1, L2, L3, L4, L5, L6, L7, L8, L9, L10, L11, L12, L13, L14, L15, L16, L17, L18, L19, L20, L21, L22, L23, L24, L25, L27, L33, L39, L40, L45, L48, L57, L60, L72, L90, L97, L98, L99, L100, L121, L122, L242, L255, L256, L580, L600, L1000, L1584, L1000000, Ln1, iN_add, iN_and, iN_or, iN_nd, iN_shl, iN_shr, iN_cl, iN_in, iN_mul, H.k, H.r0, H.r1, H.r2, H.r3, H.r4, H.r5, H.k1, H.k2, H.k3, H.k4, H.k5, H.k6, H.n, H.m, H.lp, H.hr, H.tp, H.ln, H.lk, H.me, H.he, ile_n]
    by_cases e : q 3 (c + 1 + k) &&& s = 0
    · rw [ieq_p e, if_pos e]; rfl
    · rw [ieq_n (by omega) (by omega) e, if_neg e]; rfl
  · intro s hs
    unfold f130_8
    rw [show c + 1 + (q 0 0 - (c + 1)) = q 0 0 by omega]
    simp (disch := omega) only [gT, nbeq, Option.isSome_some, Option.getD_some, Bool.and_true, Bool.true_and, Bool.and_self, mX_some, bS, bN_if, bN_01, i1_01, i0_01, if_true, if_false, Bool.false_eq_true, false_and, and_false, and_true, true_and, and_self, Bool.or_false, Bool.false_or, Bool.or_true, Bool.true_or, Bool.false_and, Bool.and_false, decide_true, decide_false, L0, L1, L2, L3, L4, L5, L6, L7, L8, L9, L10, L11, L12, L13, L14, L15, L16, L17, L18, L19, L20, L21, L22, L23, L24, L25, L27, L33, L39, L40, L45, L48, L57, L60, L72, L90, L97, L98, L99, L100, L121, L122, L242, L255, L256, L580, L600, L1000, L1584, L1000000, Ln1, iN_add, iN_and, iN_or, iN_nd, iN_shl, iN_shr, iN_cl, iN_in, iN_mul, H.k, H.r0, H.r1, H.r2, H.r3, H.r4, H.r5, H.k1, H.k2, H.k3, H.k4, H.k5, H.k6, H.n, H.m, H.lp, H.hr, H.tp, H.ln, H.lk, H.me, H.he, ile_p]
