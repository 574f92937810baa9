/-! The class's Life: sets of it; reading, skipping, pies, telling, colds. -/
theorem zj {o : Option Nat} {α : Type} {x y : α} (ho : ∀ v, o = some v → v < 2147483648) : (if zN o = jN then x else y) = if o.isSome = true then y else x := by
  cases o with
  | none => show (if jN = jN then x else y) = (if false = true then y else x); rw [if_pos rfl, if_neg (by decide)]
  | some v => show (if iN v = jN then x else y) = (if true = true then y else x); rw [if_neg (iN_nj (ho v rfl)), if_pos rfl]
def knB (s : LSt) (p : Nat) : Nat → Bool := fun c => (sKn s (8 * p + c)).isSome
def whB (s : LSt) (c : Nat) : Nat → Bool := fun p => (sKn s (8 * p + c)).isSome
theorem SW.kb {q : LQ} {s : LSt} (W : QW q) (S : SW q s) {k : Nat} (hk : k < 48) : ∀ v, sKn s k = some v → v < 2147483648 := fun v hv => by
  have h1 := (S.2.1 k hk v hv).1
  have h2 := W.2.2.2.2.2.2.2.1 (k / 8) (by omega)
  omega
section LF
variable {h : mH} {a la : Nat} {q : LQ} {s : LSt}
theorem t65 (L : LfS h a la) (H : LibS h la q) (W : QW q) (C : CLS h a s) (S : SW q s) {p : Nat} (hp : p < 6) : f65 h a (iN p) = some (iN (ups (knB s p) (q 0 0))) := by
  have hn := W.1.1
  unfold f65 ups
  refine lp_up (fun k x => (iN x, iN k)) _ iN (fun _ _ => True) (q 0 0) (a0 := 0) trivial (fun _ _ _ _ => trivial) ?_ ?_ (by omega)
  · intro k x hk _
    have e := C.2.1 (p * 8 + k) (by omega)
    unfold f65_4 f65_36
    simp (disch := omega) only [gT, nbeq, Option.isSome_some, Option.getD_some, Bool.and_true, Bool.true_and, Bool.and_self, mX_some, bS, bN_if, bN_01, i1_01, i0_01, if_true, if_false, Bool.false_eq_true, false_and, and_false, and_true, true_and, and_self, Bool.or_false, Bool.false_or, Bool.or_true, Bool.true_or, Bool.false_and, Bool.and_false, decide_true, decide_false, L0, L1, L2, L3, L4, L5, L6, L7, L8, L9, L10, L11, L12, L13, L14, L15, L16, L17, L18, L19, L20, L21, L22, L23, L24, L25, L27, L33, L39, L40, L45, L48, L57, L60, L72, L90, L97, L98, L99, L100, L121, L122, L242, L255, L256, L580, L600, L1000, L1584, L1000000, Ln1, iN_add, iN_and, iN_or, iN_nd, iN_shl, iN_shr, iN_cl, iN_in, iN_mul, H.k, H.r0, H.r1, H.r2, H.r3, H.r4, H.r5, H.k1, H.k2, H.k3, H.k4, H.k5, H.k6, H.n, H.m, H.lp, H.hr, H.tp, H.ln, H.lk, H.me, H.he, L.k, L.r0, L.r2, L.r3, L.k1, L.k2, ile_n, e]
    rw [zj (SW.kb W S (by omega)), show knB s p k = (sKn s (p * 8 + k)).isSome from by unfold knB; rw [Nat.mul_comm]]
    split <;> rfl
  · intro x _
    unfold f65_4
    simp (disch := omega) only [gT, nbeq, Option.isSome_some, Option.getD_some, Bool.and_true, Bool.true_and, Bool.and_self, mX_some, bS, bN_if, bN_01, i1_01, i0_01, if_true, if_false, Bool.false_eq_true, false_and, and_false, and_true, true_and, and_self, Bool.or_false, Bool.false_or, Bool.or_true, Bool.true_or, Bool.false_and, Bool.and_false, decide_true, decide_false, L0, L1, L2, L3, L4, L5, L6, L7, L8, L9, L10, L11, L12, L13, L14, L15, L16, L17, L18, L19, L20, L21, L22, L23, L24, L25, L27, L33, L39, L40, L45, L48, L57, L60, L72, L90, L97, L98, L99, L100, L121, L122, L242, L255, L256, L580, L600, L1000, L1584, L1000000, Ln1, iN_add, iN_and, iN_or, iN_nd, iN_shl, iN_shr, iN_cl, iN_in, iN_mul, H.k, H.r0, H.r1, H.r2, H.r3, H.r4, H.r5, H.k1, H.k2, H.k3, H.k4, H.k5, H.k6, H.n, H.m, H.lp, H.hr, H.tp, H.ln, H.lk, H.me, H.he, L.k, L.r0, L.r2, L.r3, L.k1, L.k2, ile_p]
theorem t78 (L : LfS h a la) (H : LibS h la q) (W : QW q) (C : CLS h a s) (S : SW q s) {c : Nat} (hc : c < 8) : f78 h a (iN c) = some (iN (ups (whB s c) (q 0 1))) := by
  have hn := W.1.2.1
  unfold f78 ups
  refine lp_up (fun k x => (iN x, iN k)) _ iN (fun _ _ => True) (q 0 1) (a0 := 0) trivial (fun _ _ _ _ => trivial) ?_ ?_ (by omega)
  · intro k x hk _
    have e := C.2.1 (k * 8 + c) (by omega)
    unfold f78_4 f78_36
    simp (disch := omega) only [gT, nbeq, Option.isSome_some, Option.getD_some, Bool.and_true, Bool.true_and, Bool.and_self, mX_some, bS, bN_if, bN_01, i1_01, i0_01, if_true, if_false, Bool.false_eq_true, false_and, and_false, and_true, true_and, and_self, Bool.or_false, Bool.false_or, Bool.or_true, Bool.true_or, Bool.false_and, Bool.and_false, decide_true, decide_false, L0, L1, L2, L3, L4, L5, L6, L7, L8, L9, L10, L11, L12, L13, L14, L15, L16, L17, L18, L19, L20, L21, L22, L23, L24, L25, L27, L33, L39, L40, L45, L48, L57, L60, L72, L90, L97, L98, L99, L100, L121, L122, L242, L255, L256, L580, L600, L1000, L1584, L1000000, Ln1, iN_add, iN_and, iN_or, iN_nd, iN_shl, iN_shr, iN_cl, iN_in, iN_mul, H.k, H.r0, H.r1, H.r2, H.r3, H.r4, H.r5, H.k1, H.k2, H.k3, H.k4, H.k5, H.k6, H.n, H.m, H.lp, H.hr, H.tp, H.ln, H.lk, H.me, H.he, L.k, L.r0, L.r2, L.r3, L.k1, L.k2, ile_n, e]
    rw [zj (SW.kb W S (by omega)), show whB s c k = (sKn s (k * 8 + c)).isSome from by unfold whB; rw [Nat.mul_comm]]
    split <;> rfl
  · intro x _
    unfold f78_4
    simp (disch := omega) only [gT, nbeq, Option.isSome_some, Option.getD_some, Bool.and_true, Bool.true_and, Bool.and_self, mX_some, bS, bN_if, bN_01, i1_01, i0_01, if_true, if_false, Bool.false_eq_true, false_and, and_false, and_true, true_and, and_self, Bool.or_false, Bool.false_or, Bool.or_true, Bool.true_or, Bool.false_and, Bool.and_false, decide_true, decide_false, L0, L1, L2, L3, L4, L5, L6, L7, L8, L9, L10, L11, L12, L13, L14, L15, L16, L17, L18, L19, L20, L21, L22, L23, L24, L25, L27, L33, L39, L40, L45, L48, L57, L60, L72, L90, L97, L98, L99, L100, L121, L122, L242, L255, L256, L580, L600, L1000, L1584, L1000000, Ln1, iN_add, iN_and, iN_or, iN_nd, iN_shl, iN_shr, iN_cl, iN_in, iN_mul, H.k, H.r0, H.r1, H.r2, H.r3, H.r4, H.r5, H.k1, H.k2, H.k3, H.k4, H.k5, H.k6, H.n, H.m, H.lp, H.hr, H.tp, H.ln, H.lk, H.me, H.he, L.k, L.r0, L.r2, L.r3, L.k1, L.k2, ile_p]
theorem SW.done {q : LQ} {s : LSt} (W : QW q) (S : SW q s) : sRd s ||| sSk s < 256 := by
  have := or_lt S.2.2.1 S.2.2.2.1
  have := pw_8 W.1.1
  omega
theorem opn_lt {q : LQ} (W : QW q) (d : Nat) : opn q d < 256 := by
  have h1 := ups_lt (mayB q d) (q 0 0)
  have h2 := pw_8 W.1.1
  rw [opn_ups]; omega
theorem t69 (L : LfS h a la) (H : LibS h la q) (W : QW q) (C : CLS h a s) (S : SW q s) : f69 h a = some (iN (ups (cR q s) (q 0 0))) := by
  have hn := W.1.1
  have hd := S.done W
  have ho := opn_lt W (sRd s ||| sSk s)
  obtain ⟨c1, c2, c3, c4, c5, c6, c7, c8⟩ := C
  unfold f69 f69_27
  simp (disch := omega) only [gT, nbeq, Option.isSome_some, Option.getD_some, Bool.and_true, Bool.true_and, Bool.and_self, mX_some, bS, bN_if, bN_01, i1_01, i0_01, if_true, if_false, Bool.false_eq_true, false_and, and_false, and_true, true_and, and_self, Bool.or_false, Bool.false_or, Bool.or_true, Bool.true_or, Bool.false_and, Bool.and_false, decide_true, decide_false, L0, L1, L2, L3, L4, L5, L6, L7, L8, L9, L10, L11, L12, L13, L14, L15, L16, L17, L18, L19, L20, L21, L22, L23, L24, L25, L27, L33, L39, L40, L45, L48, L57, L60, L72, L90, L97, L98, L99, L100, L121, L122, L242, L255, L256, L580, L600, L1000, L1584, L1000000, Ln1, iN_add, iN_and, iN_or, iN_nd, iN_shl, iN_shr, iN_cl, iN_in, iN_mul, L.k, L.r0, L.r2, L.r3, L.k1, L.k2, H.k, c7, c4, c5, t70 H W]
  have key : ∀ o, o < 256 → (∀ c, c < q 0 0 → (o.testBit c && decide (q 1 c ≤ sLf s) && decide (0 < sLk s (q 2 c))) = cR q s c) → mLoop (f69_32 h a (iN o)) mFuel (iN 0, iN 0) = some (iN (ups (cR q s) (q 0 0))) := by
    intro o ho hc
    unfold ups
    refine lp_up (fun k x => (iN x, iN k)) _ iN (fun _ _ => True) (q 0 0) (a0 := 0) trivial (fun _ _ _ _ => trivial) ?_ ?_ (by omega)
    · intro k x hk _
      have h9 := W.2.2.1 k (by omega)
      have h5 := W.2.2.2.1 k (by omega)
      have hl := S.1 (q 2 k) (by omega)
      have h12 := S.2.2.2.2
      have e := c1 (q 2 k) (by omega)
      rw [← hc k hk]
      unfold f69_32 f69_90
      simp (disch := omega) only [gT, nbeq, Option.isSome_some, Option.getD_some, Bool.and_true, Bool.true_and, Bool.and_self, mX_some, bS, bN_if, bN_01, i1_01, i0_01, if_true, if_false, Bool.false_eq_true, false_and, and_false, and_true, true_and, and_self, Bool.or_false, Bool.false_or, Bool.or_true, Bool.true_or, Bool.false_and, Bool.and_false, decide_true, decide_false, L0, L1, L2, L3, L4, L5, L6, L7, L8, L9, L10, L11, L12, L13, L14, L15, L16, L17, L18, L19, L20, L21, L22, L23, L24, L25, L27, L33, L39, L40, L45, L48, L57, L60, L72, L90, L97, L98, L99, L100, L121, L122, L242, L255, L256, L580, L600, L1000, L1584, L1000000, Ln1, iN_add, iN_and, iN_or, iN_nd, iN_shl, iN_shr, iN_cl, iN_in, iN_mul, H.k, H.r0, H.r1, H.r2, H.r3, H.r4, H.r5, H.k1, H.k2, H.k3, H.k4, H.k5, H.k6, H.n, H.m, H.lp, H.hr, H.tp, H.ln, H.lk, H.me, H.he, L.k, L.r0, L.r2, L.r3, L.k1, L.k2, ile_n, t71, c6, e, ilt_d]
      cases o.testBit k with
      | false => simp only [gT, nbeq, Option.isSome_some, Option.getD_some, Bool.and_true, Bool.true_and, Bool.and_self, mX_some, bS, bN_if, bN_01, i1_01, i0_01, if_true, if_false, Bool.false_eq_true, false_and, and_false, and_true, true_and, and_self, Bool.or_false, Bool.false_or, Bool.or_true, Bool.true_or, Bool.false_and, Bool.and_false, decide_true, decide_false]
      | true =>
        simp only [gT, nbeq, Option.isSome_some, Option.getD_some, Bool.and_true, Bool.true_and, Bool.and_self, mX_some, bS, bN_if, bN_01, i1_01, i0_01, if_true, if_false, Bool.false_eq_true, false_and, and_false, and_true, true_and, and_self, Bool.or_false, Bool.false_or, Bool.or_true, Bool.true_or, Bool.false_and, Bool.and_false, decide_true, decide_false]
        by_cases d1 : sLf s < q 1 k
        · rw [if_pos d1, decide_eq_false (by omega)]; simp only [gT, nbeq, Option.isSome_some, Option.getD_some, Bool.and_true, Bool.true_and, Bool.and_self, mX_some, bS, bN_if, bN_01, i1_01, i0_01, if_true, if_false, Bool.false_eq_true, false_and, and_false, and_true, true_and, and_self, Bool.or_false, Bool.false_or, Bool.or_true, Bool.true_or, Bool.false_and, Bool.and_false, decide_true, decide_false]
        · rw [if_neg d1, decide_eq_true (by omega)]
          by_cases d2 : sLk s (q 2 k) ≤ 0
          · simp (disch := omega) only [gT, nbeq, Option.isSome_some, Option.getD_some, Bool.and_true, Bool.true_and, Bool.and_self, mX_some, bS, bN_if, bN_01, i1_01, i0_01, if_true, if_false, Bool.false_eq_true, false_and, and_false, and_true, true_and, and_self, Bool.or_false, Bool.false_or, Bool.or_true, Bool.true_or, Bool.false_and, Bool.and_false, decide_true, decide_false, L0, L1, L2, L3, L4, L5, L6, L7, L8, L9, L10, L11, L12, L13, L14, L15, L16, L17, L18, L19, L20, L21, L22, L23, L24, L25, L27, L33, L39, L40, L45, L48, L57, L60, L72, L90, L97, L98, L99, L100, L121, L122, L242, L255, L256, L580, L600, L1000, L1584, L1000000, Ln1, iN_add, iN_and, iN_or, iN_nd, iN_shl, iN_shr, iN_cl, iN_in, iN_mul, ile_p]; rw [decide_eq_false (by omega)]; simp only [gT, nbeq, Option.isSome_some, Option.getD_some, Bool.and_true, Bool.true_and, Bool.and_self, mX_some, bS, bN_if, bN_01, i1_01, i0_01, if_true, if_false, Bool.false_eq_true, false_and, and_false, and_true, true_and, and_self, Bool.or_false, Bool.false_or, Bool.or_true, Bool.true_or, Bool.false_and, Bool.and_false, decide_true, decide_false]
          · simp (disch := omega) only [gT, nbeq, Option.isSome_some, Option.getD_some, Bool.and_true, Bool.true_and, Bool.and_self, mX_some, bS, bN_if, bN_01, i1_01, i0_01, if_true, if_false, Bool.false_eq_true, false_and, and_false, and_true, true_and, and_self, Bool.or_false, Bool.false_or, Bool.or_true, Bool.true_or, Bool.false_and, Bool.and_false, decide_true, decide_false, L0, L1, L2, L3, L4, L5, L6, L7, L8, L9, L10, L11, L12, L13, L14, L15, L16, L17, L18, L19, L20, L21, L22, L23, L24, L25, L27, L33, L39, L40, L45, L48, L57, L60, L72, L90, L97, L98, L99, L100, L121, L122, L242, L255, L256, L580, L600, L1000, L1584, L1000000, Ln1, iN_add, iN_and, iN_or, iN_nd, iN_shl, iN_shr, iN_cl, iN_in, iN_mul, ile_n]; rw [decide_eq_true (by omega)]; simp only [gT, nbeq, Option.isSome_some, Option.getD_some, Bool.and_true, Bool.true_and, Bool.and_self, mX_some, bS, bN_if, bN_01, i1_01, i0_01, if_true, if_false, Bool.false_eq_true, false_and, and_false, and_true, true_and, and_self, Bool.or_false, Bool.false_or, Bool.or_true, Bool.true_or, Bool.false_and, Bool.and_false, decide_true, decide_false]
    · intro x _
      unfold f69_32
      simp (disch := omega) only [gT, nbeq, Option.isSome_some, Option.getD_some, Bool.and_true, Bool.true_and, Bool.and_self, mX_some, bS, bN_if, bN_01, i1_01, i0_01, if_true, if_false, Bool.false_eq_true, false_and, and_false, and_true, true_and, and_self, Bool.or_false, Bool.false_or, Bool.or_true, Bool.true_or, Bool.false_and, Bool.and_false, decide_true, decide_false, L0, L1, L2, L3, L4, L5, L6, L7, L8, L9, L10, L11, L12, L13, L14, L15, L16, L17, L18, L19, L20, L21, L22, L23, L24, L25, L27, L33, L39, L40, L45, L48, L57, L60, L72, L90, L97, L98, L99, L100, L121, L122, L242, L255, L256, L580, L600, L1000, L1584, L1000000, Ln1, iN_add, iN_and, iN_or, iN_nd, iN_shl, iN_shr, iN_cl, iN_in, iN_mul, H.k, H.r0, H.r1, H.r2, H.r3, H.r4, H.r5, H.k1, H.k2, H.k3, H.k4, H.k5, H.k6, H.n, H.m, H.lp, H.hr, H.tp, H.ln, H.lk, H.me, H.he, L.k, L.r0, L.r2, L.r3, L.k1, L.k2, ile_p]
  cases hcd : sCd s with
  | false =>
    simp only [gT, nbeq, Option.isSome_some, Option.getD_some, Bool.and_true, Bool.true_and, Bool.and_self, mX_some, bS, bN_if, bN_01, i1_01, i0_01, if_true, if_false, Bool.false_eq_true, false_and, and_false, and_true, true_and, and_self, Bool.or_false, Bool.false_or, Bool.or_true, Bool.true_or, Bool.false_and, Bool.and_false, decide_true, decide_false]
    refine key _ ho (fun c hc => ?_)
    unfold cR
    rw [opn_ups, ups_tb, hcd]
    simp [hc]
  | true =>
    simp only [gT, nbeq, Option.isSome_some, Option.getD_some, Bool.and_true, Bool.true_and, Bool.and_self, mX_some, bS, bN_if, bN_01, i1_01, i0_01, if_true, if_false, Bool.false_eq_true, false_and, and_false, and_true, true_and, and_self, Bool.or_false, Bool.false_or, Bool.or_true, Bool.true_or, Bool.false_and, Bool.and_false, decide_true, decide_false]
    refine key 0 (by omega) (fun c hc => ?_)
    unfold cR
    rw [hcd]
    simp
/-- he reads c -/
def sRead (q : LQ) (s : LSt) (c : Nat) : LSt := (ud (sLk s) (q 2 c) (sLk s (q 2 c) - 1), sKn s, sDy s, sRd s ||| 1 <<< c, sSk s, sLf s - q 1 c, sCd s, sFg s)
def sSkip (s : LSt) (c : Nat) : LSt := (sLk s, sKn s, sDy s, sRd s, sSk s ||| 1 <<< c, sLf s, sCd s, sFg s)
def sPie (s : LSt) (t : Nat) : LSt := (ud (sLk s) t (min 9 (sLk s t + 2)), sKn s, sDy s, sRd s, sSk s, sLf s, sCd s, sFg s)
def sTell (s : LSt) (c p : Nat) : LSt := (sLk s, ud (sKn s) (8 * p + c) (some 0), sDy s, sRd s, sSk s, sLf s, sCd s, sFg s)
def sCold (s : LSt) : LSt := (sLk s, sKn s, sDy s, sRd s, sSk s, sLf s, true, sFg s)
/-- what a deed leaves besides -/
def XF (h h' : mH) (a : Nat) : Prop := ∀ j, 10 ≤ j → mI h' a j = mI h a j
theorem t68n (L : LfS h a la) (H : LibS h la q) (W : QW q) (C : CLS h a s) (S : SW q s) {c : Nat} (hc : c < 8) (hr : (decide (c < q 0 0) && cR q s c) = false) : f68 h a (iN c) = some (bN false, h) := by
  have hu := ups_lt (cR q s) (q 0 0)
  have h8 := pw_8 W.1.1
  unfold f68 f68_22
  simp (disch := omega) only [gT, nbeq, Option.isSome_some, Option.getD_some, Bool.and_true, Bool.true_and, Bool.and_self, mX_some, bS, bN_if, bN_01, i1_01, i0_01, if_true, if_false, Bool.false_eq_true, false_and, and_false, and_true, true_and, and_self, Bool.or_false, Bool.false_or, Bool.or_true, Bool.true_or, Bool.false_and, Bool.and_false, decide_true, decide_false, L0, L1, L2, L3, L4, L5, L6, L7, L8, L9, L10, L11, L12, L13, L14, L15, L16, L17, L18, L19, L20, L21, L22, L23, L24, L25, L27, L33, L39, L40, L45, L48, L57, L60, L72, L90, L97, L98, L99, L100, L121, L122, L242, L255, L256, L580, L600, L1000, L1584, L1000000, Ln1, iN_add, iN_and, iN_or, iN_nd, iN_shl, iN_shr, iN_cl, iN_in, iN_mul, L.k, L.r0, L.r2, L.r3, L.k1, L.k2, H.k, t56 H W, t69 L H W C S, t71, rg_iN, ups_tb, hr]
  split <;> rfl
theorem t68y (L : LfS h a la) (H : LibS h la q) (W : QW q) (C : CLS h a s) (S : SW q s) (p : la + 7 ≤ a) {c : Nat} (hc : c < 8) (hr : (decide (c < q 0 0) && cR q s c) = true) : ∃ h', f68 h a (iN c) = some (bN true, h') ∧ Fr (pL a) h h' ∧ CLS h' a (sRead q s c) ∧ SW q (sRead q s c) ∧ XF h h' a ∧ mI h' a 8 = mI h a 8 := by
  have hu := ups_lt (cR q s) (q 0 0)
  have h8 := pw_8 W.1.1
  have h9 := W.2.2.1 c hc
  have h5 := W.2.2.2.1 c hc
  have hl := S.1 (q 2 c) (by omega)
  obtain ⟨c1, c2, c3, c4, c5, c6, c7, c8⟩ := id C
  have e := c1 (q 2 c) (by omega)
  have hcn : c < q 0 0 := by
    rw [Bool.and_eq_true] at hr; exact of_decide_eq_true hr.1
  have hcc : cR q s c = true := by rw [Bool.and_eq_true] at hr; exact hr.2
  have hcr : q 1 c ≤ sLf s ∧ 0 < sLk s (q 2 c) := by
    rw [Bool.and_eq_true] at hr
    have := hr.2
    unfold cR at this
    simp only [Bool.and_eq_true, decide_eq_true_eq] at this
    exact ⟨this.1.1.2, this.1.2⟩
  unfold f68 f68_54 f68_72
  simp (disch := omega) only [gT, nbeq, Option.isSome_some, Option.getD_some, Bool.and_true, Bool.true_and, Bool.and_self, mX_some, bS, bN_if, bN_01, i1_01, i0_01, if_true, if_false, Bool.false_eq_true, false_and, and_false, and_true, true_and, and_self, Bool.or_false, Bool.false_or, Bool.or_true, Bool.true_or, Bool.false_and, Bool.and_false, decide_true, decide_false, L0, L1, L2, L3, L4, L5, L6, L7, L8, L9, L10, L11, L12, L13, L14, L15, L16, L17, L18, L19, L20, L21, L22, L23, L24, L25, L27, L33, L39, L40, L45, L48, L57, L60, L72, L90, L97, L98, L99, L100, L121, L122, L242, L255, L256, L580, L600, L1000, L1584, L1000000, Ln1, iN_add, iN_and, iN_or, iN_nd, iN_shl, iN_shr, iN_cl, iN_in, iN_mul, L.k, L.r0, L.r2, L.r3, L.k1, L.k2, H.k, H.r0, H.r1, H.r2, H.r3, H.r4, H.r5, H.k1, H.k2, H.k3, H.k4, H.k5, H.k6, H.n, H.m, H.lp, H.hr, H.tp, H.ln, H.lk, H.me, H.he, t56 H W, t69 L H W C S, t71, rg_iN, ups_tb, hcc, mK_SI, mR_SI, si_ne, si_nk, si_eq, c4, c6, e, iN_sub, hcn]
  refine ⟨_, rfl, ((Fr.rfl.si (pL0 a)).si (pL0 a)).si (pL1 a), ⟨?_, ?_, ?_, ?_, ?_, ?_, ?_, ?_⟩, ⟨?_, S.2.1, or_lt S.2.2.1 (sh1_lt hcn), S.2.2.2.1, ?_⟩, ?_, ?_⟩
  · intro t ht
    show _ = iN (ud (sLk s) (q 2 c) (sLk s (q 2 c) - 1) t)
    by_cases et : t = q 2 c
    · subst et; simp (disch := omega) only [si_ne, si_nk, si_eq, ud_eq]
    · simp (disch := omega) only [si_ne, si_nk, si_eq, ud_ne]; exact c1 t ht
  · intro k hk
    simp (disch := omega) only [si_ne, si_nk, si_eq]; exact c2 k hk
  · simp (disch := omega) only [si_ne, si_nk, si_eq]; exact c3
  · simp (disch := omega) only [si_ne, si_nk, si_eq]; rfl
  · simp (disch := omega) only [si_ne, si_nk, si_eq]; exact c5
  · simp (disch := omega) only [si_ne, si_nk, si_eq]; rfl
  · simp (disch := omega) only [si_ne, si_nk, si_eq]; exact c7
  · simp (disch := omega) only [si_ne, si_nk, si_eq]; exact c8
  · intro t ht
    show ud (sLk s) (q 2 c) (sLk s (q 2 c) - 1) t ≤ 9
    unfold ud; split
    · omega
    · exact S.1 t ht
  · show sLf s - q 1 c ≤ 12
    have := S.2.2.2.2; omega
  · intro j hj
    simp (disch := omega) only [si_ne, si_nk, si_eq]
  · simp (disch := omega) only [si_ne, si_nk, si_eq]
end LF
