/-! halves -/
theorem sub_le0 {α : Type} {x y : α} {a b : Nat} (ha : a < 1000000000) (hb : b < 1000000000) : (if iN 0 ≤ iN a - iN b then x else y) = if b ≤ a then x else y := by
  have e : (iN 0 ≤ iN a - iN b) ↔ b ≤ a := by
    rw [Int32.le_iff_toInt_le, iN_subI ha hb, iN_toInt (by omega)]; omega
  by_cases h : b ≤ a
  · rw [if_pos h, if_pos (e.2 h)]
  · rw [if_neg h, if_neg (fun c => h (e.1 c))]
theorem i0_sub {a b : Nat} (h : a ≤ b) : iN 0 - (iN a - iN b) = iN (b - a) := by
  rw [← L0, Int32.zero_sub, Int32.neg_sub, iN_sub h]
theorem in_sub {a b : Nat} (h : a ≤ b) : -(iN a - iN b) = iN (b - a) := by
  rw [Int32.neg_sub, iN_sub h]
theorem hs_cp {q : LQ} {s : Nat} : hs q s + hs q (nd (2 ^ q 0 0 - 1) s) = hs q (2 ^ q 0 0 - 1) := by
  unfold hs
  have key : ∀ k, k ≤ q 0 0 → up (hsf q s) k 0 + up (hsf q (nd (2 ^ q 0 0 - 1) s)) k 0 = up (hsf q (2 ^ q 0 0 - 1)) k 0 := by
    intro k
    induction k with
    | zero => intro _; rfl
    | succ k ih =>
      intro hk
      have h1 := ih (by omega)
      show hsf q s k (up (hsf q s) k 0) + hsf q (nd (2 ^ q 0 0 - 1) s) k (up (hsf q (nd (2 ^ q 0 0 - 1) s)) k 0) = hsf q (2 ^ q 0 0 - 1) k (up (hsf q (2 ^ q 0 0 - 1)) k 0)
      generalize up (hsf q s) k 0 = x at h1 ⊢
      generalize up (hsf q (nd (2 ^ q 0 0 - 1) s)) k 0 = y at h1 ⊢
      generalize up (hsf q (2 ^ q 0 0 - 1)) k 0 = z at h1 ⊢
      unfold hsf
      rw [nd_tb, tb_all, decide_eq_true (show k < q 0 0 by omega)]
      cases s.testBit k
      · simp only [Bool.not_false, Bool.and_self, if_true, Bool.false_eq_true, if_false]; omega
      · simp only [Bool.not_true, Bool.and_false, if_true, Bool.false_eq_true, if_false]; omega
  exact key _ (Nat.le_refl _)
/-- how far apart the halves are -/
def apt (q : LQ) (s : Nat) : Nat := if hs q (2 ^ q 0 0 - 1) < 2 * hs q s then 2 * hs q s - hs q (2 ^ q 0 0 - 1) else hs q (2 ^ q 0 0 - 1) - 2 * hs q s
def haf (q : LQ) : Nat → Nat → Nat := fun s b => if apt q s < apt q b then s else b
def hal (q : LQ) : Nat := up (haf q) (2 ^ (q 0 0 - 1)) 0
theorem apt_le {q : LQ} (W : QW q) (s : Nat) : apt q s ≤ 144 := by
  have h1 := hs_le W (b := s)
  have h2 := hs_le W (b := 2 ^ q 0 0 - 1)
  unfold apt
  split <;> omega
theorem haf_lt {q : LQ} : ∀ k, k ≤ 2 ^ (q 0 0 - 1) → up (haf q) k 0 < 2 ^ (q 0 0 - 1) :=
  up_inv (f := haf q) (I := fun _ b => b < 2 ^ (q 0 0 - 1)) (n := 2 ^ (q 0 0 - 1)) (fun k b hk hb => by
    unfold haf
    split
    · exact hk
    · exact hb) (Nat.two_pow_pos _)
theorem sh_m1 : iN 1 <<< ((iN 0 - iN 1) &&& (31 : Int32)) ≤ iN 1 := by decide +kernel
theorem sh_hf : ∀ n, n < 9 → (2 ^ n - 1) >>> 1 = 2 ^ (n - 1) - 1 := by decide
section HV
variable {h : mH} {q : LQ}
theorem t135 {a : Nat} (H : LibS h a q) (W : QW q) {b : Nat} (hb : b < 2147483648) : f135 h a (iN b) = some (iN (apt q b)) := by
  have h8 := pw_8 W.1.1
  have h1 := hs_le W (b := b)
  have h2 := hs_le W (b := 2 ^ q 0 0 - 1)
  unfold f135
  simp (disch := omega) only [gT, nbeq, Option.isSome_some, Option.getD_some, Bool.and_true, Bool.true_and, Bool.and_self, mX_some, bS, bN_if, bN_01, i1_01, i0_01, if_true, if_false, Bool.false_eq_true, false_and, and_false, and_true, true_and, and_self, Bool.or_false, Bool.false_or, Bool.or_true, Bool.true_or, Bool.false_and, Bool.and_false, decide_true, decide_false, L0, L1, L2, L3, L4, L5, L6, L7, L8, L9, L10, L11, L12, L13, L14, L15, L16, L17, L18, L19, L20, L21, L22, L23, L24, L25, L27, L33, L39, L40, L45, L48, L57, L60, L72, L90, L97, L98, L99, L100, L121, L122, L242, L255, L256, L580, L600, L1000, L1584, L1000000, Ln1, iN_add, iN_and, iN_or, iN_nd, iN_shl, iN_shr, iN_cl, iN_in, iN_mul, H.k, t94 H W, t95 H W, sub_le0]
  unfold apt
  by_cases e : 2 * hs q b ≤ hs q (2 ^ q 0 0 - 1)
  · rw [if_pos e, if_neg (by omega), iN_sub e]
  · rw [if_neg e, if_pos (by omega), i0_sub (by omega)]
theorem t134 {a : Nat} (H : LibS h a q) (W : QW q) : f134 h a = some (iN (hal q)) := by
  have hn := W.1.1
  have h8 := pw_8 (n := q 0 0 - 1) (by omega)
  have h1 := pw_pos (q 0 0 - 1)
  have e : hal q = up (fun k => haf q (k + 1)) (2 ^ (q 0 0 - 1) - 1) 0 := by
    unfold hal
    have e1 : 2 ^ (q 0 0 - 1) = (2 ^ (q 0 0 - 1) - 1) + 1 := by omega
    conv => lhs; rw [e1]
    rw [up_shift]
    have e2 : haf q 0 0 = 0 := by unfold haf; rw [if_neg (Nat.lt_irrefl _)]
    rw [e2]
  rw [e]
  unfold f134
  simp (disch := omega) only [gT, nbeq, Option.isSome_some, Option.getD_some, Bool.and_true, Bool.true_and, Bool.and_self, mX_some, bS, bN_if, bN_01, i1_01, i0_01, if_true, if_false, Bool.false_eq_true, false_and, and_false, and_true, true_and, and_self, Bool.or_false, Bool.false_or, Bool.or_true, Bool.true_or, Bool.false_and, Bool.and_false, decide_true, decide_false, L0, L1, L2, L3, L4, L5, L6, L7, L8, L9, L10, L11, L12, L13, L14, L15, L16, L17, L18, L19, L20, L21, L22, L23, L24, L25, L27, L33, L39, L40, L45, L48, L57, L60, L72, L90, L97, L98, L99, L100, L121, L122, L242, L255, L256, L580, L600, L1000, L1584, L1000000, Ln1, iN_add, iN_and, iN_or, iN_nd, iN_shl, iN_shr, iN_cl, iN_in, iN_mul, H.k, t135 H W]
  refine lp_up (body := f134_10 h a) (fun k b => (iN b, iN (apt q b), iN (k + 1))) (fun k => haf q (k + 1)) iN (fun _ b => b < 2 ^ (q 0 0 - 1)) (2 ^ (q 0 0 - 1) - 1) (a0 := 0) (by omega) (fun k b hk hb => by
    show haf q (k + 1) b < _
    unfold haf
    split <;> omega) ?_ ?_ (by omega)
  · intro k b hk hb
    have h2 : 2 ≤ q 0 0 := by
      refine Decidable.byContradiction (fun hc => ?_)
      have : q 0 0 - 1 = 0 := by omega
      rw [this] at hk
      simp at hk
    have p1 := apt_le W b
    have p2 := apt_le W (k + 1)
    unfold f134_10 f134_48 haf
    simp (disch := omega) only [gT, nbeq, Option.isSome_some, Option.getD_some, Bool.and_true, Bool.true_and, Bool.and_self, mX_some, bS, bN_if, bN_01, i1_01, i0_01, if_true, if_false, Bool.false_eq_true, false_and, and_false, and_true, true_and, and_self, Bool.or_false, Bool.false_or, Bool.or_true, Bool.true_or, Bool.false_and, Bool.and_false, decide_true, decide_false, L0, L1, L2, L3, L4, L5, L6, L7, L8, L9, L10, L11, L12, L13, L14, L15, L16, L17, L18, L19, L20, L21, L22, L23, L24, L25, L27, L33, L39, L40, L45, L48, L57, L60, L72, L90, L97, L98, L99, L100, L121, L122, L242, L255, L256, L580, L600, L1000, L1584, L1000000, Ln1, iN_add, iN_and, iN_or, iN_nd, iN_shl, iN_shr, iN_cl, iN_in, iN_mul, H.k, H.n, iN_sub, Nat.one_shiftLeft, ile_n, t135 H W, ile_d]
    by_cases d : apt q b ≤ apt q (k + 1)
    · rw [if_pos d, if_neg (by omega)]
    · rw [if_neg d, if_pos (by omega)]
  · intro b hb
    unfold f134_10 f134_54
    by_cases h0 : q 0 0 = 0
    · simp (disch := omega) only [gT, nbeq, Option.isSome_some, Option.getD_some, Bool.and_true, Bool.true_and, Bool.and_self, mX_some, bS, bN_if, bN_01, i1_01, i0_01, if_true, if_false, Bool.false_eq_true, false_and, and_false, and_true, true_and, and_self, Bool.or_false, Bool.false_or, Bool.or_true, Bool.true_or, Bool.false_and, Bool.and_false, decide_true, decide_false, L0, L1, L2, L3, L4, L5, L6, L7, L8, L9, L10, L11, L12, L13, L14, L15, L16, L17, L18, L19, L20, L21, L22, L23, L24, L25, L27, L33, L39, L40, L45, L48, L57, L60, L72, L90, L97, L98, L99, L100, L121, L122, L242, L255, L256, L580, L600, L1000, L1584, L1000000, Ln1, iN_add, iN_and, iN_or, iN_nd, iN_shl, iN_shr, iN_cl, iN_in, iN_mul, H.k, H.n, h0]
      rw [if_pos sh_m1]
    · simp (disch := omega) only [gT, nbeq, Option.isSome_some, Option.getD_some, Bool.and_true, Bool.true_and, Bool.and_self, mX_some, bS, bN_if, bN_01, i1_01, i0_01, if_true, if_false, Bool.false_eq_true, false_and, and_false, and_true, true_and, and_self, Bool.or_false, Bool.false_or, Bool.or_true, Bool.true_or, Bool.false_and, Bool.and_false, decide_true, decide_false, L0, L1, L2, L3, L4, L5, L6, L7, L8, L9, L10, L11, L12, L13, L14, L15, L16, L17, L18, L19, L20, L21, L22, L23, L24, L25, L27, L33, L39, L40, L45, L48, L57, L60, L72, L90, L97, L98, L99, L100, L121, L122, L242, L255, L256, L580, L600, L1000, L1584, L1000000, Ln1, iN_add, iN_and, iN_or, iN_nd, iN_shl, iN_shr, iN_cl, iN_in, iN_mul, H.k, H.n, iN_sub, Nat.one_shiftLeft, ile_p]
theorem t276 {x : Int32} (H : MoS h q) (W : QW q) : f276 h 193 x = some (if x = iN 0 then iN (apt q (hal q)) else iN (hal q)) := by
  have hn := W.1.1
  have w := H.1
  have h8 := pw_8 hn
  have h88 := pw_8 (n := q 0 0 - 1) (by omega)
  have hp := pw_pos (q 0 0)
  have h1 := pw_pos (q 0 0 - 1)
  unfold f276 hal
  simp (disch := omega) only [gT, nbeq, Option.isSome_some, Option.getD_some, Bool.and_true, Bool.true_and, Bool.and_self, mX_some, bS, bN_if, bN_01, i1_01, i0_01, if_true, if_false, Bool.false_eq_true, false_and, and_false, and_true, true_and, and_self, Bool.or_false, Bool.false_or, Bool.or_true, Bool.true_or, Bool.false_and, Bool.and_false, decide_true, decide_false, L0, L1, L2, L3, L4, L5, L6, L7, L8, L9, L10, L11, L12, L13, L14, L15, L16, L17, L18, L19, L20, L21, L22, L23, L24, L25, L27, L33, L39, L40, L45, L48, L57, L60, L72, L90, L97, L98, L99, L100, L121, L122, L242, L255, L256, L580, L600, L1000, L1584, L1000000, Ln1, iN_add, iN_and, iN_or, iN_nd, iN_shl, iN_shr, iN_cl, iN_in, iN_mul, k193 w, r193_1 w, r193_2 w, r193_3 w, r193_4 w, r193_5 w, r193_6 w, r193_7 w, r193_8 w, r193_18 w, r193_19 w, r193_32 w, r193_33 w, r193_34 w, r193_36 w, r193_38 w, r193_39 w, r193_40 w, r193_42 w, r193_45 w, r193_46 w, r193_47 w, r193_48 w, r193_49 w, r193_50 w, H.n, Nat.one_shiftLeft, iN_sub]
  refine lp_up (body := f276_19 h 193 x (iN (2 ^ q 0 0 - 1))) (fun k b => (iN b, (if k = 0 then iN 1000000 else iN (apt q b)), iN k)) (haf q) (fun b => if x = iN 0 then iN (apt q b) else iN b) (fun k b => (k = 0 → b = 0) ∧ b < 2 ^ (q 0 0 - 1)) (2 ^ (q 0 0 - 1)) (a0 := 0) ⟨fun _ => rfl, by omega⟩ (fun k b hk hb => by
    refine ⟨fun c => by omega, ?_⟩
    unfold haf
    split <;> omega) ?_ ?_ (by omega)
  · intro k b hk hb
    have p1 := apt_le W b
    have p2 := apt_le W k
    have p3 := hs_le W (b := k)
    have p4 := hs_le W (b := nd (2 ^ q 0 0 - 1) k)
    have p5 := nd_le (2 ^ q 0 0 - 1) k
    have p6 := hs_cp (q := q) (s := k)
    unfold f276_19
    simp (disch := omega) only [gT, nbeq, Option.isSome_some, Option.getD_some, Bool.and_true, Bool.true_and, Bool.and_self, mX_some, bS, bN_if, bN_01, i1_01, i0_01, if_true, if_false, Bool.false_eq_true, false_and, and_false, and_true, true_and, and_self, Bool.or_false, Bool.false_or, Bool.or_true, Bool.true_or, Bool.false_and, Bool.and_false, decide_true, decide_false, L0, L1, L2, L3, L4, L5, L6, L7, L8, L9, L10, L11, L12, L13, L14, L15, L16, L17, L18, L19, L20, L21, L22, L23, L24, L25, L27, L33, L39, L40, L45, L48, L57, L60, L72, L90, L97, L98, L99, L100, L121, L122, L242, L255, L256, L580, L600, L1000, L1584, L1000000, Ln1, iN_add, iN_and, iN_or, iN_nd, iN_shl, iN_shr, iN_cl, iN_in, iN_mul, k193 w, r193_1 w, r193_2 w, r193_3 w, r193_4 w, r193_5 w, r193_6 w, r193_7 w, r193_8 w, r193_18 w, r193_19 w, r193_32 w, r193_33 w, r193_34 w, r193_36 w, r193_38 w, r193_39 w, r193_40 w, r193_42 w, r193_45 w, r193_46 w, r193_47 w, r193_48 w, r193_49 w, r193_50 w, sh_hf, ilt_n, t243 H W, sub_le0]
    have ea : (if hs q (nd (2 ^ q 0 0 - 1) k) ≤ hs q k then f276_61 h 193 x (iN b) (if k = 0 then iN 1000000 else iN (apt q b)) (iN (2 ^ q 0 0 - 1)) (iN k) (iN (hs q k) - iN (hs q (nd (2 ^ q 0 0 - 1) k))) else f276_61 h 193 x (iN b) (if k = 0 then iN 1000000 else iN (apt q b)) (iN (2 ^ q 0 0 - 1)) (iN k) (-(iN (hs q k) - iN (hs q (nd (2 ^ q 0 0 - 1) k))))) = f276_61 h 193 x (iN b) (if k = 0 then iN 1000000 else iN (apt q b)) (iN (2 ^ q 0 0 - 1)) (iN k) (iN (apt q k)) := by
      by_cases e : hs q (nd (2 ^ q 0 0 - 1) k) ≤ hs q k
      · rw [if_pos e, iN_sub e]
        congr 2
        unfold apt
        split <;> omega
      · rw [if_neg e, in_sub (by omega)]
        congr 2
        unfold apt
        split <;> omega
    rw [ea]
    unfold f276_61 f276_75 haf
    by_cases k0 : k = 0
    · have b0 := hb.1 k0
      subst k0
      subst b0
      simp (disch := omega) only [gT, nbeq, Option.isSome_some, Option.getD_some, Bool.and_true, Bool.true_and, Bool.and_self, mX_some, bS, bN_if, bN_01, i1_01, i0_01, if_true, if_false, Bool.false_eq_true, false_and, and_false, and_true, true_and, and_self, Bool.or_false, Bool.false_or, Bool.or_true, Bool.true_or, Bool.false_and, Bool.and_false, decide_true, decide_false, L0, L1, L2, L3, L4, L5, L6, L7, L8, L9, L10, L11, L12, L13, L14, L15, L16, L17, L18, L19, L20, L21, L22, L23, L24, L25, L27, L33, L39, L40, L45, L48, L57, L60, L72, L90, L97, L98, L99, L100, L121, L122, L242, L255, L256, L580, L600, L1000, L1584, L1000000, Ln1, iN_add, iN_and, iN_or, iN_nd, iN_shl, iN_shr, iN_cl, iN_in, iN_mul, if_true, ile_n, t195, Nat.lt_irrefl]
      rw [if_neg (show ¬ 0 + 1 = 0 by omega), Nat.min_eq_right (by omega)]
    · simp (disch := omega) only [gT, nbeq, Option.isSome_some, Option.getD_some, Bool.and_true, Bool.true_and, Bool.and_self, mX_some, bS, bN_if, bN_01, i1_01, i0_01, if_true, if_false, Bool.false_eq_true, false_and, and_false, and_true, true_and, and_self, Bool.or_false, Bool.false_or, Bool.or_true, Bool.true_or, Bool.false_and, Bool.and_false, decide_true, decide_false, L0, L1, L2, L3, L4, L5, L6, L7, L8, L9, L10, L11, L12, L13, L14, L15, L16, L17, L18, L19, L20, L21, L22, L23, L24, L25, L27, L33, L39, L40, L45, L48, L57, L60, L72, L90, L97, L98, L99, L100, L121, L122, L242, L255, L256, L580, L600, L1000, L1584, L1000000, Ln1, iN_add, iN_and, iN_or, iN_nd, iN_shl, iN_shr, iN_cl, iN_in, iN_mul, k0, if_false, ile_d, t195]
      rw [if_neg (show ¬ k + 1 = 0 by omega)]
      by_cases d : apt q b ≤ apt q k
      · rw [if_pos d, if_neg (by omega), Nat.min_eq_left d]
      · rw [if_neg d, if_pos (by omega), Nat.min_eq_right (by omega)]
  · intro b hb
    unfold f276_19 f276_98
    simp (disch := omega) only [gT, nbeq, Option.isSome_some, Option.getD_some, Bool.and_true, Bool.true_and, Bool.and_self, mX_some, bS, bN_if, bN_01, i1_01, i0_01, if_true, if_false, Bool.false_eq_true, false_and, and_false, and_true, true_and, and_self, Bool.or_false, Bool.false_or, Bool.or_true, Bool.true_or, Bool.false_and, Bool.and_false, decide_true, decide_false, L0, L1, L2, L3, L4, L5, L6, L7, L8, L9, L10, L11, L12, L13, L14, L15, L16, L17, L18, L19, L20, L21, L22, L23, L24, L25, L27, L33, L39, L40, L45, L48, L57, L60, L72, L90, L97, L98, L99, L100, L121, L122, L242, L255, L256, L580, L600, L1000, L1584, L1000000, Ln1, iN_add, iN_and, iN_or, iN_nd, iN_shl, iN_shr, iN_cl, iN_in, iN_mul, k193 w, r193_1 w, r193_2 w, r193_3 w, r193_4 w, r193_5 w, r193_6 w, r193_7 w, r193_8 w, r193_18 w, r193_19 w, r193_32 w, r193_33 w, r193_34 w, r193_36 w, r193_38 w, r193_39 w, r193_40 w, r193_42 w, r193_45 w, r193_46 w, r193_47 w, r193_48 w, r193_49 w, r193_50 w, sh_hf, ilt_p]
    rw [if_neg (show ¬ 2 ^ (q 0 0 - 1) = 0 by omega)]
    by_cases e : x = iN 0
    · simp only [e, if_true, gT, nbeq, Option.isSome_some, Option.getD_some, Bool.and_true, Bool.true_and, Bool.and_self, mX_some, bS, bN_if, bN_01, i1_01, i0_01, if_true, if_false, Bool.false_eq_true, false_and, and_false, and_true, true_and, and_self, Bool.or_false, Bool.false_or, Bool.or_true, Bool.true_or, Bool.false_and, Bool.and_false, decide_true, decide_false]
    · simp only [e, if_false, gT, nbeq, Option.isSome_some, Option.getD_some, Bool.and_true, Bool.true_and, Bool.and_self, mX_some, bS, bN_if, bN_01, i1_01, i0_01, if_true, if_false, Bool.false_eq_true, false_and, and_false, and_true, true_and, and_self, Bool.or_false, Bool.false_or, Bool.or_true, Bool.true_or, Bool.false_and, Bool.and_false, decide_true, decide_false]
end HV
