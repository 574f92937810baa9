/-! Libraries: what both answer of one library. -/
/-- x is one of 0 .. n - 1 -/
def rg (x : Int32) (n : Nat) : Bool := decide (0 ≤ x.toInt ∧ x.toInt < (n : Int))
theorem rg_t {x : Int32} {n : Nat} (h : rg x n = true) : ∃ c, c < n ∧ x = iN c ∧ c < 2147483648 := by
  unfold rg at h
  rw [decide_eq_true_iff] at h
  have hb := Int32.toInt_lt x
  refine ⟨x.toInt.toNat, by omega, ?_, by omega⟩
  refine Int32.toInt.inj ?_
  rw [iN_toInt (by omega)]; omega
theorem rg_iN {c n : Nat} (hc : c < 2147483648) : rg (iN c) n = decide (c < n) := by
  unfold rg; rw [iN_toInt hc]; congr 1; simp
theorem rg_j {n : Nat} : rg jN n = false := by unfold rg; rw [jN_toInt]; simp
theorem z_toInt : (0 : Int32).toInt = 0 := rfl
theorem z_toInt' : (iN 0).toInt = 0 := rfl
theorem t17r {h : mH} {x : Int32} {m : Nat} (hm : m < 2147483648) : f17 h x (iN 0) (iN m) = some (bN (rg x (m + 1))) := by
  rw [t17]; congr 2; unfold rg
  rw [← Bool.decide_and]
  apply decide_eq_decide.2
  rw [Int32.le_iff_toInt_le, Int32.le_iff_toInt_le, iN_toInt hm, z_toInt']
  omega
theorem t179r {h : mH} {x : Int32} {m : Nat} (hm : m < 2147483648) : f179 h x (iN 0) (iN m) = some (bN (rg x (m + 1))) := t17r (h := h) hm
theorem t17p {h : mH} {x : Int32} {m : Nat} (hm : m < 2147483648) : f17 h x (iN 0) (pN m) = some (bN (rg x m)) := by
  cases m with
  | zero =>
    rw [t17, pN_z]; congr 2; unfold rg
    rw [← Bool.decide_and]
    apply decide_eq_decide.2
    rw [Int32.le_iff_toInt_le, Int32.le_iff_toInt_le, jN_toInt, z_toInt']
    omega
  | succ m => exact t17r (by omega)
theorem t179p {h : mH} {x : Int32} {m : Nat} (hm : m < 2147483648) : f179 h x (iN 0) (pN m) = some (bN (rg x m)) := t17p (h := h) hm
theorem lt0 {x : Int32} {α : Type} {a b : α} : (if x < 0 then a else b) = if x.toInt < 0 then a else b := by
  have : (x < 0) = (x.toInt < 0) := by rw [Int32.lt_iff_toInt_lt, z_toInt]
  simp only [this]
theorem t56 {h : mH} {a : Nat} {q : LQ} (H : LibS h a q) (W : QW q) {x : Int32} : f56 h a x = some (bN (rg x (q 0 0))) := by
  have hn := W.1.1
  unfold f56 f56_16 f56_17
  rw [lt0]
  simp (disch := omega) only [gT, nbeq, Option.isSome_some, Option.getD_some, Bool.and_true, Bool.true_and, Bool.and_self, mX_some, bS, bN_if, bN_01, i1_01, i0_01, if_true, if_false, Bool.false_eq_true, false_and, and_false, and_true, true_and, and_self, Bool.or_false, Bool.false_or, Bool.or_true, Bool.true_or, Bool.false_and, Bool.and_false, decide_true, decide_false, H.k, H.n, L0, L1]
  have e : (iN (q 0 0) ≤ x) = ((q 0 0 : Int) ≤ x.toInt) := by rw [Int32.le_iff_toInt_le, iN_toInt (by omega)]
  by_cases h1 : x.toInt < 0
  · rw [if_pos h1]; congr 1; unfold rg
    rw [decide_eq_false (by omega)]; rfl
  · rw [if_neg h1]
    simp only [e]
    by_cases h2 : (q 0 0 : Int) ≤ x.toInt
    · rw [if_pos h2]; congr 1; unfold rg
      rw [decide_eq_false (by omega)]; rfl
    · rw [if_neg h2]; congr 1; unfold rg
      rw [decide_eq_true (by omega)]; rfl
theorem t57 {h : mH} {a : Nat} {q : LQ} (H : LibS h a q) (W : QW q) {x : Int32} : f57 h a x = some (bN (rg x (q 0 1))) := by
  have hn := W.1.2.1
  unfold f57 f57_16 f57_17
  rw [lt0]
  simp (disch := omega) only [gT, nbeq, Option.isSome_some, Option.getD_some, Bool.and_true, Bool.true_and, Bool.and_self, mX_some, bS, bN_if, bN_01, i1_01, i0_01, if_true, if_false, Bool.false_eq_true, false_and, and_false, and_true, true_and, and_self, Bool.or_false, Bool.false_or, Bool.or_true, Bool.true_or, Bool.false_and, Bool.and_false, decide_true, decide_false, H.k, H.m, L0, L1]
  have e : (iN (q 0 1) ≤ x) = ((q 0 1 : Int) ≤ x.toInt) := by rw [Int32.le_iff_toInt_le, iN_toInt (by omega)]
  by_cases h1 : x.toInt < 0
  · rw [if_pos h1]; congr 1; unfold rg
    rw [decide_eq_false (by omega)]; rfl
  · rw [if_neg h1]
    simp only [e]
    by_cases h2 : (q 0 1 : Int) ≤ x.toInt
    · rw [if_pos h2]; congr 1; unfold rg
      rw [decide_eq_false (by omega)]; rfl
    · rw [if_neg h2]; congr 1; unfold rg
      rw [decide_eq_true (by omega)]; rfl
theorem t218 {h : mH} {q : LQ} (H : MoS h q) (W : QW q) {x : Int32} : f218 h 193 x = some (bN (rg x (q 0 0))) := by
  have hn := W.1.1
  have w := H.1
  unfold f218
  rw [H.n, L1, L0, iN_p, t179p (by omega)]
  simp only [gT, nbeq, Option.isSome_some, Option.getD_some, Bool.and_true, Bool.true_and, Bool.and_self, mX_some, bS, bN_if, bN_01, i1_01, i0_01, if_true, if_false, Bool.false_eq_true, false_and, and_false, and_true, true_and, and_self, Bool.or_false, Bool.false_or, Bool.or_true, Bool.true_or, Bool.false_and, Bool.and_false, decide_true, decide_false, k193 w, r193_1 w, r193_2 w, r193_3 w, r193_4 w, r193_5 w, r193_6 w, r193_7 w, r193_8 w, r193_18 w, r193_19 w, r193_32 w, r193_33 w, r193_34 w, r193_36 w, r193_38 w, r193_39 w, r193_40 w, r193_42 w, r193_45 w, r193_46 w, r193_47 w, r193_48 w, r193_49 w, r193_50 w]
theorem t226 {h : mH} {q : LQ} (H : MoS h q) (W : QW q) {x : Int32} : f226 h 193 x = some (bN (rg x (q 0 1))) := by
  have hn := W.1.2.1
  have w := H.1
  unfold f226
  rw [H.m, L1, L0, iN_p, t179p (by omega)]
  simp only [gT, nbeq, Option.isSome_some, Option.getD_some, Bool.and_true, Bool.true_and, Bool.and_self, mX_some, bS, bN_if, bN_01, i1_01, i0_01, if_true, if_false, Bool.false_eq_true, false_and, and_false, and_true, true_and, and_self, Bool.or_false, Bool.false_or, Bool.or_true, Bool.true_or, Bool.false_and, Bool.and_false, decide_true, decide_false, k193 w, r193_1 w, r193_2 w, r193_3 w, r193_4 w, r193_5 w, r193_6 w, r193_7 w, r193_8 w, r193_18 w, r193_19 w, r193_32 w, r193_33 w, r193_34 w, r193_36 w, r193_38 w, r193_39 w, r193_40 w, r193_42 w, r193_45 w, r193_46 w, r193_47 w, r193_48 w, r193_49 w, r193_50 w]
theorem pw_pos (n : Nat) : 1 ≤ 2 ^ n := Nat.one_le_two_pow
theorem pw_8 {n : Nat} (h : n ≤ 8) : 2 ^ n ≤ 256 := Nat.pow_le_pow_right (by omega) h
theorem pw_6 {n : Nat} (h : n ≤ 6) : 2 ^ n ≤ 64 := Nat.pow_le_pow_right (by omega) h
theorem iN_all {n : Nat} (h : n < 32) : iN 1 <<< (iN n &&& (31 : Int32)) - iN 1 = iN (2 ^ n - 1) := by
  rw [iN_shl h, Nat.one_shiftLeft, iN_sub (pw_pos n)]
theorem t94 {h : mH} {a : Nat} {q : LQ} (H : LibS h a q) (W : QW q) : f94 h a = some (iN (2 ^ q 0 0 - 1)) := by
  have hn := W.1.1
  unfold f94
  simp (disch := omega) only [gT, nbeq, Option.isSome_some, Option.getD_some, Bool.and_true, Bool.true_and, Bool.and_self, mX_some, bS, bN_if, bN_01, i1_01, i0_01, if_true, if_false, Bool.false_eq_true, false_and, and_false, and_true, true_and, and_self, Bool.or_false, Bool.false_or, Bool.or_true, Bool.true_or, Bool.false_and, Bool.and_false, decide_true, decide_false, H.k, H.n, L1, iN_all]
theorem t98 {h : mH} {a : Nat} {q : LQ} (H : LibS h a q) (W : QW q) : f98 h a = some (iN (2 ^ q 0 1 - 1)) := by
  have hn := W.1.2.1
  unfold f98
  simp (disch := omega) only [gT, nbeq, Option.isSome_some, Option.getD_some, Bool.and_true, Bool.true_and, Bool.and_self, mX_some, bS, bN_if, bN_01, i1_01, i0_01, if_true, if_false, Bool.false_eq_true, false_and, and_false, and_true, true_and, and_self, Bool.or_false, Bool.false_or, Bool.or_true, Bool.true_or, Bool.false_and, Bool.and_false, decide_true, decide_false, H.k, H.m, L1, iN_all]
theorem fl1 {q : LQ} {k : Nat} (hk : k < 8) : flat q (3 + k) = q 1 k := by unfold flat; rw [if_neg (by omega), if_pos (by omega)]; congr 1; omega
theorem fl2 {q : LQ} {k : Nat} (hk : k < 8) : flat q (11 + k) = q 2 k := by unfold flat; rw [if_neg (by omega), if_neg (by omega), if_pos (by omega)]; congr 1; omega
theorem fl3 {q : LQ} {k : Nat} (hk : k < 8) : flat q (19 + k) = q 3 k := by unfold flat; rw [if_neg (by omega), if_neg (by omega), if_neg (by omega), if_pos (by omega)]; congr 1; omega
theorem fl4 {q : LQ} {k : Nat} (hk : k < 6) : flat q (27 + k) = q 4 k := by unfold flat; rw [if_neg (by omega), if_neg (by omega), if_neg (by omega), if_neg (by omega), if_pos (by omega)]; congr 1; omega
theorem fl5 {q : LQ} {k : Nat} (hk : k < 6) : flat q (33 + k) = q 5 k := by unfold flat; rw [if_neg (by omega), if_neg (by omega), if_neg (by omega), if_neg (by omega), if_neg (by omega), if_pos (by omega)]; congr 1; omega
theorem fl6 {q : LQ} {k : Nat} (_ : k < 6) : flat q (39 + k) = q 6 k := by unfold flat; rw [if_neg (by omega), if_neg (by omega), if_neg (by omega), if_neg (by omega), if_neg (by omega), if_neg (by omega)]; congr 1; omega
theorem fl0 {q : LQ} {k : Nat} (hk : k < 3) : flat q k = q 0 k := by unfold flat; rw [if_pos hk]
/-- MAY be read -/
def mayB (q : LQ) (d c : Nat) : Bool := !d.testBit c && decide (nd (q 3 c) d = 0)
theorem t220 {h : mH} {q : LQ} (H : MoS h q) (W : QW q) {c d : Nat} (hc : c < 8) (hd : d < 2147483648) : f220 h 193 (iN c) (iN d) = some (bN (mayB q d c)) := by
  have w := H.1
  have hq : q 3 c < 256 := by have h1 := W.2.2.2.2.1 c hc; have h2 := pw_8 (n := c) (by omega); omega
  have hq2 := nd_le (q 3 c) d
  unfold f220 f220_27 f220_28
  simp (disch := omega) only [gT, nbeq, Option.isSome_some, Option.getD_some, Bool.and_true, Bool.true_and, Bool.and_self, mX_some, bS, bN_if, bN_01, i1_01, i0_01, if_true, if_false, Bool.false_eq_true, false_and, and_false, and_true, true_and, and_self, Bool.or_false, Bool.false_or, Bool.or_true, Bool.true_or, Bool.false_and, Bool.and_false, decide_true, decide_false, L0, L1, L2, L3, L4, L5, L6, L7, L8, L9, L10, L11, L12, L13, L14, L15, L16, L17, L18, L19, L20, L21, L22, L23, L24, L25, L27, L33, L39, L40, L45, L48, L57, L60, L72, L90, L97, L98, L99, L100, L121, L122, L242, L255, L256, L580, L600, L1000, L1584, L1000000, Ln1, iN_add, iN_and, iN_or, iN_nd, iN_shl, iN_shr, iN_cl, iN_in, iN_mul, k193 w, r193_1 w, r193_2 w, r193_3 w, r193_4 w, r193_5 w, r193_6 w, r193_7 w, r193_8 w, r193_18 w, r193_19 w, r193_32 w, r193_33 w, r193_34 w, r193_36 w, r193_38 w, r193_39 w, r193_40 w, r193_42 w, r193_45 w, r193_46 w, r193_47 w, r193_48 w, r193_49 w, r193_50 w, t221, t206 H, fl3]
  unfold mayB
  cases d.testBit c
  · simp (disch := omega) only [gT, nbeq, Option.isSome_some, Option.getD_some, Bool.and_true, Bool.true_and, Bool.and_self, mX_some, bS, bN_if, bN_01, i1_01, i0_01, if_true, if_false, Bool.false_eq_true, false_and, and_false, and_true, true_and, and_self, Bool.or_false, Bool.false_or, Bool.or_true, Bool.true_or, Bool.false_and, Bool.and_false, decide_true, decide_false, ile_d, ilt_d, ieq_d, ij_n, jj_p, ijle, jile, ijlt, jilt, Bool.not_false]
    by_cases e : nd (q 3 c) d = 0
    · simp only [e, if_true, decide_true]; rfl
    · simp only [e, if_false, decide_false]; rfl
  · simp (disch := omega) only [gT, nbeq, Option.isSome_some, Option.getD_some, Bool.and_true, Bool.true_and, Bool.and_self, mX_some, bS, bN_if, bN_01, i1_01, i0_01, if_true, if_false, Bool.false_eq_true, false_and, and_false, and_true, true_and, and_self, Bool.or_false, Bool.false_or, Bool.or_true, Bool.true_or, Bool.false_and, Bool.and_false, decide_true, decide_false, Bool.not_true, Bool.false_and]; rfl
/-- what MAY be read -/
def opf (q : LQ) (d : Nat) : Nat → Nat → Nat := fun c x => if mayB q d c = true then x ||| 1 <<< c else x
def opn (q : LQ) (d : Nat) : Nat := up (opf q d) (q 0 0) 0
theorem t70 {h : mH} {a : Nat} {q : LQ} (H : LibS h a q) (W : QW q) {d : Nat} (hd : d < 2147483648) : f70 h a (iN d) = some (iN (opn q d)) := by
  have hn := W.1.1
  unfold f70
  refine lp_up (fun k x => (iN x, iN k)) (opf q d) iN (fun _ _ => True) (q 0 0) (a0 := 0) trivial (fun _ _ _ _ => trivial) ?_ ?_ (by omega)
  · intro k x hk _
    have hq : q 3 k < 256 := by have h1 := W.2.2.2.2.1 k (by omega); have h2 := pw_8 (n := k) (by omega); omega
    have hq2 := nd_le (q 3 k) d
    unfold f70_4 f70_39
    simp (disch := omega) only [gT, nbeq, Option.isSome_some, Option.getD_some, Bool.and_true, Bool.true_and, Bool.and_self, mX_some, bS, bN_if, bN_01, i1_01, i0_01, if_true, if_false, Bool.false_eq_true, false_and, and_false, and_true, true_and, and_self, Bool.or_false, Bool.false_or, Bool.or_true, Bool.true_or, Bool.false_and, Bool.and_false, decide_true, decide_false, L0, L1, L2, L3, L4, L5, L6, L7, L8, L9, L10, L11, L12, L13, L14, L15, L16, L17, L18, L19, L20, L21, L22, L23, L24, L25, L27, L33, L39, L40, L45, L48, L57, L60, L72, L90, L97, L98, L99, L100, L121, L122, L242, L255, L256, L580, L600, L1000, L1584, L1000000, Ln1, iN_add, iN_and, iN_or, iN_nd, iN_shl, iN_shr, iN_cl, iN_in, iN_mul, H.k, H.r0, H.r1, H.r2, H.r3, H.r4, H.r5, H.k1, H.k2, H.k3, H.k4, H.k5, H.k6, H.n, H.m, H.lp, H.hr, H.tp, H.ln, H.lk, H.me, H.he, ile_n, tb_and1]
    unfold opf mayB
    cases d.testBit k
    · simp (disch := omega) only [gT, nbeq, Option.isSome_some, Option.getD_some, Bool.and_true, Bool.true_and, Bool.and_self, mX_some, bS, bN_if, bN_01, i1_01, i0_01, if_true, if_false, Bool.false_eq_true, false_and, and_false, and_true, true_and, and_self, Bool.or_false, Bool.false_or, Bool.or_true, Bool.true_or, Bool.false_and, Bool.and_false, decide_true, decide_false, ile_d, ilt_d, ieq_d, ij_n, jj_p, ijle, jile, ijlt, jilt, Bool.not_false]
      by_cases e : nd (q 3 k) d = 0
      · simp only [e, if_true, decide_true, Bool.true_and]
      · simp only [e, if_false, decide_false, Bool.true_and, Bool.false_eq_true]
    · simp (disch := omega) only [gT, nbeq, Option.isSome_some, Option.getD_some, Bool.and_true, Bool.true_and, Bool.and_self, mX_some, bS, bN_if, bN_01, i1_01, i0_01, if_true, if_false, Bool.false_eq_true, false_and, and_false, and_true, true_and, and_self, Bool.or_false, Bool.false_or, Bool.or_true, Bool.true_or, Bool.false_and, Bool.and_false, decide_true, decide_false, ile_p, ile_n, ilt_p, ilt_n, ieq_p, ieq_n, ij_n, jj_p, ijle, jile, ijlt, jilt, Bool.not_true, Bool.false_and]
  · intro x _
    unfold f70_4
    simp (disch := omega) only [gT, nbeq, Option.isSome_some, Option.getD_some, Bool.and_true, Bool.true_and, Bool.and_self, mX_some, bS, bN_if, bN_01, i1_01, i0_01, if_true, if_false, Bool.false_eq_true, false_and, and_false, and_true, true_and, and_self, Bool.or_false, Bool.false_or, Bool.or_true, Bool.true_or, Bool.false_and, Bool.and_false, decide_true, decide_false, L0, L1, L2, L3, L4, L5, L6, L7, L8, L9, L10, L11, L12, L13, L14, L15, L16, L17, L18, L19, L20, L21, L22, L23, L24, L25, L27, L33, L39, L40, L45, L48, L57, L60, L72, L90, L97, L98, L99, L100, L121, L122, L242, L255, L256, L580, L600, L1000, L1584, L1000000, Ln1, iN_add, iN_and, iN_or, iN_nd, iN_shl, iN_shr, iN_cl, iN_in, iN_mul, ile_p, ile_n, ilt_p, ilt_n, ieq_p, ieq_n, ij_n, jj_p, ijle, jile, ijlt, jilt, H.k, H.r0, H.r1, H.r2, H.r3, H.r4, H.r5, H.k1, H.k2, H.k3, H.k4, H.k5, H.k6, H.n, H.m, H.lp, H.hr, H.tp, H.ln, H.lk, H.me, H.he]
theorem t232 {h : mH} {q : LQ} (H : MoS h q) (W : QW q) {d : Nat} (hd : d < 2147483648) : f232 h 193 (iN d) = some (iN (opn q d)) := by
  have hn := W.1.1
  have w := H.1
  unfold f232
  refine lp_up (fun k x => (iN x, iN k)) (opf q d) iN (fun _ _ => True) (q 0 0) (a0 := 0) trivial (fun _ _ _ _ => trivial) ?_ ?_ (by omega)
  · intro k x hk _
    unfold f232_4 f232_29
    simp (disch := omega) only [gT, nbeq, Option.isSome_some, Option.getD_some, Bool.and_true, Bool.true_and, Bool.and_self, mX_some, bS, bN_if, bN_01, i1_01, i0_01, if_true, if_false, Bool.false_eq_true, false_and, and_false, and_true, true_and, and_self, Bool.or_false, Bool.false_or, Bool.or_true, Bool.true_or, Bool.false_and, Bool.and_false, decide_true, decide_false, L0, L1, L2, L3, L4, L5, L6, L7, L8, L9, L10, L11, L12, L13, L14, L15, L16, L17, L18, L19, L20, L21, L22, L23, L24, L25, L27, L33, L39, L40, L45, L48, L57, L60, L72, L90, L97, L98, L99, L100, L121, L122, L242, L255, L256, L580, L600, L1000, L1584, L1000000, Ln1, iN_add, iN_and, iN_or, iN_nd, iN_shl, iN_shr, iN_cl, iN_in, iN_mul, k193 w, r193_1 w, r193_2 w, r193_3 w, r193_4 w, r193_5 w, r193_6 w, r193_7 w, r193_8 w, r193_18 w, r193_19 w, r193_32 w, r193_33 w, r193_34 w, r193_36 w, r193_38 w, r193_39 w, r193_40 w, r193_42 w, r193_45 w, r193_46 w, r193_47 w, r193_48 w, r193_49 w, r193_50 w, H.n, ile_n, t220 H W]
    unfold opf
    cases mayB q d k
    · simp (disch := omega) only [gT, nbeq, Option.isSome_some, Option.getD_some, Bool.and_true, Bool.true_and, Bool.and_self, mX_some, bS, bN_if, bN_01, i1_01, i0_01, if_true, if_false, Bool.false_eq_true, false_and, and_false, and_true, true_and, and_self, Bool.or_false, Bool.false_or, Bool.or_true, Bool.true_or, Bool.false_and, Bool.and_false, decide_true, decide_false, Nat.or_zero]
    · simp (disch := omega) only [gT, nbeq, Option.isSome_some, Option.getD_some, Bool.and_true, Bool.true_and, Bool.and_self, mX_some, bS, bN_if, bN_01, i1_01, i0_01, if_true, if_false, Bool.false_eq_true, false_and, and_false, and_true, true_and, and_self, Bool.or_false, Bool.false_or, Bool.or_true, Bool.true_or, Bool.false_and, Bool.and_false, decide_true, decide_false]
  · intro x _
    unfold f232_4
    simp (disch := omega) only [gT, nbeq, Option.isSome_some, Option.getD_some, Bool.and_true, Bool.true_and, Bool.and_self, mX_some, bS, bN_if, bN_01, i1_01, i0_01, if_true, if_false, Bool.false_eq_true, false_and, and_false, and_true, true_and, and_self, Bool.or_false, Bool.false_or, Bool.or_true, Bool.true_or, Bool.false_and, Bool.and_false, decide_true, decide_false, L0, L1, L2, L3, L4, L5, L6, L7, L8, L9, L10, L11, L12, L13, L14, L15, L16, L17, L18, L19, L20, L21, L22, L23, L24, L25, L27, L33, L39, L40, L45, L48, L57, L60, L72, L90, L97, L98, L99, L100, L121, L122, L242, L255, L256, L580, L600, L1000, L1584, L1000000, Ln1, iN_add, iN_and, iN_or, iN_nd, iN_shl, iN_shr, iN_cl, iN_in, iN_mul, ile_p, ile_n, ilt_p, ilt_n, ieq_p, ieq_n, ij_n, jj_p, ijle, jile, ijlt, jilt, k193 w, r193_1 w, r193_2 w, r193_3 w, r193_4 w, r193_5 w, r193_6 w, r193_7 w, r193_8 w, r193_18 w, r193_19 w, r193_32 w, r193_33 w, r193_34 w, r193_36 w, r193_38 w, r193_39 w, r193_40 w, r193_42 w, r193_45 w, r193_46 w, r193_47 w, r193_48 w, r193_49 w, r193_50 w, H.n]
/-- CHAPTERS of a TOPIC -/
def tpf (q : LQ) (t : Nat) : Nat → Nat → Nat := fun c x => if q 2 c = t then x ||| 1 <<< c else x
def tps (q : LQ) (t : Nat) : Nat := up (tpf q t) (q 0 0) 0
theorem t152 {h : mH} {a : Nat} {q : LQ} (H : LibS h a q) (W : QW q) {t : Nat} (ht : t < 6) : f152 h a (iN t) = some (iN (tps q t)) := by
  have hn := W.1.1
  unfold f152
  refine lp_up (fun k x => (iN x, iN k)) (tpf q t) iN (fun _ _ => True) (q 0 0) (a0 := 0) trivial (fun _ _ _ _ => trivial) ?_ ?_ (by omega)
  · intro k x hk _
    have hq := W.2.2.2.1 k (by omega)
    unfold f152_4 f152_28 tpf
    simp (disch := omega) only [gT, nbeq, Option.isSome_some, Option.getD_some, Bool.and_true, Bool.true_and, Bool.and_self, mX_some, bS, bN_if, bN_01, i1_01, i0_01, if_true, if_false, Bool.false_eq_true, false_and, and_false, and_true, true_and, and_self, Bool.or_false, Bool.false_or, Bool.or_true, Bool.true_or, Bool.false_and, Bool.and_false, decide_true, decide_false, L0, L1, L2, L3, L4, L5, L6, L7, L8, L9, L10, L11, L12, L13, L14, L15, L16, L17, L18, L19, L20, L21, L22, L23, L24, L25, L27, L33, L39, L40, L45, L48, L57, L60, L72, L90, L97, L98, L99, L100, L121, L122, L242, L255, L256, L580, L600, L1000, L1584, L1000000, Ln1, iN_add, iN_and, iN_or, iN_nd, iN_shl, iN_shr, iN_cl, iN_in, iN_mul, H.k, H.r0, H.r1, H.r2, H.r3, H.r4, H.r5, H.k1, H.k2, H.k3, H.k4, H.k5, H.k6, H.n, H.m, H.lp, H.hr, H.tp, H.ln, H.lk, H.me, H.he, ile_n, ieq_d]
    split <;> rfl
  · intro x _
    unfold f152_4
    simp (disch := omega) only [gT, nbeq, Option.isSome_some, Option.getD_some, Bool.and_true, Bool.true_and, Bool.and_self, mX_some, bS, bN_if, bN_01, i1_01, i0_01, if_true, if_false, Bool.false_eq_true, false_and, and_false, and_true, true_and, and_self, Bool.or_false, Bool.false_or, Bool.or_true, Bool.true_or, Bool.false_and, Bool.and_false, decide_true, decide_false, L0, L1, L2, L3, L4, L5, L6, L7, L8, L9, L10, L11, L12, L13, L14, L15, L16, L17, L18, L19, L20, L21, L22, L23, L24, L25, L27, L33, L39, L40, L45, L48, L57, L60, L72, L90, L97, L98, L99, L100, L121, L122, L242, L255, L256, L580, L600, L1000, L1584, L1000000, Ln1, iN_add, iN_and, iN_or, iN_nd, iN_shl, iN_shr, iN_cl, iN_in, iN_mul, ile_p, ile_n, ilt_p, ilt_n, ieq_p, ieq_n, ij_n, jj_p, ijle, jile, ijlt, jilt, H.k, H.r0, H.r1, H.r2, H.r3, H.r4, H.r5, H.k1, H.k2, H.k3, H.k4, H.k5, H.k6, H.n, H.m, H.lp, H.hr, H.tp, H.ln, H.lk, H.me, H.he]
theorem hs_le {q : LQ} (W : QW q) {b : Nat} : hs q b ≤ 72 := by
  have h := up_inv (f := hsf q b) (I := fun k x => x ≤ 9 * k) (n := q 0 0) (fun k x hk hx => by
    have h9 := W.2.2.1 k (by have := W.1.1; omega)
    unfold hsf
    split <;> omega) (a := 0) (by omega) (q 0 0) (Nat.le_refl _)
  have := W.1.1
  unfold hs; omega
/-- days without a cold in which HOURS of a set are read -/
def ldy (q : LQ) (b : Nat) : Nat := (hs q b + q 0 2 - 1) / q 0 2
theorem t106 {h : mH} {a : Nat} {q : LQ} (H : LibS h a q) (W : QW q) {b : Nat} (hb : b < 2147483648) : f106 h a (iN b) = some (iN (ldy q b)) := by
  have hn := W.1
  have hh := hs_le W (b := b)
  unfold f106 f106_29
  simp (disch := omega) only [gT, nbeq, Option.isSome_some, Option.getD_some, Bool.and_true, Bool.true_and, Bool.and_self, mX_some, bS, bN_if, bN_01, i1_01, i0_01, if_true, if_false, Bool.false_eq_true, false_and, and_false, and_true, true_and, and_self, Bool.or_false, Bool.false_or, Bool.or_true, Bool.true_or, Bool.false_and, Bool.and_false, decide_true, decide_false, L0, L1, L2, L3, L4, L5, L6, L7, L8, L9, L10, L11, L12, L13, L14, L15, L16, L17, L18, L19, L20, L21, L22, L23, L24, L25, L27, L33, L39, L40, L45, L48, L57, L60, L72, L90, L97, L98, L99, L100, L121, L122, L242, L255, L256, L580, L600, L1000, L1584, L1000000, Ln1, iN_add, iN_and, iN_or, iN_nd, iN_shl, iN_shr, iN_cl, iN_in, iN_mul, ile_p, ile_n, ilt_p, ilt_n, ieq_p, ieq_n, ij_n, jj_p, ijle, jile, ijlt, jilt, H.k, H.r0, H.r1, H.r2, H.r3, H.r4, H.r5, H.k1, H.k2, H.k3, H.k4, H.k5, H.k6, H.n, H.m, H.lp, H.hr, H.tp, H.ln, H.lk, H.me, H.he, t95 H W, iN_nz, iN_sub, iN_div]
  rfl
theorem t253 {h : mH} {q : LQ} (H : MoS h q) (W : QW q) {b : Nat} (hb : b < 2147483648) : f253 h 193 (iN b) = some (iN (ldy q b)) := by
  have hn := W.1
  have w := H.1
  have hh := hs_le W (b := b)
  unfold f253
  simp (disch := omega) only [gT, nbeq, Option.isSome_some, Option.getD_some, Bool.and_true, Bool.true_and, Bool.and_self, mX_some, bS, bN_if, bN_01, i1_01, i0_01, if_true, if_false, Bool.false_eq_true, false_and, and_false, and_true, true_and, and_self, Bool.or_false, Bool.false_or, Bool.or_true, Bool.true_or, Bool.false_and, Bool.and_false, decide_true, decide_false, L0, L1, L2, L3, L4, L5, L6, L7, L8, L9, L10, L11, L12, L13, L14, L15, L16, L17, L18, L19, L20, L21, L22, L23, L24, L25, L27, L33, L39, L40, L45, L48, L57, L60, L72, L90, L97, L98, L99, L100, L121, L122, L242, L255, L256, L580, L600, L1000, L1584, L1000000, Ln1, iN_add, iN_and, iN_or, iN_nd, iN_shl, iN_shr, iN_cl, iN_in, iN_mul, ile_p, ile_n, ilt_p, ilt_n, ieq_p, ieq_n, ij_n, jj_p, ijle, jile, ijlt, jilt, k193 w, r193_1 w, r193_2 w, r193_3 w, r193_4 w, r193_5 w, r193_6 w, r193_7 w, r193_8 w, r193_18 w, r193_19 w, r193_32 w, r193_33 w, r193_34 w, r193_36 w, r193_38 w, r193_39 w, r193_40 w, r193_42 w, r193_45 w, r193_46 w, r193_47 w, r193_48 w, r193_49 w, r193_50 w, t243 H W, t206 H, fl0, iN_nz, iN_sub, iN_div]
  rfl
/-- how many of 8 -/
def pcf (b : Nat) : Nat → Nat → Nat := fun k x => x + if b.testBit k = true then 1 else 0
def pc (b : Nat) : Nat := up (pcf b) 8 0
theorem t244 {h : mH} {b : Nat} (hb : b < 2147483648) : f244 h (iN b) = some (iN (pc b)) := by
  unfold f244
  refine lp_up (fun k x => (iN x, iN k)) (pcf b) iN (fun _ _ => True) 8 (a0 := 0) trivial (fun _ _ _ _ => trivial) ?_ ?_ (by omega)
  · intro k x hk _
    unfold f244_4 f244_24
    cases hc : b.testBit k <;> simp (disch := omega) only [gT, nbeq, Option.isSome_some, Option.getD_some, Bool.and_true, Bool.true_and, Bool.and_self, mX_some, bS, bN_if, bN_01, i1_01, i0_01, if_true, if_false, Bool.false_eq_true, false_and, and_false, and_true, true_and, and_self, Bool.or_false, Bool.false_or, Bool.or_true, Bool.true_or, Bool.false_and, Bool.and_false, decide_true, decide_false, L0, L1, L2, L3, L4, L5, L6, L7, L8, L9, L10, L11, L12, L13, L14, L15, L16, L17, L18, L19, L20, L21, L22, L23, L24, L25, L27, L33, L39, L40, L45, L48, L57, L60, L72, L90, L97, L98, L99, L100, L121, L122, L242, L255, L256, L580, L600, L1000, L1584, L1000000, Ln1, iN_add, iN_and, iN_or, iN_nd, iN_shl, iN_shr, iN_cl, iN_in, iN_mul, ile_p, ile_n, ilt_p, ilt_n, ieq_p, ieq_n, ij_n, jj_p, ijle, jile, ijlt, jilt, t221, hc, pcf, Nat.add_zero]
  · intro x _
    unfold f244_4
    simp (disch := omega) only [gT, nbeq, Option.isSome_some, Option.getD_some, Bool.and_true, Bool.true_and, Bool.and_self, mX_some, bS, bN_if, bN_01, i1_01, i0_01, if_true, if_false, Bool.false_eq_true, false_and, and_false, and_true, true_and, and_self, Bool.or_false, Bool.false_or, Bool.or_true, Bool.true_or, Bool.false_and, Bool.and_false, decide_true, decide_false, L0, L1, L2, L3, L4, L5, L6, L7, L8, L9, L10, L11, L12, L13, L14, L15, L16, L17, L18, L19, L20, L21, L22, L23, L24, L25, L27, L33, L39, L40, L45, L48, L57, L60, L72, L90, L97, L98, L99, L100, L121, L122, L242, L255, L256, L580, L600, L1000, L1584, L1000000, Ln1, iN_add, iN_and, iN_or, iN_nd, iN_shl, iN_shr, iN_cl, iN_in, iN_mul, ile_p, ile_n, ilt_p, ilt_n, ieq_p, ieq_n, ij_n, jj_p, ijle, jile, ijlt, jilt]
theorem t66a : ∀ b, b < 256 → f66 ([], fun _ _ => 0, fun _ _ => none, fun _ _ => 0) (iN b) = some (iN (pc b)) := by decide +kernel
theorem t66 {h : mH} {b : Nat} (hb : b < 256) : f66 h (iN b) = some (iN (pc b)) := t66a b hb
theorem pc_le (b : Nat) : pc b ≤ 8 := up_inv (f := pcf b) (I := fun k x => x ≤ k) (n := 8) (fun k x _ hx => by unfold pcf; split <;> omega) (a := 0) (by omega) 8 (by omega)
/-! UNDER -/
def unf (q : LQ) : Nat → Nat → Nat := fun c x => if x.testBit c = true then x ||| q 3 c else x
def und (q : LQ) (c : Nat) : Nat := dn (unf q) c (q 3 c)
theorem or_lt {a b n : Nat} (ha : a < 2 ^ n) (hb : b < 2 ^ n) : a ||| b < 2 ^ n := Nat.or_lt_two_pow ha hb
theorem q3_8 {q : LQ} (W : QW q) {c : Nat} (hc : c < 8) : q 3 c < 2 ^ 8 := by have h1 := W.2.2.2.2.1 c hc; have h2 := pw_8 (n := c) (by omega); omega
theorem t136 {h : mH} {a : Nat} {q : LQ} (H : LibS h a q) (W : QW q) {c : Nat} (hc : c < q 0 0) : f136 h a (iN c) = some (iN (und q c)) := by
  have hn := W.1.1
  unfold f136 f136_18
  simp (disch := omega) only [gT, nbeq, Option.isSome_some, Option.getD_some, Bool.and_true, Bool.true_and, Bool.and_self, mX_some, bS, bN_if, bN_01, i1_01, i0_01, if_true, if_false, Bool.false_eq_true, false_and, and_false, and_true, true_and, and_self, Bool.or_false, Bool.false_or, Bool.or_true, Bool.true_or, Bool.false_and, Bool.and_false, decide_true, decide_false, L0, L1, L2, L3, L4, L5, L6, L7, L8, L9, L10, L11, L12, L13, L14, L15, L16, L17, L18, L19, L20, L21, L22, L23, L24, L25, L27, L33, L39, L40, L45, L48, L57, L60, L72, L90, L97, L98, L99, L100, L121, L122, L242, L255, L256, L580, L600, L1000, L1584, L1000000, Ln1, iN_add, iN_and, iN_or, iN_nd, iN_shl, iN_shr, iN_cl, iN_in, iN_mul, H.k, H.r0, H.r1, H.r2, H.r3, H.r4, H.r5, H.k1, H.k2, H.k3, H.k4, H.k5, H.k6, H.n, H.m, H.lp, H.hr, H.tp, H.ln, H.lk, H.me, H.he, t56 H W, rg_iN, hc, decide_true, iN_p]
  refine lp_dn (fun k x => (iN x, pN k)) (unf q) iN (fun _ x => x < 2 ^ 8) c (a0 := q 3 c) (q3_8 W (by omega)) ?_ ?_ ?_ (by omega)
  · intro k x hk hx
    unfold unf
    split
    · exact or_lt hx (q3_8 W (by omega))
    · exact hx
  · intro k x hk hx
    unfold f136_23 f136_44
    rw [pN_s]
    cases hb : x.testBit k <;> simp (disch := omega) only [gT, nbeq, Option.isSome_some, Option.getD_some, Bool.and_true, Bool.true_and, Bool.and_self, mX_some, bS, bN_if, bN_01, i1_01, i0_01, if_true, if_false, Bool.false_eq_true, false_and, and_false, and_true, true_and, and_self, Bool.or_false, Bool.false_or, Bool.or_true, Bool.true_or, Bool.false_and, Bool.and_false, decide_true, decide_false, L0, L1, L2, L3, L4, L5, L6, L7, L8, L9, L10, L11, L12, L13, L14, L15, L16, L17, L18, L19, L20, L21, L22, L23, L24, L25, L27, L33, L39, L40, L45, L48, L57, L60, L72, L90, L97, L98, L99, L100, L121, L122, L242, L255, L256, L580, L600, L1000, L1584, L1000000, Ln1, iN_add, iN_and, iN_or, iN_nd, iN_shl, iN_shr, iN_cl, iN_in, iN_mul, ile_p, ile_n, ilt_p, ilt_n, ieq_p, ieq_n, ij_n, jj_p, ijle, jile, ijlt, jilt, H.k, H.r0, H.r1, H.r2, H.r3, H.r4, H.r5, H.k1, H.k2, H.k3, H.k4, H.k5, H.k6, H.n, H.m, H.lp, H.hr, H.tp, H.ln, H.lk, H.me, H.he, t71, hb, iN_pj, unf]
  · intro x hx
    unfold f136_23
    rw [pN_z]
    simp (disch := omega) only [gT, nbeq, Option.isSome_some, Option.getD_some, Bool.and_true, Bool.true_and, Bool.and_self, mX_some, bS, bN_if, bN_01, i1_01, i0_01, if_true, if_false, Bool.false_eq_true, false_and, and_false, and_true, true_and, and_self, Bool.or_false, Bool.false_or, Bool.or_true, Bool.true_or, Bool.false_and, Bool.and_false, decide_true, decide_false, L0, jilt]
theorem t271 {h : mH} {q : LQ} (H : MoS h q) (W : QW q) {c : Nat} (hc : c < q 0 0) : f271 h 193 (iN c) = some (iN (und q c)) := by
  have hn := W.1.1
  have w := H.1
  unfold f271
  simp (disch := omega) only [gT, nbeq, Option.isSome_some, Option.getD_some, Bool.and_true, Bool.true_and, Bool.and_self, mX_some, bS, bN_if, bN_01, i1_01, i0_01, if_true, if_false, Bool.false_eq_true, false_and, and_false, and_true, true_and, and_self, Bool.or_false, Bool.false_or, Bool.or_true, Bool.true_or, Bool.false_and, Bool.and_false, decide_true, decide_false, L0, L1, L2, L3, L4, L5, L6, L7, L8, L9, L10, L11, L12, L13, L14, L15, L16, L17, L18, L19, L20, L21, L22, L23, L24, L25, L27, L33, L39, L40, L45, L48, L57, L60, L72, L90, L97, L98, L99, L100, L121, L122, L242, L255, L256, L580, L600, L1000, L1584, L1000000, Ln1, iN_add, iN_and, iN_or, iN_nd, iN_shl, iN_shr, iN_cl, iN_in, iN_mul, k193 w, r193_1 w, r193_2 w, r193_3 w, r193_4 w, r193_5 w, r193_6 w, r193_7 w, r193_8 w, r193_18 w, r193_19 w, r193_32 w, r193_33 w, r193_34 w, r193_36 w, r193_38 w, r193_39 w, r193_40 w, r193_42 w, r193_45 w, r193_46 w, r193_47 w, r193_48 w, r193_49 w, r193_50 w, t206 H, fl3, iN_p]
  refine lp_dn (fun k x => (iN x, pN k)) (unf q) iN (fun _ x => x < 2 ^ 8) c (a0 := q 3 c) (q3_8 W (by omega)) ?_ ?_ ?_ (by omega)
  · intro k x hk hx
    unfold unf
    split
    · exact or_lt hx (q3_8 W (by omega))
    · exact hx
  · intro k x hk hx
    unfold f271_13 f271_38
    rw [pN_s]
    cases hb : x.testBit k <;> simp (disch := omega) only [gT, nbeq, Option.isSome_some, Option.getD_some, Bool.and_true, Bool.true_and, Bool.and_self, mX_some, bS, bN_if, bN_01, i1_01, i0_01, if_true, if_false, Bool.false_eq_true, false_and, and_false, and_true, true_and, and_self, Bool.or_false, Bool.false_or, Bool.or_true, Bool.true_or, Bool.false_and, Bool.and_false, decide_true, decide_false, L0, L1, L2, L3, L4, L5, L6, L7, L8, L9, L10, L11, L12, L13, L14, L15, L16, L17, L18, L19, L20, L21, L22, L23, L24, L25, L27, L33, L39, L40, L45, L48, L57, L60, L72, L90, L97, L98, L99, L100, L121, L122, L242, L255, L256, L580, L600, L1000, L1584, L1000000, Ln1, iN_add, iN_and, iN_or, iN_nd, iN_shl, iN_shr, iN_cl, iN_in, iN_mul, ile_p, ile_n, ilt_p, ilt_n, ieq_p, ieq_n, ij_n, jj_p, ijle, jile, ijlt, jilt, k193 w, r193_1 w, r193_2 w, r193_3 w, r193_4 w, r193_5 w, r193_6 w, r193_7 w, r193_8 w, r193_18 w, r193_19 w, r193_32 w, r193_33 w, r193_34 w, r193_36 w, r193_38 w, r193_39 w, r193_40 w, r193_42 w, r193_45 w, r193_46 w, r193_47 w, r193_48 w, r193_49 w, r193_50 w, t221, t206 H, fl3, hb, iN_pj, unf, Nat.or_zero]
  · intro x hx
    unfold f271_13
    rw [pN_z]
    simp (disch := omega) only [gT, nbeq, Option.isSome_some, Option.getD_some, Bool.and_true, Bool.true_and, Bool.and_self, mX_some, bS, bN_if, bN_01, i1_01, i0_01, if_true, if_false, Bool.false_eq_true, false_and, and_false, and_true, true_and, and_self, Bool.or_false, Bool.false_or, Bool.or_true, Bool.true_or, Bool.false_and, Bool.and_false, decide_true, decide_false, L0, jilt]
