/-! NEWS, TELLERS, BETWEEN, CENTRE, LOSS of one library. -/
def spf (q : LQ) (b : Nat) : Nat → Nat → Nat := fun p x => if q 6 p &&& b = 0 then x else x ||| 1 <<< p
def spr (q : LQ) (b : Nat) : Nat := up (spf q b) (q 0 1) b
def nws (q : LQ) (aw d b : Nat) : Nat := up (fun _ x => nd (spr q x) aw) d b
def tld (q : LQ) (am d b : Nat) : Nat := up (fun _ x => spr q x &&& am) d b
theorem q6_6 {q : LQ} (W : QW q) {p : Nat} (hp : p < 6) : q 6 p < 64 := by have h1 := W.2.2.2.2.2.2.2.2 p hp; have h2 := pw_6 W.1.2.1; omega
theorem t99 {h : mH} {a : Nat} {q : LQ} (H : LibS h a q) (W : QW q) {b d am : Nat} (hd : d < 1000) : f99 h a (iN b) (iN d) (iN am) = some (iN (tld q am d b)) := by
  have hm := W.1.2.1
  unfold f99
  refine lp_up (fun k x => (iN x, iN k)) (fun _ x => spr q x &&& am) iN (fun _ _ => True) d (a0 := b) trivial (fun _ _ _ _ => trivial) ?_ ?_ (by omega)
  · intro k x hk _
    unfold f99_6
    simp (disch := omega) only [gT, nbeq, Option.isSome_some, Option.getD_some, Bool.and_true, Bool.true_and, Bool.and_self, mX_some, bS, bN_if, bN_01, i1_01, i0_01, if_true, if_false, Bool.false_eq_true, false_and, and_false, and_true, true_and, and_self, Bool.or_false, Bool.false_or, Bool.or_true, Bool.true_or, Bool.false_and, Bool.and_false, decide_true, decide_false, ile_n]
    refine lp_up (fun p y => (iN y, iN p)) (spf q x) (fun y => Sum.inl (iN (y &&& am), iN (k + 1))) (fun _ _ => True) (q 0 1) (a0 := x) trivial (fun _ _ _ _ => trivial) ?_ ?_ (by omega)
    · intro p y hp _
      have hq := q6_6 W (p := p) (by omega)
      have ha : q 6 p &&& x ≤ q 6 p := Nat.and_le_left
      unfold f99_19 f99_50 spf
      simp (disch := omega) only [gT, nbeq, Option.isSome_some, Option.getD_some, Bool.and_true, Bool.true_and, Bool.and_self, mX_some, bS, bN_if, bN_01, i1_01, i0_01, if_true, if_false, Bool.false_eq_true, false_and, and_false, and_true, true_and, and_self, Bool.or_false, Bool.false_or, Bool.or_true, Bool.true_or, Bool.false_and, Bool.and_false, decide_true, decide_false, L0, L1, L2, L3, L4, L5, L6, L7, L8, L9, L10, L11, L12, L13, L14, L15, L16, L17, L18, L19, L20, L21, L22, L23, L24, L25, L27, L33, L39, L40, L45, L48, L57, L60, L72, L90, L97, L98, L99, L100, L121, L122, L242, L255, L256, L580, L600, L1000, L1584, L1000000, Ln1, iN_add, iN_and, iN_or, iN_nd, iN_shl, iN_shr, iN_cl, iN_in, iN_mul, H.k, H.r0, H.r1, H.r2, H.r3, H.r4, H.r5, H.k1, H.k2, H.k3, H.k4, H.k5, H.k6, H.n, H.m, H.lp, H.hr, H.tp, H.ln, H.lk, H.me, H.he, ile_n, ieq_d]
      split <;> rfl
    · intro y _
      unfold f99_19
      simp (disch := omega) only [gT, nbeq, Option.isSome_some, Option.getD_some, Bool.and_true, Bool.true_and, Bool.and_self, mX_some, bS, bN_if, bN_01, i1_01, i0_01, if_true, if_false, Bool.false_eq_true, false_and, and_false, and_true, true_and, and_self, Bool.or_false, Bool.false_or, Bool.or_true, Bool.true_or, Bool.false_and, Bool.and_false, decide_true, decide_false, L0, L1, L2, L3, L4, L5, L6, L7, L8, L9, L10, L11, L12, L13, L14, L15, L16, L17, L18, L19, L20, L21, L22, L23, L24, L25, L27, L33, L39, L40, L45, L48, L57, L60, L72, L90, L97, L98, L99, L100, L121, L122, L242, L255, L256, L580, L600, L1000, L1584, L1000000, Ln1, iN_add, iN_and, iN_or, iN_nd, iN_shl, iN_shr, iN_cl, iN_in, iN_mul, ile_p, ile_n, ilt_p, ilt_n, ieq_p, ieq_n, ij_n, jj_p, ijle, jile, ijlt, jilt, H.k, H.r0, H.r1, H.r2, H.r3, H.r4, H.r5, H.k1, H.k2, H.k3, H.k4, H.k5, H.k6, H.n, H.m, H.lp, H.hr, H.tp, H.ln, H.lk, H.me, H.he]
  · intro x _
    unfold f99_6
    simp (disch := omega) only [gT, nbeq, Option.isSome_some, Option.getD_some, Bool.and_true, Bool.true_and, Bool.and_self, mX_some, bS, bN_if, bN_01, i1_01, i0_01, if_true, if_false, Bool.false_eq_true, false_and, and_false, and_true, true_and, and_self, Bool.or_false, Bool.false_or, Bool.or_true, Bool.true_or, Bool.false_and, Bool.and_false, decide_true, decide_false, ile_p, ile_n, ilt_p, ilt_n, ieq_p, ieq_n, ij_n, jj_p, ijle, jile, ijlt, jilt]
theorem t247 {h : mH} {q : LQ} (H : MoS h q) (W : QW q) {b aw : Nat} : f247 h 193 (iN b) (iN aw) = some (iN (nd (spr q b) aw)) := by
  have hm := W.1.2.1
  have w := H.1
  unfold f247
  refine lp_up (fun k x => (iN x, iN k)) (spf q b) (fun x => iN (nd x aw)) (fun _ _ => True) (q 0 1) (a0 := b) trivial (fun _ _ _ _ => trivial) ?_ ?_ (by omega)
  · intro p y hp _
    have hq := q6_6 W (p := p) (by omega)
    have ha : q 6 p &&& b ≤ q 6 p := Nat.and_le_left
    unfold f247_5 f247_37 spf
    simp (disch := omega) only [gT, nbeq, Option.isSome_some, Option.getD_some, Bool.and_true, Bool.true_and, Bool.and_self, mX_some, bS, bN_if, bN_01, i1_01, i0_01, if_true, if_false, Bool.false_eq_true, false_and, and_false, and_true, true_and, and_self, Bool.or_false, Bool.false_or, Bool.or_true, Bool.true_or, Bool.false_and, Bool.and_false, decide_true, decide_false, L0, L1, L2, L3, L4, L5, L6, L7, L8, L9, L10, L11, L12, L13, L14, L15, L16, L17, L18, L19, L20, L21, L22, L23, L24, L25, L27, L33, L39, L40, L45, L48, L57, L60, L72, L90, L97, L98, L99, L100, L121, L122, L242, L255, L256, L580, L600, L1000, L1584, L1000000, Ln1, iN_add, iN_and, iN_or, iN_nd, iN_shl, iN_shr, iN_cl, iN_in, iN_mul, k193 w, r193_1 w, r193_2 w, r193_3 w, r193_4 w, r193_5 w, r193_6 w, r193_7 w, r193_8 w, r193_18 w, r193_19 w, r193_32 w, r193_33 w, r193_34 w, r193_36 w, r193_38 w, r193_39 w, r193_40 w, r193_42 w, r193_45 w, r193_46 w, r193_47 w, r193_48 w, r193_49 w, r193_50 w, H.m, ile_n, ieq_d, t206 H, fl6]
    split
    · simp only [Nat.or_zero]
    · rfl
  · intro y _
    unfold f247_5
    simp (disch := omega) only [gT, nbeq, Option.isSome_some, Option.getD_some, Bool.and_true, Bool.true_and, Bool.and_self, mX_some, bS, bN_if, bN_01, i1_01, i0_01, if_true, if_false, Bool.false_eq_true, false_and, and_false, and_true, true_and, and_self, Bool.or_false, Bool.false_or, Bool.or_true, Bool.true_or, Bool.false_and, Bool.and_false, decide_true, decide_false, L0, L1, L2, L3, L4, L5, L6, L7, L8, L9, L10, L11, L12, L13, L14, L15, L16, L17, L18, L19, L20, L21, L22, L23, L24, L25, L27, L33, L39, L40, L45, L48, L57, L60, L72, L90, L97, L98, L99, L100, L121, L122, L242, L255, L256, L580, L600, L1000, L1584, L1000000, Ln1, iN_add, iN_and, iN_or, iN_nd, iN_shl, iN_shr, iN_cl, iN_in, iN_mul, ile_p, ile_n, ilt_p, ilt_n, ieq_p, ieq_n, ij_n, jj_p, ijle, jile, ijlt, jilt, k193 w, r193_1 w, r193_2 w, r193_3 w, r193_4 w, r193_5 w, r193_6 w, r193_7 w, r193_8 w, r193_18 w, r193_19 w, r193_32 w, r193_33 w, r193_34 w, r193_36 w, r193_38 w, r193_39 w, r193_40 w, r193_42 w, r193_45 w, r193_46 w, r193_47 w, r193_48 w, r193_49 w, r193_50 w, H.m]
theorem t246 {h : mH} {q : LQ} (H : MoS h q) (W : QW q) {b d aw : Nat} (hd : d < 1000) : f246 h 193 (iN b) (iN d) (iN aw) = some (iN (nws q aw d b)) := by
  have w := H.1
  unfold f246
  refine lp_up (fun k x => (iN x, iN k)) (fun _ x => nd (spr q x) aw) iN (fun _ _ => True) d (a0 := b) trivial (fun _ _ _ _ => trivial) ?_ ?_ (by omega)
  · intro k x hk _
    unfold f246_6
    simp (disch := omega) only [gT, nbeq, Option.isSome_some, Option.getD_some, Bool.and_true, Bool.true_and, Bool.and_self, mX_some, bS, bN_if, bN_01, i1_01, i0_01, if_true, if_false, Bool.false_eq_true, false_and, and_false, and_true, true_and, and_self, Bool.or_false, Bool.false_or, Bool.or_true, Bool.true_or, Bool.false_and, Bool.and_false, decide_true, decide_false, L0, L1, L2, L3, L4, L5, L6, L7, L8, L9, L10, L11, L12, L13, L14, L15, L16, L17, L18, L19, L20, L21, L22, L23, L24, L25, L27, L33, L39, L40, L45, L48, L57, L60, L72, L90, L97, L98, L99, L100, L121, L122, L242, L255, L256, L580, L600, L1000, L1584, L1000000, Ln1, iN_add, iN_and, iN_or, iN_nd, iN_shl, iN_shr, iN_cl, iN_in, iN_mul, k193 w, r193_1 w, r193_2 w, r193_3 w, r193_4 w, r193_5 w, r193_6 w, r193_7 w, r193_8 w, r193_18 w, r193_19 w, r193_32 w, r193_33 w, r193_34 w, r193_36 w, r193_38 w, r193_39 w, r193_40 w, r193_42 w, r193_45 w, r193_46 w, r193_47 w, r193_48 w, r193_49 w, r193_50 w, ile_n, t247 H W]
  · intro x _
    unfold f246_6
    simp (disch := omega) only [gT, nbeq, Option.isSome_some, Option.getD_some, Bool.and_true, Bool.true_and, Bool.and_self, mX_some, bS, bN_if, bN_01, i1_01, i0_01, if_true, if_false, Bool.false_eq_true, false_and, and_false, and_true, true_and, and_self, Bool.or_false, Bool.false_or, Bool.or_true, Bool.true_or, Bool.false_and, Bool.and_false, decide_true, decide_false, ile_p, ile_n, ilt_p, ilt_n, ieq_p, ieq_n, ij_n, jj_p, ijle, jile, ijlt, jilt]
theorem sh1_lt {k n : Nat} (h : k < n) : 1 <<< k < 2 ^ n := by rw [Nat.one_shiftLeft]; exact Nat.pow_lt_pow_right (by omega) h
theorem spr_lt {q : LQ} {b : Nat} (hb : b < 2 ^ q 0 1) : spr q b < 2 ^ q 0 1 :=
  up_inv (f := spf q b) (I := fun _ x => x < 2 ^ q 0 1) (n := q 0 1) (fun k x hk hx => by
    unfold spf; split
    · exact hx
    · exact or_lt hx (sh1_lt hk)) hb _ (Nat.le_refl _)
theorem nd_0 (a : Nat) : nd a 0 = a := by unfold nd; simp
theorem and_all {x n : Nat} (h : x < 2 ^ n) : x &&& (2 ^ n - 1) = x := by rw [Nat.and_two_pow_sub_one_eq_mod, Nat.mod_eq_of_lt h]
theorem nws_lt {q : LQ} {aw d b : Nat} (hb : b < 2 ^ q 0 1) : nws q aw d b < 2 ^ q 0 1 :=
  up_inv (f := fun _ x => nd (spr q x) aw) (I := fun _ x => x < 2 ^ q 0 1) (n := d) (fun k x _ hx => by
    have h1 := spr_lt hx; have h2 := nd_le (spr q x) aw; omega) hb d (Nat.le_refl _)
theorem tld_all {q : LQ} {d b : Nat} (hb : b < 2 ^ q 0 1) : tld q (2 ^ q 0 1 - 1) d b = nws q 0 d b :=
  (up_rel (f := fun _ x => spr q x &&& (2 ^ q 0 1 - 1)) (g := fun _ x => nd (spr q x) 0) (I := fun _ x y => x = y ∧ x < 2 ^ q 0 1) (n := d) (fun k x y _ hx => by
    obtain ⟨rfl, hx⟩ := hx
    have h1 := spr_lt hx
    rw [and_all h1, nd_0]; exact ⟨rfl, h1⟩) ⟨rfl, hb⟩ d (Nat.le_refl _)).1
theorem tb_all {n j : Nat} : (2 ^ n - 1).testBit j = decide (j < n) := Nat.testBit_two_pow_sub_one n j
theorem tb_sh {k j : Nat} : (1 <<< k).testBit j = decide (k = j) := by rw [Nat.one_shiftLeft, Nat.testBit_two_pow]
theorem tb_lt {x n j : Nat} (h : x < 2 ^ n) (hj : n ≤ j) : x.testBit j = false := by
  apply Nat.testBit_lt_two_pow
  exact Nat.lt_of_lt_of_le h (Nat.pow_le_pow_right (by omega) hj)
theorem and_but {x n o : Nat} (h : x < 2 ^ n) : x &&& nd (2 ^ n - 1) (1 <<< o) = nd x (1 <<< o) := by
  apply Nat.eq_of_testBit_eq; intro j
  rw [Nat.testBit_and, nd_tb, nd_tb, tb_all]
  by_cases hj : j < n
  · simp [hj]
  · rw [tb_lt h (by omega)]; simp
theorem tld_but {q : LQ} {d b o : Nat} (hb : b < 2 ^ q 0 1) : tld q (nd (2 ^ q 0 1 - 1) (1 <<< o)) d b = nws q (1 <<< o) d b :=
  (up_rel (f := fun _ x => spr q x &&& nd (2 ^ q 0 1 - 1) (1 <<< o)) (g := fun _ x => nd (spr q x) (1 <<< o)) (I := fun _ x y => x = y ∧ x < 2 ^ q 0 1) (n := d) (fun k x y _ hx => by
    obtain ⟨rfl, hx⟩ := hx
    have h1 := spr_lt hx
    have h2 := nd_le (spr q x) (1 <<< o)
    rw [and_but h1]; exact ⟨rfl, by omega⟩) ⟨rfl, hb⟩ d (Nat.le_refl _)).1
/-! TELLERS -/
def tef (q : LQ) (d : Nat) : Nat → Nat → Nat := fun s b => if pc s < pc b ∧ nws q 0 d s = 2 ^ q 0 1 - 1 then s else b
def tel (q : LQ) (d : Nat) : Nat := up (tef q d) (2 ^ q 0 1 - 1) (2 ^ q 0 1 - 1)
theorem t101 {h : mH} {a : Nat} {q : LQ} (H : LibS h a q) (W : QW q) {d : Nat} (hd : d < 1000) : f101 h a (iN d) = some (iN (tel q d)) := by
  have hm := pw_6 W.1.2.1
  have h1 := pw_pos (q 0 1)
  unfold f101
  simp (disch := omega) only [gT, nbeq, Option.isSome_some, Option.getD_some, Bool.and_true, Bool.true_and, Bool.and_self, mX_some, bS, bN_if, bN_01, i1_01, i0_01, if_true, if_false, Bool.false_eq_true, false_and, and_false, and_true, true_and, and_self, Bool.or_false, Bool.false_or, Bool.or_true, Bool.true_or, Bool.false_and, Bool.and_false, decide_true, decide_false, L0, H.k, t98 H W]
  generalize hA : 2 ^ q 0 1 - 1 = A at *
  have hA2 : 2 ^ q 0 1 = A + 1 := by omega
  have e0 : tel q d = up (tef q d) A A := by unfold tel; rw [hA]
  rw [e0]
  refine lp_up (fun k x => (iN x, iN k)) (tef q d) iN (fun _ x => x < 2 ^ q 0 1) A (a0 := A) (by show A < 2 ^ q 0 1; omega) ?_ ?_ ?_ (by omega)
  · intro k x hk hx
    unfold tef; split <;> omega
  · intro k x hk hx
    have p1 := pc_le k
    have p2 := pc_le x
    have h3 := nws_lt (q := q) (aw := 0) (d := d) (b := k) (by omega)
    unfold f101_10 f101_43 tef
    rw [← hA]
    simp (disch := omega) only [gT, nbeq, Option.isSome_some, Option.getD_some, Bool.and_true, Bool.true_and, Bool.and_self, mX_some, bS, bN_if, bN_01, i1_01, i0_01, if_true, if_false, Bool.false_eq_true, false_and, and_false, and_true, true_and, and_self, Bool.or_false, Bool.false_or, Bool.or_true, Bool.true_or, Bool.false_and, Bool.and_false, decide_true, decide_false, L0, L1, L2, L3, L4, L5, L6, L7, L8, L9, L10, L11, L12, L13, L14, L15, L16, L17, L18, L19, L20, L21, L22, L23, L24, L25, L27, L33, L39, L40, L45, L48, L57, L60, L72, L90, L97, L98, L99, L100, L121, L122, L242, L255, L256, L580, L600, L1000, L1584, L1000000, Ln1, iN_add, iN_and, iN_or, iN_nd, iN_shl, iN_shr, iN_cl, iN_in, iN_mul, H.k, ile_n, t66, ile_d, t99 H W, ieq_d, tld_all]
    by_cases c1 : pc x ≤ pc k
    · rw [if_pos c1, if_neg (by omega)]
    · rw [if_neg c1]
      by_cases c2 : nws q 0 d k = 2 ^ q 0 1 - 1
      · rw [if_pos c2, if_pos ⟨by omega, c2⟩]
      · rw [if_neg c2, if_neg (fun c => c2 c.2)]
  · intro x hx
    unfold f101_10
    rw [if_pos ((iN_le (by omega) (by omega)).2 (Nat.le_refl A))]
    rfl
theorem pc_all : ∀ m, m < 7 → ∀ s, s < 2 ^ m - 1 → pc s < pc (2 ^ m - 1) := by decide +kernel
theorem t248l {h : mH} {q : LQ} (H : MoS h q) (W : QW q) {d : Nat} {w : Int32} (hd : d < 1000) : mLoop (f248_42 h 193 (iN d) w (iN (2 ^ q 0 1 - 1))) mFuel (iN (2 ^ q 0 1 - 1), 0) = some (if w = iN 0 then iN (pc (tel q d)) else iN (tel q d), h) := by
  have hm := pw_6 W.1.2.1
  have h1 := pw_pos (q 0 1)
  have W1 := H.1
  have key : tel q d = up (tef q d) (2 ^ q 0 1) (2 ^ q 0 1 - 1) := by
    have e : 2 ^ q 0 1 = (2 ^ q 0 1 - 1) + 1 := by omega
    conv => rhs; rw [e]
    show _ = tef q d (2 ^ q 0 1 - 1) (tel q d)
    unfold tef
    rw [if_neg]
    intro c
    have hb : tel q d < 2 ^ q 0 1 := up_inv (f := tef q d) (I := fun _ x => x < 2 ^ q 0 1) (n := 2 ^ q 0 1 - 1) (fun k x hk hx => by unfold tef; split <;> omega) (by omega) _ (Nat.le_refl _)
    by_cases e2 : tel q d = 2 ^ q 0 1 - 1
    · rw [e2] at c; omega
    · have := pc_all (q 0 1) (by have := W.1.2.1; omega) (tel q d) (by omega)
      omega
  rw [key]
  refine lp_up (fun k x => (iN x, iN k)) (tef q d) (fun x => (if w = iN 0 then iN (pc x) else iN x, h)) (fun k x => x < 2 ^ q 0 1 ∧ (x = 2 ^ q 0 1 - 1 ∨ x < k)) (2 ^ q 0 1) (a0 := 2 ^ q 0 1 - 1) ⟨by omega, Or.inl rfl⟩ ?_ ?_ ?_ (by omega)
  · intro k x hk hx
    unfold tef; split <;> omega
  · intro k x hk hx
    have p1 := pc_le k
    have p2 := pc_le x
    have h3 := nws_lt (q := q) (aw := 0) (d := d) (b := k) (by omega)
    unfold f248_42 f248_82 f248_86 f248_87 f248_112 f248_114 tef
    simp (disch := omega) only [gT, nbeq, Option.isSome_some, Option.getD_some, Bool.and_true, Bool.true_and, Bool.and_self, mX_some, bS, bN_if, bN_01, i1_01, i0_01, if_true, if_false, Bool.false_eq_true, false_and, and_false, and_true, true_and, and_self, Bool.or_false, Bool.false_or, Bool.or_true, Bool.true_or, Bool.false_and, Bool.and_false, decide_true, decide_false, L0, L1, L2, L3, L4, L5, L6, L7, L8, L9, L10, L11, L12, L13, L14, L15, L16, L17, L18, L19, L20, L21, L22, L23, L24, L25, L27, L33, L39, L40, L45, L48, L57, L60, L72, L90, L97, L98, L99, L100, L121, L122, L242, L255, L256, L580, L600, L1000, L1584, L1000000, Ln1, iN_add, iN_and, iN_or, iN_nd, iN_shl, iN_shr, iN_cl, iN_in, iN_mul, k193 W1, r193_1 W1, r193_2 W1, r193_3 W1, r193_4 W1, r193_5 W1, r193_6 W1, r193_7 W1, r193_8 W1, r193_18 W1, r193_19 W1, r193_32 W1, r193_33 W1, r193_34 W1, r193_36 W1, r193_38 W1, r193_39 W1, r193_40 W1, r193_42 W1, r193_45 W1, r193_46 W1, r193_47 W1, r193_48 W1, r193_49 W1, r193_50 W1, ilt_n, t244, ilt_d, ieq_d, ile_d, t246 H W]
    by_cases c1 : pc k < pc x
    · simp only [c1, if_true, true_and, show ¬ (1 = 0) from by omega, if_false]
      by_cases c2 : nws q 0 d k = 2 ^ q 0 1 - 1
      · rw [if_pos c2, if_pos c2]
      · rw [if_neg c2, if_neg c2]
    · have nc : ¬ (pc k < pc x ∧ nws q 0 d k = 2 ^ q 0 1 - 1) := fun c => c1 c.1
      simp only [c1, nc, if_false]
      by_cases c3 : pc k = pc x
      · rw [if_pos c3]
        by_cases c4 : x ≤ k
        · simp only [c4, if_true, false_and, if_false]
        · exfalso
          rcases hx.2 with e | e
          · subst e
            have := pc_all (q 0 1) (by have := W.1.2.1; omega) k (by omega)
            omega
          · omega
      · simp only [c3, if_false, if_true, false_and]
  · intro x hx
    unfold f248_42 f248_136
    simp (disch := omega) only [gT, nbeq, Option.isSome_some, Option.getD_some, Bool.and_true, Bool.true_and, Bool.and_self, mX_some, bS, bN_if, bN_01, i1_01, i0_01, if_true, if_false, Bool.false_eq_true, false_and, and_false, and_true, true_and, and_self, Bool.or_false, Bool.false_or, Bool.or_true, Bool.true_or, Bool.false_and, Bool.and_false, decide_true, decide_false, L0, L1, L2, L3, L4, L5, L6, L7, L8, L9, L10, L11, L12, L13, L14, L15, L16, L17, L18, L19, L20, L21, L22, L23, L24, L25, L27, L33, L39, L40, L45, L48, L57, L60, L72, L90, L97, L98, L99, L100, L121, L122, L242, L255, L256, L580, L600, L1000, L1584, L1000000, Ln1, iN_add, iN_and, iN_or, iN_nd, iN_shl, iN_shr, iN_cl, iN_in, iN_mul, ilt_p, t244]
    by_cases c : w = iN 0
    · simp only [c, if_true, mX_some]
    · simp only [c, if_false, mX_some]
