/-! CENTRE and LOSS -/
def allP (q : LQ) : Nat := 2 ^ q 0 1 - 1
def cef (q : LQ) : Nat → Option Nat × Nat → Option Nat × Nat := fun p b => match dys q (allP q) (1 <<< p) with
  | none => b
  | some d => if b.2 ≤ d then b else (some p, d)
def cenB (q : LQ) (p : Nat) : Nat := up (fun o y => max y (fN (dys q (1 <<< o) (1 <<< p)))) (q 0 1) 0
def ceg (q : LQ) : Nat → Option Nat × Nat → Option Nat × Nat := fun p b => (if b.2 ≤ cenB q p then b.1 else some p, min b.2 (cenB q p))
theorem dys_le {q : LQ} {t x d : Nat} (h : dys q t x = some d) : d ≤ 6 := by have := du_le _ _ _ _ h; omega
theorem cenB_eq {q : LQ} {p : Nat} (hp : p < q 0 1) : cenB q p = fN (dys q (allP q) (1 <<< p)) := by
  have h := du_max (spr q) (fun x j hx => spr_sub hx) (q 0 1) 7 0 (1 <<< p) (by omega)
  rw [if_neg (by omega)] at h
  unfold cenB
  show _ = fN (du (spr q) (fun x => decide (nd (2 ^ q 0 1 - 1) x = 0)) 7 0 (1 <<< p))
  rw [h]
  refine up_congr (fun o y _ => ?_) 0
  have e : dys q (1 <<< o) (1 <<< p) = du (spr q) (fun x => x.testBit o) 7 0 (1 <<< p) := by unfold dys; congr 1; funext y; exact nd_bit o y
  rw [e]
theorem cen_rel (q : LQ) : ∀ k, k ≤ q 0 1 → (fun (b c : Option Nat × Nat) => b.1 = c.1 ∧ ((b.1 = none ∧ b.2 = 7 ∧ c.2 = 1000000) ∨ ∃ p, p < q 0 1 ∧ b.1 = some p ∧ dys q (allP q) (1 <<< p) = some b.2 ∧ c.2 = b.2 ∧ b.2 ≤ 6)) (up (cef q) k (none, 7)) (up (ceg q) k (none, 1000000)) :=
  up_rel (I := fun _ (b c : Option Nat × Nat) => b.1 = c.1 ∧ ((b.1 = none ∧ b.2 = 7 ∧ c.2 = 1000000) ∨ ∃ p, p < q 0 1 ∧ b.1 = some p ∧ dys q (allP q) (1 <<< p) = some b.2 ∧ c.2 = b.2 ∧ b.2 ≤ 6)) (n := q 0 1) (fun k b c hk hP => by
    obtain ⟨h1, h2⟩ := hP
    unfold cef ceg
    cases hd : dys q (allP q) (1 <<< k) with
    | none =>
      have ec : cenB q k = 1000000 := by rw [cenB_eq hk, hd]; rfl
      rw [ec]
      dsimp only
      rcases h2 with ⟨a1, a2, a3⟩ | ⟨p, a1, a2, a3, a4, a5⟩
      · rw [if_pos (by omega), a3]; exact ⟨h1, Or.inl ⟨a1, a2, rfl⟩⟩
      · rw [if_pos (by omega), Nat.min_eq_left (by omega)]; exact ⟨h1, Or.inr ⟨p, a1, a2, a3, a4, a5⟩⟩
    | some d =>
      have hd6 := dys_le hd
      have ec : cenB q k = d := by rw [cenB_eq hk, hd]; rfl
      rw [ec]
      dsimp only
      rcases h2 with ⟨a1, a2, a3⟩ | ⟨p, a1, a2, a3, a4, a5⟩
      · rw [if_neg (by omega), if_neg (by omega), Nat.min_eq_right (by omega)]
        exact ⟨rfl, Or.inr ⟨k, hk, rfl, hd, rfl, hd6⟩⟩
      · rw [a4]
        by_cases e : b.2 ≤ d
        · rw [if_pos e, if_pos e, Nat.min_eq_left e]; exact ⟨h1, Or.inr ⟨p, a1, a2, a3, rfl, a5⟩⟩
        · rw [if_neg e, if_neg e, Nat.min_eq_right (by omega)]; exact ⟨rfl, Or.inr ⟨k, hk, rfl, hd, rfl, hd6⟩⟩) ⟨rfl, Or.inl ⟨rfl, rfl, rfl⟩⟩
theorem allP_lt {q : LQ} (W : QW q) : allP q < 2147483648 := by have := pw_6 W.1.2.1; have := pw_pos (q 0 1); unfold allP; omega
theorem t160 {h : mH} {a : Nat} {q : LQ} (H : LibS h a q) (W : QW q) : f160 h a = some (zN (up (cef q) (q 0 1) (none, 7)).1) := by
  have hm := W.1.2.1
  have ha := allP_lt W
  unfold f160
  refine lp_up (fun k (b : Option Nat × Nat) => (zN b.1, iN b.2, iN k)) (cef q) (fun b => zN b.1) (fun _ b => b.2 ≤ 7) (q 0 1) (a0 := (none, 7)) (by decide) ?_ ?_ ?_ (by omega)
  · intro k b hk hb
    unfold cef
    cases hd : dys q (allP q) (1 <<< k) with
    | none => exact hb
    | some d =>
      have := dys_le hd
      simp only
      split
      · exact hb
      · show d ≤ 7; omega
  · intro k b hk hb
    unfold f160_7 f160_45 cef
    simp (disch := omega) only [gT, nbeq, Option.isSome_some, Option.getD_some, Bool.and_true, Bool.true_and, Bool.and_self, mX_some, bS, bN_if, bN_01, i1_01, i0_01, if_true, if_false, Bool.false_eq_true, false_and, and_false, and_true, true_and, and_self, Bool.or_false, Bool.false_or, Bool.or_true, Bool.true_or, Bool.false_and, Bool.and_false, decide_true, decide_false, L0, L1, L2, L3, L4, L5, L6, L7, L8, L9, L10, L11, L12, L13, L14, L15, L16, L17, L18, L19, L20, L21, L22, L23, L24, L25, L27, L33, L39, L40, L45, L48, L57, L60, L72, L90, L97, L98, L99, L100, L121, L122, L242, L255, L256, L580, L600, L1000, L1584, L1000000, Ln1, iN_add, iN_and, iN_or, iN_nd, iN_shl, iN_shr, iN_cl, iN_in, iN_mul, H.k, H.r0, H.r1, H.r2, H.r3, H.r4, H.r5, H.k1, H.k2, H.k3, H.k4, H.k5, H.k6, H.n, H.m, H.lp, H.hr, H.tp, H.ln, H.lk, H.me, H.he, ile_n, t98 H W]
    rw [show 2 ^ q 0 1 - 1 = allP q from rfl, t158 H W (sh1_lt hk) ha]
    cases hd : dys q (allP q) (1 <<< k) with
    | none => simp only [gT, nbeq, Option.isSome_some, Option.getD_some, Bool.and_true, Bool.true_and, Bool.and_self, mX_some, bS, bN_if, bN_01, i1_01, i0_01, if_true, if_false, Bool.false_eq_true, false_and, and_false, and_true, true_and, and_self, Bool.or_false, Bool.false_or, Bool.or_true, Bool.true_or, Bool.false_and, Bool.and_false, decide_true, decide_false, zN_none, jj_p]
    | some d =>
      have := dys_le hd
      simp (disch := omega) only [gT, nbeq, Option.isSome_some, Option.getD_some, Bool.and_true, Bool.true_and, Bool.and_self, mX_some, bS, bN_if, bN_01, i1_01, i0_01, if_true, if_false, Bool.false_eq_true, false_and, and_false, and_true, true_and, and_self, Bool.or_false, Bool.false_or, Bool.or_true, Bool.true_or, Bool.false_and, Bool.and_false, decide_true, decide_false, zN_some, ij_n, ile_d]
      split <;> rfl
  · intro b _
    unfold f160_7
    simp (disch := omega) only [gT, nbeq, Option.isSome_some, Option.getD_some, Bool.and_true, Bool.true_and, Bool.and_self, mX_some, bS, bN_if, bN_01, i1_01, i0_01, if_true, if_false, Bool.false_eq_true, false_and, and_false, and_true, true_and, and_self, Bool.or_false, Bool.false_or, Bool.or_true, Bool.true_or, Bool.false_and, Bool.and_false, decide_true, decide_false, L0, L1, L2, L3, L4, L5, L6, L7, L8, L9, L10, L11, L12, L13, L14, L15, L16, L17, L18, L19, L20, L21, L22, L23, L24, L25, L27, L33, L39, L40, L45, L48, L57, L60, L72, L90, L97, L98, L99, L100, L121, L122, L242, L255, L256, L580, L600, L1000, L1584, L1000000, Ln1, iN_add, iN_and, iN_or, iN_nd, iN_shl, iN_shr, iN_cl, iN_in, iN_mul, H.k, H.r0, H.r1, H.r2, H.r3, H.r4, H.r5, H.k1, H.k2, H.k3, H.k4, H.k5, H.k6, H.n, H.m, H.lp, H.hr, H.tp, H.ln, H.lk, H.me, H.he, ile_p]
theorem cenB_lt {q : LQ} {p : Nat} : cenB q p ≤ 1000000 :=
  up_inv (f := fun o y => max y (fN (dys q (1 <<< o) (1 <<< p)))) (I := fun _ y => y ≤ 1000000) (n := q 0 1) (fun o y _ hy => by
    have : fN (dys q (1 <<< o) (1 <<< p)) ≤ 1000000 := by
      cases hd : dys q (1 <<< o) (1 <<< p) with
      | none => exact Nat.le_refl _
      | some d => have := dys_le hd; show d ≤ _; omega
    omega) (by omega) _ (Nat.le_refl _)
theorem fN_le {q : LQ} {t x : Nat} : fN (dys q t x) ≤ 1000000 := by
  cases hd : dys q t x with
  | none => exact Nat.le_refl _
  | some d => have := dys_le hd; show d ≤ _; omega
theorem t290l {h : mH} {q : LQ} (H : MoS h q) (W : QW q) {l2 : Int32} : mLoop (f290_25 h 193 l2) mFuel (jN, iN 1000000, iN 0) = some ((fun b : Option Nat × Nat => (match b.1 with
    | none => jN
    | some p => if l2 = iN 0 then iN p else iN b.2, h)) (up (ceg q) (q 0 1) (none, 1000000))) := by
  have hm := W.1.2.1
  have w := H.1
  refine lp_up (fun k (b : Option Nat × Nat) => (zN b.1, iN b.2, iN k)) (ceg q) (fun b : Option Nat × Nat => (match b.1 with
    | none => jN
    | some p => if l2 = iN 0 then iN p else iN b.2, h)) (fun k b => b.2 ≤ 1000000 ∧ ∀ p, b.1 = some p → p < 6) (q 0 1) (a0 := (none, 1000000)) ⟨by decide, fun p hp => by cases hp⟩ ?_ ?_ ?_ (by omega)
  · intro k b hk hb
    refine ⟨?_, fun p hp => ?_⟩
    · show min b.2 (cenB q k) ≤ _; omega
    · change (if b.2 ≤ cenB q k then b.1 else some k) = some p at hp
      split at hp
      · exact hb.2 p hp
      · cases hp; omega
  · intro k b hk hb
    have hc := cenB_lt (q := q) (p := k)
    unfold f290_25
    simp (disch := omega) only [gT, nbeq, Option.isSome_some, Option.getD_some, Bool.and_true, Bool.true_and, Bool.and_self, mX_some, bS, bN_if, bN_01, i1_01, i0_01, if_true, if_false, Bool.false_eq_true, false_and, and_false, and_true, true_and, and_self, Bool.or_false, Bool.false_or, Bool.or_true, Bool.true_or, Bool.false_and, Bool.and_false, decide_true, decide_false, L0, L1, L2, L3, L4, L5, L6, L7, L8, L9, L10, L11, L12, L13, L14, L15, L16, L17, L18, L19, L20, L21, L22, L23, L24, L25, L27, L33, L39, L40, L45, L48, L57, L60, L72, L90, L97, L98, L99, L100, L121, L122, L242, L255, L256, L580, L600, L1000, L1584, L1000000, Ln1, iN_add, iN_and, iN_or, iN_nd, iN_shl, iN_shr, iN_cl, iN_in, iN_mul, k193 w, r193_1 w, r193_2 w, r193_3 w, r193_4 w, r193_5 w, r193_6 w, r193_7 w, r193_8 w, r193_18 w, r193_19 w, r193_32 w, r193_33 w, r193_34 w, r193_36 w, r193_38 w, r193_39 w, r193_40 w, r193_42 w, r193_45 w, r193_46 w, r193_47 w, r193_48 w, r193_49 w, r193_50 w, ile_n, H.m]
    refine lp_up (fun o y => (iN y, iN o)) (fun o y => max y (fN (dys q (1 <<< o) (1 <<< k)))) (fun y => Sum.inl (if b.2 ≤ y then zN b.1 else iN k, iN (min b.2 y), iN (k + 1))) (fun _ y => y ≤ 1000000) (q 0 1) (a0 := 0) (by omega) ?_ ?_ ?_ (by omega) |>.trans ?_
    · intro o y _ hy
      have := fN_le (q := q) (t := 1 <<< o) (x := 1 <<< k)
      omega
    · intro o y ho hy
      have := fN_le (q := q) (t := 1 <<< o) (x := 1 <<< k)
      unfold f290_40
      simp (disch := omega) only [gT, nbeq, Option.isSome_some, Option.getD_some, Bool.and_true, Bool.true_and, Bool.and_self, mX_some, bS, bN_if, bN_01, i1_01, i0_01, if_true, if_false, Bool.false_eq_true, false_and, and_false, and_true, true_and, and_self, Bool.or_false, Bool.false_or, Bool.or_true, Bool.true_or, Bool.false_and, Bool.and_false, decide_true, decide_false, L0, L1, L2, L3, L4, L5, L6, L7, L8, L9, L10, L11, L12, L13, L14, L15, L16, L17, L18, L19, L20, L21, L22, L23, L24, L25, L27, L33, L39, L40, L45, L48, L57, L60, L72, L90, L97, L98, L99, L100, L121, L122, L242, L255, L256, L580, L600, L1000, L1584, L1000000, Ln1, iN_add, iN_and, iN_or, iN_nd, iN_shl, iN_shr, iN_cl, iN_in, iN_mul, k193 w, r193_1 w, r193_2 w, r193_3 w, r193_4 w, r193_5 w, r193_6 w, r193_7 w, r193_8 w, r193_18 w, r193_19 w, r193_32 w, r193_33 w, r193_34 w, r193_36 w, r193_38 w, r193_39 w, r193_40 w, r193_42 w, r193_45 w, r193_46 w, r193_47 w, r193_48 w, r193_49 w, r193_50 w, ile_n, H.m, t289 H W, t196]
    · intro y hy
      unfold f290_40 f290_83
      simp (disch := omega) only [gT, nbeq, Option.isSome_some, Option.getD_some, Bool.and_true, Bool.true_and, Bool.and_self, mX_some, bS, bN_if, bN_01, i1_01, i0_01, if_true, if_false, Bool.false_eq_true, false_and, and_false, and_true, true_and, and_self, Bool.or_false, Bool.false_or, Bool.or_true, Bool.true_or, Bool.false_and, Bool.and_false, decide_true, decide_false, L0, L1, L2, L3, L4, L5, L6, L7, L8, L9, L10, L11, L12, L13, L14, L15, L16, L17, L18, L19, L20, L21, L22, L23, L24, L25, L27, L33, L39, L40, L45, L48, L57, L60, L72, L90, L97, L98, L99, L100, L121, L122, L242, L255, L256, L580, L600, L1000, L1584, L1000000, Ln1, iN_add, iN_and, iN_or, iN_nd, iN_shl, iN_shr, iN_cl, iN_in, iN_mul, k193 w, r193_1 w, r193_2 w, r193_3 w, r193_4 w, r193_5 w, r193_6 w, r193_7 w, r193_8 w, r193_18 w, r193_19 w, r193_32 w, r193_33 w, r193_34 w, r193_36 w, r193_38 w, r193_39 w, r193_40 w, r193_42 w, r193_45 w, r193_46 w, r193_47 w, r193_48 w, r193_49 w, r193_50 w, ile_p, H.m, t195, ile_d]
      split <;> simp only [gT, nbeq, Option.isSome_some, Option.getD_some, Bool.and_true, Bool.true_and, Bool.and_self, mX_some, bS, bN_if, bN_01, i1_01, i0_01, if_true, if_false, Bool.false_eq_true, false_and, and_false, and_true, true_and, and_self, Bool.or_false, Bool.false_or, Bool.or_true, Bool.true_or, Bool.false_and, Bool.and_false, decide_true, decide_false]
    · show some (Sum.inl (if b.2 ≤ cenB q k then zN b.1 else iN k, iN (min b.2 (cenB q k)), iN (k + 1))) = _
      unfold ceg
      split <;> rfl
  · intro b hb
    unfold f290_25 f290_108 f290_114
    simp (disch := omega) only [gT, nbeq, Option.isSome_some, Option.getD_some, Bool.and_true, Bool.true_and, Bool.and_self, mX_some, bS, bN_if, bN_01, i1_01, i0_01, if_true, if_false, Bool.false_eq_true, false_and, and_false, and_true, true_and, and_self, Bool.or_false, Bool.false_or, Bool.or_true, Bool.true_or, Bool.false_and, Bool.and_false, decide_true, decide_false, L0, L1, L2, L3, L4, L5, L6, L7, L8, L9, L10, L11, L12, L13, L14, L15, L16, L17, L18, L19, L20, L21, L22, L23, L24, L25, L27, L33, L39, L40, L45, L48, L57, L60, L72, L90, L97, L98, L99, L100, L121, L122, L242, L255, L256, L580, L600, L1000, L1584, L1000000, Ln1, iN_add, iN_and, iN_or, iN_nd, iN_shl, iN_shr, iN_cl, iN_in, iN_mul, k193 w, r193_1 w, r193_2 w, r193_3 w, r193_4 w, r193_5 w, r193_6 w, r193_7 w, r193_8 w, r193_18 w, r193_19 w, r193_32 w, r193_33 w, r193_34 w, r193_36 w, r193_38 w, r193_39 w, r193_40 w, r193_42 w, r193_45 w, r193_46 w, r193_47 w, r193_48 w, r193_49 w, r193_50 w, ile_p, H.m]
    rw [zj (fun v hv => by have := hb.2 v hv; omega)]
    cases hb1 : b.1 with
    | none => simp only [zN_none, Option.isSome_none, gT, nbeq, Option.isSome_some, Option.getD_some, Bool.and_true, Bool.true_and, Bool.and_self, mX_some, bS, bN_if, bN_01, i1_01, i0_01, if_true, if_false, Bool.false_eq_true, false_and, and_false, and_true, true_and, and_self, Bool.or_false, Bool.false_or, Bool.or_true, Bool.true_or, Bool.false_and, Bool.and_false, decide_true, decide_false]
    | some p =>
      simp only [zN_some, gT, nbeq, Option.isSome_some, Option.getD_some, Bool.and_true, Bool.true_and, Bool.and_self, mX_some, bS, bN_if, bN_01, i1_01, i0_01, if_true, if_false, Bool.false_eq_true, false_and, and_false, and_true, true_and, and_self, Bool.or_false, Bool.false_or, Bool.or_true, Bool.true_or, Bool.false_and, Bool.and_false, decide_true, decide_false]
      split <;> simp only [gT, nbeq, Option.isSome_some, Option.getD_some, Bool.and_true, Bool.true_and, Bool.and_self, mX_some, bS, bN_if, bN_01, i1_01, i0_01, if_true, if_false, Bool.false_eq_true, false_and, and_false, and_true, true_and, and_self, Bool.or_false, Bool.false_or, Bool.or_true, Bool.true_or, Bool.false_and, Bool.and_false, decide_true, decide_false]
/-! LOSS -/
theorem pc_64 : ∀ x, x < 64 → pc x ≤ 6 := by decide +kernel
theorem pc_bit : ∀ x, x < 64 → ∀ p, p < 6 → x.testBit p = true → 1 ≤ pc x := by decide +kernel
def lsN (q : LQ) (p o : Nat) : Nat := pc (nws q (1 <<< o) 9 (1 <<< p)) - 1
theorem nws_bit {q : LQ} {p o d : Nat} (h : o ≠ p) : (nws q (1 <<< o) d (1 <<< p)).testBit p = true :=
  up_inv (f := fun _ x => nd (spr q x) (1 <<< o)) (I := fun _ x => x.testBit p = true) (n := d) (fun k x _ hx => by
    rw [nd_tb, spr_sub hx, tb_sh]; simp [h]) (by rw [tb_sh]; simp) d (Nat.le_refl _)
theorem ls_pc {q : LQ} (W : QW q) {p o : Nat} (hp : p < q 0 1) (h : o ≠ p) : pc (nws q (1 <<< o) 9 (1 <<< p)) = lsN q p o + 1 ∧ lsN q p o ≤ 5 := by
  have h6 := pw_6 W.1.2.1
  have hl := nws_lt (q := q) (aw := 1 <<< o) (d := 9) (sh1_lt hp)
  have h1 := pc_64 _ (show nws q (1 <<< o) 9 (1 <<< p) < 64 by omega)
  have h2 := pc_bit _ (show nws q (1 <<< o) 9 (1 <<< p) < 64 by omega) p (by have := W.1.2.1; omega) (nws_bit h)
  unfold lsN; omega
theorem t163 {h : mH} {a : Nat} {q : LQ} (H : LibS h a q) (W : QW q) {p o : Nat} (hp : p < q 0 1) (ho : o < q 0 1) (hne : o ≠ p) : f163 h a (iN p) (iN o) = some (iN (lsN q p o)) := by
  have hm := W.1.2.1
  have h6 := pw_6 hm
  have hl := nws_lt (q := q) (aw := 1 <<< o) (d := 9) (sh1_lt hp)
  have e := ls_pc W hp hne
  unfold f163
  simp (disch := omega) only [gT, nbeq, Option.isSome_some, Option.getD_some, Bool.and_true, Bool.true_and, Bool.and_self, mX_some, bS, bN_if, bN_01, i1_01, i0_01, if_true, if_false, Bool.false_eq_true, false_and, and_false, and_true, true_and, and_self, Bool.or_false, Bool.false_or, Bool.or_true, Bool.true_or, Bool.false_and, Bool.and_false, decide_true, decide_false, L0, L1, L2, L3, L4, L5, L6, L7, L8, L9, L10, L11, L12, L13, L14, L15, L16, L17, L18, L19, L20, L21, L22, L23, L24, L25, L27, L33, L39, L40, L45, L48, L57, L60, L72, L90, L97, L98, L99, L100, L121, L122, L242, L255, L256, L580, L600, L1000, L1584, L1000000, Ln1, iN_add, iN_and, iN_or, iN_nd, iN_shl, iN_shr, iN_cl, iN_in, iN_mul, H.k, t98 H W, t99 H W]
  rw [tld_but (sh1_lt hp), t66 (by omega), e.1]
  simp (disch := omega) only [gT, nbeq, Option.isSome_some, Option.getD_some, Bool.and_true, Bool.true_and, Bool.and_self, mX_some, bS, bN_if, bN_01, i1_01, i0_01, if_true, if_false, Bool.false_eq_true, false_and, and_false, and_true, true_and, and_self, Bool.or_false, Bool.false_or, Bool.or_true, Bool.true_or, Bool.false_and, Bool.and_false, decide_true, decide_false, iN_sub, Nat.add_sub_cancel]
def lef (q : LQ) (p : Nat) : Nat → Option Nat × Nat → Option Nat × Nat := fun o b => if o = p then b else if b.2 ≤ lsN q p o then b else (some o, lsN q p o)
def leg (q : LQ) (p : Nat) : Nat → Option Nat × Nat → Option Nat × Nat := fun o b => (if b.2 ≤ (if o = p then 1000000 else lsN q p o) then b.1 else some o, min b.2 (if o = p then 1000000 else lsN q p o))
theorem les_rel {q : LQ} (W : QW q) {p : Nat} (hp : p < q 0 1) : ∀ k, k ≤ q 0 1 → (fun (b c : Option Nat × Nat) => b.1 = c.1 ∧ ((b.1 = none ∧ b.2 = 7 ∧ c.2 = 1000000) ∨ ∃ o, o < q 0 1 ∧ o ≠ p ∧ b.1 = some o ∧ b.2 = lsN q p o ∧ c.2 = b.2 ∧ b.2 ≤ 6)) (up (lef q p) k (none, 7)) (up (leg q p) k (none, 1000000)) :=
  up_rel (I := fun _ (b c : Option Nat × Nat) => b.1 = c.1 ∧ ((b.1 = none ∧ b.2 = 7 ∧ c.2 = 1000000) ∨ ∃ o, o < q 0 1 ∧ o ≠ p ∧ b.1 = some o ∧ b.2 = lsN q p o ∧ c.2 = b.2 ∧ b.2 ≤ 6)) (n := q 0 1) (fun k b c hk hP => by
    obtain ⟨h1, h2⟩ := hP
    unfold lef leg
    by_cases ek : k = p
    · simp only [ek, if_true]
      rcases h2 with ⟨a1, a2, a3⟩ | ⟨o, a0, a1, a2, a3, a4, a5⟩
      · rw [if_pos (by omega), a3]; exact ⟨h1, Or.inl ⟨a1, a2, rfl⟩⟩
      · rw [if_pos (by omega), Nat.min_eq_left (by omega)]; exact ⟨h1, Or.inr ⟨o, a0, a1, a2, a3, a4, a5⟩⟩
    · simp only [ek, if_false]
      have h5 := (ls_pc W hp ek).2
      rcases h2 with ⟨a1, a2, a3⟩ | ⟨o, a0, a1, a2, a3, a4, a5⟩
      · rw [if_neg (by omega), if_neg (by omega), Nat.min_eq_right (by omega)]
        exact ⟨rfl, Or.inr ⟨k, hk, ek, rfl, rfl, rfl, by show lsN q p k ≤ 6; omega⟩⟩
      · rw [a4]
        by_cases e : b.2 ≤ lsN q p k
        · rw [if_pos e, if_pos e, Nat.min_eq_left e]; exact ⟨h1, Or.inr ⟨o, a0, a1, a2, a3, rfl, a5⟩⟩
        · rw [if_neg e, if_neg e, Nat.min_eq_right (by omega)]; exact ⟨rfl, Or.inr ⟨k, hk, ek, rfl, rfl, rfl, by show lsN q p k ≤ 6; omega⟩⟩) ⟨rfl, Or.inl ⟨rfl, rfl, rfl⟩⟩
theorem t162 {h : mH} {a : Nat} {q : LQ} (H : LibS h a q) (W : QW q) {p : Nat} (hp : p < q 0 1) : f162 h a (iN p) = some (zN (up (lef q p) (q 0 1) (none, 7)).1) := by
  have hm := W.1.2.1
  unfold f162
  refine lp_up (fun k (b : Option Nat × Nat) => (zN b.1, iN b.2, iN k)) (lef q p) (fun b => zN b.1) (fun _ b => b.2 ≤ 7) (q 0 1) (a0 := (none, 7)) (by decide) ?_ ?_ ?_ (by omega)
  · intro k b hk hb
    unfold lef
    split
    · exact hb
    next ek =>
      split
      · exact hb
      · have := (ls_pc W hp ek).2; show lsN q p k ≤ 7; omega
  · intro k b hk hb
    unfold f162_8 f162_45 lef
    by_cases ek : k = p
    · simp (disch := omega) only [gT, nbeq, Option.isSome_some, Option.getD_some, Bool.and_true, Bool.true_and, Bool.and_self, mX_some, bS, bN_if, bN_01, i1_01, i0_01, if_true, if_false, Bool.false_eq_true, false_and, and_false, and_true, true_and, and_self, Bool.or_false, Bool.false_or, Bool.or_true, Bool.true_or, Bool.false_and, Bool.and_false, decide_true, decide_false, L0, L1, L2, L3, L4, L5, L6, L7, L8, L9, L10, L11, L12, L13, L14, L15, L16, L17, L18, L19, L20, L21, L22, L23, L24, L25, L27, L33, L39, L40, L45, L48, L57, L60, L72, L90, L97, L98, L99, L100, L121, L122, L242, L255, L256, L580, L600, L1000, L1584, L1000000, Ln1, iN_add, iN_and, iN_or, iN_nd, iN_shl, iN_shr, iN_cl, iN_in, iN_mul, H.k, H.r0, H.r1, H.r2, H.r3, H.r4, H.r5, H.k1, H.k2, H.k3, H.k4, H.k5, H.k6, H.n, H.m, H.lp, H.hr, H.tp, H.ln, H.lk, H.me, H.he, ile_n, ieq_p, ek]
    · have := (ls_pc W hp ek).2
      simp (disch := omega) only [gT, nbeq, Option.isSome_some, Option.getD_some, Bool.and_true, Bool.true_and, Bool.and_self, mX_some, bS, bN_if, bN_01, i1_01, i0_01, if_true, if_false, Bool.false_eq_true, false_and, and_false, and_true, true_and, and_self, Bool.or_false, Bool.false_or, Bool.or_true, Bool.true_or, Bool.false_and, Bool.and_false, decide_true, decide_false, L0, L1, L2, L3, L4, L5, L6, L7, L8, L9, L10, L11, L12, L13, L14, L15, L16, L17, L18, L19, L20, L21, L22, L23, L24, L25, L27, L33, L39, L40, L45, L48, L57, L60, L72, L90, L97, L98, L99, L100, L121, L122, L242, L255, L256, L580, L600, L1000, L1584, L1000000, Ln1, iN_add, iN_and, iN_or, iN_nd, iN_shl, iN_shr, iN_cl, iN_in, iN_mul, H.k, H.r0, H.r1, H.r2, H.r3, H.r4, H.r5, H.k1, H.k2, H.k3, H.k4, H.k5, H.k6, H.n, H.m, H.lp, H.hr, H.tp, H.ln, H.lk, H.me, H.he, ile_n, ieq_n, t163 H W hp hk ek, ile_d, ek]
      split <;> rfl
  · intro b _
    unfold f162_8
    simp (disch := omega) only [gT, nbeq, Option.isSome_some, Option.getD_some, Bool.and_true, Bool.true_and, Bool.and_self, mX_some, bS, bN_if, bN_01, i1_01, i0_01, if_true, if_false, Bool.false_eq_true, false_and, and_false, and_true, true_and, and_self, Bool.or_false, Bool.false_or, Bool.or_true, Bool.true_or, Bool.false_and, Bool.and_false, decide_true, decide_false, L0, L1, L2, L3, L4, L5, L6, L7, L8, L9, L10, L11, L12, L13, L14, L15, L16, L17, L18, L19, L20, L21, L22, L23, L24, L25, L27, L33, L39, L40, L45, L48, L57, L60, L72, L90, L97, L98, L99, L100, L121, L122, L242, L255, L256, L580, L600, L1000, L1584, L1000000, Ln1, iN_add, iN_and, iN_or, iN_nd, iN_shl, iN_shr, iN_cl, iN_in, iN_mul, H.k, H.r0, H.r1, H.r2, H.r3, H.r4, H.r5, H.k1, H.k2, H.k3, H.k4, H.k5, H.k6, H.n, H.m, H.lp, H.hr, H.tp, H.ln, H.lk, H.me, H.he, ile_p]
theorem t291l {h : mH} {q : LQ} (H : MoS h q) (W : QW q) {p : Nat} (hp : p < q 0 1) {l3 : Int32} : mLoop (f291_34 h 193 (iN p) l3) mFuel (jN, iN 1000000, iN 0) = some ((fun b : Option Nat × Nat => (match b.1 with
    | none => jN
    | some o => if l3 = iN 0 then iN o else iN b.2, h)) (up (leg q p) (q 0 1) (none, 1000000))) := by
  have hm := W.1.2.1
  have w := H.1
  refine lp_up (fun k (b : Option Nat × Nat) => (zN b.1, iN b.2, iN k)) (leg q p) (fun b : Option Nat × Nat => (match b.1 with
    | none => jN
    | some o => if l3 = iN 0 then iN o else iN b.2, h)) (fun k b => b.2 ≤ 1000000 ∧ ∀ p, b.1 = some p → p < 6) (q 0 1) (a0 := (none, 1000000)) ⟨by decide, fun p hp => by cases hp⟩ ?_ ?_ ?_ (by omega)
  · intro k b hk hb
    refine ⟨?_, fun o ho => ?_⟩
    · show min b.2 _ ≤ _; omega
    · change (if b.2 ≤ (if k = p then 1000000 else lsN q p k) then b.1 else some k) = some o at ho
      by_cases hh : b.2 ≤ (if k = p then 1000000 else lsN q p k)
      · rw [if_pos hh] at ho; exact hb.2 o ho
      · rw [if_neg hh] at ho; cases ho; omega
  · intro k b hk hb
    unfold f291_34 f291_73 f291_89 leg
    by_cases ek : k = p
    · simp (disch := omega) only [gT, nbeq, Option.isSome_some, Option.getD_some, Bool.and_true, Bool.true_and, Bool.and_self, mX_some, bS, bN_if, bN_01, i1_01, i0_01, if_true, if_false, Bool.false_eq_true, false_and, and_false, and_true, true_and, and_self, Bool.or_false, Bool.false_or, Bool.or_true, Bool.true_or, Bool.false_and, Bool.and_false, decide_true, decide_false, L0, L1, L2, L3, L4, L5, L6, L7, L8, L9, L10, L11, L12, L13, L14, L15, L16, L17, L18, L19, L20, L21, L22, L23, L24, L25, L27, L33, L39, L40, L45, L48, L57, L60, L72, L90, L97, L98, L99, L100, L121, L122, L242, L255, L256, L580, L600, L1000, L1584, L1000000, Ln1, iN_add, iN_and, iN_or, iN_nd, iN_shl, iN_shr, iN_cl, iN_in, iN_mul, k193 w, r193_1 w, r193_2 w, r193_3 w, r193_4 w, r193_5 w, r193_6 w, r193_7 w, r193_8 w, r193_18 w, r193_19 w, r193_32 w, r193_33 w, r193_34 w, r193_36 w, r193_38 w, r193_39 w, r193_40 w, r193_42 w, r193_45 w, r193_46 w, r193_47 w, r193_48 w, r193_49 w, r193_50 w, ile_n, H.m, ieq_p, t195, ile_d, ek]
      split <;> rfl
    · have h5 := ls_pc W hp ek
      have hl := nws_lt (q := q) (aw := 1 <<< k) (d := 9) (sh1_lt hp)
      have h6 := pw_6 hm
      simp (disch := omega) only [gT, nbeq, Option.isSome_some, Option.getD_some, Bool.and_true, Bool.true_and, Bool.and_self, mX_some, bS, bN_if, bN_01, i1_01, i0_01, if_true, if_false, Bool.false_eq_true, false_and, and_false, and_true, true_and, and_self, Bool.or_false, Bool.false_or, Bool.or_true, Bool.true_or, Bool.false_and, Bool.and_false, decide_true, decide_false, L0, L1, L2, L3, L4, L5, L6, L7, L8, L9, L10, L11, L12, L13, L14, L15, L16, L17, L18, L19, L20, L21, L22, L23, L24, L25, L27, L33, L39, L40, L45, L48, L57, L60, L72, L90, L97, L98, L99, L100, L121, L122, L242, L255, L256, L580, L600, L1000, L1584, L1000000, Ln1, iN_add, iN_and, iN_or, iN_nd, iN_shl, iN_shr, iN_cl, iN_in, iN_mul, k193 w, r193_1 w, r193_2 w, r193_3 w, r193_4 w, r193_5 w, r193_6 w, r193_7 w, r193_8 w, r193_18 w, r193_19 w, r193_32 w, r193_33 w, r193_34 w, r193_36 w, r193_38 w, r193_39 w, r193_40 w, r193_42 w, r193_45 w, r193_46 w, r193_47 w, r193_48 w, r193_49 w, r193_50 w, ile_n, H.m, ieq_n, t246 H W, t244, h5.1, iN_sub, Nat.add_sub_cancel, ile_d, t195, ek]
      split <;> rfl
  · intro b hb
    unfold f291_34 f291_116 f291_123
    simp (disch := omega) only [gT, nbeq, Option.isSome_some, Option.getD_some, Bool.and_true, Bool.true_and, Bool.and_self, mX_some, bS, bN_if, bN_01, i1_01, i0_01, if_true, if_false, Bool.false_eq_true, false_and, and_false, and_true, true_and, and_self, Bool.or_false, Bool.false_or, Bool.or_true, Bool.true_or, Bool.false_and, Bool.and_false, decide_true, decide_false, L0, L1, L2, L3, L4, L5, L6, L7, L8, L9, L10, L11, L12, L13, L14, L15, L16, L17, L18, L19, L20, L21, L22, L23, L24, L25, L27, L33, L39, L40, L45, L48, L57, L60, L72, L90, L97, L98, L99, L100, L121, L122, L242, L255, L256, L580, L600, L1000, L1584, L1000000, Ln1, iN_add, iN_and, iN_or, iN_nd, iN_shl, iN_shr, iN_cl, iN_in, iN_mul, k193 w, r193_1 w, r193_2 w, r193_3 w, r193_4 w, r193_5 w, r193_6 w, r193_7 w, r193_8 w, r193_18 w, r193_19 w, r193_32 w, r193_33 w, r193_34 w, r193_36 w, r193_38 w, r193_39 w, r193_40 w, r193_42 w, r193_45 w, r193_46 w, r193_47 w, r193_48 w, r193_49 w, r193_50 w, ile_p, H.m]
    rw [zj (fun v hv => by have := hb.2 v hv; omega)]
    cases hb1 : b.1 with
    | none => simp only [zN_none, Option.isSome_none, gT, nbeq, Option.isSome_some, Option.getD_some, Bool.and_true, Bool.true_and, Bool.and_self, mX_some, bS, bN_if, bN_01, i1_01, i0_01, if_true, if_false, Bool.false_eq_true, false_and, and_false, and_true, true_and, and_self, Bool.or_false, Bool.false_or, Bool.or_true, Bool.true_or, Bool.false_and, Bool.and_false, decide_true, decide_false]
    | some p =>
      simp only [zN_some, gT, nbeq, Option.isSome_some, Option.getD_some, Bool.and_true, Bool.true_and, Bool.and_self, mX_some, bS, bN_if, bN_01, i1_01, i0_01, if_true, if_false, Bool.false_eq_true, false_and, and_false, and_true, true_and, and_self, Bool.or_false, Bool.false_or, Bool.or_true, Bool.true_or, Bool.false_and, Bool.and_false, decide_true, decide_false]
      split <;> simp only [gT, nbeq, Option.isSome_some, Option.getD_some, Bool.and_true, Bool.true_and, Bool.and_self, mX_some, bS, bN_if, bN_01, i1_01, i0_01, if_true, if_false, Bool.false_eq_true, false_and, and_false, and_true, true_and, and_self, Bool.or_false, Bool.false_or, Bool.or_true, Bool.true_or, Bool.false_and, Bool.and_false, decide_true, decide_false]
section PB
variable {h : mH}
theorem c_centre (R : Rel h) (x1 x2 : Int32) : ∃ v, f159 h 0 x1 x2 = some v ∧ ∀ h0, FQ h h0 → ∃ h2, f290 h0 193 x1 x2 = some (v, h2) ∧ FQ h0 h2 := by
  have w := R.1
  unfold f159 f159_31
  simp only [gT, nbeq, Option.isSome_some, Option.getD_some, Bool.and_true, Bool.true_and, Bool.and_self, mX_some, bS, bN_if, bN_01, i1_01, i0_01, if_true, if_false, Bool.false_eq_true, false_and, and_false, and_true, true_and, and_self, Bool.or_false, Bool.false_or, Bool.or_true, Bool.true_or, Bool.false_and, Bool.and_false, decide_true, decide_false, k0 w, r0_0 w, r0_1 w, r0_2 w, r0_3 w, r0_4 w, r0_5 w, r0_6 w, r0_7 w, r0_8 w, k1 w, r1_0 w, r1_1 w, r1_2 w, r1_3 w, r1_4 w]
  rcases R.pick x1 with ⟨e1, e2⟩ | ⟨i, q, hi, rfl, W, H, e1, e2⟩
  · simp only [gT, nbeq, Option.isSome_some, Option.getD_some, Bool.and_true, Bool.true_and, Bool.and_self, mX_some, bS, bN_if, bN_01, i1_01, i0_01, if_true, if_false, Bool.false_eq_true, false_and, and_false, and_true, true_and, and_self, Bool.or_false, Bool.false_or, Bool.or_true, Bool.true_or, Bool.false_and, Bool.and_false, decide_true, decide_false, e1]
    refine ⟨_, rfl, fun h0 F => ?_⟩
    have w0 := R.1.q F
    unfold f290
    simp (disch := omega) only [gT, nbeq, Option.isSome_some, Option.getD_some, Bool.and_true, Bool.true_and, Bool.and_self, mX_some, bS, bN_if, bN_01, i1_01, i0_01, if_true, if_false, Bool.false_eq_true, false_and, and_false, and_true, true_and, and_self, Bool.or_false, Bool.false_or, Bool.or_true, Bool.true_or, Bool.false_and, Bool.and_false, decide_true, decide_false, L0, L1, L2, L3, L4, L5, L6, L7, L8, L9, L10, L11, L12, L13, L14, L15, L16, L17, L18, L19, L20, L21, L22, L23, L24, L25, L27, L33, L39, L40, L45, L48, L57, L60, L72, L90, L97, L98, L99, L100, L121, L122, L242, L255, L256, L580, L600, L1000, L1584, L1000000, Ln1, iN_add, iN_and, iN_or, iN_nd, iN_shl, iN_shr, iN_cl, iN_in, iN_mul, k193 w0, r193_1 w0, r193_2 w0, r193_3 w0, r193_4 w0, r193_5 w0, r193_6 w0, r193_7 w0, r193_8 w0, r193_18 w0, r193_19 w0, r193_32 w0, r193_33 w0, r193_34 w0, r193_36 w0, r193_38 w0, r193_39 w0, r193_40 w0, r193_42 w0, r193_45 w0, r193_46 w0, r193_47 w0, r193_48 w0, r193_49 w0, r193_50 w0, e2 _ F.co]
    exact ⟨_, rfl, FQ.c0⟩
  · have hm6 := W.1.2.1
    have hr := cen_rel q (q 0 1) (Nat.le_refl _)
    generalize hb : up (cef q) (q 0 1) (none, 7) = b at hr
    generalize hc : up (ceg q) (q 0 1) (none, 1000000) = c at hr
    simp (disch := omega) only [gT, nbeq, Option.isSome_some, Option.getD_some, Bool.and_true, Bool.true_and, Bool.and_self, mX_some, bS, bN_if, bN_01, i1_01, i0_01, if_true, if_false, Bool.false_eq_true, false_and, and_false, and_true, true_and, and_self, Bool.or_false, Bool.false_or, Bool.or_true, Bool.true_or, Bool.false_and, Bool.and_false, decide_true, decide_false, L0, L1, L2, L3, L4, L5, L6, L7, L8, L9, L10, L11, L12, L13, L14, L15, L16, L17, L18, L19, L20, L21, L22, L23, L24, L25, L27, L33, L39, L40, L45, L48, L57, L60, L72, L90, L97, L98, L99, L100, L121, L122, L242, L255, L256, L580, L600, L1000, L1584, L1000000, Ln1, iN_add, iN_and, iN_or, iN_nd, iN_shl, iN_shr, iN_cl, iN_in, iN_mul, e1, H.k, t160 H W, hb, t98 H W]
    have mo : ∀ h0, FQ h h0 → ∃ h2, f290 h0 193 (iN i) x2 = some ((match c.1 with
        | none => jN
        | some p => if x2 = iN 0 then iN p else iN c.2), h2) ∧ FQ h0 h2 := fun h0 F => by
      have w0 := R.1.q F
      obtain ⟨h', f1, f2, f3, f4, f5⟩ := e2 _ F.co
      have := t290l f4 W (l2 := x2)
      rw [hc] at this
      unfold f290
      simp (disch := omega) only [gT, nbeq, Option.isSome_some, Option.getD_some, Bool.and_true, Bool.true_and, Bool.and_self, mX_some, bS, bN_if, bN_01, i1_01, i0_01, if_true, if_false, Bool.false_eq_true, false_and, and_false, and_true, true_and, and_self, Bool.or_false, Bool.false_or, Bool.or_true, Bool.true_or, Bool.false_and, Bool.and_false, decide_true, decide_false, L0, L1, L2, L3, L4, L5, L6, L7, L8, L9, L10, L11, L12, L13, L14, L15, L16, L17, L18, L19, L20, L21, L22, L23, L24, L25, L27, L33, L39, L40, L45, L48, L57, L60, L72, L90, L97, L98, L99, L100, L121, L122, L242, L255, L256, L580, L600, L1000, L1584, L1000000, Ln1, iN_add, iN_and, iN_or, iN_nd, iN_shl, iN_shr, iN_cl, iN_in, iN_mul, k193 w0, r193_1 w0, r193_2 w0, r193_3 w0, r193_4 w0, r193_5 w0, r193_6 w0, r193_7 w0, r193_8 w0, r193_18 w0, r193_19 w0, r193_32 w0, r193_33 w0, r193_34 w0, r193_36 w0, r193_38 w0, r193_39 w0, r193_40 w0, r193_42 w0, r193_45 w0, r193_46 w0, r193_47 w0, r193_48 w0, r193_49 w0, r193_50 w0, f1, this]
      exact ⟨_, rfl, FQ.c0.tr f2.qM⟩
    obtain ⟨h1, ⟨a1, a2, a3⟩ | ⟨p, a1, a2, a3, a4, a5⟩⟩ := hr
    · rw [← h1, a1] at mo
      refine ⟨jN, ?_, mo⟩
      rw [a1]
      simp only [zN_none, jj_p]
      split <;> rfl
    · rw [← h1, a2] at mo
      refine ⟨if x2 = iN 0 then iN p else iN c.2, ?_, mo⟩
      rw [a2, a4]
      simp (disch := omega) only [zN_some, ij_n, L0, L1, L2, L3, L4, L5, L6, L7, L8, L9, L10, L11, L12, L13, L14, L15, L16, L17, L18, L19, L20, L21, L22, L23, L24, L25, L27, L33, L39, L40, L45, L48, L57, L60, L72, L90, L97, L98, L99, L100, L121, L122, L242, L255, L256, L580, L600, L1000, L1584, L1000000, Ln1, iN_add, iN_and, iN_or, iN_nd, iN_shl, iN_shr, iN_cl, iN_in, iN_mul]
      rw [show 2 ^ q 0 1 - 1 = allP q from rfl, t158 H W (sh1_lt a1) (allP_lt W), a3]
      split <;> rfl
theorem c_loss (R : Rel h) (x1 x2 x3 : Int32) : ∃ v, f161 h 0 x1 x2 x3 = some v ∧ ∀ h0, FQ h h0 → ∃ h2, f291 h0 193 x1 x2 x3 = some (v, h2) ∧ FQ h0 h2 := by
  have w := R.1
  unfold f161 f161_24 f161_44
  simp only [gT, nbeq, Option.isSome_some, Option.getD_some, Bool.and_true, Bool.true_and, Bool.and_self, mX_some, bS, bN_if, bN_01, i1_01, i0_01, if_true, if_false, Bool.false_eq_true, false_and, and_false, and_true, true_and, and_self, Bool.or_false, Bool.false_or, Bool.or_true, Bool.true_or, Bool.false_and, Bool.and_false, decide_true, decide_false, k0 w, r0_0 w, r0_1 w, r0_2 w, r0_3 w, r0_4 w, r0_5 w, r0_6 w, r0_7 w, r0_8 w, k1 w, r1_0 w, r1_1 w, r1_2 w, r1_3 w, r1_4 w]
  rcases R.pick x1 with ⟨e1, e2⟩ | ⟨i, q, hi, rfl, W, H, e1, e2⟩
  · simp only [gT, nbeq, Option.isSome_some, Option.getD_some, Bool.and_true, Bool.true_and, Bool.and_self, mX_some, bS, bN_if, bN_01, i1_01, i0_01, if_true, if_false, Bool.false_eq_true, false_and, and_false, and_true, true_and, and_self, Bool.or_false, Bool.false_or, Bool.or_true, Bool.true_or, Bool.false_and, Bool.and_false, decide_true, decide_false, e1]
    refine ⟨_, rfl, fun h0 F => ?_⟩
    have w0 := R.1.q F
    unfold f291 f291_21
    simp (disch := omega) only [gT, nbeq, Option.isSome_some, Option.getD_some, Bool.and_true, Bool.true_and, Bool.and_self, mX_some, bS, bN_if, bN_01, i1_01, i0_01, if_true, if_false, Bool.false_eq_true, false_and, and_false, and_true, true_and, and_self, Bool.or_false, Bool.false_or, Bool.or_true, Bool.true_or, Bool.false_and, Bool.and_false, decide_true, decide_false, L0, L1, L2, L3, L4, L5, L6, L7, L8, L9, L10, L11, L12, L13, L14, L15, L16, L17, L18, L19, L20, L21, L22, L23, L24, L25, L27, L33, L39, L40, L45, L48, L57, L60, L72, L90, L97, L98, L99, L100, L121, L122, L242, L255, L256, L580, L600, L1000, L1584, L1000000, Ln1, iN_add, iN_and, iN_or, iN_nd, iN_shl, iN_shr, iN_cl, iN_in, iN_mul, k193 w0, r193_1 w0, r193_2 w0, r193_3 w0, r193_4 w0, r193_5 w0, r193_6 w0, r193_7 w0, r193_8 w0, r193_18 w0, r193_19 w0, r193_32 w0, r193_33 w0, r193_34 w0, r193_36 w0, r193_38 w0, r193_39 w0, r193_40 w0, r193_42 w0, r193_45 w0, r193_46 w0, r193_47 w0, r193_48 w0, r193_49 w0, r193_50 w0, e2 _ F.co]
    exact ⟨_, rfl, FQ.c0⟩
  · have hm6 := W.1.2.1
    simp (disch := omega) only [gT, nbeq, Option.isSome_some, Option.getD_some, Bool.and_true, Bool.true_and, Bool.and_self, mX_some, bS, bN_if, bN_01, i1_01, i0_01, if_true, if_false, Bool.false_eq_true, false_and, and_false, and_true, true_and, and_self, Bool.or_false, Bool.false_or, Bool.or_true, Bool.true_or, Bool.false_and, Bool.and_false, decide_true, decide_false, L0, L1, L2, L3, L4, L5, L6, L7, L8, L9, L10, L11, L12, L13, L14, L15, L16, L17, L18, L19, L20, L21, L22, L23, L24, L25, L27, L33, L39, L40, L45, L48, L57, L60, L72, L90, L97, L98, L99, L100, L121, L122, L242, L255, L256, L580, L600, L1000, L1584, L1000000, Ln1, iN_add, iN_and, iN_or, iN_nd, iN_shl, iN_shr, iN_cl, iN_in, iN_mul, e1, H.k, t57 H W]
    cases hp : rg x2 (q 0 1) with
    | false =>
      simp only [gT, nbeq, Option.isSome_some, Option.getD_some, Bool.and_true, Bool.true_and, Bool.and_self, mX_some, bS, bN_if, bN_01, i1_01, i0_01, if_true, if_false, Bool.false_eq_true, false_and, and_false, and_true, true_and, and_self, Bool.or_false, Bool.false_or, Bool.or_true, Bool.true_or, Bool.false_and, Bool.and_false, decide_true, decide_false]
      refine ⟨_, rfl, fun h0 F => ?_⟩
      have w0 := R.1.q F
      obtain ⟨h', f1, f2, f3, f4, f5⟩ := e2 _ F.co
      have w1 := f4.1
      unfold f291 f291_21
      simp (disch := omega) only [gT, nbeq, Option.isSome_some, Option.getD_some, Bool.and_true, Bool.true_and, Bool.and_self, mX_some, bS, bN_if, bN_01, i1_01, i0_01, if_true, if_false, Bool.false_eq_true, false_and, and_false, and_true, true_and, and_self, Bool.or_false, Bool.false_or, Bool.or_true, Bool.true_or, Bool.false_and, Bool.and_false, decide_true, decide_false, L0, L1, L2, L3, L4, L5, L6, L7, L8, L9, L10, L11, L12, L13, L14, L15, L16, L17, L18, L19, L20, L21, L22, L23, L24, L25, L27, L33, L39, L40, L45, L48, L57, L60, L72, L90, L97, L98, L99, L100, L121, L122, L242, L255, L256, L580, L600, L1000, L1584, L1000000, Ln1, iN_add, iN_and, iN_or, iN_nd, iN_shl, iN_shr, iN_cl, iN_in, iN_mul, k193 w0, r193_1 w0, r193_2 w0, r193_3 w0, r193_4 w0, r193_5 w0, r193_6 w0, r193_7 w0, r193_8 w0, r193_18 w0, r193_19 w0, r193_32 w0, r193_33 w0, r193_34 w0, r193_36 w0, r193_38 w0, r193_39 w0, r193_40 w0, r193_42 w0, r193_45 w0, r193_46 w0, r193_47 w0, r193_48 w0, r193_49 w0, r193_50 w0, k193 w1, r193_1 w1, r193_2 w1, r193_3 w1, r193_4 w1, r193_5 w1, r193_6 w1, r193_7 w1, r193_8 w1, r193_18 w1, r193_19 w1, r193_32 w1, r193_33 w1, r193_34 w1, r193_36 w1, r193_38 w1, r193_39 w1, r193_40 w1, r193_42 w1, r193_45 w1, r193_46 w1, r193_47 w1, r193_48 w1, r193_49 w1, r193_50 w1, f1, t226 f4 W, hp]
      exact ⟨_, rfl, FQ.c0.tr f2.qM⟩
    | true =>
      obtain ⟨p, hpp, rfl, _⟩ := rg_t hp
      have hr := les_rel W hpp (q 0 1) (Nat.le_refl _)
      generalize hb : up (lef q p) (q 0 1) (none, 7) = b at hr
      generalize hc : up (leg q p) (q 0 1) (none, 1000000) = c at hr
      simp (disch := omega) only [gT, nbeq, Option.isSome_some, Option.getD_some, Bool.and_true, Bool.true_and, Bool.and_self, mX_some, bS, bN_if, bN_01, i1_01, i0_01, if_true, if_false, Bool.false_eq_true, false_and, and_false, and_true, true_and, and_self, Bool.or_false, Bool.false_or, Bool.or_true, Bool.true_or, Bool.false_and, Bool.and_false, decide_true, decide_false, t162 H W hpp, hb]
      have mo : ∀ h0, FQ h h0 → ∃ h2, f291 h0 193 (iN i) (iN p) x3 = some ((match c.1 with
          | none => jN
          | some o => if x3 = iN 0 then iN o else iN c.2), h2) ∧ FQ h0 h2 := fun h0 F => by
        have w0 := R.1.q F
        obtain ⟨h', f1, f2, f3, f4, f5⟩ := e2 _ F.co
        have w1 := f4.1
        have := t291l f4 W hpp (l3 := x3)
        rw [hc] at this
        unfold f291
        simp (disch := omega) only [gT, nbeq, Option.isSome_some, Option.getD_some, Bool.and_true, Bool.true_and, Bool.and_self, mX_some, bS, bN_if, bN_01, i1_01, i0_01, if_true, if_false, Bool.false_eq_true, false_and, and_false, and_true, true_and, and_self, Bool.or_false, Bool.false_or, Bool.or_true, Bool.true_or, Bool.false_and, Bool.and_false, decide_true, decide_false, L0, L1, L2, L3, L4, L5, L6, L7, L8, L9, L10, L11, L12, L13, L14, L15, L16, L17, L18, L19, L20, L21, L22, L23, L24, L25, L27, L33, L39, L40, L45, L48, L57, L60, L72, L90, L97, L98, L99, L100, L121, L122, L242, L255, L256, L580, L600, L1000, L1584, L1000000, Ln1, iN_add, iN_and, iN_or, iN_nd, iN_shl, iN_shr, iN_cl, iN_in, iN_mul, k193 w0, r193_1 w0, r193_2 w0, r193_3 w0, r193_4 w0, r193_5 w0, r193_6 w0, r193_7 w0, r193_8 w0, r193_18 w0, r193_19 w0, r193_32 w0, r193_33 w0, r193_34 w0, r193_36 w0, r193_38 w0, r193_39 w0, r193_40 w0, r193_42 w0, r193_45 w0, r193_46 w0, r193_47 w0, r193_48 w0, r193_49 w0, r193_50 w0, k193 w1, r193_1 w1, r193_2 w1, r193_3 w1, r193_4 w1, r193_5 w1, r193_6 w1, r193_7 w1, r193_8 w1, r193_18 w1, r193_19 w1, r193_32 w1, r193_33 w1, r193_34 w1, r193_36 w1, r193_38 w1, r193_39 w1, r193_40 w1, r193_42 w1, r193_45 w1, r193_46 w1, r193_47 w1, r193_48 w1, r193_49 w1, r193_50 w1, f1, t226 f4 W, hp, this]
        exact ⟨_, rfl, FQ.c0.tr f2.qM⟩
      obtain ⟨h1, ⟨a1, a2, a3⟩ | ⟨o, a0, a1, a2, a3, a4, a5⟩⟩ := hr
      · rw [← h1, a1] at mo
        refine ⟨jN, ?_, mo⟩
        rw [a1]
        simp only [zN_none, jj_p]
        split <;> rfl
      · rw [← h1, a2] at mo
        refine ⟨if x3 = iN 0 then iN o else iN c.2, ?_, mo⟩
        rw [zj (fun v hv => by rw [a2] at hv; cases hv; omega)]
        rw [a2, a4, a3]
        simp (disch := omega) only [zN_some, gT, nbeq, Option.isSome_some, Option.getD_some, Bool.and_true, Bool.true_and, Bool.and_self, mX_some, bS, bN_if, bN_01, i1_01, i0_01, if_true, if_false, Bool.false_eq_true, false_and, and_false, and_true, true_and, and_self, Bool.or_false, Bool.false_or, Bool.or_true, Bool.true_or, Bool.false_and, Bool.and_false, decide_true, decide_false, L0, L1, L2, L3, L4, L5, L6, L7, L8, L9, L10, L11, L12, L13, L14, L15, L16, L17, L18, L19, L20, L21, L22, L23, L24, L25, L27, L33, L39, L40, L45, L48, L57, L60, L72, L90, L97, L98, L99, L100, L121, L122, L242, L255, L256, L580, L600, L1000, L1584, L1000000, Ln1, iN_add, iN_and, iN_or, iN_nd, iN_shl, iN_shr, iN_cl, iN_in, iN_mul]
        rw [t163 H W hpp a0 a1]
        split <;> rfl
end PB
