/-! shelfBy: the reference's -/
/-- what is spent at the set t, the sets below d being gone through, and of d the CHAPTERS below c -/
def spX (q : LQ) (lamp aw : Nat) (R : Nat → Nat) (t d c : Nat) : Nat := if t = aw then 0 else mn (fun e => rsP q lamp R t e && (decide (nd t (1 <<< e) < d) || (decide (nd t (1 <<< e) = d) && decide (e < c)))) (rsG q lamp R t) (q 0 0) 1000000
section SX
variable {q : LQ} {lamp aw : Nat} {R : Nat → Nat}
theorem spX_le (t d c : Nat) : spX q lamp aw R t d c ≤ 1000000 := by
  unfold spX
  split
  · omega
  · exact mn_le _ _ _ _
theorem spX_done (hR : ∀ t, R t = rsF q lamp aw t R) {t d c : Nat} (h : t ≤ d) : spX q lamp aw R t d c = R t := by
  rw [hR t]
  unfold spX rsF
  by_cases e : t = aw
  · rw [if_pos e, if_pos e]
  · rw [if_neg e, if_neg e]
    refine mn_congr _ (fun k _ => ⟨?_, fun _ => rfl⟩)
    cases e2 : rsP q lamp R t k with
    | false => rfl
    | true =>
      have h1 := nd_less (rsP_t.1 e2).1
      rw [decide_eq_true (show nd t (1 <<< k) < d by omega)]; rfl
theorem spX_0 (hR : ∀ t, R t = rsF q lamp aw t R) (t : Nat) : spX q lamp aw R t aw 0 = if t = aw then 0 else 1000000 := by
  unfold spX
  by_cases e : t = aw
  · rw [if_pos e, if_pos e]
  · rw [if_neg e, if_neg e]
    refine mn_no (fun k _ => ?_)
    cases e2 : rsP q lamp R t k with
    | false => rfl
    | true =>
      have h1 := (rsP_t.1 e2).2.2.2
      have h2 : ¬ nd t (1 <<< k) < aw := fun h => by have := rs_lo hR h; omega
      rw [decide_eq_false h2]; simp
theorem spX_next {t d c : Nat} (h : c = q 0 0 ∨ 1000000 ≤ R d) : spX q lamp aw R t d c = spX q lamp aw R t (d + 1) 0 := by
  unfold spX
  by_cases e : t = aw
  · rw [if_pos e, if_pos e]
  · rw [if_neg e, if_neg e]
    refine mn_congr _ (fun k hk => ⟨?_, fun _ => rfl⟩)
    cases e2 : rsP q lamp R t k with
    | false => rfl
    | true =>
      have h1 := (rsP_t.1 e2).2.2.2
      by_cases e3 : nd t (1 <<< k) = d
      · rw [e3] at h1
        rcases h with h | h
        · rw [e3, decide_eq_true (show k < c by omega), decide_eq_true (show d < d + 1 by omega)]; simp
        · omega
      · rw [decide_eq_false e3]
        have e4 : decide (nd t (1 <<< k) < d) = decide (nd t (1 <<< k) < d + 1) := by rw [decide_eq_decide]; omega
        rw [e4]; simp
theorem spX_same {t d c : Nat} (h : t = d ||| 1 <<< c → d.testBit c = false → ¬ (nd (q 3 c) d = 0 ∧ q 1 c ≤ lamp)) : spX q lamp aw R t d (c + 1) = spX q lamp aw R t d c := by
  unfold spX
  by_cases e : t = aw
  · rw [if_pos e, if_pos e]
  · rw [if_neg e, if_neg e]
    refine mn_congr _ (fun k hk => ⟨?_, fun _ => rfl⟩)
    cases e2 : rsP q lamp R t k with
    | false => rfl
    | true =>
      obtain ⟨h1, h2, h3, h4⟩ := rsP_t.1 e2
      by_cases e3 : nd t (1 <<< k) = d
      · by_cases e4 : k = c
        · subst e4
          have e5 := nd_or h1
          have e6 := nd_bt0 t k
          rw [e3] at e5 e6 h2
          exact absurd ⟨h2, h3⟩ (h e5.symm e6)
        · have e5 : decide (k < c + 1) = decide (k < c) := by rw [decide_eq_decide]; omega
          rw [e5]
      · rw [decide_eq_false e3]; rfl
theorem spX_step {d c : Nat} (hc : c < q 0 0) (hd : aw ≤ d) (h0 : d.testBit c = false) (h1 : nd (q 3 c) d = 0) (h2 : q 1 c ≤ lamp) (h3 : R d < 1000000) : spX q lamp aw R (d ||| 1 <<< c) d (c + 1) = min (spX q lamp aw R (d ||| 1 <<< c) d c) (nxM lamp (R d) (q 1 c)) := by
  have h4 : (d ||| 1 <<< c).testBit c = true := by rw [Nat.testBit_or, tb_sh, decide_eq_true rfl, Bool.or_true]
  have h5 : nd (d ||| 1 <<< c) (1 <<< c) = d := by
    refine Nat.eq_of_testBit_eq (fun j => ?_)
    rw [nd_tb, Nat.testBit_or, tb_sh]
    by_cases e : c = j
    · subst e; rw [h0]; simp
    · rw [decide_eq_false e]; simp
  have h6 : d < d ||| 1 <<< c := by
    have := nd_less h4
    rw [h5] at this
    exact this
  unfold spX
  rw [if_neg (by omega), if_neg (by omega)]
  have h7 : rsG q lamp R (d ||| 1 <<< c) c = nxM lamp (R d) (q 1 c) := by unfold rsG; rw [h5]
  rw [← h7]
  refine mn_ins hc (fun k hk hne => ?_) ?_ ?_
  · cases e2 : rsP q lamp R (d ||| 1 <<< c) k with
    | false => rfl
    | true =>
      have e5 : decide (k < c + 1) = decide (k < c) := by rw [decide_eq_decide]; omega
      rw [e5]
  · rw [h5, decide_eq_false (Nat.lt_irrefl c), decide_eq_false (Nat.lt_irrefl d)]; simp
  · rw [h5, decide_eq_true (show c < c + 1 by omega), decide_eq_true (show d = d from rfl)]
    rw [rsP_t.2 ⟨h4, by rw [h5]; exact h1, h2, by rw [h5]; exact h3⟩]; simp
end SX
section SM
variable {h : mH} {q : LQ} {lamp aw : Nat} {R : Nat → Nat}
/-- one set gone through -/
theorem t272i {x : Int32} {d : Nat} (H : MoS h q) (W : QW q) (hl : lamp ≤ 12) (hR : ∀ t, R t = rsF q lamp aw t R) (hd : d < 2 ^ q 0 0) (ha : aw ≤ d) (h0 : ∀ t, t < 2 ^ q 0 0 → mI h 212 t = iN (spX q lamp aw R t d 0)) : ∃ h', mLoop (f272_65 193 (iN lamp) x (iN d)) mFuel (iN 0, h) = some (Sum.inl (iN (d + 1), h')) ∧ Fr (fun b => Nat.beq b 212) h h' ∧ ∀ t, t < 2 ^ q 0 0 → mI h' 212 t = iN (spX q lamp aw R t (d + 1) 0) := by
  have hn := W.1.1
  have h8 := pw_8 hn
  have rl := rs_le hR d
  have := lp_inv (body := f272_65 193 (iN lamp) x (iN d)) (P := fun c z => z.1 = iN c ∧ Fr (fun b => Nat.beq b 212) h z.2 ∧ ∀ t, t < 2 ^ q 0 0 → mI z.2 212 t = iN (spX q lamp aw R t d c)) (Q := fun r => ∃ h', r = Sum.inl (iN (d + 1), h') ∧ Fr (fun b => Nat.beq b 212) h h' ∧ ∀ t, t < 2 ^ q 0 0 → mI h' 212 t = iN (spX q lamp aw R t (d + 1) 0)) (q 0 0) (fun c z hc hP => by
    obtain ⟨z1, z2, z3⟩ := hP
    have H2 := H.f212 z2
    have w2 := H2.1
    have ed := z3 d hd
    rw [spX_done hR (Nat.le_refl d)] at ed
    have g5 := W.2.2.1 c (by omega)
    by_cases e1 : 1000000 ≤ R d
    · refine Or.inr ⟨Sum.inl (iN (d + 1), z.2), ?_, z.2, rfl, z2, fun t ht => by rw [← spX_next (Or.inr e1)]; exact z3 t ht⟩
      unfold f272_65 f272_222
      rw [z1]
      simp (disch := omega) only [gT, nbeq, Option.isSome_some, Option.getD_some, Bool.and_true, Bool.true_and, Bool.and_self, mX_some, bS, bN_if, bN_01, i1_01, i0_01, if_true, if_false, Bool.false_eq_true, false_and, and_false, and_true, true_and, and_self, Bool.or_false, Bool.false_or, Bool.or_true, Bool.true_or, Bool.false_and, Bool.and_false, decide_true, decide_false, L0, L1, L2, L3, L4, L5, L6, L7, L8, L9, L10, L11, L12, L13, L14, L15, L16, L17, L18, L19, L20, L21, L22, L23, L24, L25, L27, L33, L39, L40, L45, L48, L57, L60, L72, L90, L97, L98, L99, L100, L121, L122, L242, L255, L256, L580, L600, L1000, L1584, L1000000, Ln1, iN_add, iN_and, iN_or, iN_nd, iN_shl, iN_shr, iN_cl, iN_in, iN_mul, k193 w2, r193_1 w2, r193_2 w2, r193_3 w2, r193_4 w2, r193_5 w2, r193_6 w2, r193_7 w2, r193_8 w2, r193_18 w2, r193_19 w2, r193_32 w2, r193_33 w2, r193_34 w2, r193_36 w2, r193_38 w2, r193_39 w2, r193_40 w2, r193_42 w2, r193_45 w2, r193_46 w2, r193_47 w2, r193_48 w2, r193_49 w2, r193_50 w2, k212 w2, H2.n, ile_n, ed, ile_p]
    · have same : (nd (q 3 c) d = 0 ∧ q 1 c ≤ lamp → d.testBit c = true) → f272_65 193 (iN lamp) x (iN d) z = some (.inl (iN (c + 1), z.2)) → ∃ s', f272_65 193 (iN lamp) x (iN d) z = some (.inl s') ∧ (s'.1 = iN (c + 1) ∧ Fr (fun b => Nat.beq b 212) h s'.2 ∧ ∀ t, t < 2 ^ q 0 0 → mI s'.2 212 t = iN (spX q lamp aw R t d (c + 1))) := fun a1 a2 => ⟨_, a2, rfl, z2, fun t ht => by
        rw [spX_same (fun _ b1 b2 => by rw [a1 b2] at b1; cases b1)]
        exact z3 t ht⟩
      cases hm : mayB q d c with
      | false =>
        refine Or.inl (same (fun b => ?_) ?_)
        · cases e2 : d.testBit c with
          | true => rfl
          | false =>
            unfold mayB at hm
            rw [e2, b.1] at hm
            simp at hm
        · unfold f272_65 f272_216
          rw [z1]
          simp (disch := omega) only [gT, nbeq, Option.isSome_some, Option.getD_some, Bool.and_true, Bool.true_and, Bool.and_self, mX_some, bS, bN_if, bN_01, i1_01, i0_01, if_true, if_false, Bool.false_eq_true, false_and, and_false, and_true, true_and, and_self, Bool.or_false, Bool.false_or, Bool.or_true, Bool.true_or, Bool.false_and, Bool.and_false, decide_true, decide_false, L0, L1, L2, L3, L4, L5, L6, L7, L8, L9, L10, L11, L12, L13, L14, L15, L16, L17, L18, L19, L20, L21, L22, L23, L24, L25, L27, L33, L39, L40, L45, L48, L57, L60, L72, L90, L97, L98, L99, L100, L121, L122, L242, L255, L256, L580, L600, L1000, L1584, L1000000, Ln1, iN_add, iN_and, iN_or, iN_nd, iN_shl, iN_shr, iN_cl, iN_in, iN_mul, k193 w2, r193_1 w2, r193_2 w2, r193_3 w2, r193_4 w2, r193_5 w2, r193_6 w2, r193_7 w2, r193_8 w2, r193_18 w2, r193_19 w2, r193_32 w2, r193_33 w2, r193_34 w2, r193_36 w2, r193_38 w2, r193_39 w2, r193_40 w2, r193_42 w2, r193_45 w2, r193_46 w2, r193_47 w2, r193_48 w2, r193_49 w2, r193_50 w2, k212 w2, H2.n, ile_n, ed, t206 H2, fl1, t220 H2 W, hm]
      | true =>
        by_cases e2 : lamp < q 1 c
        · refine Or.inl (same (fun b => by omega) ?_)
          unfold f272_65 f272_216
          rw [z1]
          simp (disch := omega) only [gT, nbeq, Option.isSome_some, Option.getD_some, Bool.and_true, Bool.true_and, Bool.and_self, mX_some, bS, bN_if, bN_01, i1_01, i0_01, if_true, if_false, Bool.false_eq_true, false_and, and_false, and_true, true_and, and_self, Bool.or_false, Bool.false_or, Bool.or_true, Bool.true_or, Bool.false_and, Bool.and_false, decide_true, decide_false, L0, L1, L2, L3, L4, L5, L6, L7, L8, L9, L10, L11, L12, L13, L14, L15, L16, L17, L18, L19, L20, L21, L22, L23, L24, L25, L27, L33, L39, L40, L45, L48, L57, L60, L72, L90, L97, L98, L99, L100, L121, L122, L242, L255, L256, L580, L600, L1000, L1584, L1000000, Ln1, iN_add, iN_and, iN_or, iN_nd, iN_shl, iN_shr, iN_cl, iN_in, iN_mul, k193 w2, r193_1 w2, r193_2 w2, r193_3 w2, r193_4 w2, r193_5 w2, r193_6 w2, r193_7 w2, r193_8 w2, r193_18 w2, r193_19 w2, r193_32 w2, r193_33 w2, r193_34 w2, r193_36 w2, r193_38 w2, r193_39 w2, r193_40 w2, r193_42 w2, r193_45 w2, r193_46 w2, r193_47 w2, r193_48 w2, r193_49 w2, r193_50 w2, k212 w2, H2.n, ile_n, ed, t206 H2, fl1, t220 H2 W, hm, ilt_p]
        · have tb := mayB_f hm
          have og := or_gt hd hc tb
          have e3 : nd (q 3 c) d = 0 := by
            unfold mayB at hm
            rw [tb] at hm
            simpa using hm
          have st := spX_step (lamp := lamp) (aw := aw) (R := R) hc ha tb e3 (by omega) (by omega)
          have ex := z3 _ og.2
          have xl := spX_le (q := q) (lamp := lamp) (aw := aw) (R := R) (d ||| 1 <<< c) d c
          refine Or.inl ⟨(iN (c + 1), mSI z.2 212 (d ||| 1 <<< c) (iN (spX q lamp aw R (d ||| 1 <<< c) d (c + 1)))), ?_, rfl, z2.si (by decide), fun t ht => ?_⟩
          · rw [st]
            unfold f272_65 f272_145 f272_146 f272_185 f272_216
            rw [z1]
            simp (disch := omega) only [gT, nbeq, Option.isSome_some, Option.getD_some, Bool.and_true, Bool.true_and, Bool.and_self, mX_some, bS, bN_if, bN_01, i1_01, i0_01, if_true, if_false, Bool.false_eq_true, false_and, and_false, and_true, true_and, and_self, Bool.or_false, Bool.false_or, Bool.or_true, Bool.true_or, Bool.false_and, Bool.and_false, decide_true, decide_false, L0, L1, L2, L3, L4, L5, L6, L7, L8, L9, L10, L11, L12, L13, L14, L15, L16, L17, L18, L19, L20, L21, L22, L23, L24, L25, L27, L33, L39, L40, L45, L48, L57, L60, L72, L90, L97, L98, L99, L100, L121, L122, L242, L255, L256, L580, L600, L1000, L1584, L1000000, Ln1, iN_add, iN_and, iN_or, iN_nd, iN_shl, iN_shr, iN_cl, iN_in, iN_mul, k193 w2, r193_1 w2, r193_2 w2, r193_3 w2, r193_4 w2, r193_5 w2, r193_6 w2, r193_7 w2, r193_8 w2, r193_18 w2, r193_19 w2, r193_32 w2, r193_33 w2, r193_34 w2, r193_36 w2, r193_38 w2, r193_39 w2, r193_40 w2, r193_42 w2, r193_45 w2, r193_46 w2, r193_47 w2, r193_48 w2, r193_49 w2, r193_50 w2, k212 w2, H2.n, ile_n, ed, t206 H2, fl1, t220 H2 W, hm, ilt_n, ilt_d, ile_d, i100nz, iN_div, iN_mul, iN_sub, iN_add, ex]
            generalize spX q lamp aw R (d ||| 1 <<< c) d c = y at xl
            generalize R d = w at e1
            have e5 : w - w / 100 * 100 = w % 100 := by omega
            rw [e5]
            unfold nxM
            by_cases e6 : lamp < w % 100 + q 1 c
            · rw [if_pos e6, if_neg (fun h => by omega)]
              simp (disch := omega) only [ieq_p, gT, nbeq, Option.isSome_some, Option.getD_some, Bool.and_true, Bool.true_and, Bool.and_self, mX_some, bS, bN_if, bN_01, i1_01, i0_01, if_true, if_false, Bool.false_eq_true, false_and, and_false, and_true, true_and, and_self, Bool.or_false, Bool.false_or, Bool.or_true, Bool.true_or, Bool.false_and, Bool.and_false, decide_true, decide_false, t195]
            · rw [if_neg e6]
              by_cases e7 : w ≤ 0
              · rw [if_pos e7, if_neg (fun h => by omega)]
                simp (disch := omega) only [ieq_p, gT, nbeq, Option.isSome_some, Option.getD_some, Bool.and_true, Bool.true_and, Bool.and_self, mX_some, bS, bN_if, bN_01, i1_01, i0_01, if_true, if_false, Bool.false_eq_true, false_and, and_false, and_true, true_and, and_self, Bool.or_false, Bool.false_or, Bool.or_true, Bool.true_or, Bool.false_and, Bool.and_false, decide_true, decide_false, t195]
              · rw [if_neg e7, ieq_n (show 1 < 2147483648 by omega) (show 0 < 2147483648 by omega) (show 1 ≠ 0 by omega), if_pos (show w % 100 + q 1 c ≤ lamp ∧ 0 < w from ⟨by omega, by omega⟩)]
                simp (disch := omega) only [gT, nbeq, Option.isSome_some, Option.getD_some, Bool.and_true, Bool.true_and, Bool.and_self, mX_some, bS, bN_if, bN_01, i1_01, i0_01, if_true, if_false, Bool.false_eq_true, false_and, and_false, and_true, true_and, and_self, Bool.or_false, Bool.false_or, Bool.or_true, Bool.true_or, Bool.false_and, Bool.and_false, decide_true, decide_false, t195]
          · by_cases e4 : t = d ||| 1 <<< c
            · subst e4; simp (disch := omega) only [si_ne, si_nk, si_eq]
            · simp (disch := omega) only [si_ne, si_nk, si_eq]
              rw [spX_same (fun b => absurd b e4)]
              exact z3 t ht) (fun z hP => by
    obtain ⟨z1, z2, z3⟩ := hP
    have H2 := H.f212 z2
    have w2 := H2.1
    refine ⟨Sum.inl (iN (d + 1), z.2), ?_, z.2, rfl, z2, fun t ht => by rw [← spX_next (Or.inl rfl)]; exact z3 t ht⟩
    unfold f272_65 f272_222
    rw [z1]
    simp (disch := omega) only [gT, nbeq, Option.isSome_some, Option.getD_some, Bool.and_true, Bool.true_and, Bool.and_self, mX_some, bS, bN_if, bN_01, i1_01, i0_01, if_true, if_false, Bool.false_eq_true, false_and, and_false, and_true, true_and, and_self, Bool.or_false, Bool.false_or, Bool.or_true, Bool.true_or, Bool.false_and, Bool.and_false, decide_true, decide_false, L0, L1, L2, L3, L4, L5, L6, L7, L8, L9, L10, L11, L12, L13, L14, L15, L16, L17, L18, L19, L20, L21, L22, L23, L24, L25, L27, L33, L39, L40, L45, L48, L57, L60, L72, L90, L97, L98, L99, L100, L121, L122, L242, L255, L256, L580, L600, L1000, L1584, L1000000, Ln1, iN_add, iN_and, iN_or, iN_nd, iN_shl, iN_shr, iN_cl, iN_in, iN_mul, k193 w2, r193_1 w2, r193_2 w2, r193_3 w2, r193_4 w2, r193_5 w2, r193_6 w2, r193_7 w2, r193_8 w2, r193_18 w2, r193_19 w2, r193_32 w2, r193_33 w2, r193_34 w2, r193_36 w2, r193_38 w2, r193_39 w2, r193_40 w2, r193_42 w2, r193_45 w2, r193_46 w2, r193_47 w2, r193_48 w2, r193_49 w2, r193_50 w2, k212 w2, H2.n, ile_p]) (by omega) (s := (iN 0, h)) ⟨rfl, Fr.rfl, h0⟩
  obtain ⟨r, r1, h', r2, r3, r4⟩ := this
  rw [r2] at r1
  exact ⟨h', r1, r3, r4⟩
theorem t272o (H : MoS h q) (W : QW q) (hl : lamp ≤ 12) (hR : ∀ t, R t = rsF q lamp aw t R) (ha : aw < 2 ^ q 0 0) (h0 : ∀ t, t < 2 ^ q 0 0 → mI h 212 t = iN (spX q lamp aw R t aw 0)) : ∃ h', mLoop (f272_56 193 (iN lamp) (iN (2 ^ q 0 0 - 1))) mFuel (iN aw, h) = some (iN (if R (2 ^ q 0 0 - 1) < 1000000 then R (2 ^ q 0 0 - 1) / 100 else 1000000), h') ∧ Fr (fun b => Nat.beq b 212) h h' := by
  have hn := W.1.1
  have h8 := pw_8 hn
  have rl := rs_le hR (2 ^ q 0 0 - 1)
  have := lp_inv (body := f272_56 193 (iN lamp) (iN (2 ^ q 0 0 - 1))) (P := fun i z => z.1 = iN (aw + i) ∧ Fr (fun b => Nat.beq b 212) h z.2 ∧ ∀ t, t < 2 ^ q 0 0 → mI z.2 212 t = iN (spX q lamp aw R t (aw + i) 0)) (Q := fun r => r.1 = iN (if R (2 ^ q 0 0 - 1) < 1000000 then R (2 ^ q 0 0 - 1) / 100 else 1000000) ∧ Fr (fun b => Nat.beq b 212) h r.2) (2 ^ q 0 0 - aw) (fun i z hi hP => by
    obtain ⟨z1, z2, z3⟩ := hP
    obtain ⟨h', g1, g2, g3⟩ := t272i (x := iN (2 ^ q 0 0 - 1)) (d := aw + i) (H.f212 z2) W hl hR (by omega) (by omega) z3
    refine Or.inl ⟨(iN (aw + i + 1), h'), ?_, rfl, z2.tr g2, g3⟩
    unfold f272_56
    rw [z1]
    simp (disch := omega) only [gT, nbeq, Option.isSome_some, Option.getD_some, Bool.and_true, Bool.true_and, Bool.and_self, mX_some, bS, bN_if, bN_01, i1_01, i0_01, if_true, if_false, Bool.false_eq_true, false_and, and_false, and_true, true_and, and_self, Bool.or_false, Bool.false_or, Bool.or_true, Bool.true_or, Bool.false_and, Bool.and_false, decide_true, decide_false, L0, L1, L2, L3, L4, L5, L6, L7, L8, L9, L10, L11, L12, L13, L14, L15, L16, L17, L18, L19, L20, L21, L22, L23, L24, L25, L27, L33, L39, L40, L45, L48, L57, L60, L72, L90, L97, L98, L99, L100, L121, L122, L242, L255, L256, L580, L600, L1000, L1584, L1000000, Ln1, iN_add, iN_and, iN_or, iN_nd, iN_shl, iN_shr, iN_cl, iN_in, iN_mul, ilt_n, g1]) (fun z hP => by
    obtain ⟨z1, z2, z3⟩ := hP
    have H2 := H.f212 z2
    have w2 := H2.1
    have e1 := z3 (2 ^ q 0 0 - 1) (by omega)
    rw [spX_done hR (by omega)] at e1
    rw [show aw + (2 ^ q 0 0 - aw) = 2 ^ q 0 0 by omega] at z1
    refine ⟨(iN (if R (2 ^ q 0 0 - 1) < 1000000 then R (2 ^ q 0 0 - 1) / 100 else 1000000), z.2), ?_, rfl, z2⟩
    unfold f272_56 f272_255
    rw [z1]
    simp (disch := omega) only [gT, nbeq, Option.isSome_some, Option.getD_some, Bool.and_true, Bool.true_and, Bool.and_self, mX_some, bS, bN_if, bN_01, i1_01, i0_01, if_true, if_false, Bool.false_eq_true, false_and, and_false, and_true, true_and, and_self, Bool.or_false, Bool.false_or, Bool.or_true, Bool.true_or, Bool.false_and, Bool.and_false, decide_true, decide_false, L0, L1, L2, L3, L4, L5, L6, L7, L8, L9, L10, L11, L12, L13, L14, L15, L16, L17, L18, L19, L20, L21, L22, L23, L24, L25, L27, L33, L39, L40, L45, L48, L57, L60, L72, L90, L97, L98, L99, L100, L121, L122, L242, L255, L256, L580, L600, L1000, L1584, L1000000, Ln1, iN_add, iN_and, iN_or, iN_nd, iN_shl, iN_shr, iN_cl, iN_in, iN_mul, ilt_p, k193 w2, r193_1 w2, r193_2 w2, r193_3 w2, r193_4 w2, r193_5 w2, r193_6 w2, r193_7 w2, r193_8 w2, r193_18 w2, r193_19 w2, r193_32 w2, r193_33 w2, r193_34 w2, r193_36 w2, r193_38 w2, r193_39 w2, r193_40 w2, r193_42 w2, r193_45 w2, r193_46 w2, r193_47 w2, r193_48 w2, r193_49 w2, r193_50 w2, k212 w2, e1, ilt_d, i100nz, iN_div]
    split <;> rfl) (by omega) (s := (iN aw, h)) ⟨rfl, Fr.rfl, h0⟩
  obtain ⟨⟨r, h'⟩, r1, r2, r3⟩ := this
  have r2' : r = iN (if R (2 ^ q 0 0 - 1) < 1000000 then R (2 ^ q 0 0 - 1) / 100 else 1000000) := r2
  rw [r2'] at r1
  exact ⟨h', r1, r3⟩
theorem t272r {K : Nat} (H : MoS h q) (W : QW q) (hl : lamp ≤ 12) (hR : ∀ t, R t = rsF q lamp (nd (2 ^ q 0 0 - 1) K) t R) : ∃ h', f272 h 193 (iN K) (iN lamp) = some (iN (if R (2 ^ q 0 0 - 1) < 1000000 then R (2 ^ q 0 0 - 1) / 100 else 1000000), h') ∧ Fr (fun b => Nat.beq b 212) h h' := by
  have hn := W.1.1
  have h8 := pw_8 hn
  have hp := pw_pos (q 0 0)
  have w := H.1
  have ga := nd_le (2 ^ q 0 0 - 1) K
  unfold f272
  simp (disch := omega) only [gT, nbeq, Option.isSome_some, Option.getD_some, Bool.and_true, Bool.true_and, Bool.and_self, mX_some, bS, bN_if, bN_01, i1_01, i0_01, if_true, if_false, Bool.false_eq_true, false_and, and_false, and_true, true_and, and_self, Bool.or_false, Bool.false_or, Bool.or_true, Bool.true_or, Bool.false_and, Bool.and_false, decide_true, decide_false, L0, L1, L2, L3, L4, L5, L6, L7, L8, L9, L10, L11, L12, L13, L14, L15, L16, L17, L18, L19, L20, L21, L22, L23, L24, L25, L27, L33, L39, L40, L45, L48, L57, L60, L72, L90, L97, L98, L99, L100, L121, L122, L242, L255, L256, L580, L600, L1000, L1584, L1000000, Ln1, iN_add, iN_and, iN_or, iN_nd, iN_shl, iN_shr, iN_cl, iN_in, iN_mul, k193 w, r193_1 w, r193_2 w, r193_3 w, r193_4 w, r193_5 w, r193_6 w, r193_7 w, r193_8 w, r193_18 w, r193_19 w, r193_32 w, r193_33 w, r193_34 w, r193_36 w, r193_38 w, r193_39 w, r193_40 w, r193_42 w, r193_45 w, r193_46 w, r193_47 w, r193_48 w, r193_49 w, r193_50 w, H.n, Nat.one_shiftLeft, iN_sub]
  generalize nd (2 ^ q 0 0 - 1) K = aw at ga hR
  have := lp_inv (body := f272_19 193 (iN lamp) (iN (2 ^ q 0 0 - 1)) (iN aw)) (P := fun i z => z.1 = iN i ∧ Fr (fun b => Nat.beq b 212) h z.2 ∧ ∀ t, t < i → mI z.2 212 t = iN (spX q lamp aw R t aw 0)) (Q := fun r => r.1 = iN (if R (2 ^ q 0 0 - 1) < 1000000 then R (2 ^ q 0 0 - 1) / 100 else 1000000) ∧ Fr (fun b => Nat.beq b 212) h r.2) (2 ^ q 0 0) (fun i z hi hP => by
    obtain ⟨z1, z2, z3⟩ := hP
    have H2 := H.f212 z2
    have w2 := H2.1
    refine Or.inl ⟨(iN (i + 1), mSI z.2 212 i (iN (spX q lamp aw R i aw 0))), ?_, rfl, z2.si (by decide), fun t ht => ?_⟩
    · rw [spX_0 hR]
      unfold f272_19
      rw [z1]
      simp (disch := omega) only [gT, nbeq, Option.isSome_some, Option.getD_some, Bool.and_true, Bool.true_and, Bool.and_self, mX_some, bS, bN_if, bN_01, i1_01, i0_01, if_true, if_false, Bool.false_eq_true, false_and, and_false, and_true, true_and, and_self, Bool.or_false, Bool.false_or, Bool.or_true, Bool.true_or, Bool.false_and, Bool.and_false, decide_true, decide_false, L0, L1, L2, L3, L4, L5, L6, L7, L8, L9, L10, L11, L12, L13, L14, L15, L16, L17, L18, L19, L20, L21, L22, L23, L24, L25, L27, L33, L39, L40, L45, L48, L57, L60, L72, L90, L97, L98, L99, L100, L121, L122, L242, L255, L256, L580, L600, L1000, L1584, L1000000, Ln1, iN_add, iN_and, iN_or, iN_nd, iN_shl, iN_shr, iN_cl, iN_in, iN_mul, ilt_n, k193 w2, r193_1 w2, r193_2 w2, r193_3 w2, r193_4 w2, r193_5 w2, r193_6 w2, r193_7 w2, r193_8 w2, r193_18 w2, r193_19 w2, r193_32 w2, r193_33 w2, r193_34 w2, r193_36 w2, r193_38 w2, r193_39 w2, r193_40 w2, r193_42 w2, r193_45 w2, r193_46 w2, r193_47 w2, r193_48 w2, r193_49 w2, r193_50 w2, k212 w2, ieq_d, iN_in, iN_cl]
      by_cases e : i = aw
      · rw [if_pos e, if_pos e]
      · rw [if_neg e, if_neg e]
    · by_cases e : t = i
      · subst e; simp (disch := omega) only [si_ne, si_nk, si_eq]
      · simp (disch := omega) only [si_ne, si_nk, si_eq]; exact z3 t (by omega)) (fun z hP => by
    obtain ⟨z1, z2, z3⟩ := hP
    have H2 := H.f212 z2
    obtain ⟨h', g1, g2⟩ := t272o H2 W hl hR (by omega) z3
    refine ⟨(iN (if R (2 ^ q 0 0 - 1) < 1000000 then R (2 ^ q 0 0 - 1) / 100 else 1000000), h'), ?_, rfl, z2.tr g2⟩
    unfold f272_19
    rw [z1]
    simp (disch := omega) only [gT, nbeq, Option.isSome_some, Option.getD_some, Bool.and_true, Bool.true_and, Bool.and_self, mX_some, bS, bN_if, bN_01, i1_01, i0_01, if_true, if_false, Bool.false_eq_true, false_and, and_false, and_true, true_and, and_self, Bool.or_false, Bool.false_or, Bool.or_true, Bool.true_or, Bool.false_and, Bool.and_false, decide_true, decide_false, L0, L1, L2, L3, L4, L5, L6, L7, L8, L9, L10, L11, L12, L13, L14, L15, L16, L17, L18, L19, L20, L21, L22, L23, L24, L25, L27, L33, L39, L40, L45, L48, L57, L60, L72, L90, L97, L98, L99, L100, L121, L122, L242, L255, L256, L580, L600, L1000, L1584, L1000000, Ln1, iN_add, iN_and, iN_or, iN_nd, iN_shl, iN_shr, iN_cl, iN_in, iN_mul, ilt_p, g1]) (by omega) (s := (iN 0, h)) ⟨rfl, Fr.rfl, fun t ht => by omega⟩
  obtain ⟨⟨r, h'⟩, r1, r2, r3⟩ := this
  have r2' : r = iN (if R (2 ^ q 0 0 - 1) < 1000000 then R (2 ^ q 0 0 - 1) / 100 else 1000000) := r2
  rw [r2'] at r1
  exact ⟨h', r1, r3⟩
/-- both alike -/
theorem t272 {K : Nat} {B : Nat → Nat} (H : MoS h q) (W : QW q) (hl : lamp ≤ 12) (hl1 : 1 ≤ lamp) (hB : ∀ s, B s = bsF q lamp s B) (hK : K < 2 ^ q 0 0) (cl : ∀ c, K.testBit c = true → sub (q 3 c) K) : ∃ h', f272 h 193 (iN K) (iN lamp) = some (iN (fN (fwO q lamp K B)), h') ∧ Fr (fun b => Nat.beq b 212) h h' := by
  obtain ⟨R, hR⟩ := rs_ex q lamp (nd (2 ^ q 0 0 - 1) K)
  obtain ⟨h', g1, g2⟩ := t272r H W hl hR
  refine ⟨h', ?_, g2⟩
  rw [g1]
  congr 3
  have hp := pw_pos (q 0 0)
  unfold fwO
  cases ok : okB q K lamp (q 0 0) with
  | true =>
    have ok2 : ∀ c, K.testBit c = true → q 1 c ≤ lamp := fun c hc => okB_t _ ok c (tbj_lt hK hc) hc
    have e1 := bs_R W hl hl1 hB hR ok2 hK cl (K + 1) K (by omega) (fun j hj => hj)
    have e2 : nd (2 ^ q 0 0 - 1) K ||| K = 2 ^ q 0 0 - 1 := by
      refine Nat.eq_of_testBit_eq (fun j => ?_)
      rw [Nat.testBit_or, nd_tb, tb_all]
      cases e3 : K.testBit j with
      | true => rw [decide_eq_true (tbj_lt hK e3)]; rfl
      | false => simp
    have e4 := bs_reach W hl hl1 hB ok2 hK cl (q 0 0) (Nat.le_refl _)
    rw [and_all hK] at e4
    have e5 := bs_J W hl hl1 hB ok2 hK (K + 1) K (by omega) (fun j hj => hj)
    have e6 := hs_le W (b := K)
    rw [e2] at e1
    rw [e1, if_pos rfl]
    show _ = B K / 16
    generalize B K = w at e4 e5
    unfold phi
    rw [if_neg (show ¬ 1584 ≤ w by omega)]
    rcases e5 with g | ⟨g1, g2, g3, g4⟩ | ⟨g1, g2⟩
    · omega
    · rw [if_neg (show ¬ w < 16 by omega), if_pos (by omega)]; omega
    · rw [if_pos (show w < 16 by omega), if_pos (by omega)]; omega
  | false =>
    obtain ⟨c, c1, c2, c3⟩ := okB_f _ ok
    have e1 := rs_long hR (c0 := c) (by rw [nd_tb, c2]; simp) c3 (2 ^ q 0 0) (2 ^ q 0 0 - 1) (by omega) (by rw [tb_all, decide_eq_true c1])
    rw [e1, if_neg (by omega)]
    rfl
end SM
