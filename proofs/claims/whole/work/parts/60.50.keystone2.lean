/-! keystone: the reference's -/
theorem pc_up {b n : Nat} (hb : b < 2 ^ n) (hn : n ≤ 8) : pc b = up (pcf b) n 0 := by
  have key : ∀ d, up (pcf b) (n + d) 0 = up (pcf b) n 0 := by
    intro d
    induction d with
    | zero => rfl
    | succ d ih =>
      show pcf b (n + d) (up (pcf b) (n + d) 0) = _
      unfold pcf
      rw [tb_lt hb (by omega)]
      exact ih
  have := key (8 - n)
  rw [show n + (8 - n) = 8 by omega] at this
  exact this
def cnf (q : LQ) (c : Nat) : Nat → Nat → Nat := fun o x => x + if (und q o).testBit c = true then 1 else 0
theorem cn_eq {q : LQ} (W : QW q) {c : Nat} (hc : c < q 0 0) : up (cnf q c) (q 0 0) 0 = skn q c := by
  have hn := W.1.1
  have h1 := up_rel (f := pcf (sto q c)) (g := cnf q c) (I := fun k x y => x = y + if c < k then 1 else 0) (n := q 0 0) (fun k x y hk e => by
    have h2 := sto_iff W hc hk
    rw [e]
    by_cases e1 : k = c
    · have h3 : (und q k).testBit c = false := by
        cases e2 : (und q k).testBit c with
        | false => rfl
        | true => have := (und_ok W (show k < 8 by omega)).2.2.2 c e2; omega
      unfold pcf cnf
      simp only [h2.2 (Or.inl e1), h3, if_true, Bool.false_eq_true, if_false]
      rw [if_neg (show ¬ c < k by omega), if_pos (show c < k + 1 by omega)]
    · have e4 : (if c < k + 1 then 1 else 0) = if c < k then 1 else 0 := by
        by_cases e5 : c < k
        · rw [if_pos e5, if_pos (by omega)]
        · rw [if_neg e5, if_neg (by omega)]
      rw [e4]
      have h4 : (sto q c).testBit k = (und q k).testBit c := by
        cases e2 : (und q k).testBit c with
        | true => exact h2.2 (Or.inr e2)
        | false =>
          cases e3 : (sto q c).testBit k with
          | false => rfl
          | true =>
            rcases h2.1 e3 with h5 | h5
            · exact absurd h5 e1
            · rw [e2] at h5; cases h5
      unfold pcf cnf
      rw [h4]
      generalize (if c < k then 1 else 0) = z
      omega) (a := 0) (b := 0) (by simp) (q 0 0) (Nat.le_refl _)
  have h0 := pc_up (b := sto q c) (sto_b hc _ (Nat.le_refl _)) hn
  rw [if_pos hc, ← h0] at h1
  unfold skn
  omega
theorem t196j {h : mH} {b : Nat} (hb : b < 2147483648) : f196 h jN (iN b) = some (iN b) := by
  unfold f196 f196_10
  rw [jile hb]; rfl
section KM
variable {h : mH} {q : LQ}
theorem und_lt (W : QW q) {d : Nat} (hd : d < 8) : und q d < 2147483648 := by
  have h1 : und q d < 2 ^ 8 := by
    refine Nat.lt_pow_two_of_testBit _ (fun i hi => ?_)
    cases e : (und q d).testBit i with
    | false => rfl
    | true => have := (und_ok W hd).2.2.2 i e; omega
  omega
theorem t274 {x : Int32} (H : MoS h q) (W : QW q) : f274 h 193 x = some (if x = iN 0 then zN (ksn q) else zN ((ksn q).map (skn q))) := by
  have hn := W.1.1
  have w := H.1
  have hs : ∀ c, skn q c ≤ 8 := fun c => by
    have := pc_le (sto q c)
    unfold skn
    omega
  unfold f274 ksn
  simp only [L0, L1, L2, L3, L4, L5, L6, L7, L8, L9, L10, L11, L12, L13, L14, L15, L16, L17, L18, L19, L20, L21, L22, L23, L24, L25, L27, L33, L39, L40, L45, L48, L57, L60, L72, L90, L97, L98, L99, L100, L121, L122, L242, L255, L256, L580, L600, L1000, L1584, L1000000, Ln1, iN_add, iN_and, iN_or, iN_nd, iN_shl, iN_shr, iN_cl, iN_in, iN_mul]
  refine lp_up (body := f274_7 h 193 x) (fun k (b : Option Nat) => (zN b, zN (b.map (skn q)), iN k)) (ksf q) (fun b => if x = iN 0 then zN b else zN (b.map (skn q))) (fun _ b => ∀ v, b = some v → v < q 0 0) (q 0 0) (a0 := none) (fun v hv => by cases hv) (fun k b hk hb v hv => by
    unfold ksf at hv
    cases b with
    | none => have : k = v := Option.some.inj hv; omega
    | some y =>
      simp only at hv
      split at hv
      · exact hb v hv
      · have : k = v := Option.some.inj hv; omega) ?_ ?_ (by omega)
  · intro k b hk hb
    unfold f274_7
    simp (disch := omega) only [gT, nbeq, Option.isSome_some, Option.getD_some, Bool.and_true, Bool.true_and, Bool.and_self, mX_some, bS, bN_if, bN_01, i1_01, i0_01, if_true, if_false, Bool.false_eq_true, false_and, and_false, and_true, true_and, and_self, Bool.or_false, Bool.false_or, Bool.or_true, Bool.true_or, Bool.false_and, Bool.and_false, decide_true, decide_false, L0, L1, L2, L3, L4, L5, L6, L7, L8, L9, L10, L11, L12, L13, L14, L15, L16, L17, L18, L19, L20, L21, L22, L23, L24, L25, L27, L33, L39, L40, L45, L48, L57, L60, L72, L90, L97, L98, L99, L100, L121, L122, L242, L255, L256, L580, L600, L1000, L1584, L1000000, Ln1, iN_add, iN_and, iN_or, iN_nd, iN_shl, iN_shr, iN_cl, iN_in, iN_mul, k193 w, r193_1 w, r193_2 w, r193_3 w, r193_4 w, r193_5 w, r193_6 w, r193_7 w, r193_8 w, r193_18 w, r193_19 w, r193_32 w, r193_33 w, r193_34 w, r193_36 w, r193_38 w, r193_39 w, r193_40 w, r193_42 w, r193_45 w, r193_46 w, r193_47 w, r193_48 w, r193_49 w, r193_50 w, H.n, ile_n]
    have sk := hs k
    refine (lp_up (body := f274_22 h 193 x (zN b) (zN (b.map (skn q))) (iN k)) (fun o (s : Nat) => (iN s, iN o)) (cnf q k) (fun s => Sum.inl (zN (match b with
      | none => some k
      | some y => if s ≤ skn q y then some y else some k), (match b with
      | none => iN s
      | some y => iN (max (skn q y) s)), iN (k + 1))) (fun o s => s ≤ o) (q 0 0) (a0 := 0) (Nat.le_refl _) (fun o s ho hs2 => by
        unfold cnf
        split <;> omega) ?_ ?_ (by omega)).trans ?_
    · intro o s ho hs2
      have hu := und_lt W (show o < 8 by omega)
      unfold f274_22 f274_52 cnf
      simp (disch := omega) only [gT, nbeq, Option.isSome_some, Option.getD_some, Bool.and_true, Bool.true_and, Bool.and_self, mX_some, bS, bN_if, bN_01, i1_01, i0_01, if_true, if_false, Bool.false_eq_true, false_and, and_false, and_true, true_and, and_self, Bool.or_false, Bool.false_or, Bool.or_true, Bool.true_or, Bool.false_and, Bool.and_false, decide_true, decide_false, L0, L1, L2, L3, L4, L5, L6, L7, L8, L9, L10, L11, L12, L13, L14, L15, L16, L17, L18, L19, L20, L21, L22, L23, L24, L25, L27, L33, L39, L40, L45, L48, L57, L60, L72, L90, L97, L98, L99, L100, L121, L122, L242, L255, L256, L580, L600, L1000, L1584, L1000000, Ln1, iN_add, iN_and, iN_or, iN_nd, iN_shl, iN_shr, iN_cl, iN_in, iN_mul, k193 w, r193_1 w, r193_2 w, r193_3 w, r193_4 w, r193_5 w, r193_6 w, r193_7 w, r193_8 w, r193_18 w, r193_19 w, r193_32 w, r193_33 w, r193_34 w, r193_36 w, r193_38 w, r193_39 w, r193_40 w, r193_42 w, r193_45 w, r193_46 w, r193_47 w, r193_48 w, r193_49 w, r193_50 w, H.n, ile_n, t271 H W ho, t221]
      cases e : (und q o).testBit k with
      | false => simp only [gT, nbeq, Option.isSome_some, Option.getD_some, Bool.and_true, Bool.true_and, Bool.and_self, mX_some, bS, bN_if, bN_01, i1_01, i0_01, if_true, if_false, Bool.false_eq_true, false_and, and_false, and_true, true_and, and_self, Bool.or_false, Bool.false_or, Bool.or_true, Bool.true_or, Bool.false_and, Bool.and_false, decide_true, decide_false]
      | true => simp only [gT, nbeq, Option.isSome_some, Option.getD_some, Bool.and_true, Bool.true_and, Bool.and_self, mX_some, bS, bN_if, bN_01, i1_01, i0_01, if_true, if_false, Bool.false_eq_true, false_and, and_false, and_true, true_and, and_self, Bool.or_false, Bool.false_or, Bool.or_true, Bool.true_or, Bool.false_and, Bool.and_false, decide_true, decide_false]
    · intro s hs2
      unfold f274_22 f274_73
      simp (disch := omega) only [gT, nbeq, Option.isSome_some, Option.getD_some, Bool.and_true, Bool.true_and, Bool.and_self, mX_some, bS, bN_if, bN_01, i1_01, i0_01, if_true, if_false, Bool.false_eq_true, false_and, and_false, and_true, true_and, and_self, Bool.or_false, Bool.false_or, Bool.or_true, Bool.true_or, Bool.false_and, Bool.and_false, decide_true, decide_false, L0, L1, L2, L3, L4, L5, L6, L7, L8, L9, L10, L11, L12, L13, L14, L15, L16, L17, L18, L19, L20, L21, L22, L23, L24, L25, L27, L33, L39, L40, L45, L48, L57, L60, L72, L90, L97, L98, L99, L100, L121, L122, L242, L255, L256, L580, L600, L1000, L1584, L1000000, Ln1, iN_add, iN_and, iN_or, iN_nd, iN_shl, iN_shr, iN_cl, iN_in, iN_mul, k193 w, r193_1 w, r193_2 w, r193_3 w, r193_4 w, r193_5 w, r193_6 w, r193_7 w, r193_8 w, r193_18 w, r193_19 w, r193_32 w, r193_33 w, r193_34 w, r193_36 w, r193_38 w, r193_39 w, r193_40 w, r193_42 w, r193_45 w, r193_46 w, r193_47 w, r193_48 w, r193_49 w, r193_50 w, H.n, ile_p]
      cases b with
      | none =>
        simp (disch := omega) only [gT, nbeq, Option.isSome_some, Option.getD_some, Bool.and_true, Bool.true_and, Bool.and_self, mX_some, bS, bN_if, bN_01, i1_01, i0_01, if_true, if_false, Bool.false_eq_true, false_and, and_false, and_true, true_and, and_self, Bool.or_false, Bool.false_or, Bool.or_true, Bool.true_or, Bool.false_and, Bool.and_false, decide_true, decide_false, zN_none, Option.map_none, ijle, t196j, zN_some]
      | some y =>
        have hy := hs y
        simp (disch := omega) only [gT, nbeq, Option.isSome_some, Option.getD_some, Bool.and_true, Bool.true_and, Bool.and_self, mX_some, bS, bN_if, bN_01, i1_01, i0_01, if_true, if_false, Bool.false_eq_true, false_and, and_false, and_true, true_and, and_self, Bool.or_false, Bool.false_or, Bool.or_true, Bool.true_or, Bool.false_and, Bool.and_false, decide_true, decide_false, zN_some, Option.map_some, t196, ile_d]
        by_cases d : s ≤ skn q y
        · simp only [d, if_true, gT, nbeq, Option.isSome_some, Option.getD_some, Bool.and_true, Bool.true_and, Bool.and_self, mX_some, bS, bN_if, bN_01, i1_01, i0_01, if_true, if_false, Bool.false_eq_true, false_and, and_false, and_true, true_and, and_self, Bool.or_false, Bool.false_or, Bool.or_true, Bool.true_or, Bool.false_and, Bool.and_false, decide_true, decide_false]; rfl
        · simp only [d, if_false, gT, nbeq, Option.isSome_some, Option.getD_some, Bool.and_true, Bool.true_and, Bool.and_self, mX_some, bS, bN_if, bN_01, i1_01, i0_01, if_true, if_false, Bool.false_eq_true, false_and, and_false, and_true, true_and, and_self, Bool.or_false, Bool.false_or, Bool.or_true, Bool.true_or, Bool.false_and, Bool.and_false, decide_true, decide_false]; rfl
    · rw [cn_eq W hk]
      unfold ksf
      cases b with
      | none => rfl
      | some y =>
        by_cases d : skn q k ≤ skn q y
        · simp only [d, if_true, Option.map_some, zN_some, Nat.max_eq_left d]
        · simp only [d, if_false, Option.map_some, zN_some, Nat.max_eq_right (Nat.le_of_lt (Nat.lt_of_not_le d))]
  · intro b _
    unfold f274_7 f274_96
    simp (disch := omega) only [gT, nbeq, Option.isSome_some, Option.getD_some, Bool.and_true, Bool.true_and, Bool.and_self, mX_some, bS, bN_if, bN_01, i1_01, i0_01, if_true, if_false, Bool.false_eq_true, false_and, and_false, and_true, true_and, and_self, Bool.or_false, Bool.false_or, Bool.or_true, Bool.true_or, Bool.false_and, Bool.and_false, decide_true, decide_false, L0, L1, L2, L3, L4, L5, L6, L7, L8, L9, L10, L11, L12, L13, L14, L15, L16, L17, L18, L19, L20, L21, L22, L23, L24, L25, L27, L33, L39, L40, L45, L48, L57, L60, L72, L90, L97, L98, L99, L100, L121, L122, L242, L255, L256, L580, L600, L1000, L1584, L1000000, Ln1, iN_add, iN_and, iN_or, iN_nd, iN_shl, iN_shr, iN_cl, iN_in, iN_mul, k193 w, r193_1 w, r193_2 w, r193_3 w, r193_4 w, r193_5 w, r193_6 w, r193_7 w, r193_8 w, r193_18 w, r193_19 w, r193_32 w, r193_33 w, r193_34 w, r193_36 w, r193_38 w, r193_39 w, r193_40 w, r193_42 w, r193_45 w, r193_46 w, r193_47 w, r193_48 w, r193_49 w, r193_50 w, H.n, ile_p]
    by_cases e : x = iN 0
    · simp only [e, if_true, gT, nbeq, Option.isSome_some, Option.getD_some, Bool.and_true, Bool.true_and, Bool.and_self, mX_some, bS, bN_if, bN_01, i1_01, i0_01, if_true, if_false, Bool.false_eq_true, false_and, and_false, and_true, true_and, and_self, Bool.or_false, Bool.false_or, Bool.or_true, Bool.true_or, Bool.false_and, Bool.and_false, decide_true, decide_false]
    · simp only [e, if_false, gT, nbeq, Option.isSome_some, Option.getD_some, Bool.and_true, Bool.true_and, Bool.and_self, mX_some, bS, bN_if, bN_01, i1_01, i0_01, if_true, if_false, Bool.false_eq_true, false_and, and_false, and_true, true_and, and_self, Bool.or_false, Bool.false_or, Bool.or_true, Bool.true_or, Bool.false_and, Bool.and_false, decide_true, decide_false]
end KM
