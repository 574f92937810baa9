/-! A YEAR lived: the reference's play; what both answer of a STATE. -/
def wN : Int32 := -2
theorem Ln2 : -(iN 2) = wN := by unfold wN; rfl
def MY (h : mH) (y : YQ) : Prop := ∃ i, i < 2 ∧ mI h 193 35 = iN i ∧ YrC h (121 * i) y
theorem MY.fm {h h' : mH} {y : YQ} (H : MY h y) (x : FM h h') : MY h' y := by
  obtain ⟨i, h1, h2, h3, h4⟩ := H
  exact ⟨i, h1, (x.2 35 (by omega)).trans h2, (x.1.i (by decide) _).trans h3, fun k hk => ⟨(x.1.i (by decide) _).trans (h4 k hk).1, (x.1.i (by decide) _).trans (h4 k hk).2.1, (x.1.i (by decide) _).trans (h4 k hk).2.2⟩⟩
def runP (q : LQ) (y : YQ) : Nat → Nat → LSt → Nat × LSt
  | 0, k, s => (k, s)
  | n + 1, k, s => match yAct q y k s with
    | none => (k, s)
    | some s' => runP q y n (k + 1) s'
theorem runX_P (q : LQ) (y : YQ) : ∀ n k x, (runX q y n k x).1 = (runP q y n k x.1).1 ∧ (runX q y n k x).2.1 = (runP q y n k x.1).2 := by
  intro n
  induction n with
  | zero => intro k x; exact ⟨rfl, rfl⟩
  | succ n ih =>
    intro k x
    simp only [runX, runP]
    cases yAct q y k x.1 with
    | none => exact ⟨rfl, rfl⟩
    | some s' => exact ih (k + 1) (stX q y k x s')
theorem SW.act {q : LQ} {s : LSt} (W : QW q) (S : SW q s) {k x y : Nat} {u v : Int32} (D : dOk k u v x y) : SW q ((actS q s k x y).getD s) := by
  obtain ⟨d0, d1, d2, d3⟩ := D
  unfold actS
  split
  next hk =>
    split
    next hr =>
      rw [Bool.and_eq_true, decide_eq_true_eq] at hr
      have hx := (d1 (by omega)).2
      have h5 := W.2.2.2.1 x hx
      refine ⟨fun t ht => ?_, S.2.1, or_lt S.2.2.1 (sh1_lt hr.1), S.2.2.2.1, ?_⟩
      · show ud (sLk s) (q 2 x) (sLk s (q 2 x) - 1) t ≤ 9
        have hl := S.1 (q 2 x) (by omega)
        unfold ud; split
        · omega
        · exact S.1 t ht
      · show sLf s - q 1 x ≤ 12
        have := S.2.2.2.2; omega
    next => exact S
  next =>
    split
    next =>
      split
      next hr =>
        rw [Bool.and_eq_true, decide_eq_true_eq] at hr
        exact ⟨S.1, S.2.1, S.2.2.1, or_lt S.2.2.2.1 (sh1_lt hr.1), S.2.2.2.2⟩
      next => exact S
    next =>
      split
      next hk =>
        refine ⟨fun t ht => ?_, S.2.1, S.2.2.1, S.2.2.2.1, S.2.2.2.2⟩
        show ud (sLk s) x (min 9 (sLk s x + 2)) t ≤ 9
        unfold ud; split
        · omega
        · exact S.1 t ht
      next =>
        split
        next hk =>
          split
          next hr =>
            unfold tlB at hr
            simp only [Bool.and_eq_true, decide_eq_true_eq] at hr
            refine ⟨S.1, fun k hk v hv => ?_, S.2.2⟩
            change ud (sKn s) (8 * y + x) (some 0) k = some v at hv
            unfold ud at hv
            split at hv
            next e =>
              cases hv
              have hx := (d1 (by omega)).2
              have hm := W.2.2.2.2.2.2.1 y hr.1.2
              have ek : k / 8 = y := by omega
              rw [ek]; exact ⟨by omega, hr.1.2⟩
            next => exact S.2.1 k hk v hv
          next => exact S
        next =>
          split
          next =>
            split
            · exact S
            · exact S
          next => exact S.day W
section ML
variable {h : mH} {q : LQ} {y : YQ} {s : LSt}
theorem t210 (w : Wd h) (Y : MY h y) : f210 h 193 = some (iN y.1) := by
  obtain ⟨i, h1, h2, h3, h4⟩ := Y
  unfold f210
  simp (disch := omega) only [gT, nbeq, Option.isSome_some, Option.getD_some, Bool.and_true, Bool.true_and, Bool.and_self, mX_some, bS, bN_if, bN_01, i1_01, i0_01, if_true, if_false, Bool.false_eq_true, false_and, and_false, and_true, true_and, and_self, Bool.or_false, Bool.false_or, Bool.or_true, Bool.true_or, Bool.false_and, Bool.and_false, decide_true, decide_false, L0, L1, L2, L3, L4, L5, L6, L7, L8, L9, L10, L11, L12, L13, L14, L15, L16, L17, L18, L19, L20, L21, L22, L23, L24, L25, L27, L33, L39, L40, L45, L48, L57, L60, L72, L90, L97, L98, L99, L100, L121, L122, L242, L255, L256, L580, L600, L1000, L1584, L1000000, Ln1, iN_add, iN_and, iN_or, iN_nd, iN_shl, iN_shr, iN_cl, iN_in, iN_mul, k193 w, r193_1 w, r193_2 w, r193_3 w, r193_4 w, r193_5 w, r193_6 w, r193_7 w, r193_8 w, r193_18 w, r193_19 w, r193_32 w, r193_33 w, r193_34 w, r193_36 w, r193_38 w, r193_39 w, r193_40 w, r193_42 w, r193_45 w, r193_46 w, r193_47 w, r193_48 w, r193_49 w, r193_50 w, k200 w, h2, h3]
theorem t211 (w : Wd h) (Y : MY h y) (V : YW y) {k : Nat} (hk : k < y.1) : f211 h 193 (iN k) (iN 0) = some (iN (y.2.1 k)) ∧ f211 h 193 (iN k) (iN 1) = some (zN (y.2.2.1 k)) ∧ f211 h 193 (iN k) (iN 2) = some (zN (y.2.2.2 k)) := by
  have hy := V.1
  obtain ⟨i, h1, h2, h3, h4⟩ := Y
  obtain ⟨e1, e2, e3⟩ := h4 k hk
  unfold f211
  refine ⟨?_, ?_, ?_⟩
  · simp (disch := omega) only [gT, nbeq, Option.isSome_some, Option.getD_some, Bool.and_true, Bool.true_and, Bool.and_self, mX_some, bS, bN_if, bN_01, i1_01, i0_01, if_true, if_false, Bool.false_eq_true, false_and, and_false, and_true, true_and, and_self, Bool.or_false, Bool.false_or, Bool.or_true, Bool.true_or, Bool.false_and, Bool.and_false, decide_true, decide_false, L0, L1, L2, L3, L4, L5, L6, L7, L8, L9, L10, L11, L12, L13, L14, L15, L16, L17, L18, L19, L20, L21, L22, L23, L24, L25, L27, L33, L39, L40, L45, L48, L57, L60, L72, L90, L97, L98, L99, L100, L121, L122, L242, L255, L256, L580, L600, L1000, L1584, L1000000, Ln1, iN_add, iN_and, iN_or, iN_nd, iN_shl, iN_shr, iN_cl, iN_in, iN_mul, k193 w, r193_1 w, r193_2 w, r193_3 w, r193_4 w, r193_5 w, r193_6 w, r193_7 w, r193_8 w, r193_18 w, r193_19 w, r193_32 w, r193_33 w, r193_34 w, r193_36 w, r193_38 w, r193_39 w, r193_40 w, r193_42 w, r193_45 w, r193_46 w, r193_47 w, r193_48 w, r193_49 w, r193_50 w, k200 w, h2, Nat.add_zero, e1]
  · simp (disch := omega) only [gT, nbeq, Option.isSome_some, Option.getD_some, Bool.and_true, Bool.true_and, Bool.and_self, mX_some, bS, bN_if, bN_01, i1_01, i0_01, if_true, if_false, Bool.false_eq_true, false_and, and_false, and_true, true_and, and_self, Bool.or_false, Bool.false_or, Bool.or_true, Bool.true_or, Bool.false_and, Bool.and_false, decide_true, decide_false, L0, L1, L2, L3, L4, L5, L6, L7, L8, L9, L10, L11, L12, L13, L14, L15, L16, L17, L18, L19, L20, L21, L22, L23, L24, L25, L27, L33, L39, L40, L45, L48, L57, L60, L72, L90, L97, L98, L99, L100, L121, L122, L242, L255, L256, L580, L600, L1000, L1584, L1000000, Ln1, iN_add, iN_and, iN_or, iN_nd, iN_shl, iN_shr, iN_cl, iN_in, iN_mul, k193 w, r193_1 w, r193_2 w, r193_3 w, r193_4 w, r193_5 w, r193_6 w, r193_7 w, r193_8 w, r193_18 w, r193_19 w, r193_32 w, r193_33 w, r193_34 w, r193_36 w, r193_38 w, r193_39 w, r193_40 w, r193_42 w, r193_45 w, r193_46 w, r193_47 w, r193_48 w, r193_49 w, r193_50 w, k200 w, h2, e2]
  · simp (disch := omega) only [gT, nbeq, Option.isSome_some, Option.getD_some, Bool.and_true, Bool.true_and, Bool.and_self, mX_some, bS, bN_if, bN_01, i1_01, i0_01, if_true, if_false, Bool.false_eq_true, false_and, and_false, and_true, true_and, and_self, Bool.or_false, Bool.false_or, Bool.or_true, Bool.true_or, Bool.false_and, Bool.and_false, decide_true, decide_false, L0, L1, L2, L3, L4, L5, L6, L7, L8, L9, L10, L11, L12, L13, L14, L15, L16, L17, L18, L19, L20, L21, L22, L23, L24, L25, L27, L33, L39, L40, L45, L48, L57, L60, L72, L90, L97, L98, L99, L100, L121, L122, L242, L255, L256, L580, L600, L1000, L1584, L1000000, Ln1, iN_add, iN_and, iN_or, iN_nd, iN_shl, iN_shr, iN_cl, iN_in, iN_mul, k193 w, r193_1 w, r193_2 w, r193_3 w, r193_4 w, r193_5 w, r193_6 w, r193_7 w, r193_8 w, r193_18 w, r193_19 w, r193_32 w, r193_33 w, r193_34 w, r193_36 w, r193_38 w, r193_39 w, r193_40 w, r193_42 w, r193_45 w, r193_46 w, r193_47 w, r193_48 w, r193_49 w, r193_50 w, k200 w, h2, e3]
theorem t215 (H : MoS h q) (W : QW q) (Y : MY h y) (V : YW y) (C : MLS h s) (S : SW q s) (K : KW q s) {k : Nat} (hk : k < y.1) : ∃ h', f215 h 193 (iN k) = some (bN (yAct q y k s).isSome, h') ∧ FM h h' ∧ MLS h' ((yAct q y k s).getD s) := by
  have w := H.1
  obtain ⟨e1, e2, e3⟩ := t211 w Y V hk
  obtain ⟨h', f1, f2, f3⟩ := t216 H W C S K (V.dOk hk)
  unfold f215
  simp (disch := omega) only [gT, nbeq, Option.isSome_some, Option.getD_some, Bool.and_true, Bool.true_and, Bool.and_self, mX_some, bS, bN_if, bN_01, i1_01, i0_01, if_true, if_false, Bool.false_eq_true, false_and, and_false, and_true, true_and, and_self, Bool.or_false, Bool.false_or, Bool.or_true, Bool.true_or, Bool.false_and, Bool.and_false, decide_true, decide_false, L0, L1, L2, L3, L4, L5, L6, L7, L8, L9, L10, L11, L12, L13, L14, L15, L16, L17, L18, L19, L20, L21, L22, L23, L24, L25, L27, L33, L39, L40, L45, L48, L57, L60, L72, L90, L97, L98, L99, L100, L121, L122, L242, L255, L256, L580, L600, L1000, L1584, L1000000, Ln1, iN_add, iN_and, iN_or, iN_nd, iN_shl, iN_shr, iN_cl, iN_in, iN_mul, k193 w, r193_1 w, r193_2 w, r193_3 w, r193_4 w, r193_5 w, r193_6 w, r193_7 w, r193_8 w, r193_18 w, r193_19 w, r193_32 w, r193_33 w, r193_34 w, r193_36 w, r193_38 w, r193_39 w, r193_40 w, r193_42 w, r193_45 w, r193_46 w, r193_47 w, r193_48 w, r193_49 w, r193_50 w, e1, e2, e3, f1]
  exact ⟨h', rfl, f2, f3⟩
theorem t214 (H : MoS h q) (W : QW q) (Y : MY h y) (V : YW y) (C : MLS h s) (S : SW q s) (K : KW q s) {n : Nat} (hn : n ≤ y.1) : ∃ h', f214 h 193 (iN n) = some (iN (runP q y n 0 s).1, h') ∧ FM h h' ∧ MLS h' (runP q y n 0 s).2 ∧ SW q (runP q y n 0 s).2 ∧ KW q (runP q y n 0 s).2 := by
  have hy := V.1
  unfold f214
  have := lp_run2 (body := f214_2 193 (iN n)) (R := fun k (x : LSt) z => z.1 = iN k ∧ FM h z.2 ∧ MLS z.2 x ∧ SW q x ∧ KW q x) (Q := fun (b : Nat × LSt) r => r.1 = iN b.1 ∧ FM h r.2 ∧ MLS r.2 b.2 ∧ SW q b.2 ∧ KW q b.2) (runP q y) n (fun m k x z hk hP => by
    obtain ⟨h1, h2, h3, h4, h5⟩ := hP
    have H2 := H.fm h2
    have w2 := H2.1
    obtain ⟨h', f1, f2, f3⟩ := t215 H2 W (Y.fm h2) V h3 h4 h5 (k := k) (by omega)
    have hs := SW.act W h4 (V.dOk (k := k) (by omega))
    have hK := h5.act (y.2.1 k) (yA y k) (yB y k) W
    change SW q ((yAct q y k x).getD x) at hs
    change KW q ((yAct q y k x).getD x) at hK
    have run : runP q y (m + 1) k x = match yAct q y k x with
      | none => (k, x)
      | some s' => runP q y m (k + 1) s' := rfl
    rw [run]
    cases hya : yAct q y k x with
    | none =>
      rw [hya] at f1 f3
      refine Or.inr ⟨(iN k, h'), ?_, rfl, h2.tr f2, f3, h4, h5⟩
      unfold f214_2 f214_21
      rw [h1]
      simp (disch := omega) only [gT, nbeq, Option.isSome_some, Option.getD_some, Bool.and_true, Bool.true_and, Bool.and_self, mX_some, bS, bN_if, bN_01, i1_01, i0_01, if_true, if_false, Bool.false_eq_true, false_and, and_false, and_true, true_and, and_self, Bool.or_false, Bool.false_or, Bool.or_true, Bool.true_or, Bool.false_and, Bool.and_false, decide_true, decide_false, L0, L1, L2, L3, L4, L5, L6, L7, L8, L9, L10, L11, L12, L13, L14, L15, L16, L17, L18, L19, L20, L21, L22, L23, L24, L25, L27, L33, L39, L40, L45, L48, L57, L60, L72, L90, L97, L98, L99, L100, L121, L122, L242, L255, L256, L580, L600, L1000, L1584, L1000000, Ln1, iN_add, iN_and, iN_or, iN_nd, iN_shl, iN_shr, iN_cl, iN_in, iN_mul, k193 w2, r193_1 w2, r193_2 w2, r193_3 w2, r193_4 w2, r193_5 w2, r193_6 w2, r193_7 w2, r193_8 w2, r193_18 w2, r193_19 w2, r193_32 w2, r193_33 w2, r193_34 w2, r193_36 w2, r193_38 w2, r193_39 w2, r193_40 w2, r193_42 w2, r193_45 w2, r193_46 w2, r193_47 w2, r193_48 w2, r193_49 w2, r193_50 w2, ile_n, f1, Option.isSome_none]
    | some s' =>
      rw [hya] at f1 f3 hs hK
      refine Or.inl ⟨(iN (k + 1), h'), s', ?_, ⟨rfl, h2.tr f2, f3, hs, hK⟩, rfl⟩
      unfold f214_2
      rw [h1]
      simp (disch := omega) only [gT, nbeq, Option.isSome_some, Option.getD_some, Bool.and_true, Bool.true_and, Bool.and_self, mX_some, bS, bN_if, bN_01, i1_01, i0_01, if_true, if_false, Bool.false_eq_true, false_and, and_false, and_true, true_and, and_self, Bool.or_false, Bool.false_or, Bool.or_true, Bool.true_or, Bool.false_and, Bool.and_false, decide_true, decide_false, L0, L1, L2, L3, L4, L5, L6, L7, L8, L9, L10, L11, L12, L13, L14, L15, L16, L17, L18, L19, L20, L21, L22, L23, L24, L25, L27, L33, L39, L40, L45, L48, L57, L60, L72, L90, L97, L98, L99, L100, L121, L122, L242, L255, L256, L580, L600, L1000, L1584, L1000000, Ln1, iN_add, iN_and, iN_or, iN_nd, iN_shl, iN_shr, iN_cl, iN_in, iN_mul, k193 w2, r193_1 w2, r193_2 w2, r193_3 w2, r193_4 w2, r193_5 w2, r193_6 w2, r193_7 w2, r193_8 w2, r193_18 w2, r193_19 w2, r193_32 w2, r193_33 w2, r193_34 w2, r193_36 w2, r193_38 w2, r193_39 w2, r193_40 w2, r193_42 w2, r193_45 w2, r193_46 w2, r193_47 w2, r193_48 w2, r193_49 w2, r193_50 w2, ile_n, f1]) (fun x z hP => by
    obtain ⟨h1, h2, h3, h4, h5⟩ := hP
    refine ⟨(iN n, z.2), ?_, rfl, h2, h3, h4, h5⟩
    unfold f214_2 f214_21
    rw [h1]
    simp (disch := omega) only [gT, nbeq, Option.isSome_some, Option.getD_some, Bool.and_true, Bool.true_and, Bool.and_self, mX_some, bS, bN_if, bN_01, i1_01, i0_01, if_true, if_false, Bool.false_eq_true, false_and, and_false, and_true, true_and, and_self, Bool.or_false, Bool.false_or, Bool.or_true, Bool.true_or, Bool.false_and, Bool.and_false, decide_true, decide_false, L0, L1, L2, L3, L4, L5, L6, L7, L8, L9, L10, L11, L12, L13, L14, L15, L16, L17, L18, L19, L20, L21, L22, L23, L24, L25, L27, L33, L39, L40, L45, L48, L57, L60, L72, L90, L97, L98, L99, L100, L121, L122, L242, L255, L256, L580, L600, L1000, L1584, L1000000, Ln1, iN_add, iN_and, iN_or, iN_nd, iN_shl, iN_shr, iN_cl, iN_in, iN_mul, ile_p]) (by omega) (x0 := s) (s := (0, h)) ⟨rfl, FM.rfl, C, S, K⟩
  obtain ⟨⟨r, h'⟩, r1, r2, r3⟩ := this
  cases r2
  exact ⟨h', r1, r3⟩
theorem kn8 (W : QW q) (K : KW q s) (p : Nat) : ups (knB s p) 8 = ups (knB s p) (q 0 0) := by
  have hn := W.1.1
  apply Nat.eq_of_testBit_eq; intro j
  rw [ups_tb, ups_tb]
  cases hb : knB s p j with
  | false => simp
  | true =>
    by_cases h8 : j < 8
    · have := K (8 * p + j) hb
      have e : j < q 0 0 := by omega
      simp [h8, e]
    · simp [h8, show ¬ j < q 0 0 by omega]
theorem t231 (w : Wd h) (W : QW q) (C : MLS h s) (S : SW q s) (K : KW q s) {p : Nat} (hp : p < 6) : f231 h 193 (iN p) = some (iN (ups (knB s p) (q 0 0))) := by
  rw [← kn8 W K]
  unfold f231 ups
  refine lp_up (fun k x => (iN x, iN k)) _ iN (fun _ _ => True) 8 (a0 := 0) trivial (fun _ _ _ _ => trivial) ?_ ?_ (by omega)
  · intro k x hk _
    have e := C.2.1 (8 * p + k) (by omega)
    unfold f231_4 f231_33
    simp (disch := omega) only [gT, nbeq, Option.isSome_some, Option.getD_some, Bool.and_true, Bool.true_and, Bool.and_self, mX_some, bS, bN_if, bN_01, i1_01, i0_01, if_true, if_false, Bool.false_eq_true, false_and, and_false, and_true, true_and, and_self, Bool.or_false, Bool.false_or, Bool.or_true, Bool.true_or, Bool.false_and, Bool.and_false, decide_true, decide_false, L0, L1, L2, L3, L4, L5, L6, L7, L8, L9, L10, L11, L12, L13, L14, L15, L16, L17, L18, L19, L20, L21, L22, L23, L24, L25, L27, L33, L39, L40, L45, L48, L57, L60, L72, L90, L97, L98, L99, L100, L121, L122, L242, L255, L256, L580, L600, L1000, L1584, L1000000, Ln1, iN_add, iN_and, iN_or, iN_nd, iN_shl, iN_shr, iN_cl, iN_in, iN_mul, k193 w, r193_1 w, r193_2 w, r193_3 w, r193_4 w, r193_5 w, r193_6 w, r193_7 w, r193_8 w, r193_18 w, r193_19 w, r193_32 w, r193_33 w, r193_34 w, r193_36 w, r193_38 w, r193_39 w, r193_40 w, r193_42 w, r193_45 w, r193_46 w, r193_47 w, r193_48 w, r193_49 w, r193_50 w, k205 w, ile_n, e]
    rw [zj (SW.kb W S (by omega)), show knB s p k = (sKn s (8 * p + k)).isSome from rfl]
    split
    · rfl
    · rw [Nat.or_zero]
  · intro x _
    unfold f231_4
    simp (disch := omega) only [gT, nbeq, Option.isSome_some, Option.getD_some, Bool.and_true, Bool.true_and, Bool.and_self, mX_some, bS, bN_if, bN_01, i1_01, i0_01, if_true, if_false, Bool.false_eq_true, false_and, and_false, and_true, true_and, and_self, Bool.or_false, Bool.false_or, Bool.or_true, Bool.true_or, Bool.false_and, Bool.and_false, decide_true, decide_false, L0, L1, L2, L3, L4, L5, L6, L7, L8, L9, L10, L11, L12, L13, L14, L15, L16, L17, L18, L19, L20, L21, L22, L23, L24, L25, L27, L33, L39, L40, L45, L48, L57, L60, L72, L90, L97, L98, L99, L100, L121, L122, L242, L255, L256, L580, L600, L1000, L1584, L1000000, Ln1, iN_add, iN_and, iN_or, iN_nd, iN_shl, iN_shr, iN_cl, iN_in, iN_mul, ile_p]
/-- what is answered of a STATE -/
def ansS (q : LQ) (s : LSt) (v : Nat) : Int32 := if v = 0 then iN (sDy s) else if v = 1 then iN (sRd s) else if v = 2 then iN (sSk s) else if v = 3 then iN (sLf s) else if v = 4 then bN (sCd s) else if v = 5 then iN (opn q (sRd s ||| sSk s)) else if 10 ≤ v ∧ v < 16 then iN (sLk s (v - 10)) else if 20 ≤ v ∧ v < 20 + q 0 1 then iN (ups (knB s (v - 20)) (q 0 0)) else if 100 ≤ v ∧ (v - 100) / 8 < q 0 1 ∧ (v - 100) % 8 < q 0 0 then zN (sKn s (v - 100)) else wN
theorem ge_iN {x : Int32} (h : ¬ x.toInt < 0) : ∃ v, v < 2147483648 ∧ x = iN v := by
  have := Int32.toInt_lt x
  refine ⟨x.toInt.toNat, by omega, ?_⟩
  refine Int32.toInt.inj ?_
  rw [iN_toInt (by omega)]; omega
theorem t17k {h : mH} {v a b : Nat} (hv : v < 2147483648) (ha : a < 2147483648) (hb : b < 2147483648) : f17 h (iN v) (iN a) (iN b) = some (bN (decide (a ≤ v ∧ v ≤ b))) := by
  rw [t17]; congr 2
  rw [← Bool.decide_and]
  apply decide_eq_decide.2
  rw [iN_le ha hv, iN_le hv hb]
theorem i8nz : (!(iN 8 == (iN 0 : Int32))) = true := by decide
theorem i10nz : (!(iN 10 == (iN 0 : Int32))) = true := by decide
end ML
section LF
variable {h : mH} {a la : Nat} {q : LQ} {s : LSt}
theorem t82 (L : LfS h a la) (H : LibS h la q) (W : QW q) (C : CLS h a s) (S : SW q s) {v : Nat} (hv : v < 2147483648) (h6 : 6 ≤ v) : f82 h a (iN v) = some (ansS q s v) := by
  have hm := W.1.2.1
  have hn := W.1.1
  obtain ⟨c1, c2, c3, c4, c5, c6, c7, c8⟩ := id C
  have hi : f82_50 h a (iN v) = some (if 100 ≤ v ∧ (v - 100) / 8 < q 0 1 ∧ (v - 100) % 8 < q 0 0 then zN (sKn s (v - 100)) else wN) := by
    unfold f82_50 f82_97
    have e5 : v - 100 - (v - 100) / 8 * 8 = (v - 100) % 8 := by omega
    by_cases e : 100 ≤ v
    · simp (disch := omega) only [gT, nbeq, Option.isSome_some, Option.getD_some, Bool.and_true, Bool.true_and, Bool.and_self, mX_some, bS, bN_if, bN_01, i1_01, i0_01, if_true, if_false, Bool.false_eq_true, false_and, and_false, and_true, true_and, and_self, Bool.or_false, Bool.false_or, Bool.or_true, Bool.true_or, Bool.false_and, Bool.and_false, decide_true, decide_false, L0, L1, L2, L3, L4, L5, L6, L7, L8, L9, L10, L11, L12, L13, L14, L15, L16, L17, L18, L19, L20, L21, L22, L23, L24, L25, L27, L33, L39, L40, L45, L48, L57, L60, L72, L90, L97, L98, L99, L100, L121, L122, L242, L255, L256, L580, L600, L1000, L1584, L1000000, Ln1, iN_add, iN_and, iN_or, iN_nd, iN_shl, iN_shr, iN_cl, iN_in, iN_mul, Ln2, i8nz, ile_p, L.k, L.r0, L.r2, L.r3, L.k1, L.k2, H.k, iN_sub, iN_div, e5, t57 H W, t56 H W, rg_iN]
      by_cases e1 : (v - 100) / 8 < q 0 1
      · by_cases e2 : (v - 100) % 8 < q 0 0
        · have e3 : (v - 100) / 8 * 8 + (v - 100) % 8 = v - 100 := by omega
          have e4 : v - 100 < 48 := by omega
          simp (disch := omega) only [e1, e2, e, gT, nbeq, Option.isSome_some, Option.getD_some, Bool.and_true, Bool.true_and, Bool.and_self, mX_some, bS, bN_if, bN_01, i1_01, i0_01, if_true, if_false, Bool.false_eq_true, false_and, and_false, and_true, true_and, and_self, Bool.or_false, Bool.false_or, Bool.or_true, Bool.true_or, Bool.false_and, Bool.and_false, decide_true, decide_false, e3, iN_in, iN_cl, iN_add, iN_mul, c2 (v - 100) e4]
        · simp only [e1, e2, e, gT, nbeq, Option.isSome_some, Option.getD_some, Bool.and_true, Bool.true_and, Bool.and_self, mX_some, bS, bN_if, bN_01, i1_01, i0_01, if_true, if_false, Bool.false_eq_true, false_and, and_false, and_true, true_and, and_self, Bool.or_false, Bool.false_or, Bool.or_true, Bool.true_or, Bool.false_and, Bool.and_false, decide_true, decide_false]
      · simp only [e1, e, gT, nbeq, Option.isSome_some, Option.getD_some, Bool.and_true, Bool.true_and, Bool.and_self, mX_some, bS, bN_if, bN_01, i1_01, i0_01, if_true, if_false, Bool.false_eq_true, false_and, and_false, and_true, true_and, and_self, Bool.or_false, Bool.false_or, Bool.or_true, Bool.true_or, Bool.false_and, Bool.and_false, decide_true, decide_false]
    · simp (disch := omega) only [gT, nbeq, Option.isSome_some, Option.getD_some, Bool.and_true, Bool.true_and, Bool.and_self, mX_some, bS, bN_if, bN_01, i1_01, i0_01, if_true, if_false, Bool.false_eq_true, false_and, and_false, and_true, true_and, and_self, Bool.or_false, Bool.false_or, Bool.or_true, Bool.true_or, Bool.false_and, Bool.and_false, decide_true, decide_false, L0, L1, L2, L3, L4, L5, L6, L7, L8, L9, L10, L11, L12, L13, L14, L15, L16, L17, L18, L19, L20, L21, L22, L23, L24, L25, L27, L33, L39, L40, L45, L48, L57, L60, L72, L90, L97, L98, L99, L100, L121, L122, L242, L255, L256, L580, L600, L1000, L1584, L1000000, Ln1, iN_add, iN_and, iN_or, iN_nd, iN_shl, iN_shr, iN_cl, iN_in, iN_mul, Ln2, ile_n, e]
  unfold f82
  simp (disch := omega) only [gT, nbeq, Option.isSome_some, Option.getD_some, Bool.and_true, Bool.true_and, Bool.and_self, mX_some, bS, bN_if, bN_01, i1_01, i0_01, if_true, if_false, Bool.false_eq_true, false_and, and_false, and_true, true_and, and_self, Bool.or_false, Bool.false_or, Bool.or_true, Bool.true_or, Bool.false_and, Bool.and_false, decide_true, decide_false, L0, L1, L2, L3, L4, L5, L6, L7, L8, L9, L10, L11, L12, L13, L14, L15, L16, L17, L18, L19, L20, L21, L22, L23, L24, L25, L27, L33, L39, L40, L45, L48, L57, L60, L72, L90, L97, L98, L99, L100, L121, L122, L242, L255, L256, L580, L600, L1000, L1584, L1000000, Ln1, iN_add, iN_and, iN_or, iN_nd, iN_shl, iN_shr, iN_cl, iN_in, iN_mul, t17k]
  unfold ansS
  rw [if_neg (show ¬ v = 0 by omega), if_neg (show ¬ v = 1 by omega), if_neg (show ¬ v = 2 by omega), if_neg (show ¬ v = 3 by omega), if_neg (show ¬ v = 4 by omega), if_neg (show ¬ v = 5 by omega)]
  by_cases e1 : 10 ≤ v ∧ v ≤ 15
  · rw [decide_eq_true e1, if_pos rfl, if_pos (by omega)]
    simp (disch := omega) only [gT, nbeq, Option.isSome_some, Option.getD_some, Bool.and_true, Bool.true_and, Bool.and_self, mX_some, bS, bN_if, bN_01, i1_01, i0_01, if_true, if_false, Bool.false_eq_true, false_and, and_false, and_true, true_and, and_self, Bool.or_false, Bool.false_or, Bool.or_true, Bool.true_or, Bool.false_and, Bool.and_false, decide_true, decide_false, L0, L1, L2, L3, L4, L5, L6, L7, L8, L9, L10, L11, L12, L13, L14, L15, L16, L17, L18, L19, L20, L21, L22, L23, L24, L25, L27, L33, L39, L40, L45, L48, L57, L60, L72, L90, L97, L98, L99, L100, L121, L122, L242, L255, L256, L580, L600, L1000, L1584, L1000000, Ln1, iN_add, iN_and, iN_or, iN_nd, iN_shl, iN_shr, iN_cl, iN_in, iN_mul, L.k, L.r0, L.r2, L.r3, L.k1, L.k2, iN_sub, c1]
  · rw [decide_eq_false e1, if_neg (by decide), if_neg (show ¬ (10 ≤ v ∧ v < 16) by omega)]
    by_cases e2 : v < 20
    · rw [ilt_p hv (by omega) e2, hi, if_neg (show ¬ (20 ≤ v ∧ v < 20 + q 0 1) by omega)]
    · rw [ilt_n hv (by omega) (by omega)]
      simp (disch := omega) only [gT, nbeq, Option.isSome_some, Option.getD_some, Bool.and_true, Bool.true_and, Bool.and_self, mX_some, bS, bN_if, bN_01, i1_01, i0_01, if_true, if_false, Bool.false_eq_true, false_and, and_false, and_true, true_and, and_self, Bool.or_false, Bool.false_or, Bool.or_true, Bool.true_or, Bool.false_and, Bool.and_false, decide_true, decide_false, L0, L1, L2, L3, L4, L5, L6, L7, L8, L9, L10, L11, L12, L13, L14, L15, L16, L17, L18, L19, L20, L21, L22, L23, L24, L25, L27, L33, L39, L40, L45, L48, L57, L60, L72, L90, L97, L98, L99, L100, L121, L122, L242, L255, L256, L580, L600, L1000, L1584, L1000000, Ln1, iN_add, iN_and, iN_or, iN_nd, iN_shl, iN_shr, iN_cl, iN_in, iN_mul, L.k, L.r0, L.r2, L.r3, L.k1, L.k2, H.k, iN_sub, t57 H W, rg_iN]
      by_cases e3 : v - 20 < q 0 1
      · rw [decide_eq_true e3, if_pos rfl, if_pos (by omega)]
        simp (disch := omega) only [gT, nbeq, Option.isSome_some, Option.getD_some, Bool.and_true, Bool.true_and, Bool.and_self, mX_some, bS, bN_if, bN_01, i1_01, i0_01, if_true, if_false, Bool.false_eq_true, false_and, and_false, and_true, true_and, and_self, Bool.or_false, Bool.false_or, Bool.or_true, Bool.true_or, Bool.false_and, Bool.and_false, decide_true, decide_false, t65 L H W C S]
      · rw [decide_eq_false e3, if_neg (by decide), if_neg (show ¬ (20 ≤ v ∧ v < 20 + q 0 1) by omega), hi]
theorem t81 (L : LfS h a la) (H : LibS h la q) (W : QW q) (C : CLS h a s) (S : SW q s) {v : Nat} (hv : v < 2147483648) : f81 h a (iN v) = some (ansS q s v) := by
  have hd := S.done W
  obtain ⟨c1, c2, c3, c4, c5, c6, c7, c8⟩ := id C
  unfold f81 f81_72
  by_cases h6 : 6 ≤ v
  · simp (disch := omega) only [gT, nbeq, Option.isSome_some, Option.getD_some, Bool.and_true, Bool.true_and, Bool.and_self, mX_some, bS, bN_if, bN_01, i1_01, i0_01, if_true, if_false, Bool.false_eq_true, false_and, and_false, and_true, true_and, and_self, Bool.or_false, Bool.false_or, Bool.or_true, Bool.true_or, Bool.false_and, Bool.and_false, decide_true, decide_false, L0, L1, L2, L3, L4, L5, L6, L7, L8, L9, L10, L11, L12, L13, L14, L15, L16, L17, L18, L19, L20, L21, L22, L23, L24, L25, L27, L33, L39, L40, L45, L48, L57, L60, L72, L90, L97, L98, L99, L100, L121, L122, L242, L255, L256, L580, L600, L1000, L1584, L1000000, Ln1, iN_add, iN_and, iN_or, iN_nd, iN_shl, iN_shr, iN_cl, iN_in, iN_mul, ile_p, ile_n, ilt_p, ilt_n, ieq_p, ieq_n, ij_n, jj_p, ijle, jile, ijlt, jilt, L.k, L.r0, L.r2, L.r3, L.k1, L.k2, t82 L H W C S]
  · have : v = 0 ∨ v = 1 ∨ v = 2 ∨ v = 3 ∨ v = 4 ∨ v = 5 := by omega
    rcases this with rfl | rfl | rfl | rfl | rfl | rfl
    · simp (disch := omega) only [gT, nbeq, Option.isSome_some, Option.getD_some, Bool.and_true, Bool.true_and, Bool.and_self, mX_some, bS, bN_if, bN_01, i1_01, i0_01, if_true, if_false, Bool.false_eq_true, false_and, and_false, and_true, true_and, and_self, Bool.or_false, Bool.false_or, Bool.or_true, Bool.true_or, Bool.false_and, Bool.and_false, decide_true, decide_false, L0, L1, L2, L3, L4, L5, L6, L7, L8, L9, L10, L11, L12, L13, L14, L15, L16, L17, L18, L19, L20, L21, L22, L23, L24, L25, L27, L33, L39, L40, L45, L48, L57, L60, L72, L90, L97, L98, L99, L100, L121, L122, L242, L255, L256, L580, L600, L1000, L1584, L1000000, Ln1, iN_add, iN_and, iN_or, iN_nd, iN_shl, iN_shr, iN_cl, iN_in, iN_mul, ile_p, ile_n, ilt_p, ilt_n, ieq_p, ieq_n, ij_n, jj_p, ijle, jile, ijlt, jilt, L.k, L.r0, L.r2, L.r3, L.k1, L.k2, c3]; rfl
    · simp (disch := omega) only [gT, nbeq, Option.isSome_some, Option.getD_some, Bool.and_true, Bool.true_and, Bool.and_self, mX_some, bS, bN_if, bN_01, i1_01, i0_01, if_true, if_false, Bool.false_eq_true, false_and, and_false, and_true, true_and, and_self, Bool.or_false, Bool.false_or, Bool.or_true, Bool.true_or, Bool.false_and, Bool.and_false, decide_true, decide_false, L0, L1, L2, L3, L4, L5, L6, L7, L8, L9, L10, L11, L12, L13, L14, L15, L16, L17, L18, L19, L20, L21, L22, L23, L24, L25, L27, L33, L39, L40, L45, L48, L57, L60, L72, L90, L97, L98, L99, L100, L121, L122, L242, L255, L256, L580, L600, L1000, L1584, L1000000, Ln1, iN_add, iN_and, iN_or, iN_nd, iN_shl, iN_shr, iN_cl, iN_in, iN_mul, ile_p, ile_n, ilt_p, ilt_n, ieq_p, ieq_n, ij_n, jj_p, ijle, jile, ijlt, jilt, L.k, L.r0, L.r2, L.r3, L.k1, L.k2, c4]; rfl
    · simp (disch := omega) only [gT, nbeq, Option.isSome_some, Option.getD_some, Bool.and_true, Bool.true_and, Bool.and_self, mX_some, bS, bN_if, bN_01, i1_01, i0_01, if_true, if_false, Bool.false_eq_true, false_and, and_false, and_true, true_and, and_self, Bool.or_false, Bool.false_or, Bool.or_true, Bool.true_or, Bool.false_and, Bool.and_false, decide_true, decide_false, L0, L1, L2, L3, L4, L5, L6, L7, L8, L9, L10, L11, L12, L13, L14, L15, L16, L17, L18, L19, L20, L21, L22, L23, L24, L25, L27, L33, L39, L40, L45, L48, L57, L60, L72, L90, L97, L98, L99, L100, L121, L122, L242, L255, L256, L580, L600, L1000, L1584, L1000000, Ln1, iN_add, iN_and, iN_or, iN_nd, iN_shl, iN_shr, iN_cl, iN_in, iN_mul, ile_p, ile_n, ilt_p, ilt_n, ieq_p, ieq_n, ij_n, jj_p, ijle, jile, ijlt, jilt, L.k, L.r0, L.r2, L.r3, L.k1, L.k2, c5]; rfl
    · simp (disch := omega) only [gT, nbeq, Option.isSome_some, Option.getD_some, Bool.and_true, Bool.true_and, Bool.and_self, mX_some, bS, bN_if, bN_01, i1_01, i0_01, if_true, if_false, Bool.false_eq_true, false_and, and_false, and_true, true_and, and_self, Bool.or_false, Bool.false_or, Bool.or_true, Bool.true_or, Bool.false_and, Bool.and_false, decide_true, decide_false, L0, L1, L2, L3, L4, L5, L6, L7, L8, L9, L10, L11, L12, L13, L14, L15, L16, L17, L18, L19, L20, L21, L22, L23, L24, L25, L27, L33, L39, L40, L45, L48, L57, L60, L72, L90, L97, L98, L99, L100, L121, L122, L242, L255, L256, L580, L600, L1000, L1584, L1000000, Ln1, iN_add, iN_and, iN_or, iN_nd, iN_shl, iN_shr, iN_cl, iN_in, iN_mul, ile_p, ile_n, ilt_p, ilt_n, ieq_p, ieq_n, ij_n, jj_p, ijle, jile, ijlt, jilt, L.k, L.r0, L.r2, L.r3, L.k1, L.k2, c6]; rfl
    · simp (disch := omega) only [gT, nbeq, Option.isSome_some, Option.getD_some, Bool.and_true, Bool.true_and, Bool.and_self, mX_some, bS, bN_if, bN_01, i1_01, i0_01, if_true, if_false, Bool.false_eq_true, false_and, and_false, and_true, true_and, and_self, Bool.or_false, Bool.false_or, Bool.or_true, Bool.true_or, Bool.false_and, Bool.and_false, decide_true, decide_false, L0, L1, L2, L3, L4, L5, L6, L7, L8, L9, L10, L11, L12, L13, L14, L15, L16, L17, L18, L19, L20, L21, L22, L23, L24, L25, L27, L33, L39, L40, L45, L48, L57, L60, L72, L90, L97, L98, L99, L100, L121, L122, L242, L255, L256, L580, L600, L1000, L1584, L1000000, Ln1, iN_add, iN_and, iN_or, iN_nd, iN_shl, iN_shr, iN_cl, iN_in, iN_mul, ile_p, ile_n, ilt_p, ilt_n, ieq_p, ieq_n, ij_n, jj_p, ijle, jile, ijlt, jilt, L.k, L.r0, L.r2, L.r3, L.k1, L.k2, c7]
      show _ = some (bN (sCd s))
      cases sCd s <;> rfl
    · simp (disch := omega) only [gT, nbeq, Option.isSome_some, Option.getD_some, Bool.and_true, Bool.true_and, Bool.and_self, mX_some, bS, bN_if, bN_01, i1_01, i0_01, if_true, if_false, Bool.false_eq_true, false_and, and_false, and_true, true_and, and_self, Bool.or_false, Bool.false_or, Bool.or_true, Bool.true_or, Bool.false_and, Bool.and_false, decide_true, decide_false, L0, L1, L2, L3, L4, L5, L6, L7, L8, L9, L10, L11, L12, L13, L14, L15, L16, L17, L18, L19, L20, L21, L22, L23, L24, L25, L27, L33, L39, L40, L45, L48, L57, L60, L72, L90, L97, L98, L99, L100, L121, L122, L242, L255, L256, L580, L600, L1000, L1584, L1000000, Ln1, iN_add, iN_and, iN_or, iN_nd, iN_shl, iN_shr, iN_cl, iN_in, iN_mul, ile_p, ile_n, ilt_p, ilt_n, ieq_p, ieq_n, ij_n, jj_p, ijle, jile, ijlt, jilt, L.k, L.r0, L.r2, L.r3, L.k1, L.k2, H.k, c4, c5, t70 H W]; rfl
theorem lt_iN {x : Int32} {v : Nat} (h : x.toInt < 0) (hv : v < 2147483648) : x < iN v ∧ ¬ iN v ≤ x ∧ x ≠ iN v := by
  refine ⟨?_, ?_, ?_⟩
  · rw [Int32.lt_iff_toInt_lt, iN_toInt hv]; omega
  · rw [Int32.le_iff_toInt_le, iN_toInt hv]; omega
  · intro e; rw [e, iN_toInt hv] at h; omega
theorem t81n (L : LfS h a la) {x : Int32} (hx : x.toInt < 0) : f81 h a x = some wN := by
  have e : ∀ v, v < 2147483648 → (x = iN v) = False := fun v hv => eq_false (lt_iN hx hv).2.2
  have l : ∀ v, v < 2147483648 → (x < iN v) = True := fun v hv => eq_true (lt_iN hx hv).1
  have g : ∀ v, v < 2147483648 → (iN v ≤ x) = False := fun v hv => eq_false (lt_iN hx hv).2.1
  unfold f81 f82 f82_50
  simp (disch := omega) only [gT, nbeq, Option.isSome_some, Option.getD_some, Bool.and_true, Bool.true_and, Bool.and_self, mX_some, bS, bN_if, bN_01, i1_01, i0_01, if_true, if_false, Bool.false_eq_true, false_and, and_false, and_true, true_and, and_self, Bool.or_false, Bool.false_or, Bool.or_true, Bool.true_or, Bool.false_and, Bool.and_false, decide_true, decide_false, L0, L1, L2, L3, L4, L5, L6, L7, L8, L9, L10, L11, L12, L13, L14, L15, L16, L17, L18, L19, L20, L21, L22, L23, L24, L25, L27, L33, L39, L40, L45, L48, L57, L60, L72, L90, L97, L98, L99, L100, L121, L122, L242, L255, L256, L580, L600, L1000, L1584, L1000000, Ln1, iN_add, iN_and, iN_or, iN_nd, iN_shl, iN_shr, iN_cl, iN_in, iN_mul, Ln2, e, l, g, L.k, L.r0, L.r2, L.r3, L.k1, L.k2, t17]
end LF
