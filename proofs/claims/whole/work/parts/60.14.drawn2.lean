/-! DRAWN: the reference's; the call -/
section ML
variable {h : mH} {q : LQ} {s : LSt} {e : Int32}
theorem MoS.sd {j : Nat} {v : Int32} (H : MoS h q) (hj : j ≠ 23 ∧ j ≠ 24 ∧ j ≠ 25) : MoS (mSI h 193 j v) q := by
  obtain ⟨w, h1, h2, s, h3, h4, h5⟩ := H
  refine ⟨w.fr (P := pM) (Fr.rfl.si (by decide)), ?_, ?_, s, h3, ?_, fun i hi => ?_⟩
  · simp (disch := omega) only [si_ne, si_nk, si_eq]; exact h1
  · simp (disch := omega) only [si_ne, si_nk, si_eq]; exact h2
  · simp (disch := omega) only [si_ne, si_nk, si_eq]; exact h4
  · simp (disch := omega) only [si_ne, si_nk, si_eq]; exact h5 i hi
theorem MLS.sd {j : Nat} {v : Int32} (C : MLS h s) (hj : j < 26 ∨ 31 < j) : MLS (mSI h 193 j v) s := by
  obtain ⟨c1, c2, c3, c4, c5, c6, c7, c8⟩ := C
  refine ⟨fun t ht => ?_, fun k hk => ?_, ?_, ?_, ?_, ?_, ?_, ?_⟩
  all_goals simp (disch := omega) only [si_ne, si_nk, si_eq]
  · exact c1 t ht
  · exact c2 k hk
  · exact c3
  · exact c4
  · exact c5
  · exact c6
  · exact c7
  · exact c8
theorem t269 (w : Wd h) (he : mI h 193 44 = e) {n : Nat} (h0 : 0 < n) (hn : n < 100) : f269 h 193 (iN n) = some (iN (dr e n), mSI h 193 44 (lcg e)) := by
  have := d16_lt (lcg e)
  unfold f269
  rw [he]
  simp only [si_eq]
  change mGd _ (mGd _ (some (((Int32.toUInt32 (lcg e) >>> (Int32.toUInt32 16 &&& Int32.toUInt32 31)).toInt32) - ((Int32.toUInt32 (lcg e) >>> (Int32.toUInt32 16 &&& Int32.toUInt32 31)).toInt32) / iN n * iN n, mSI h 193 44 (lcg e)))) = _
  simp (disch := omega) only [gT, nbeq, Option.isSome_some, Option.getD_some, Bool.and_true, Bool.true_and, Bool.and_self, mX_some, bS, bN_if, bN_01, i1_01, i0_01, if_true, if_false, Bool.false_eq_true, false_and, and_false, and_true, true_and, and_self, Bool.or_false, Bool.false_or, Bool.or_true, Bool.true_or, Bool.false_and, Bool.and_false, decide_true, decide_false, k193 w, r193_1 w, r193_2 w, r193_3 w, r193_4 w, r193_5 w, r193_6 w, r193_7 w, r193_8 w, r193_18 w, r193_19 w, r193_32 w, r193_33 w, r193_34 w, r193_36 w, r193_38 w, r193_39 w, r193_40 w, r193_42 w, r193_45 w, r193_46 w, r193_47 w, r193_48 w, r193_49 w, r193_50 w, L0, L16, iN_nz, ush16, iN_rem]
  rfl
theorem drM (H : MoS h q) (W : QW q) (C : MLS h s) (S : SW q s) (K : KW q s) (he : mI h 193 44 = e) : ∃ h', f268 h 193 = some ((), h') ∧ Fr pM h h' ∧ MoS h' q ∧ MLS h' (drS q (s, e)).1 ∧ SW q (drS q (s, e)).1 ∧ KW q (drS q (s, e)).1 ∧ mI h' 193 44 = (drS q (s, e)).2 := by
  have hn := W.1.1
  have hm := W.1.2.1
  have w := H.1
  have h8 := dr_lt (e := e) (n := 8) (by omega)
  have F1 : Fr pM h (mSI h 193 44 (lcg e)) := Fr.rfl.si (by decide)
  have H1 : MoS (mSI h 193 44 (lcg e)) q := H.sd (by omega)
  have C1 : MLS (mSI h 193 44 (lcg e)) s := C.sd (by omega)
  have w1 := H1.1
  have e1 : mI (mSI h 193 44 (lcg e)) 193 44 = lcg e := si_eq _ _ _ _
  have F2 : Fr pM h (mSI (mSI h 193 44 (lcg e)) 193 44 (lcg (lcg e))) := F1.si (by decide)
  have H2 : MoS (mSI (mSI h 193 44 (lcg e)) 193 44 (lcg (lcg e))) q := H1.sd (by omega)
  have C2 : MLS (mSI (mSI h 193 44 (lcg e)) 193 44 (lcg (lcg e))) s := C1.sd (by omega)
  have w2 := H2.1
  have e2 : mI (mSI (mSI h 193 44 (lcg e)) 193 44 (lcg (lcg e))) 193 44 = lcg (lcg e) := si_eq _ _ _ _
  have F3 : Fr pM h (mSI (mSI (mSI h 193 44 (lcg e)) 193 44 (lcg (lcg e))) 193 44 (lcg (lcg (lcg e)))) := F2.si (by decide)
  have H3 : MoS (mSI (mSI (mSI h 193 44 (lcg e)) 193 44 (lcg (lcg e))) 193 44 (lcg (lcg (lcg e)))) q := H2.sd (by omega)
  have C3 : MLS (mSI (mSI (mSI h 193 44 (lcg e)) 193 44 (lcg (lcg e))) 193 44 (lcg (lcg (lcg e)))) s := C2.sd (by omega)
  have w3 := H3.1
  have t269a := t269 w he (n := 8) (by omega) (by omega)
  have r135 : ∀ g, f268_135 g = some ((), g) := fun g => rfl
  unfold f268
  simp (disch := omega) only [gT, nbeq, Option.isSome_some, Option.getD_some, Bool.and_true, Bool.true_and, Bool.and_self, mX_some, bS, bN_if, bN_01, i1_01, i0_01, if_true, if_false, Bool.false_eq_true, false_and, and_false, and_true, true_and, and_self, Bool.or_false, Bool.false_or, Bool.or_true, Bool.true_or, Bool.false_and, Bool.and_false, decide_true, decide_false, L0, L1, L2, L3, L4, L5, L6, L7, L8, L9, L10, L11, L12, L13, L14, L15, L16, L17, L18, L19, L20, L21, L22, L23, L24, L25, L27, L33, L39, L40, L45, L48, L57, L60, L72, L90, L97, L98, L99, L100, L121, L122, L242, L255, L256, L580, L600, L1000, L1584, L1000000, Ln1, iN_add, iN_and, iN_or, iN_nd, iN_shl, iN_shr, iN_cl, iN_in, iN_mul, k193 w, r193_1 w, r193_2 w, r193_3 w, r193_4 w, r193_5 w, r193_6 w, r193_7 w, r193_8 w, r193_18 w, r193_19 w, r193_32 w, r193_33 w, r193_34 w, r193_36 w, r193_38 w, r193_39 w, r193_40 w, r193_42 w, r193_45 w, r193_46 w, r193_47 w, r193_48 w, r193_49 w, r193_50 w, k193 w1, r193_1 w1, r193_2 w1, r193_3 w1, r193_4 w1, r193_5 w1, r193_6 w1, r193_7 w1, r193_8 w1, r193_18 w1, r193_19 w1, r193_32 w1, r193_33 w1, r193_34 w1, r193_36 w1, r193_38 w1, r193_39 w1, r193_40 w1, r193_42 w1, r193_45 w1, r193_46 w1, r193_47 w1, r193_48 w1, r193_49 w1, r193_50 w1, t269a, H1.n]
  unfold drS
  by_cases d2 : dr e 8 ≤ 2
  · rw [if_pos d2, ieq_n (by omega) (by omega) (by omega), ieq_n (by omega) (by omega) (by omega), ieq_n (by omega) (by omega) (by omega)]
    by_cases n0 : q 0 0 = 0
    · rw [if_pos n0, ile_p (by omega) (by omega) (by omega)]
      refine ⟨_, ?_, F1, H1, C1, S, K, e1⟩
      unfold f268_97
      simp (disch := omega) only [gT, nbeq, Option.isSome_some, Option.getD_some, Bool.and_true, Bool.true_and, Bool.and_self, mX_some, bS, bN_if, bN_01, i1_01, i0_01, if_true, if_false, Bool.false_eq_true, false_and, and_false, and_true, true_and, and_self, Bool.or_false, Bool.false_or, Bool.or_true, Bool.true_or, Bool.false_and, Bool.and_false, decide_true, decide_false, L0, L1, L2, L3, L4, L5, L6, L7, L8, L9, L10, L11, L12, L13, L14, L15, L16, L17, L18, L19, L20, L21, L22, L23, L24, L25, L27, L33, L39, L40, L45, L48, L57, L60, L72, L90, L97, L98, L99, L100, L121, L122, L242, L255, L256, L580, L600, L1000, L1584, L1000000, Ln1, iN_add, iN_and, iN_or, iN_nd, iN_shl, iN_shr, iN_cl, iN_in, iN_mul, k193 w1, r193_1 w1, r193_2 w1, r193_3 w1, r193_4 w1, r193_5 w1, r193_6 w1, r193_7 w1, r193_8 w1, r193_18 w1, r193_19 w1, r193_32 w1, r193_33 w1, r193_34 w1, r193_36 w1, r193_38 w1, r193_39 w1, r193_40 w1, r193_42 w1, r193_45 w1, r193_46 w1, r193_47 w1, r193_48 w1, r193_49 w1, r193_50 w1, H1.n, ile_p, r135]
    · rw [if_neg n0, ile_n (by omega) (by omega) (by omega), ile_n (by omega) (by omega) (by omega)]
      have hc := dr_lt (e := lcg e) (n := q 0 0) (by omega)
      by_cases d22 : dr e 8 = 2
      · rw [if_pos d22, ile_p (by omega) (by omega) (by omega)]
        have D : dOk 1 (iN (dr (lcg e) (q 0 0))) jN (dr (lcg e) (q 0 0)) 0 := ⟨by omega, fun _ => ⟨rfl, by omega⟩, fun h => by omega, fun h => by omega⟩
        obtain ⟨h', f1, f2, f3⟩ := t216 H2 W C2 S K D
        refine ⟨h', ?_, F2.tr f2.1, H2.fm f2, f3, SW.act W S D, K.act _ _ _ W, (f2.2 44 (by omega)).trans e2⟩
        simp (disch := omega) only [gT, nbeq, Option.isSome_some, Option.getD_some, Bool.and_true, Bool.true_and, Bool.and_self, mX_some, bS, bN_if, bN_01, i1_01, i0_01, if_true, if_false, Bool.false_eq_true, false_and, and_false, and_true, true_and, and_self, Bool.or_false, Bool.false_or, Bool.or_true, Bool.true_or, Bool.false_and, Bool.and_false, decide_true, decide_false, t269 w1 e1, k193 w2, r193_1 w2, r193_2 w2, r193_3 w2, r193_4 w2, r193_5 w2, r193_6 w2, r193_7 w2, r193_8 w2, r193_18 w2, r193_19 w2, r193_32 w2, r193_33 w2, r193_34 w2, r193_36 w2, r193_38 w2, r193_39 w2, r193_40 w2, r193_42 w2, r193_45 w2, r193_46 w2, r193_47 w2, r193_48 w2, r193_49 w2, r193_50 w2, f1, r135]
      · rw [if_neg d22, ile_n (by omega) (by omega) (by omega)]
        have D : dOk 0 (iN (dr (lcg e) (q 0 0))) jN (dr (lcg e) (q 0 0)) 0 := ⟨by omega, fun _ => ⟨rfl, by omega⟩, fun h => by omega, fun h => by omega⟩
        obtain ⟨h', f1, f2, f3⟩ := t216 H2 W C2 S K D
        refine ⟨h', ?_, F2.tr f2.1, H2.fm f2, f3, SW.act W S D, K.act _ _ _ W, (f2.2 44 (by omega)).trans e2⟩
        simp (disch := omega) only [gT, nbeq, Option.isSome_some, Option.getD_some, Bool.and_true, Bool.true_and, Bool.and_self, mX_some, bS, bN_if, bN_01, i1_01, i0_01, if_true, if_false, Bool.false_eq_true, false_and, and_false, and_true, true_and, and_self, Bool.or_false, Bool.false_or, Bool.or_true, Bool.true_or, Bool.false_and, Bool.and_false, decide_true, decide_false, t269 w1 e1, k193 w2, r193_1 w2, r193_2 w2, r193_3 w2, r193_4 w2, r193_5 w2, r193_6 w2, r193_7 w2, r193_8 w2, r193_18 w2, r193_19 w2, r193_32 w2, r193_33 w2, r193_34 w2, r193_36 w2, r193_38 w2, r193_39 w2, r193_40 w2, r193_42 w2, r193_45 w2, r193_46 w2, r193_47 w2, r193_48 w2, r193_49 w2, r193_50 w2, f1, r135]
  · rw [if_neg d2]
    by_cases d3 : dr e 8 = 3
    · rw [if_pos d3, ieq_p d3]
      have hc := dr_lt (e := lcg e) (n := 6) (by omega)
      have D : dOk 2 (iN (dr (lcg e) 6)) jN (dr (lcg e) 6) 0 := ⟨by omega, fun h => by omega, fun _ => ⟨rfl, by omega⟩, fun h => by omega⟩
      obtain ⟨h', f1, f2, f3⟩ := t216 H2 W C2 S K D
      refine ⟨h', ?_, F2.tr f2.1, H2.fm f2, f3, SW.act W S D, K.act _ _ _ W, (f2.2 44 (by omega)).trans e2⟩
      simp (disch := omega) only [gT, nbeq, Option.isSome_some, Option.getD_some, Bool.and_true, Bool.true_and, Bool.and_self, mX_some, bS, bN_if, bN_01, i1_01, i0_01, if_true, if_false, Bool.false_eq_true, false_and, and_false, and_true, true_and, and_self, Bool.or_false, Bool.false_or, Bool.or_true, Bool.true_or, Bool.false_and, Bool.and_false, decide_true, decide_false, t269 w1 e1, k193 w2, r193_1 w2, r193_2 w2, r193_3 w2, r193_4 w2, r193_5 w2, r193_6 w2, r193_7 w2, r193_8 w2, r193_18 w2, r193_19 w2, r193_32 w2, r193_33 w2, r193_34 w2, r193_36 w2, r193_38 w2, r193_39 w2, r193_40 w2, r193_42 w2, r193_45 w2, r193_46 w2, r193_47 w2, r193_48 w2, r193_49 w2, r193_50 w2, f1, r135]
    · rw [if_neg d3, ieq_n (by omega) (by omega) d3]
      by_cases d5 : dr e 8 ≤ 5
      · rw [if_pos d5, ieq_n (by omega) (by omega) (by omega), ieq_n (by omega) (by omega) (by omega)]
        have go : (if iN (q 0 0) ≤ iN 0 then f268_97 (mSI h 193 44 (lcg e)) 193 else if iN 3 ≤ iN (dr e 8) then f268_97 (mSI h 193 44 (lcg e)) 193 else f268_135 h) = f268_97 (mSI h 193 44 (lcg e)) 193 := by
          rw [ile_p (a := 3) (by omega) (by omega) (by omega)]
          split <;> rfl
        have go2 : ∀ X, (if iN (q 0 0) ≤ iN 0 then f268_97 (mSI h 193 44 (lcg e)) 193 else if iN 3 ≤ iN (dr e 8) then f268_97 (mSI h 193 44 (lcg e)) 193 else X) = f268_97 (mSI h 193 44 (lcg e)) 193 := by
          intro X
          rw [ile_p (a := 3) (by omega) (by omega) (by omega)]
          split <;> rfl
        rw [go2]
        unfold f268_97
        by_cases z : q 0 0 = 0 ∨ q 0 1 = 0
        · rw [if_pos z]
          refine ⟨_, ?_, F1, H1, C1, S, K, e1⟩
          simp (disch := omega) only [gT, nbeq, Option.isSome_some, Option.getD_some, Bool.and_true, Bool.true_and, Bool.and_self, mX_some, bS, bN_if, bN_01, i1_01, i0_01, if_true, if_false, Bool.false_eq_true, false_and, and_false, and_true, true_and, and_self, Bool.or_false, Bool.false_or, Bool.or_true, Bool.true_or, Bool.false_and, Bool.and_false, decide_true, decide_false, L0, L1, L2, L3, L4, L5, L6, L7, L8, L9, L10, L11, L12, L13, L14, L15, L16, L17, L18, L19, L20, L21, L22, L23, L24, L25, L27, L33, L39, L40, L45, L48, L57, L60, L72, L90, L97, L98, L99, L100, L121, L122, L242, L255, L256, L580, L600, L1000, L1584, L1000000, Ln1, iN_add, iN_and, iN_or, iN_nd, iN_shl, iN_shr, iN_cl, iN_in, iN_mul, k193 w1, r193_1 w1, r193_2 w1, r193_3 w1, r193_4 w1, r193_5 w1, r193_6 w1, r193_7 w1, r193_8 w1, r193_18 w1, r193_19 w1, r193_32 w1, r193_33 w1, r193_34 w1, r193_36 w1, r193_38 w1, r193_39 w1, r193_40 w1, r193_42 w1, r193_45 w1, r193_46 w1, r193_47 w1, r193_48 w1, r193_49 w1, r193_50 w1, H1.n, H1.m]
          by_cases n0 : q 0 0 = 0
          · rw [ile_p (by omega) (by omega) (by omega), r135]
          · rw [ile_n (by omega) (by omega) (by omega), ile_p (by omega) (by omega) (by omega), r135]
        · rw [if_neg z]
          have hc := dr_lt (e := lcg e) (n := q 0 0) (by omega)
          have hp := dr_lt (e := lcg (lcg e)) (n := q 0 1) (by omega)
          have D : dOk 3 (iN (dr (lcg e) (q 0 0))) (iN (dr (lcg (lcg e)) (q 0 1))) (dr (lcg e) (q 0 0)) (dr (lcg (lcg e)) (q 0 1)) := ⟨by omega, fun _ => ⟨rfl, by omega⟩, fun h => by omega, fun _ => ⟨rfl, by omega⟩⟩
          obtain ⟨h', f1, f2, f3⟩ := t216 H3 W C3 S K D
          refine ⟨h', ?_, F3.tr f2.1, H3.fm f2, f3, SW.act W S D, K.act _ _ _ W, (f2.2 44 (by omega)).trans (si_eq _ _ _ _)⟩
          simp (disch := omega) only [gT, nbeq, Option.isSome_some, Option.getD_some, Bool.and_true, Bool.true_and, Bool.and_self, mX_some, bS, bN_if, bN_01, i1_01, i0_01, if_true, if_false, Bool.false_eq_true, false_and, and_false, and_true, true_and, and_self, Bool.or_false, Bool.false_or, Bool.or_true, Bool.true_or, Bool.false_and, Bool.and_false, decide_true, decide_false, L0, L1, L2, L3, L4, L5, L6, L7, L8, L9, L10, L11, L12, L13, L14, L15, L16, L17, L18, L19, L20, L21, L22, L23, L24, L25, L27, L33, L39, L40, L45, L48, L57, L60, L72, L90, L97, L98, L99, L100, L121, L122, L242, L255, L256, L580, L600, L1000, L1584, L1000000, Ln1, iN_add, iN_and, iN_or, iN_nd, iN_shl, iN_shr, iN_cl, iN_in, iN_mul, k193 w1, r193_1 w1, r193_2 w1, r193_3 w1, r193_4 w1, r193_5 w1, r193_6 w1, r193_7 w1, r193_8 w1, r193_18 w1, r193_19 w1, r193_32 w1, r193_33 w1, r193_34 w1, r193_36 w1, r193_38 w1, r193_39 w1, r193_40 w1, r193_42 w1, r193_45 w1, r193_46 w1, r193_47 w1, r193_48 w1, r193_49 w1, r193_50 w1, k193 w2, r193_1 w2, r193_2 w2, r193_3 w2, r193_4 w2, r193_5 w2, r193_6 w2, r193_7 w2, r193_8 w2, r193_18 w2, r193_19 w2, r193_32 w2, r193_33 w2, r193_34 w2, r193_36 w2, r193_38 w2, r193_39 w2, r193_40 w2, r193_42 w2, r193_45 w2, r193_46 w2, r193_47 w2, r193_48 w2, r193_49 w2, r193_50 w2, k193 w3, r193_1 w3, r193_2 w3, r193_3 w3, r193_4 w3, r193_5 w3, r193_6 w3, r193_7 w3, r193_8 w3, r193_18 w3, r193_19 w3, r193_32 w3, r193_33 w3, r193_34 w3, r193_36 w3, r193_38 w3, r193_39 w3, r193_40 w3, r193_42 w3, r193_45 w3, r193_46 w3, r193_47 w3, r193_48 w3, r193_49 w3, r193_50 w3, H1.n, H1.m, H2.m, ile_n, t269 w1 e1, t269 w2 e2, f1, r135]
      · rw [if_neg d5]
        by_cases d6 : dr e 8 = 6
        · rw [if_pos d6, ieq_p d6]
          have D : dOk 4 jN jN 0 0 := ⟨by omega, fun h => by omega, fun h => by omega, fun h => by omega⟩
          obtain ⟨h', f1, f2, f3⟩ := t216 H1 W C1 S K D
          refine ⟨h', ?_, F1.tr f2.1, H1.fm f2, f3, SW.act W S D, K.act _ _ _ W, (f2.2 44 (by omega)).trans e1⟩
          simp (disch := omega) only [gT, nbeq, Option.isSome_some, Option.getD_some, Bool.and_true, Bool.true_and, Bool.and_self, mX_some, bS, bN_if, bN_01, i1_01, i0_01, if_true, if_false, Bool.false_eq_true, false_and, and_false, and_true, true_and, and_self, Bool.or_false, Bool.false_or, Bool.or_true, Bool.true_or, Bool.false_and, Bool.and_false, decide_true, decide_false, f1, r135]
        · rw [if_neg d6, ieq_n (by omega) (by omega) d6, ieq_p (by omega)]
          obtain ⟨h', f1, f2, f3⟩ := t227 H1 W C1 S
          rw [dayM_eq W K] at f3
          refine ⟨h', ?_, F1.tr f2.1, H1.fm f2, f3, S.day W, K.act 5 0 0 W, (f2.2 44 (by omega)).trans e1⟩
          simp (disch := omega) only [gT, nbeq, Option.isSome_some, Option.getD_some, Bool.and_true, Bool.true_and, Bool.and_self, mX_some, bS, bN_if, bN_01, i1_01, i0_01, if_true, if_false, Bool.false_eq_true, false_and, and_false, and_true, true_and, and_self, Bool.or_false, Bool.false_or, Bool.or_true, Bool.true_or, Bool.false_and, Bool.and_false, decide_true, decide_false, f1, r135]
end ML
def itr {α : Type} (f : α → α) (x : α) : Nat → α
  | 0 => x
  | n + 1 => f (itr f x n)
theorem itr_ex {α : Type} (f : α → α) (x : α) : ∃ D : Nat → α, D 0 = x ∧ ∀ n, D (n + 1) = f (D n) := ⟨itr f x, rfl, fun _ => rfl⟩
section PB
variable {h : mH}
theorem t122 {a la : Nat} {q : LQ} {e : Int32} {D : Nat → LSt × Int32} (D0 : D 0 = (s0 q, e)) (Ds : ∀ n, D (n + 1) = drS q (D n)) (L : Lf0 h a) (H : LibS h la q) (W : QW q) (pa : la + 7 ≤ a) {n : Nat} (hn : n < 100) : ∃ h', f122 h a la e (iN n) = some ((), h') ∧ (∃ g, FB a la h g ∧ Fr (pL a) g h') ∧ LfS h' a la ∧ LibS h' la q ∧ CLS h' a (D n).1 ∧ SW q (D n).1 := by
  obtain ⟨g1, b1, b2, b3, b4⟩ := t63 L H pa
  have Lb := b2.lf L
  have H1 : LibS g1 la q := H.st (fun i hi => b2.st (pL_n (by omega) (by omega) (by omega)) (by omega))
  unfold f122
  simp only [gT, nbeq, Option.isSome_some, Option.getD_some, Bool.and_true, Bool.true_and, Bool.and_self, mX_some, bS, bN_if, bN_01, i1_01, i0_01, if_true, if_false, Bool.false_eq_true, false_and, and_false, and_true, true_and, and_self, Bool.or_false, Bool.false_or, Bool.or_true, Bool.true_or, Bool.false_and, Bool.and_false, decide_true, decide_false, L0, L1, L2, L3, L4, L5, L6, L7, L8, L9, L10, L11, L12, L13, L14, L15, L16, L17, L18, L19, L20, L21, L22, L23, L24, L25, L27, L33, L39, L40, L45, L48, L57, L60, L72, L90, L97, L98, L99, L100, L121, L122, L242, L255, L256, L580, L600, L1000, L1584, L1000000, Ln1, iN_add, iN_and, iN_or, iN_nd, iN_shl, iN_shr, iN_cl, iN_in, iN_mul, L.k, b1, Lb.k]
  have := lp_inv (body := f122_13 a (iN n)) (P := fun i z => z.1 = iN i ∧ Fr (pL a) g1 z.2 ∧ CLS z.2 a (D i).1 ∧ SW q (D i).1 ∧ mI z.2 a 14 = (D i).2) (Q := fun r => Fr (pL a) g1 r.2 ∧ CLS r.2 a (D n).1 ∧ SW q (D n).1) n (fun i z hi hP => by
    rw [Ds]
    generalize D i = x at hP ⊢
    obtain ⟨s1, e1⟩ := x
    obtain ⟨h1, h2, h3, h4, h5⟩ := hP
    have Lc := Lb.fr h2
    have H2 := H1.fl h2 pa
    obtain ⟨h', h2', f1, f2, f3, f4, f5, f6⟩ := drS_ok Lc H2 W h3 h4 pa h5
    have ek : mK h' a = (7, 15) := by
      have q1 := t123 Lc h5 (n := 8) (by omega) (by omega)
      rw [f1] at q1
      have q2 := Option.some.inj q1
      have q3 : h' = mSI z.2 a 14 (lcg e1) := congrArg Prod.snd q2
      rw [q3, mK_SI]; exact Lc.k
    refine Or.inl ⟨(iN (i + 1), h2'), ?_, rfl, h2.tr f3, f4, f5, f6⟩
    unfold f122_13
    rw [h1]
    simp (disch := omega) only [gT, nbeq, Option.isSome_some, Option.getD_some, Bool.and_true, Bool.true_and, Bool.and_self, mX_some, bS, bN_if, bN_01, i1_01, i0_01, if_true, if_false, Bool.false_eq_true, false_and, and_false, and_true, true_and, and_self, Bool.or_false, Bool.false_or, Bool.or_true, Bool.true_or, Bool.false_and, Bool.and_false, decide_true, decide_false, L0, L1, L2, L3, L4, L5, L6, L7, L8, L9, L10, L11, L12, L13, L14, L15, L16, L17, L18, L19, L20, L21, L22, L23, L24, L25, L27, L33, L39, L40, L45, L48, L57, L60, L72, L90, L97, L98, L99, L100, L121, L122, L242, L255, L256, L580, L600, L1000, L1584, L1000000, Ln1, iN_add, iN_and, iN_or, iN_nd, iN_shl, iN_shr, iN_cl, iN_in, iN_mul, ile_n, Lc.k, f1, ek, f2]) (fun z hP => by
    obtain ⟨h1, h2, h3, h4, h5⟩ := hP
    refine ⟨((), z.2), ?_, h2, h3, h4⟩
    unfold f122_13
    rw [h1]
    simp (disch := omega) only [gT, nbeq, Option.isSome_some, Option.getD_some, Bool.and_true, Bool.true_and, Bool.and_self, mX_some, bS, bN_if, bN_01, i1_01, i0_01, if_true, if_false, Bool.false_eq_true, false_and, and_false, and_true, true_and, and_self, Bool.or_false, Bool.false_or, Bool.or_true, Bool.true_or, Bool.false_and, Bool.and_false, decide_true, decide_false, L0, L1, L2, L3, L4, L5, L6, L7, L8, L9, L10, L11, L12, L13, L14, L15, L16, L17, L18, L19, L20, L21, L22, L23, L24, L25, L27, L33, L39, L40, L45, L48, L57, L60, L72, L90, L97, L98, L99, L100, L121, L122, L242, L255, L256, L580, L600, L1000, L1584, L1000000, Ln1, iN_add, iN_and, iN_or, iN_nd, iN_shl, iN_shr, iN_cl, iN_in, iN_mul, ile_p]) (by omega) (s := (iN 0, mSI g1 a 14 e)) (by rw [D0]; exact ⟨rfl, Fr.rfl.si (pL0 a), b3.d, SW0 W, si_eq _ _ _ _⟩)
  obtain ⟨⟨u, h'⟩, r1, r2, r3, r4⟩ := this
  exact ⟨h', r1, ⟨g1, b2, r2⟩, Lb.fr r2, H1.fl r2 pa, r3, r4⟩
theorem c_drawn (R : Rel h) (x1 x2 x3 x4 : Int32) : ∃ v h1, f121 h 0 x1 x2 x3 x4 = some (v, h1) ∧ FQ h h1 ∧ ∀ h0, FQ h h0 → ∃ h2, f267 h0 193 x1 x2 x3 x4 = some (v, h2) ∧ FQ h0 h2 := by
  have w := R.1
  unfold f121 f121_25
  simp only [gT, nbeq, Option.isSome_some, Option.getD_some, Bool.and_true, Bool.true_and, Bool.and_self, mX_some, bS, bN_if, bN_01, i1_01, i0_01, if_true, if_false, Bool.false_eq_true, false_and, and_false, and_true, true_and, and_self, Bool.or_false, Bool.false_or, Bool.or_true, Bool.true_or, Bool.false_and, Bool.and_false, decide_true, decide_false, k0 w, r0_0 w, r0_1 w, r0_2 w, r0_3 w, r0_4 w, r0_5 w, r0_6 w, r0_7 w, r0_8 w, k1 w, r1_0 w, r1_1 w, r1_2 w, r1_3 w, r1_4 w]
  rcases R.pick x1 with ⟨e1, e2⟩ | ⟨i, q, hi, rfl, W, H, e1, e2⟩
  · simp only [gT, nbeq, Option.isSome_some, Option.getD_some, Bool.and_true, Bool.true_and, Bool.and_self, mX_some, bS, bN_if, bN_01, i1_01, i0_01, if_true, if_false, Bool.false_eq_true, false_and, and_false, and_true, true_and, and_self, Bool.or_false, Bool.false_or, Bool.or_true, Bool.true_or, Bool.false_and, Bool.and_false, decide_true, decide_false, L0, L1, L2, L3, L4, L5, L6, L7, L8, L9, L10, L11, L12, L13, L14, L15, L16, L17, L18, L19, L20, L21, L22, L23, L24, L25, L27, L33, L39, L40, L45, L48, L57, L60, L72, L90, L97, L98, L99, L100, L121, L122, L242, L255, L256, L580, L600, L1000, L1584, L1000000, Ln1, iN_add, iN_and, iN_or, iN_nd, iN_shl, iN_shr, iN_cl, iN_in, iN_mul, Ln2, e1]
    refine ⟨_, _, rfl, FQ.rfl, fun h0 F => ?_⟩
    have w0 := R.1.q F
    unfold f267 f267_23
    simp (disch := omega) only [gT, nbeq, Option.isSome_some, Option.getD_some, Bool.and_true, Bool.true_and, Bool.and_self, mX_some, bS, bN_if, bN_01, i1_01, i0_01, if_true, if_false, Bool.false_eq_true, false_and, and_false, and_true, true_and, and_self, Bool.or_false, Bool.false_or, Bool.or_true, Bool.true_or, Bool.false_and, Bool.and_false, decide_true, decide_false, L0, L1, L2, L3, L4, L5, L6, L7, L8, L9, L10, L11, L12, L13, L14, L15, L16, L17, L18, L19, L20, L21, L22, L23, L24, L25, L27, L33, L39, L40, L45, L48, L57, L60, L72, L90, L97, L98, L99, L100, L121, L122, L242, L255, L256, L580, L600, L1000, L1584, L1000000, Ln1, iN_add, iN_and, iN_or, iN_nd, iN_shl, iN_shr, iN_cl, iN_in, iN_mul, Ln2, k193 w0, r193_1 w0, r193_2 w0, r193_3 w0, r193_4 w0, r193_5 w0, r193_6 w0, r193_7 w0, r193_8 w0, r193_18 w0, r193_19 w0, r193_32 w0, r193_33 w0, r193_34 w0, r193_36 w0, r193_38 w0, r193_39 w0, r193_40 w0, r193_42 w0, r193_45 w0, r193_46 w0, r193_47 w0, r193_48 w0, r193_49 w0, r193_50 w0, t179r, e2 _ F.co]
    cases rg x3 (60 + 1) <;> simp only [gT, nbeq, Option.isSome_some, Option.getD_some, Bool.and_true, Bool.true_and, Bool.and_self, mX_some, bS, bN_if, bN_01, i1_01, i0_01, if_true, if_false, Bool.false_eq_true, false_and, and_false, and_true, true_and, and_self, Bool.or_false, Bool.false_or, Bool.or_true, Bool.true_or, Bool.false_and, Bool.and_false, decide_true, decide_false] <;> exact ⟨_, rfl, FQ.c0⟩
  · simp (disch := omega) only [gT, nbeq, Option.isSome_some, Option.getD_some, Bool.and_true, Bool.true_and, Bool.and_self, mX_some, bS, bN_if, bN_01, i1_01, i0_01, if_true, if_false, Bool.false_eq_true, false_and, and_false, and_true, true_and, and_self, Bool.or_false, Bool.false_or, Bool.or_true, Bool.true_or, Bool.false_and, Bool.and_false, decide_true, decide_false, L0, L1, L2, L3, L4, L5, L6, L7, L8, L9, L10, L11, L12, L13, L14, L15, L16, L17, L18, L19, L20, L21, L22, L23, L24, L25, L27, L33, L39, L40, L45, L48, L57, L60, L72, L90, L97, L98, L99, L100, L121, L122, L242, L255, L256, L580, L600, L1000, L1584, L1000000, Ln1, iN_add, iN_and, iN_or, iN_nd, iN_shl, iN_shr, iN_cl, iN_in, iN_mul, Ln2, e1, t17r]
    cases hr : rg x3 (60 + 1) with
    | false =>
      simp only [gT, nbeq, Option.isSome_some, Option.getD_some, Bool.and_true, Bool.true_and, Bool.and_self, mX_some, bS, bN_if, bN_01, i1_01, i0_01, if_true, if_false, Bool.false_eq_true, false_and, and_false, and_true, true_and, and_self, Bool.or_false, Bool.false_or, Bool.or_true, Bool.true_or, Bool.false_and, Bool.and_false, decide_true, decide_false]
      refine ⟨_, _, rfl, FQ.rfl, fun h0 F => ?_⟩
      have w0 := R.1.q F
      unfold f267 f267_23
      simp (disch := omega) only [gT, nbeq, Option.isSome_some, Option.getD_some, Bool.and_true, Bool.true_and, Bool.and_self, mX_some, bS, bN_if, bN_01, i1_01, i0_01, if_true, if_false, Bool.false_eq_true, false_and, and_false, and_true, true_and, and_self, Bool.or_false, Bool.false_or, Bool.or_true, Bool.true_or, Bool.false_and, Bool.and_false, decide_true, decide_false, L0, L1, L2, L3, L4, L5, L6, L7, L8, L9, L10, L11, L12, L13, L14, L15, L16, L17, L18, L19, L20, L21, L22, L23, L24, L25, L27, L33, L39, L40, L45, L48, L57, L60, L72, L90, L97, L98, L99, L100, L121, L122, L242, L255, L256, L580, L600, L1000, L1584, L1000000, Ln1, iN_add, iN_and, iN_or, iN_nd, iN_shl, iN_shr, iN_cl, iN_in, iN_mul, Ln2, k193 w0, r193_1 w0, r193_2 w0, r193_3 w0, r193_4 w0, r193_5 w0, r193_6 w0, r193_7 w0, r193_8 w0, r193_18 w0, r193_19 w0, r193_32 w0, r193_33 w0, r193_34 w0, r193_36 w0, r193_38 w0, r193_39 w0, r193_40 w0, r193_42 w0, r193_45 w0, r193_46 w0, r193_47 w0, r193_48 w0, r193_49 w0, r193_50 w0, t179r, hr]
      exact ⟨_, rfl, FQ.c0⟩
    | true =>
      obtain ⟨n, hn, rfl, _⟩ := rg_t hr
      obtain ⟨D, D0, Ds⟩ := itr_ex (drS q) (s0 q, x2)
      obtain ⟨h1, a1, ⟨g, a2, a3⟩, a4, a5, a6, a7⟩ := t122 D0 Ds w.l56 H W (by omega) (n := n) (by omega)
      have Q1 : FQ h h1 := a2.q.tr a3.q56
      have wh := w.q Q1
      simp only [gT, nbeq, Option.isSome_some, Option.getD_some, Bool.and_true, Bool.true_and, Bool.and_self, mX_some, bS, bN_if, bN_01, i1_01, i0_01, if_true, if_false, Bool.false_eq_true, false_and, and_false, and_true, true_and, and_self, Bool.or_false, Bool.false_or, Bool.or_true, Bool.true_or, Bool.false_and, Bool.and_false, decide_true, decide_false, k56 w, r56_0 w, r56_2 w, k0 wh, r0_0 wh, r0_1 wh, r0_2 wh, r0_3 wh, r0_4 wh, r0_5 wh, r0_6 wh, r0_7 wh, r0_8 wh, k56 wh, r56_0 wh, r56_2 wh, a1]
      have mo : ∀ h0, FQ h h0 → ∀ v, (∀ h3, MoS h3 q → MLS h3 (D n).1 → SW q (D n).1 → KW q (D n).1 → f230 h3 193 x4 = some v) → ∃ h2, f267 h0 193 (iN i) x2 (iN n) x4 = some (v, h2) ∧ FQ h0 h2 := fun h0 F v hv => by
        have w0 := R.1.q F
        obtain ⟨h', g1, g2, g3, g4, g5⟩ := e2 _ F.co
        have w1 := g4.1
        have := lp_inv (body := f267_34 193 (iN n) x4) (P := fun i z => z.1 = iN i ∧ Fr pM h' z.2 ∧ MoS z.2 q ∧ MLS z.2 (D i).1 ∧ SW q (D i).1 ∧ KW q (D i).1 ∧ mI z.2 193 44 = (D i).2) (Q := fun r => r.1 = v ∧ Fr pM h' r.2) n (fun i z hi hP => by
          rw [Ds]
          generalize D i = x at hP ⊢
          obtain ⟨s1, e1⟩ := x
          obtain ⟨h1, h2, h3, h4, h5, h6, h7⟩ := hP
          have w2 := h3.1
          obtain ⟨h'', f1, f2, f3, f4, f5, f6, f7⟩ := drM h3 W h4 h5 h6 h7
          refine Or.inl ⟨(iN (i + 1), h''), ?_, rfl, h2.tr f2, f3, f4, f5, f6, f7⟩
          unfold f267_34
          rw [h1]
          simp (disch := omega) only [gT, nbeq, Option.isSome_some, Option.getD_some, Bool.and_true, Bool.true_and, Bool.and_self, mX_some, bS, bN_if, bN_01, i1_01, i0_01, if_true, if_false, Bool.false_eq_true, false_and, and_false, and_true, true_and, and_self, Bool.or_false, Bool.false_or, Bool.or_true, Bool.true_or, Bool.false_and, Bool.and_false, decide_true, decide_false, L0, L1, L2, L3, L4, L5, L6, L7, L8, L9, L10, L11, L12, L13, L14, L15, L16, L17, L18, L19, L20, L21, L22, L23, L24, L25, L27, L33, L39, L40, L45, L48, L57, L60, L72, L90, L97, L98, L99, L100, L121, L122, L242, L255, L256, L580, L600, L1000, L1584, L1000000, Ln1, iN_add, iN_and, iN_or, iN_nd, iN_shl, iN_shr, iN_cl, iN_in, iN_mul, ile_n, k193 w2, r193_1 w2, r193_2 w2, r193_3 w2, r193_4 w2, r193_5 w2, r193_6 w2, r193_7 w2, r193_8 w2, r193_18 w2, r193_19 w2, r193_32 w2, r193_33 w2, r193_34 w2, r193_36 w2, r193_38 w2, r193_39 w2, r193_40 w2, r193_42 w2, r193_45 w2, r193_46 w2, r193_47 w2, r193_48 w2, r193_49 w2, r193_50 w2, f1]) (fun z hP => by
          obtain ⟨h1, h2, h3, h4, h5, h6, h7⟩ := hP
          have w2 := h3.1
          refine ⟨(v, z.2), ?_, rfl, h2⟩
          unfold f267_34
          rw [h1]
          simp (disch := omega) only [gT, nbeq, Option.isSome_some, Option.getD_some, Bool.and_true, Bool.true_and, Bool.and_self, mX_some, bS, bN_if, bN_01, i1_01, i0_01, if_true, if_false, Bool.false_eq_true, false_and, and_false, and_true, true_and, and_self, Bool.or_false, Bool.false_or, Bool.or_true, Bool.true_or, Bool.false_and, Bool.and_false, decide_true, decide_false, L0, L1, L2, L3, L4, L5, L6, L7, L8, L9, L10, L11, L12, L13, L14, L15, L16, L17, L18, L19, L20, L21, L22, L23, L24, L25, L27, L33, L39, L40, L45, L48, L57, L60, L72, L90, L97, L98, L99, L100, L121, L122, L242, L255, L256, L580, L600, L1000, L1584, L1000000, Ln1, iN_add, iN_and, iN_or, iN_nd, iN_shl, iN_shr, iN_cl, iN_in, iN_mul, ile_p, k193 w2, r193_1 w2, r193_2 w2, r193_3 w2, r193_4 w2, r193_5 w2, r193_6 w2, r193_7 w2, r193_8 w2, r193_18 w2, r193_19 w2, r193_32 w2, r193_33 w2, r193_34 w2, r193_36 w2, r193_38 w2, r193_39 w2, r193_40 w2, r193_42 w2, r193_45 w2, r193_46 w2, r193_47 w2, r193_48 w2, r193_49 w2, r193_50 w2, hv z.2 h3 h4 h5 h6]) (by omega) (s := (iN 0, mSI h' 193 44 x2)) (by rw [D0]; exact ⟨rfl, Fr.rfl.si (by decide), g4.sd (by omega), g5.sd (by omega), SW0 W, KW0 q, si_eq _ _ _ _⟩)
        obtain ⟨⟨r, h2⟩, r1, r2, r3⟩ := this
        cases r2
        refine ⟨h2, ?_, (FQ.c0.tr g2.qM).tr r3.qM⟩
        unfold f267
        simp (disch := omega) only [gT, nbeq, Option.isSome_some, Option.getD_some, Bool.and_true, Bool.true_and, Bool.and_self, mX_some, bS, bN_if, bN_01, i1_01, i0_01, if_true, if_false, Bool.false_eq_true, false_and, and_false, and_true, true_and, and_self, Bool.or_false, Bool.false_or, Bool.or_true, Bool.true_or, Bool.false_and, Bool.and_false, decide_true, decide_false, L0, L1, L2, L3, L4, L5, L6, L7, L8, L9, L10, L11, L12, L13, L14, L15, L16, L17, L18, L19, L20, L21, L22, L23, L24, L25, L27, L33, L39, L40, L45, L48, L57, L60, L72, L90, L97, L98, L99, L100, L121, L122, L242, L255, L256, L580, L600, L1000, L1584, L1000000, Ln1, iN_add, iN_and, iN_or, iN_nd, iN_shl, iN_shr, iN_cl, iN_in, iN_mul, Ln2, k193 w0, r193_1 w0, r193_2 w0, r193_3 w0, r193_4 w0, r193_5 w0, r193_6 w0, r193_7 w0, r193_8 w0, r193_18 w0, r193_19 w0, r193_32 w0, r193_33 w0, r193_34 w0, r193_36 w0, r193_38 w0, r193_39 w0, r193_40 w0, r193_42 w0, r193_45 w0, r193_46 w0, r193_47 w0, r193_48 w0, r193_49 w0, r193_50 w0, k193 w1, r193_1 w1, r193_2 w1, r193_3 w1, r193_4 w1, r193_5 w1, r193_6 w1, r193_7 w1, r193_8 w1, r193_18 w1, r193_19 w1, r193_32 w1, r193_33 w1, r193_34 w1, r193_36 w1, r193_38 w1, r193_39 w1, r193_40 w1, r193_42 w1, r193_45 w1, r193_46 w1, r193_47 w1, r193_48 w1, r193_49 w1, r193_50 w1, g1, t179r, hr, r1]
      by_cases hx : x4.toInt < 0
      · rw [t81n a4 hx]
        simp only [gT, nbeq, Option.isSome_some, Option.getD_some, Bool.and_true, Bool.true_and, Bool.and_self, mX_some, bS, bN_if, bN_01, i1_01, i0_01, if_true, if_false, Bool.false_eq_true, false_and, and_false, and_true, true_and, and_self, Bool.or_false, Bool.false_or, Bool.or_true, Bool.true_or, Bool.false_and, Bool.and_false, decide_true, decide_false]
        exact ⟨_, _, rfl, Q1, fun h0 F => mo h0 F wN (fun h3 m _ _ _ => ofSn m.1 hx)⟩
      · obtain ⟨v, hv, rfl⟩ := ge_iN hx
        rw [t81 a4 a5 W a6 a7 hv]
        simp only [gT, nbeq, Option.isSome_some, Option.getD_some, Bool.and_true, Bool.true_and, Bool.and_self, mX_some, bS, bN_if, bN_01, i1_01, i0_01, if_true, if_false, Bool.false_eq_true, false_and, and_false, and_true, true_and, and_self, Bool.or_false, Bool.false_or, Bool.or_true, Bool.true_or, Bool.false_and, Bool.and_false, decide_true, decide_false]
        exact ⟨_, _, rfl, Q1, fun h0 F => mo h0 F _ (fun h3 m1 m2 m3 m4 => ofS m1 W m2 m3 m4 hv)⟩
end PB
