/-! DRAWN -/
def lcg (e : Int32) : Int32 := e * 1103515245 + 12345
def d16 (e : Int32) : Nat := e.toUInt32.toNat / 65536
theorem d16_lt (e : Int32) : d16 e < 65536 := by
  have := e.toUInt32.toNat_lt
  unfold d16; omega
theorem ush16 (e : Int32) : (Int32.toUInt32 e >>> (Int32.toUInt32 (iN 16) &&& Int32.toUInt32 31)).toInt32 = iN (d16 e) := by
  have h1 : (Int32.toUInt32 (iN 16) &&& Int32.toUInt32 31) = (16 : UInt32) := by decide
  rw [h1]
  have h2 : (Int32.toUInt32 e >>> (16 : UInt32)) = UInt32.ofNat (d16 e) := by
    apply UInt32.toNat_inj.1
    have h3 : (UInt32.ofNat (d16 e)).toNat = d16 e := UInt32.toNat_ofNat_of_lt (by have := d16_lt e; show d16 e < 4294967296; omega)
    rw [UInt32.toNat_shiftRight, h3]
    unfold d16
    rw [Nat.shiftRight_eq_div_pow]; rfl
  rw [h2]; rfl
/-- one of n is drawn behind the seed e -/
def dr (e : Int32) (n : Nat) : Nat := d16 (lcg e) % n
theorem dr_lt {e : Int32} {n : Nat} (h : 0 < n) : dr e n < n := Nat.mod_lt _ h
def drS (q : LQ) (x : LSt × Int32) : LSt × Int32 := if dr x.2 8 ≤ 2 then (if q 0 0 = 0 then (x.1, lcg x.2) else ((actS q x.1 (if dr x.2 8 = 2 then 1 else 0) (dr (lcg x.2) (q 0 0)) 0).getD x.1, lcg (lcg x.2))) else if dr x.2 8 = 3 then ((actS q x.1 2 (dr (lcg x.2) 6) 0).getD x.1, lcg (lcg x.2)) else if dr x.2 8 ≤ 5 then (if q 0 0 = 0 ∨ q 0 1 = 0 then (x.1, lcg x.2) else ((actS q x.1 3 (dr (lcg x.2) (q 0 0)) (dr (lcg (lcg x.2)) (q 0 1))).getD x.1, lcg (lcg (lcg x.2)))) else if dr x.2 8 = 6 then ((actS q x.1 4 0 0).getD x.1, lcg x.2) else ((actS q x.1 5 0 0).getD x.1, lcg x.2)
section LF
variable {h : mH} {a la : Nat} {q : LQ} {s : LSt} {e : Int32}
theorem CLS.d {v : Int32} (C : CLS h a s) : CLS (mSI h a 14 v) a s := C.x (fun j hj => by simp (disch := omega) only [si_ne, si_nk, si_eq]) (fun j => by simp (disch := omega) only [si_ne, si_nk, si_eq]) (fun j => by simp (disch := omega) only [si_ne, si_nk, si_eq])
theorem t123 (L : LfS h a la) (he : mI h a 14 = e) {n : Nat} (h0 : 0 < n) (hn : n < 100) : f123 h a (iN n) = some (iN (dr e n), mSI h a 14 (lcg e)) := by
  have := d16_lt (lcg e)
  unfold f123 f123_33
  rw [he]
  change mGd _ (if (1 : Int32) ≤ iN n then mGd _ (mGd _ (some (_, mSI h a 14 (lcg e)))) else _) = _
  simp only [si_eq]
  change mGd _ (if (1 : Int32) ≤ iN n then mGd _ (mGd _ (some (((Int32.toUInt32 (lcg e) >>> (Int32.toUInt32 16 &&& Int32.toUInt32 31)).toInt32) - ((Int32.toUInt32 (lcg e) >>> (Int32.toUInt32 16 &&& Int32.toUInt32 31)).toInt32) / iN n * iN n, mSI h a 14 (lcg e)))) else _) = _
  simp (disch := omega) only [gT, nbeq, Option.isSome_some, Option.getD_some, Bool.and_true, Bool.true_and, Bool.and_self, mX_some, bS, bN_if, bN_01, i1_01, i0_01, if_true, if_false, Bool.false_eq_true, false_and, and_false, and_true, true_and, and_self, Bool.or_false, Bool.false_or, Bool.or_true, Bool.true_or, Bool.false_and, Bool.and_false, decide_true, decide_false, L.k, L.r0, L.r2, L.r3, L.k1, L.k2, L1, L0, L16, ile_p, iN_nz, ush16, iN_rem]
  rfl
theorem drS_ok (L : LfS h a la) (H : LibS h la q) (W : QW q) (C : CLS h a s) (S : SW q s) (pa : la + 7 ≤ a) (he : mI h a 14 = e) : ∃ h' h2, f123 h a (iN 8) = some (iN (dr e 8), h') ∧ f124 h' a (iN (dr e 8)) = some ((), h2) ∧ Fr (pL a) h h2 ∧ CLS h2 a (drS q (s, e)).1 ∧ SW q (drS q (s, e)).1 ∧ mI h2 a 14 = (drS q (s, e)).2 := by
  have hn := W.1.1
  have hm := W.1.2.1
  have h8 := dr_lt (e := e) (n := 8) (by omega)
  have F1 : Fr (pL a) h (mSI h a 14 (lcg e)) := Fr.rfl.si (pL0 a)
  have La1 := L.fr F1
  have H1 := H.fl F1 pa
  have e1 : mI (mSI h a 14 (lcg e)) a 14 = lcg e := si_eq _ _ _ _
  have F2 : Fr (pL a) h (mSI (mSI h a 14 (lcg e)) a 14 (lcg (lcg e))) := F1.si (pL0 a)
  have La2 := L.fr F2
  have H2 := H.fl F2 pa
  have e2 : mI (mSI (mSI h a 14 (lcg e)) a 14 (lcg (lcg e))) a 14 = lcg (lcg e) := si_eq _ _ _ _
  have F3 : Fr (pL a) h (mSI (mSI (mSI h a 14 (lcg e)) a 14 (lcg (lcg e))) a 14 (lcg (lcg (lcg e)))) := F2.si (pL0 a)
  have La3 := L.fr F3
  have H3 := H.fl F3 pa
  refine ⟨mSI h a 14 (lcg e), ?_⟩
  have none0 : f124_176 (mSI h a 14 (lcg e)) = some ((), mSI h a 14 (lcg e)) := rfl
  have pre : f124 (mSI h a 14 (lcg e)) a (iN (dr e 8)) = f124_15 (mSI h a 14 (lcg e)) a (iN (dr e 8)) (iN (if q 0 0 = 0 then 1 else 0)) := by
    unfold f124
    simp (disch := omega) only [gT, nbeq, Option.isSome_some, Option.getD_some, Bool.and_true, Bool.true_and, Bool.and_self, mX_some, bS, bN_if, bN_01, i1_01, i0_01, if_true, if_false, Bool.false_eq_true, false_and, and_false, and_true, true_and, and_self, Bool.or_false, Bool.false_or, Bool.or_true, Bool.true_or, Bool.false_and, Bool.and_false, decide_true, decide_false, L0, L1, L2, L3, L4, L5, L6, L7, L8, L9, L10, L11, L12, L13, L14, L15, L16, L17, L18, L19, L20, L21, L22, L23, L24, L25, L27, L33, L39, L40, L45, L48, L57, L60, L72, L90, L97, L98, L99, L100, L121, L122, L242, L255, L256, L580, L600, L1000, L1584, L1000000, Ln1, iN_add, iN_and, iN_or, iN_nd, iN_shl, iN_shr, iN_cl, iN_in, iN_mul, La1.k, La1.r0, La1.r2, La1.r3, La1.k1, La1.k2, H1.k, H1.n, ieq_d]
    split <;> rfl
  rw [pre, t123 L he (by omega) (by omega)]
  unfold f124_15 drS
  by_cases w2 : dr e 8 ≤ 2
  · rw [if_pos w2]
    have p60 : (if iN (dr e 8) = 0 then f124_60 (mSI h a 14 (lcg e)) a (iN (dr e 8)) (iN (if q 0 0 = 0 then 1 else 0)) else if iN (dr e 8) = 1 then f124_60 (mSI h a 14 (lcg e)) a (iN (dr e 8)) (iN (if q 0 0 = 0 then 1 else 0)) else if iN (dr e 8) = 2 then f124_60 (mSI h a 14 (lcg e)) a (iN (dr e 8)) (iN (if q 0 0 = 0 then 1 else 0)) else f124_176 h) = f124_60 (mSI h a 14 (lcg e)) a (iN (dr e 8)) (iN (if q 0 0 = 0 then 1 else 0)) := by
      simp (disch := omega) only [L0, L1, L2, ieq_d]
      split
      · rfl
      · split
        · rfl
        · rw [if_pos (by omega)]
    have q60 : ∀ X : Option (Unit × mH), (if iN (dr e 8) = 0 then f124_60 (mSI h a 14 (lcg e)) a (iN (dr e 8)) (iN (if q 0 0 = 0 then 1 else 0)) else if iN (dr e 8) = 1 then f124_60 (mSI h a 14 (lcg e)) a (iN (dr e 8)) (iN (if q 0 0 = 0 then 1 else 0)) else if iN (dr e 8) = 2 then f124_60 (mSI h a 14 (lcg e)) a (iN (dr e 8)) (iN (if q 0 0 = 0 then 1 else 0)) else X) = f124_60 (mSI h a 14 (lcg e)) a (iN (dr e 8)) (iN (if q 0 0 = 0 then 1 else 0)) := by
      intro X
      simp (disch := omega) only [L0, L1, L2, ieq_d]
      split
      · rfl
      · split
        · rfl
        · rw [if_pos (by omega)]
    rw [q60]
    unfold f124_60
    by_cases n0 : q 0 0 = 0
    · rw [if_pos n0, if_pos n0]
      refine ⟨_, rfl, ?_, F1, C.d, S, e1⟩
      simp (disch := omega) only [L0, ieq_n, none0]
    · rw [if_neg n0, if_neg n0]
      have hc := dr_lt (e := lcg e) (n := q 0 0) (by omega)
      by_cases w22 : dr e 8 = 2
      · rw [if_pos w22]
        obtain ⟨h', f1, f2, f3, f4, f5, f6⟩ := t67 La2 H2 W (C.d.d) S pa (k := 1) (x := dr (lcg e) (q 0 0)) (y := 0) (u := iN (dr (lcg e) (q 0 0))) (v := jN) ⟨by omega, fun _ => ⟨rfl, by omega⟩, fun h => by omega, fun h => by omega⟩
        refine ⟨h', rfl, ?_, F2.tr f2, f3, f4, (f5 14 (by omega)).trans e2⟩
        unfold f124_176
        simp (disch := omega) only [gT, nbeq, Option.isSome_some, Option.getD_some, Bool.and_true, Bool.true_and, Bool.and_self, mX_some, bS, bN_if, bN_01, i1_01, i0_01, if_true, if_false, Bool.false_eq_true, false_and, and_false, and_true, true_and, and_self, Bool.or_false, Bool.false_or, Bool.or_true, Bool.true_or, Bool.false_and, Bool.and_false, decide_true, decide_false, L0, L1, L2, L3, L4, L5, L6, L7, L8, L9, L10, L11, L12, L13, L14, L15, L16, L17, L18, L19, L20, L21, L22, L23, L24, L25, L27, L33, L39, L40, L45, L48, L57, L60, L72, L90, L97, L98, L99, L100, L121, L122, L242, L255, L256, L580, L600, L1000, L1584, L1000000, Ln1, iN_add, iN_and, iN_or, iN_nd, iN_shl, iN_shr, iN_cl, iN_in, iN_mul, ile_p, ile_n, ilt_p, ilt_n, ieq_p, ieq_n, ij_n, jj_p, ijle, jile, ijlt, jilt, La1.k, La1.r0, La1.r2, La1.r3, La1.k1, La1.k2, La2.k, La2.r0, La2.r2, La2.r3, La2.k1, La2.k2, H1.k, H1.n, t123 La1 e1, f1]
      · rw [if_neg w22]
        obtain ⟨h', f1, f2, f3, f4, f5, f6⟩ := t67 La2 H2 W (C.d.d) S pa (k := 0) (x := dr (lcg e) (q 0 0)) (y := 0) (u := iN (dr (lcg e) (q 0 0))) (v := jN) ⟨by omega, fun _ => ⟨rfl, by omega⟩, fun h => by omega, fun h => by omega⟩
        refine ⟨h', rfl, ?_, F2.tr f2, f3, f4, (f5 14 (by omega)).trans e2⟩
        unfold f124_176
        simp (disch := omega) only [gT, nbeq, Option.isSome_some, Option.getD_some, Bool.and_true, Bool.true_and, Bool.and_self, mX_some, bS, bN_if, bN_01, i1_01, i0_01, if_true, if_false, Bool.false_eq_true, false_and, and_false, and_true, true_and, and_self, Bool.or_false, Bool.false_or, Bool.or_true, Bool.true_or, Bool.false_and, Bool.and_false, decide_true, decide_false, L0, L1, L2, L3, L4, L5, L6, L7, L8, L9, L10, L11, L12, L13, L14, L15, L16, L17, L18, L19, L20, L21, L22, L23, L24, L25, L27, L33, L39, L40, L45, L48, L57, L60, L72, L90, L97, L98, L99, L100, L121, L122, L242, L255, L256, L580, L600, L1000, L1584, L1000000, Ln1, iN_add, iN_and, iN_or, iN_nd, iN_shl, iN_shr, iN_cl, iN_in, iN_mul, ile_p, ile_n, ilt_p, ilt_n, ieq_p, ieq_n, ij_n, jj_p, ijle, jile, ijlt, jilt, La1.k, La1.r0, La1.r2, La1.r3, La1.k1, La1.k2, La2.k, La2.r0, La2.r2, La2.r3, La2.k1, La2.k2, H1.k, H1.n, t123 La1 e1, f1]
  · rw [if_neg w2]
    simp only [L0, L1, L2]
    rw [ieq_n (by omega) (by omega) (by omega), ieq_n (by omega) (by omega) (by omega), ieq_n (by omega) (by omega) (by omega)]
    by_cases w3 : dr e 8 = 3
    · rw [if_pos w3, L3, ieq_p w3]
      have hc := dr_lt (e := lcg e) (n := 6) (by omega)
      obtain ⟨h', f1, f2, f3, f4, f5, f6⟩ := t67 La2 H2 W (C.d.d) S pa (k := 2) (x := dr (lcg e) 6) (y := 0) (u := iN (dr (lcg e) 6)) (v := jN) ⟨by omega, fun h => by omega, fun _ => ⟨rfl, by omega⟩, fun h => by omega⟩
      refine ⟨h', trivial, ?_, F2.tr f2, f3, f4, (f5 14 (by omega)).trans e2⟩
      unfold f124_176
      simp (disch := omega) only [gT, nbeq, Option.isSome_some, Option.getD_some, Bool.and_true, Bool.true_and, Bool.and_self, mX_some, bS, bN_if, bN_01, i1_01, i0_01, if_true, if_false, Bool.false_eq_true, false_and, and_false, and_true, true_and, and_self, Bool.or_false, Bool.false_or, Bool.or_true, Bool.true_or, Bool.false_and, Bool.and_false, decide_true, decide_false, L0, L1, L2, L3, L4, L5, L6, L7, L8, L9, L10, L11, L12, L13, L14, L15, L16, L17, L18, L19, L20, L21, L22, L23, L24, L25, L27, L33, L39, L40, L45, L48, L57, L60, L72, L90, L97, L98, L99, L100, L121, L122, L242, L255, L256, L580, L600, L1000, L1584, L1000000, Ln1, iN_add, iN_and, iN_or, iN_nd, iN_shl, iN_shr, iN_cl, iN_in, iN_mul, La1.k, La1.r0, La1.r2, La1.r3, La1.k1, La1.k2, La2.k, La2.r0, La2.r2, La2.r3, La2.k1, La2.k2, t123 La1 e1, f1]
    · rw [if_neg w3, L3, ieq_n (by omega) (by omega) w3]
      by_cases w5 : dr e 8 ≤ 5
      · rw [if_pos w5]
        have q110 : ∀ X : Option (Unit × mH), (if iN (dr e 8) = 4 then f124_110 (mSI h a 14 (lcg e)) a (iN (if q 0 0 = 0 then 1 else 0)) else if iN (dr e 8) = 5 then f124_110 (mSI h a 14 (lcg e)) a (iN (if q 0 0 = 0 then 1 else 0)) else X) = f124_110 (mSI h a 14 (lcg e)) a (iN (if q 0 0 = 0 then 1 else 0)) := by
          intro X
          simp (disch := omega) only [L4, L5, ieq_d]
          split
          · rfl
          · rw [if_pos (by omega)]
        rw [q110]
        unfold f124_110
        by_cases n0 : q 0 0 = 0
        · rw [if_pos n0, if_pos (Or.inl n0)]
          refine ⟨_, trivial, ?_, F1, C.d, S, e1⟩
          simp (disch := omega) only [L0, ieq_n, none0]
        · rw [if_neg n0]
          by_cases m0 : q 0 1 = 0
          · rw [if_pos (Or.inr m0)]
            refine ⟨_, trivial, ?_, F1, C.d, S, e1⟩
            simp (disch := omega) only [gT, nbeq, Option.isSome_some, Option.getD_some, Bool.and_true, Bool.true_and, Bool.and_self, mX_some, bS, bN_if, bN_01, i1_01, i0_01, if_true, if_false, Bool.false_eq_true, false_and, and_false, and_true, true_and, and_self, Bool.or_false, Bool.false_or, Bool.or_true, Bool.true_or, Bool.false_and, Bool.and_false, decide_true, decide_false, L0, L1, L2, L3, L4, L5, L6, L7, L8, L9, L10, L11, L12, L13, L14, L15, L16, L17, L18, L19, L20, L21, L22, L23, L24, L25, L27, L33, L39, L40, L45, L48, L57, L60, L72, L90, L97, L98, L99, L100, L121, L122, L242, L255, L256, L580, L600, L1000, L1584, L1000000, Ln1, iN_add, iN_and, iN_or, iN_nd, iN_shl, iN_shr, iN_cl, iN_in, iN_mul, ieq_p, La1.k, La1.r0, La1.r2, La1.r3, La1.k1, La1.k2, H1.k, H1.m, ile_p, none0]
          · rw [if_neg (show ¬ (q 0 0 = 0 ∨ q 0 1 = 0) by omega)]
            have hc := dr_lt (e := lcg e) (n := q 0 0) (by omega)
            have hp := dr_lt (e := lcg (lcg e)) (n := q 0 1) (by omega)
            obtain ⟨h', f1, f2, f3, f4, f5, f6⟩ := t67 La3 H3 W (C.d.d.d) S pa (k := 3) (x := dr (lcg e) (q 0 0)) (y := dr (lcg (lcg e)) (q 0 1)) (u := iN (dr (lcg e) (q 0 0))) (v := iN (dr (lcg (lcg e)) (q 0 1))) ⟨by omega, fun _ => ⟨rfl, by omega⟩, fun h => by omega, fun _ => ⟨rfl, by omega⟩⟩
            refine ⟨h', trivial, ?_, F3.tr f2, f3, f4, (f5 14 (by omega)).trans (si_eq _ _ _ _)⟩
            unfold f124_176
            simp (disch := omega) only [gT, nbeq, Option.isSome_some, Option.getD_some, Bool.and_true, Bool.true_and, Bool.and_self, mX_some, bS, bN_if, bN_01, i1_01, i0_01, if_true, if_false, Bool.false_eq_true, false_and, and_false, and_true, true_and, and_self, Bool.or_false, Bool.false_or, Bool.or_true, Bool.true_or, Bool.false_and, Bool.and_false, decide_true, decide_false, L0, L1, L2, L3, L4, L5, L6, L7, L8, L9, L10, L11, L12, L13, L14, L15, L16, L17, L18, L19, L20, L21, L22, L23, L24, L25, L27, L33, L39, L40, L45, L48, L57, L60, L72, L90, L97, L98, L99, L100, L121, L122, L242, L255, L256, L580, L600, L1000, L1584, L1000000, Ln1, iN_add, iN_and, iN_or, iN_nd, iN_shl, iN_shr, iN_cl, iN_in, iN_mul, ieq_p, La1.k, La1.r0, La1.r2, La1.r3, La1.k1, La1.k2, La2.k, La2.r0, La2.r2, La2.r3, La2.k1, La2.k2, La3.k, La3.r0, La3.r2, La3.r3, La3.k1, La3.k2, H1.k, H1.n, H1.m, H2.k, H2.m, ile_n, t123 La1 e1, t123 La2 e2, f1]
      · rw [if_neg w5]
        simp only [L4, L5]
        rw [ieq_n (by omega) (by omega) (by omega), ieq_n (by omega) (by omega) (by omega)]
        by_cases w6 : dr e 8 = 6
        · rw [if_pos w6, L6, ieq_p w6]
          obtain ⟨h', f1, f2, f3, f4, f5, f6⟩ := t67 La1 H1 W C.d S pa (k := 4) (x := 0) (y := 0) (u := jN) (v := jN) ⟨by omega, fun h => by omega, fun h => by omega, fun h => by omega⟩
          refine ⟨h', trivial, ?_, F1.tr f2, f3, f4, (f5 14 (by omega)).trans e1⟩
          unfold f124_176
          simp (disch := omega) only [gT, nbeq, Option.isSome_some, Option.getD_some, Bool.and_true, Bool.true_and, Bool.and_self, mX_some, bS, bN_if, bN_01, i1_01, i0_01, if_true, if_false, Bool.false_eq_true, false_and, and_false, and_true, true_and, and_self, Bool.or_false, Bool.false_or, Bool.or_true, Bool.true_or, Bool.false_and, Bool.and_false, decide_true, decide_false, L0, L1, L2, L3, L4, L5, L6, L7, L8, L9, L10, L11, L12, L13, L14, L15, L16, L17, L18, L19, L20, L21, L22, L23, L24, L25, L27, L33, L39, L40, L45, L48, L57, L60, L72, L90, L97, L98, L99, L100, L121, L122, L242, L255, L256, L580, L600, L1000, L1584, L1000000, Ln1, iN_add, iN_and, iN_or, iN_nd, iN_shl, iN_shr, iN_cl, iN_in, iN_mul, La1.k, La1.r0, La1.r2, La1.r3, La1.k1, La1.k2, f1]
        · rw [if_neg w6, L6, ieq_n (by omega) (by omega) w6]
          obtain ⟨h', f1, f2, f3, f4, f5, f6⟩ := t67 La1 H1 W C.d S pa (k := 5) (x := 0) (y := 0) (u := jN) (v := jN) ⟨by omega, fun h => by omega, fun h => by omega, fun h => by omega⟩
          refine ⟨h', trivial, ?_, F1.tr f2, f3, f4, (f5 14 (by omega)).trans e1⟩
          unfold f124_176
          simp (disch := omega) only [gT, nbeq, Option.isSome_some, Option.getD_some, Bool.and_true, Bool.true_and, Bool.and_self, mX_some, bS, bN_if, bN_01, i1_01, i0_01, if_true, if_false, Bool.false_eq_true, false_and, and_false, and_true, true_and, and_self, Bool.or_false, Bool.false_or, Bool.or_true, Bool.true_or, Bool.false_and, Bool.and_false, decide_true, decide_false, L0, L1, L2, L3, L4, L5, L6, L7, L8, L9, L10, L11, L12, L13, L14, L15, L16, L17, L18, L19, L20, L21, L22, L23, L24, L25, L27, L33, L39, L40, L45, L48, L57, L60, L72, L90, L97, L98, L99, L100, L121, L122, L242, L255, L256, L580, L600, L1000, L1584, L1000000, Ln1, iN_add, iN_and, iN_or, iN_nd, iN_shl, iN_shr, iN_cl, iN_in, iN_mul, La1.k, La1.r0, La1.r2, La1.r3, La1.k1, La1.k2, f1]
end LF
