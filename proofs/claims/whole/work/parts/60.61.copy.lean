/-! copies of what is told -/
def LibK (h : mH) (a : Nat) : Prop := mK h a = (2, 9) ∧ ∀ i, i < 6 → mR h a i = some (a + 1 + i) ∧ mK h (a + 1 + i) = (100, if i < 3 then 8 else 6)
def YrK (h : mH) (a : Nat) : Prop := mK h a = (3, 4) ∧ ∀ i, i < 3 → mR h a i = some (a + 1 + i) ∧ mK h (a + 1 + i) = (100, 40)
def LgK (h : mH) (a : Nat) : Prop := mK h a = (4, 3) ∧ ∀ i, i < 2 → mR h a i = some (a + 1 + i) ∧ mK h (a + 1 + i) = (100, 8)
def ToldK (h : mH) (T : Nat) : Prop := (mK h T = (1, 8) ∧ mK h (T + 1) = (100, 600) ∧ mK h (T + 2) = (100, 3)) ∧ (mR h T 0 = some (T + 1) ∧ mR h T 1 = some (T + 2) ∧ mR h T 2 = some (T + 3) ∧ mR h T 3 = some (T + 4) ∧ mR h T 4 = some (T + 5)) ∧ (mK h (T + 3) = (202, 2) ∧ mK h (T + 4) = (203, 2) ∧ mK h (T + 5) = (204, 2)) ∧ ∀ i, i < 2 → mR h (T + 3) i = some (T + 6 + 14 * i) ∧ mR h (T + 4) i = some (T + 13 + 14 * i) ∧ mR h (T + 5) i = some (T + 17 + 14 * i) ∧ LibK h (T + 6 + 14 * i) ∧ YrK h (T + 13 + 14 * i) ∧ LgK h (T + 17 + 14 * i)
section CK
variable {h h' : mH} {a : Nat} {P : Nat → Bool}
theorem LibK.fr (H : LibK h a) (x : Fr P h h') : LibK h' a := ⟨(x.k a).trans H.1, fun i hi => ⟨(x.r a i).trans (H.2 i hi).1, (x.k _).trans (H.2 i hi).2⟩⟩
theorem YrK.fr (H : YrK h a) (x : Fr P h h') : YrK h' a := ⟨(x.k a).trans H.1, fun i hi => ⟨(x.r a i).trans (H.2 i hi).1, (x.k _).trans (H.2 i hi).2⟩⟩
theorem LgK.fr (H : LgK h a) (x : Fr P h h') : LgK h' a := ⟨(x.k a).trans H.1, fun i hi => ⟨(x.r a i).trans (H.2 i hi).1, (x.k _).trans (H.2 i hi).2⟩⟩
theorem LibK.r0 (H : LibK h a) : mR h a 0 = some (a + 1) := (H.2 0 (by decide)).1
theorem LibK.r1 (H : LibK h a) : mR h a 1 = some (a + 2) := (H.2 1 (by decide)).1
theorem LibK.r2 (H : LibK h a) : mR h a 2 = some (a + 3) := (H.2 2 (by decide)).1
theorem LibK.r3 (H : LibK h a) : mR h a 3 = some (a + 4) := (H.2 3 (by decide)).1
theorem LibK.r4 (H : LibK h a) : mR h a 4 = some (a + 5) := (H.2 4 (by decide)).1
theorem LibK.r5 (H : LibK h a) : mR h a 5 = some (a + 6) := (H.2 5 (by decide)).1
theorem LibK.k1 (H : LibK h a) : mK h (a + 1) = (100, 8) := (H.2 0 (by decide)).2
theorem LibK.k2 (H : LibK h a) : mK h (a + 2) = (100, 8) := (H.2 1 (by decide)).2
theorem LibK.k3 (H : LibK h a) : mK h (a + 3) = (100, 8) := (H.2 2 (by decide)).2
theorem LibK.k4 (H : LibK h a) : mK h (a + 4) = (100, 6) := (H.2 3 (by decide)).2
theorem LibK.k5 (H : LibK h a) : mK h (a + 5) = (100, 6) := (H.2 4 (by decide)).2
theorem LibK.k6 (H : LibK h a) : mK h (a + 6) = (100, 6) := (H.2 5 (by decide)).2
theorem YrK.r0 (H : YrK h a) : mR h a 0 = some (a + 1) := (H.2 0 (by decide)).1
theorem YrK.r1 (H : YrK h a) : mR h a 1 = some (a + 2) := (H.2 1 (by decide)).1
theorem YrK.r2 (H : YrK h a) : mR h a 2 = some (a + 3) := (H.2 2 (by decide)).1
theorem YrK.k1 (H : YrK h a) : mK h (a + 1) = (100, 40) := (H.2 0 (by decide)).2
theorem YrK.k2 (H : YrK h a) : mK h (a + 2) = (100, 40) := (H.2 1 (by decide)).2
theorem YrK.k3 (H : YrK h a) : mK h (a + 3) = (100, 40) := (H.2 2 (by decide)).2
theorem LgK.r0 (H : LgK h a) : mR h a 0 = some (a + 1) := (H.2 0 (by decide)).1
theorem LgK.r1 (H : LgK h a) : mR h a 1 = some (a + 2) := (H.2 1 (by decide)).1
theorem LgK.k1 (H : LgK h a) : mK h (a + 1) = (100, 8) := (H.2 0 (by decide)).2
theorem LgK.k2 (H : LgK h a) : mK h (a + 2) = (100, 8) := (H.2 1 (by decide)).2
end CK
/-- one library as the other -/
def LibE (h h' : mH) (b a : Nat) : Prop := (mI h' a 6 = mI h b 6 ∧ mI h' a 7 = mI h b 7 ∧ mI h' a 8 = mI h b 8) ∧ ∀ i, i < 6 → ∀ j, j < (if i < 3 then 8 else 6) → mI h' (a + 1 + i) j = mI h (b + 1 + i) j
def YrE (h h' : mH) (b a : Nat) : Prop := mI h' a 3 = mI h b 3 ∧ ∀ i, i < 3 → ∀ j, j < 40 → mI h' (a + 1 + i) j = mI h (b + 1 + i) j
def LgE (h h' : mH) (b a : Nat) : Prop := mI h' a 2 = mI h b 2 ∧ ∀ i, i < 2 → ∀ j, j < 8 → mI h' (a + 1 + i) j = mI h (b + 1 + i) j
theorem LibS.cp {h h' : mH} {a b : Nat} {q : LQ} (H : LibS h b q) (K : LibK h' a) (E : LibE h h' b a) : LibS h' a q := ⟨K, ⟨E.1.1.trans H.2.1.1, E.1.2.1.trans H.2.1.2.1, E.1.2.2.trans H.2.1.2.2⟩, fun i hi j hj => (E.2 i hi j hj).trans (H.2.2 i hi j hj)⟩
theorem YrS.cp {h h' : mH} {a b : Nat} {y : YQ} (H : YrS h b y) (V : YW y) (K : YrK h' a) (E : YrE h h' b a) : YrS h' a y := ⟨K, E.1.trans H.2.1, fun k hk => ⟨(E.2 0 (by decide) k (Nat.lt_of_lt_of_le hk V.1)).trans (H.2.2 k hk).1, (E.2 1 (by decide) k (Nat.lt_of_lt_of_le hk V.1)).trans (H.2.2 k hk).2.1, (E.2 2 (by decide) k (Nat.lt_of_lt_of_le hk V.1)).trans (H.2.2 k hk).2.2⟩⟩
theorem LgS.cp {h h' : mH} {a b : Nat} {g : GQ} (H : LgS h b g) (V : GW g) (K : LgK h' a) (E : LgE h h' b a) : LgS h' a g := ⟨K, E.1.trans H.2.1, fun k hk => ⟨(E.2 0 (by decide) k (Nat.lt_of_lt_of_le hk V.1)).trans (H.2.2 k hk).1, (E.2 1 (by decide) k (Nat.lt_of_lt_of_le hk V.1)).trans (H.2.2 k hk).2⟩⟩
section RW2
variable {h : mH} {a b j n s d : Nat}
theorem cp_ne (x : a ≠ d) : mI (mCp h s 0 d 0 n) a j = mI h a j := by rw [mI_Cp, if_neg (fun q => x q.1)]
theorem cp_eq (x : j < n) : mI (mCp h s 0 d 0 n) d j = mI h s j := by rw [mI_Cp, if_pos ⟨rfl, by omega, by omega⟩]; congr 1; omega
theorem dnl (x : n < 2147483648) : decide (¬ iN n < iN 0) = true := by
  rw [decide_eq_true_iff, iN_lt x (by omega)]; omega
theorem nble (x : a ≤ b) : Nat.ble a b = true := Nat.ble_eq_true_of_le x
end RW2
def pRg (a n x : Nat) : Bool := Nat.ble a x && Nat.blt x (a + n)
theorem pRg_t {a n x : Nat} (h1 : a ≤ x) (h2 : x < a + n) : pRg a n x = true := by
  unfold pRg
  rw [Nat.ble_eq_true_of_le h1]
  have : Nat.blt x (a + n) = true := Nat.ble_eq_true_of_le h2
  rw [this]; rfl
theorem pRg_f {a n x : Nat} (h : x < a ∨ a + n ≤ x) : pRg a n x = false := by
  unfold pRg
  cases e1 : Nat.ble a x with
  | false => rfl
  | true =>
    cases e2 : Nat.blt x (a + n) with
    | false => rfl
    | true =>
      have g1 := Nat.le_of_ble_eq_true e1
      have g2 : x + 1 ≤ a + n := Nat.le_of_ble_eq_true e2
      omega
section CP
variable {h : mH} {a b : Nat}
theorem t48 (A : LibK h a) (B : LibK h b) (d : a + 7 ≤ b ∨ b + 7 ≤ a) : ∃ h', f48 h a b = some ((), h') ∧ Fr (pRg a 7) h h' ∧ LibE h h' b a := by
  have F1 : Fr (pRg a 7) h (mCp (mCp h (b + 1) 0 (a + 1) 0 8) (b + 2) 0 (a + 2) 0 8) := (Fr.rfl.cp (pRg_t (by omega) (by omega))).cp (pRg_t (by omega) (by omega))
  have A1 := A.fr F1
  have B1 := B.fr F1
  have F2 := (F1.cp (s := b + 3) (sp := 0) (d := a + 3) (dp := 0) (n := 8) (pRg_t (by omega) (by omega))).cp (s := b + 4) (sp := 0) (d := a + 4) (dp := 0) (n := 6) (pRg_t (by omega) (by omega))
  have A2 := A.fr F2
  have B2 := B.fr F2
  have F3 := (F2.cp (s := b + 5) (sp := 0) (d := a + 5) (dp := 0) (n := 6) (pRg_t (by omega) (by omega))).cp (s := b + 6) (sp := 0) (d := a + 6) (dp := 0) (n := 6) (pRg_t (by omega) (by omega))
  have A3 := A.fr F3
  have B3 := B.fr F3
  have F4 : ∀ x y z, Fr (pRg a 7) h (mSI (mSI (mSI (mCp (mCp (mCp (mCp (mCp (mCp h (b + 1) 0 (a + 1) 0 8) (b + 2) 0 (a + 2) 0 8) (b + 3) 0 (a + 3) 0 8) (b + 4) 0 (a + 4) 0 6) (b + 5) 0 (a + 5) 0 6) (b + 6) 0 (a + 6) 0 6) a 6 x) a 7 y) a 8 z) := fun x y z => ((F3.si (pRg_t (by omega) (by omega))).si (pRg_t (by omega) (by omega))).si (pRg_t (by omega) (by omega))
  refine ⟨mSI (mSI (mSI (mCp (mCp (mCp (mCp (mCp (mCp h (b + 1) 0 (a + 1) 0 8) (b + 2) 0 (a + 2) 0 8) (b + 3) 0 (a + 3) 0 8) (b + 4) 0 (a + 4) 0 6) (b + 5) 0 (a + 5) 0 6) (b + 6) 0 (a + 6) 0 6) a 6 (mI h b 6)) a 7 (mI h b 7)) a 8 (mI h b 8), ?_, F4 _ _ _, ?_⟩
  · unfold f48 f48_30 f48_60 f48_90 f48_114
    simp (disch := omega) only [gT, nbeq, Option.isSome_some, Option.getD_some, Bool.and_true, Bool.true_and, Bool.and_self, mX_some, bS, bN_if, bN_01, i1_01, i0_01, if_true, if_false, Bool.false_eq_true, false_and, and_false, and_true, true_and, and_self, Bool.or_false, Bool.false_or, Bool.or_true, Bool.true_or, Bool.false_and, Bool.and_false, decide_true, decide_false, L0, L1, L2, L3, L4, L5, L6, L7, L8, L9, L10, L11, L12, L13, L14, L15, L16, L17, L18, L19, L20, L21, L22, L23, L24, L25, L27, L33, L39, L40, L45, L48, L57, L60, L72, L90, L97, L98, L99, L100, L121, L122, L242, L255, L256, L580, L600, L1000, L1584, L1000000, Ln1, iN_add, iN_and, iN_or, iN_nd, iN_shl, iN_shr, iN_cl, iN_in, iN_mul, A.1, A.r0, A.r1, A.k1, A.k2, B.1, B.r0, B.r1, B.k1, B.k2, A1.1, A1.r2, A1.r3, A1.k3, A1.k4, B1.1, B1.r2, B1.r3, B1.k3, B1.k4, A2.1, A2.r4, A2.r5, A2.k5, A2.k6, B2.1, B2.r4, B2.r5, B2.k5, B2.k6, A3.1, B3.1, dnl, nble, si_ne, si_nk, si_eq, cp_ne]
  · refine ⟨⟨?_, ?_, ?_⟩, fun i hi j hj => ?_⟩
    · simp (disch := omega) only [si_ne, si_nk, si_eq]
    · simp (disch := omega) only [si_ne, si_nk, si_eq]
    · simp (disch := omega) only [si_ne, si_nk, si_eq]
    · have : i = 0 ∨ i = 1 ∨ i = 2 ∨ i = 3 ∨ i = 4 ∨ i = 5 := by omega
      rcases this with rfl | rfl | rfl | rfl | rfl | rfl
      · have hj : j < 8 := hj
        simp (disch := omega) only [si_ne, si_nk, si_eq, cp_ne, cp_eq, Nat.add_zero]
      · have hj : j < 8 := hj
        simp (disch := omega) only [si_ne, si_nk, si_eq, cp_ne, cp_eq, Nat.add_assoc, Nat.reduceAdd]
      · have hj : j < 8 := hj
        simp (disch := omega) only [si_ne, si_nk, si_eq, cp_ne, cp_eq, Nat.add_assoc, Nat.reduceAdd]
      · have hj : j < 6 := hj
        simp (disch := omega) only [si_ne, si_nk, si_eq, cp_ne, cp_eq, Nat.add_assoc, Nat.reduceAdd]
      · have hj : j < 6 := hj
        simp (disch := omega) only [si_ne, si_nk, si_eq, cp_ne, cp_eq, Nat.add_assoc, Nat.reduceAdd]
      · have hj : j < 6 := hj
        simp (disch := omega) only [si_ne, si_nk, si_eq, cp_ne, cp_eq, Nat.add_assoc, Nat.reduceAdd]
theorem t49 (A : YrK h a) (B : YrK h b) (d : a + 4 ≤ b ∨ b + 4 ≤ a) : ∃ h', f49 h a b = some ((), h') ∧ Fr (pRg a 4) h h' ∧ YrE h h' b a := by
  have F1 : Fr (pRg a 4) h (mCp (mCp h (b + 1) 0 (a + 1) 0 40) (b + 2) 0 (a + 2) 0 40) := (Fr.rfl.cp (pRg_t (by omega) (by omega))).cp (pRg_t (by omega) (by omega))
  have A1 := A.fr F1
  have B1 := B.fr F1
  have F2 := F1.cp (s := b + 3) (sp := 0) (d := a + 3) (dp := 0) (n := 40) (pRg_t (by omega) (by omega))
  have A2 := A.fr F2
  have B2 := B.fr F2
  refine ⟨mSI (mCp (mCp (mCp h (b + 1) 0 (a + 1) 0 40) (b + 2) 0 (a + 2) 0 40) (b + 3) 0 (a + 3) 0 40) a 3 (mI h b 3), ?_, F2.si (pRg_t (by omega) (by omega)), ?_⟩
  · unfold f49 f49_30 f49_53
    simp (disch := omega) only [gT, nbeq, Option.isSome_some, Option.getD_some, Bool.and_true, Bool.true_and, Bool.and_self, mX_some, bS, bN_if, bN_01, i1_01, i0_01, if_true, if_false, Bool.false_eq_true, false_and, and_false, and_true, true_and, and_self, Bool.or_false, Bool.false_or, Bool.or_true, Bool.true_or, Bool.false_and, Bool.and_false, decide_true, decide_false, L0, L1, L2, L3, L4, L5, L6, L7, L8, L9, L10, L11, L12, L13, L14, L15, L16, L17, L18, L19, L20, L21, L22, L23, L24, L25, L27, L33, L39, L40, L45, L48, L57, L60, L72, L90, L97, L98, L99, L100, L121, L122, L242, L255, L256, L580, L600, L1000, L1584, L1000000, Ln1, iN_add, iN_and, iN_or, iN_nd, iN_shl, iN_shr, iN_cl, iN_in, iN_mul, A.1, A.r0, A.r1, A.k1, A.k2, B.1, B.r0, B.r1, B.k1, B.k2, A1.1, A1.r2, A1.k3, B1.1, B1.r2, B1.k3, A2.1, B2.1, dnl, nble, si_ne, si_nk, si_eq, cp_ne]
  · refine ⟨?_, fun i hi j hj => ?_⟩
    · simp (disch := omega) only [si_ne, si_nk, si_eq]
    · have : i = 0 ∨ i = 1 ∨ i = 2 := by omega
      rcases this with rfl | rfl | rfl
      · simp (disch := omega) only [si_ne, si_nk, si_eq, cp_ne, cp_eq, Nat.add_zero]
      · simp (disch := omega) only [si_ne, si_nk, si_eq, cp_ne, cp_eq, Nat.add_assoc, Nat.reduceAdd]
      · simp (disch := omega) only [si_ne, si_nk, si_eq, cp_ne, cp_eq, Nat.add_assoc, Nat.reduceAdd]
theorem t50 (A : LgK h a) (B : LgK h b) (d : a + 3 ≤ b ∨ b + 3 ≤ a) : ∃ h', f50 h a b = some ((), h') ∧ Fr (pRg a 3) h h' ∧ LgE h h' b a := by
  have F1 : Fr (pRg a 3) h (mCp (mCp h (b + 1) 0 (a + 1) 0 8) (b + 2) 0 (a + 2) 0 8) := (Fr.rfl.cp (pRg_t (by omega) (by omega))).cp (pRg_t (by omega) (by omega))
  have A1 := A.fr F1
  have B1 := B.fr F1
  refine ⟨mSI (mCp (mCp h (b + 1) 0 (a + 1) 0 8) (b + 2) 0 (a + 2) 0 8) a 2 (mI h b 2), ?_, F1.si (pRg_t (by omega) (by omega)), ?_⟩
  · unfold f50 f50_30
    simp (disch := omega) only [gT, nbeq, Option.isSome_some, Option.getD_some, Bool.and_true, Bool.true_and, Bool.and_self, mX_some, bS, bN_if, bN_01, i1_01, i0_01, if_true, if_false, Bool.false_eq_true, false_and, and_false, and_true, true_and, and_self, Bool.or_false, Bool.false_or, Bool.or_true, Bool.true_or, Bool.false_and, Bool.and_false, decide_true, decide_false, L0, L1, L2, L3, L4, L5, L6, L7, L8, L9, L10, L11, L12, L13, L14, L15, L16, L17, L18, L19, L20, L21, L22, L23, L24, L25, L27, L33, L39, L40, L45, L48, L57, L60, L72, L90, L97, L98, L99, L100, L121, L122, L242, L255, L256, L580, L600, L1000, L1584, L1000000, Ln1, iN_add, iN_and, iN_or, iN_nd, iN_shl, iN_shr, iN_cl, iN_in, iN_mul, A.1, A.r0, A.r1, A.k1, A.k2, B.1, B.r0, B.r1, B.k1, B.k2, A1.1, B1.1, dnl, nble, si_ne, si_nk, si_eq, cp_ne]
  · refine ⟨?_, fun i hi j hj => ?_⟩
    · simp (disch := omega) only [si_ne, si_nk, si_eq]
    · have : i = 0 ∨ i = 1 := by omega
      rcases this with rfl | rfl
      · simp (disch := omega) only [si_ne, si_nk, si_eq, cp_ne, cp_eq, Nat.add_zero]
      · simp (disch := omega) only [si_ne, si_nk, si_eq, cp_ne, cp_eq, Nat.add_assoc, Nat.reduceAdd]
end CP
