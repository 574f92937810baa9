/-! feed and end -/
/-- the byte of x that lies s bits high -/
def byt (x : Int32) (s : Nat) : Nat := (x.toBitVec.toNat >>> s) % 256
theorem byt_lt (x : Int32) (s : Nat) : byt x s < 256 := Nat.mod_lt _ (by omega)
theorem ush_k : ∀ s, s < 32 → ((Int32.toUInt32 (iN s) &&& Int32.toUInt32 31).toBitVec % 32).toNat = s := by decide +kernel
theorem byt_c (x : Int32) {s : Nat} (hs : s < 32) : ((Int32.toUInt32 x >>> (Int32.toUInt32 (iN s) &&& Int32.toUInt32 31)).toInt32) &&& iN 255 = iN (byt x s) := by
  refine Int32.toBitVec.inj ?_
  apply BitVec.eq_of_toNat_eq
  rw [Int32.toBitVec_and, BitVec.toNat_and]
  show ((x.toBitVec >>> ((Int32.toUInt32 (iN s) &&& Int32.toUInt32 31).toBitVec % 32)).toNat &&& (BitVec.ofNat 32 255).toNat) = (BitVec.ofNat 32 (byt x s)).toNat
  rw [BitVec.ushiftRight_eq', BitVec.toNat_ushiftRight, ush_k s hs, BitVec.toNat_ofNat, BitVec.toNat_ofNat]
  have h1 : 255 % 2 ^ 32 = 2 ^ 8 - 1 := by decide
  rw [h1, Nat.and_two_pow_sub_one_eq_mod]
  have h2 := byt_lt x s
  rw [Nat.mod_eq_of_lt (a := byt x s) (by omega)]
  rfl
theorem byt_m (x : Int32) {s : Nat} (hs : s ≤ 24) : Int32.toInt8 (x >>> (iN s &&& (31 : Int32))) = Int32.toInt8 (iN (byt x s)) := by
  refine Int8.toBitVec.inj ?_
  rw [Int32.toBitVec_toInt8, Int32.toBitVec_toInt8, BitVec.signExtend_eq_setWidth_of_le _ (by decide), BitVec.signExtend_eq_setWidth_of_le _ (by decide)]
  show (x >>> (iN s &&& (31 : Int32))).toBitVec.setWidth 8 = (BitVec.ofNat 32 (byt x s)).setWidth 8
  rw [Int32.toBitVec_shiftRight, sh_k s (by omega)]
  show (x.toBitVec.sshiftRight (BitVec.ofNat 32 s).toNat).setWidth 8 = _
  rw [BitVec.toNat_ofNat, Nat.mod_eq_of_lt (a := s) (by omega)]
  apply BitVec.eq_of_getLsbD_eq
  intro i hi
  rw [BitVec.getLsbD_setWidth, BitVec.getLsbD_setWidth, BitVec.getLsbD_sshiftRight, BitVec.getLsbD_ofNat]
  have h1 : (byt x s).testBit i = x.toBitVec.toNat.testBit (s + i) := by
    unfold byt
    rw [show 256 = 2 ^ 8 by decide, Nat.testBit_mod_two_pow, Nat.testBit_shiftRight, decide_eq_true hi, Bool.true_and]
  have h2 : s + i < 32 := by omega
  simp [h1, h2, hi, show i < 32 by omega, BitVec.getLsbD]
  try omega
theorem yN_m (x : Int32) {s : Nat} (hs : s ≤ 24) : (Int32.toInt8 ((Int32.toInt8 (x >>> (iN s &&& (31 : Int32)))).toInt32)).toInt32 = yN (byt x s) := by
  rw [Int8.toInt8_toInt32, byt_m x hs]; rfl
def sN (i : Nat) : Int32 := if i < 4 then iN (24 - 8 * i) else iN 0 + -(iN 8)
theorem sN_s {i : Nat} (h : i < 4) : sN i + -(iN 8) = sN (i + 1) := by
  unfold sN
  rw [if_pos h]
  by_cases e : i = 3
  · subst e; rfl
  · rw [if_pos (show i + 1 < 4 by omega), ← Int32.sub_eq_add_neg, iN_sub (by omega)]
    congr 1
theorem sN_4 : sN 4 < iN 0 := by decide
theorem sN_i {i : Nat} (h : i < 4) : sN i = iN (24 - 8 * i) := if_pos h
def pTp (b : Nat) : Bool := Nat.beq b 1 || Nat.beq b 2
def pTm (b : Nat) : Bool := Nat.beq b 194 || Nat.beq b 195
section FE
variable {h : mH} {x : Int32} {n : Nat}
theorem t15 (w : Wd h) (hL : mI h 1 5 = iN n) (hn : n + 4 ≤ 600) : ∃ h', f15 h 1 x = some ((), h') ∧ Fr pTp h h' ∧ mI h' 1 5 = iN (n + 4) ∧ (∀ j, j < 4 → mI h' 2 (n + j) = iN (byt x (24 - 8 * j))) ∧ (∀ j, j < n → mI h' 2 j = mI h 2 j) ∧ ∀ j, j ≠ 5 → mI h' 1 j = mI h 1 j := by
  unfold f15
  have := lp_inv (body := f15_3 1 x) (P := fun i z => z.1 = sN i ∧ Fr pTp h z.2 ∧ mI z.2 1 5 = iN (n + i) ∧ (∀ j, j < i → mI z.2 2 (n + j) = iN (byt x (24 - 8 * j))) ∧ (∀ j, j < n → mI z.2 2 j = mI h 2 j) ∧ ∀ j, j ≠ 5 → mI z.2 1 j = mI h 1 j) (Q := fun r => Fr pTp h r.2 ∧ mI r.2 1 5 = iN (n + 4) ∧ (∀ j, j < 4 → mI r.2 2 (n + j) = iN (byt x (24 - 8 * j))) ∧ (∀ j, j < n → mI r.2 2 j = mI h 2 j) ∧ ∀ j, j ≠ 5 → mI r.2 1 j = mI h 1 j) 4 (fun i z hi hP => by
    obtain ⟨z1, z2, z3, z4, z5, z6⟩ := hP
    have w2 := w.fr z2
    have w3 : Wd (mSI z.2 2 (n + i) (iN (byt x (24 - 8 * i)))) := w2.fr (Fr.rfl.si (P := pTp) (by decide))
    refine Or.inl ⟨(sN (i + 1), mSI (mSI z.2 2 (n + i) (iN (byt x (24 - 8 * i)))) 1 5 (iN (n + i + 1))), ?_, rfl, (z2.si (by decide)).si (by decide), by simp (disch := omega) only [si_ne, si_nk, si_eq]; rfl, fun j hj => ?_, fun j hj => ?_, fun j hj => ?_⟩
    · unfold f15_3 f15_33
      rw [z1]
      simp (disch := omega) only [sN_s, gT, nbeq, Option.isSome_some, Option.getD_some, Bool.and_true, Bool.true_and, Bool.and_self, mX_some, bS, bN_if, bN_01, i1_01, i0_01, if_true, if_false, Bool.false_eq_true, false_and, and_false, and_true, true_and, and_self, Bool.or_false, Bool.false_or, Bool.or_true, Bool.true_or, Bool.false_and, Bool.and_false, decide_true, decide_false, L0, L1, L2, L3, L4, L5, L6, L7, L8, L9, L10, L11, L12, L13, L14, L15, L16, L17, L18, L19, L20, L21, L22, L23, L24, L25, L27, L33, L39, L40, L45, L48, L57, L60, L72, L90, L97, L98, L99, L100, L121, L122, L242, L255, L256, L580, L600, L1000, L1584, L1000000, Ln1, iN_add, iN_and, iN_or, iN_nd, iN_shl, iN_shr, iN_cl, iN_in, iN_mul, k1 w2, r1_0 w2, r1_1 w2, r1_2 w2, r1_3 w2, r1_4 w2, k2 w2, z3, ile_n, iN_in, iN_cl]
      rw [sN_i hi]
      simp (disch := omega) only [ilt_n, byt_c, gT, nbeq, Option.isSome_some, Option.getD_some, Bool.and_true, Bool.true_and, Bool.and_self, mX_some, bS, bN_if, bN_01, i1_01, i0_01, if_true, if_false, Bool.false_eq_true, false_and, and_false, and_true, true_and, and_self, Bool.or_false, Bool.false_or, Bool.or_true, Bool.true_or, Bool.false_and, Bool.and_false, decide_true, decide_false, k1 w3, r1_0 w3, r1_1 w3, r1_2 w3, r1_3 w3, r1_4 w3, si_ne, si_nk, si_eq, z3, iN_add]
    · by_cases e : j = i
      · subst e; simp (disch := omega) only [si_ne, si_nk, si_eq]
      · simp (disch := omega) only [si_ne, si_nk, si_eq]; exact z4 j (by omega)
    · simp (disch := omega) only [si_ne, si_nk, si_eq]; exact z5 j hj
    · simp (disch := omega) only [si_ne, si_nk, si_eq]; exact z6 j hj) (fun z hP => by
    obtain ⟨z1, z2, z3, z4, z5, z6⟩ := hP
    refine ⟨((), z.2), ?_, z2, z3, z4, z5, z6⟩
    unfold f15_3 f15_49
    rw [z1]
    simp only [L0, L1, L2, L3, L4, L5, L6, L7, L8, L9, L10, L11, L12, L13, L14, L15, L16, L17, L18, L19, L20, L21, L22, L23, L24, L25, L27, L33, L39, L40, L45, L48, L57, L60, L72, L90, L97, L98, L99, L100, L121, L122, L242, L255, L256, L580, L600, L1000, L1584, L1000000, Ln1, iN_add, iN_and, iN_or, iN_nd, iN_shl, iN_shr, iN_cl, iN_in, iN_mul]
    rw [if_pos sN_4]
    simp only [gT, nbeq, Option.isSome_some, Option.getD_some, Bool.and_true, Bool.true_and, Bool.and_self, mX_some, bS, bN_if, bN_01, i1_01, i0_01, if_true, if_false, Bool.false_eq_true, false_and, and_false, and_true, true_and, and_self, Bool.or_false, Bool.false_or, Bool.or_true, Bool.true_or, Bool.false_and, Bool.and_false, decide_true, decide_false]) (by omega) (s := (iN 24, h)) ⟨rfl, Fr.rfl, hL, fun j hj => by omega, fun j _ => rfl, fun j _ => rfl⟩
  obtain ⟨⟨r, h'⟩, r1, r2⟩ := this
  exact ⟨h', r1, r2⟩
theorem t177 (w : Wd h) (hL : mI h 195 0 = iN n) (hn : n + 4 ≤ 600) : ∃ h', f177 h 193 x = some ((), h') ∧ Fr pTm h h' ∧ mI h' 195 0 = iN (n + 4) ∧ (∀ j, j < 4 → mI h' 194 (n + j) = yN (byt x (24 - 8 * j))) ∧ (∀ j, (j < n ∨ n + 4 ≤ j) → mI h' 194 j = mI h 194 j) ∧ ∀ j, j ≠ 0 → mI h' 195 j = mI h 195 j := by
  unfold f177
  have := lp_inv (body := f177_3 193 x) (P := fun i z => z.1 = sN i ∧ Fr pTm h z.2 ∧ mI z.2 195 0 = iN (n + i) ∧ (∀ j, j < i → mI z.2 194 (n + j) = yN (byt x (24 - 8 * j))) ∧ (∀ j, (j < n ∨ n + 4 ≤ j) → mI z.2 194 j = mI h 194 j) ∧ ∀ j, j ≠ 0 → mI z.2 195 j = mI h 195 j) (Q := fun r => Fr pTm h r.2 ∧ mI r.2 195 0 = iN (n + 4) ∧ (∀ j, j < 4 → mI r.2 194 (n + j) = yN (byt x (24 - 8 * j))) ∧ (∀ j, (j < n ∨ n + 4 ≤ j) → mI r.2 194 j = mI h 194 j) ∧ ∀ j, j ≠ 0 → mI r.2 195 j = mI h 195 j) 4 (fun i z hi hP => by
    obtain ⟨z1, z2, z3, z4, z5, z6⟩ := hP
    have w2 := w.fr z2
    have w3 : Wd (mSI z.2 194 (n + i) (yN (byt x (24 - 8 * i)))) := w2.fr (Fr.rfl.si (P := pTm) (by decide))
    refine Or.inl ⟨(sN (i + 1), mSI (mSI z.2 194 (n + i) (yN (byt x (24 - 8 * i)))) 195 0 (iN (n + i + 1))), ?_, rfl, (z2.si (by decide)).si (by decide), by simp (disch := omega) only [si_ne, si_nk, si_eq]; rfl, fun j hj => ?_, fun j hj => ?_, fun j hj => ?_⟩
    · unfold f177_3 f177_22
      rw [z1]
      simp (disch := omega) only [sN_s, gT, nbeq, Option.isSome_some, Option.getD_some, Bool.and_true, Bool.true_and, Bool.and_self, mX_some, bS, bN_if, bN_01, i1_01, i0_01, if_true, if_false, Bool.false_eq_true, false_and, and_false, and_true, true_and, and_self, Bool.or_false, Bool.false_or, Bool.or_true, Bool.true_or, Bool.false_and, Bool.and_false, decide_true, decide_false, L0, L1, L2, L3, L4, L5, L6, L7, L8, L9, L10, L11, L12, L13, L14, L15, L16, L17, L18, L19, L20, L21, L22, L23, L24, L25, L27, L33, L39, L40, L45, L48, L57, L60, L72, L90, L97, L98, L99, L100, L121, L122, L242, L255, L256, L580, L600, L1000, L1584, L1000000, Ln1, iN_add, iN_and, iN_or, iN_nd, iN_shl, iN_shr, iN_cl, iN_in, iN_mul, k193 w2, r193_1 w2, r193_2 w2, r193_3 w2, r193_4 w2, r193_5 w2, r193_6 w2, r193_7 w2, r193_8 w2, r193_18 w2, r193_19 w2, r193_32 w2, r193_33 w2, r193_34 w2, r193_36 w2, r193_38 w2, r193_39 w2, r193_40 w2, r193_42 w2, r193_45 w2, r193_46 w2, r193_47 w2, r193_48 w2, r193_49 w2, r193_50 w2, k194 w2, k195 w2, z3, iN_in, iN_cl]
      rw [sN_i hi]
      simp (disch := omega) only [ilt_n, yN_m, gT, nbeq, Option.isSome_some, Option.getD_some, Bool.and_true, Bool.true_and, Bool.and_self, mX_some, bS, bN_if, bN_01, i1_01, i0_01, if_true, if_false, Bool.false_eq_true, false_and, and_false, and_true, true_and, and_self, Bool.or_false, Bool.false_or, Bool.or_true, Bool.true_or, Bool.false_and, Bool.and_false, decide_true, decide_false, k193 w3, r193_1 w3, r193_2 w3, r193_3 w3, r193_4 w3, r193_5 w3, r193_6 w3, r193_7 w3, r193_8 w3, r193_18 w3, r193_19 w3, r193_32 w3, r193_33 w3, r193_34 w3, r193_36 w3, r193_38 w3, r193_39 w3, r193_40 w3, r193_42 w3, r193_45 w3, r193_46 w3, r193_47 w3, r193_48 w3, r193_49 w3, r193_50 w3, k195 w3, iN_in, iN_cl, si_ne, si_nk, si_eq, z3, iN_add]
    · by_cases e : j = i
      · subst e; simp (disch := omega) only [si_ne, si_nk, si_eq]
      · simp (disch := omega) only [si_ne, si_nk, si_eq]; exact z4 j (by omega)
    · simp (disch := omega) only [si_ne, si_nk, si_eq]; exact z5 j hj
    · simp (disch := omega) only [si_ne, si_nk, si_eq]; exact z6 j hj) (fun z hP => by
    obtain ⟨z1, z2, z3, z4, z5, z6⟩ := hP
    refine ⟨((), z.2), ?_, z2, z3, z4, z5, z6⟩
    unfold f177_3
    rw [z1]
    simp only [L0, L1, L2, L3, L4, L5, L6, L7, L8, L9, L10, L11, L12, L13, L14, L15, L16, L17, L18, L19, L20, L21, L22, L23, L24, L25, L27, L33, L39, L40, L45, L48, L57, L60, L72, L90, L97, L98, L99, L100, L121, L122, L242, L255, L256, L580, L600, L1000, L1584, L1000000, Ln1, iN_add, iN_and, iN_or, iN_nd, iN_shl, iN_shr, iN_cl, iN_in, iN_mul]
    rw [if_pos sN_4]
    simp only [gT, nbeq, Option.isSome_some, Option.getD_some, Bool.and_true, Bool.true_and, Bool.and_self, mX_some, bS, bN_if, bN_01, i1_01, i0_01, if_true, if_false, Bool.false_eq_true, false_and, and_false, and_true, true_and, and_self, Bool.or_false, Bool.false_or, Bool.or_true, Bool.true_or, Bool.false_and, Bool.and_false, decide_true, decide_false]) (by omega) (s := (iN 24, h)) ⟨rfl, Fr.rfl, hL, fun j hj => by omega, fun j _ => rfl, fun j _ => rfl⟩
  obtain ⟨⟨r, h'⟩, r1, r2⟩ := this
  exact ⟨h', r1, r2⟩
end FE
/-- what the tape alone changes -/
theorem Rel.tp {h h2 : mH} (R : Rel h) (w2 : Wd h2) (A : RelA h2 1 0) (c1 : ∀ j, j ≠ 5 → mI h2 1 j = mI h 1 j) (c2 : ∀ x, 3 ≤ x → (x < 37 ∨ (91 ≤ x ∧ x < 193)) → ∀ j, mI h2 x j = mI h x j) (m4 : ∀ j, 600 ≤ j → mI h2 194 j = mI h 194 j) (m5 : ∀ j, 1 ≤ j → mI h2 195 j = mI h 195 j) (m6 : ∀ x, 196 ≤ x → x < 202 → ∀ j, mI h2 x j = mI h x j) (m17 : ∀ j, mI h2 217 j = mI h 217 j) : Rel h2 := by
  have K := tk1 w2
  obtain ⟨RA, RB, RL, RY, RG⟩ := R.2.1
  refine ⟨w2, ⟨A, RB.cp (c1 6 (by decide)) (c1 7 (by decide)) (m6 _ (by decide) (by decide) _) (m6 _ (by decide) (by decide) _), RL.cp (fun i hi => (K.2.2.2 i hi).2.2.2.1) (c2 3 (by decide) (by decide) 0) (fun i hi => LibE.st (fun j hj k => c2 _ (by omega) (by omega) k)) (m6 _ (by decide) (by decide) _) (fun j _ => m6 _ (by decide) (by decide) _), RY.cp (fun i hi => (K.2.2.2 i hi).2.2.2.2.1) (c2 3 (by decide) (by decide) 1) (fun i hi => YrE.st (fun j hj k => c2 _ (by omega) (by omega) k)) (m6 _ (by decide) (by decide) _) (fun j _ => m6 _ (by decide) (by decide) _), RG.cp (fun i hi => (K.2.2.2 i hi).2.2.2.2.2) (c2 3 (by decide) (by decide) 2) (fun i hi => LgE.st (fun j hj k => c2 _ (by omega) (by omega) k)) (m6 _ (by decide) (by decide) _) (fun j _ => m6 _ (by decide) (by decide) _)⟩, fun k hk => ?_⟩
  obtain ⟨b, b1, b2, b3⟩ := R.2.2 k hk
  exact ⟨b, (c2 36 (by decide) (by decide) k).trans b1, (m17 k).trans b2, fun hb => (b3 hb).sm (tkI w2 hk) (fun i hi j => c2 _ (by omega) (by omega) j) ⟨fun i hi => m4 _ (by omega), m5 _ (by omega), m6 _ (by decide) (by decide) _, m6 _ (by decide) (by decide) _, fun i hi => m6 _ (by decide) (by decide) _, fun i hi => m6 _ (by decide) (by decide) _, fun i hi => m6 _ (by decide) (by decide) _, fun i hi => m6 _ (by decide) (by decide) _⟩⟩
/-- the class's tape in h, the reference's in g -/
def TP (h g : mH) (n : Nat) : Prop := mI h 1 5 = iN n ∧ mI g 195 0 = iN n ∧ ∀ i, i < n → ∃ b, b < 256 ∧ mI h 2 i = iN b ∧ mI g 194 i = yN b
theorem pTp_f {x : Nat} (h : x ≠ 1) (h2 : x ≠ 2) : pTp x = false := by unfold pTp; rw [nbq h, nbq h2]; rfl
theorem pTm_f {x : Nat} (h : x ≠ 194) (h2 : x ≠ 195) : pTm x = false := by unfold pTm; rw [nbq h, nbq h2]; rfl
section FF
variable {h h' g g' : mH} {x : Int32} {n : Nat}
theorem TP.ap (t : TP h g n) (c5 : mI h' 1 5 = iN (n + 4)) (c : ∀ j, j < 4 → mI h' 2 (n + j) = iN (byt x (24 - 8 * j))) (c0 : ∀ j, j < n → mI h' 2 j = mI h 2 j) (m5 : mI g' 195 0 = iN (n + 4)) (m : ∀ j, j < 4 → mI g' 194 (n + j) = yN (byt x (24 - 8 * j))) (m0 : ∀ j, (j < n ∨ n + 4 ≤ j) → mI g' 194 j = mI g 194 j) : TP h' g' (n + 4) := by
  refine ⟨c5, m5, fun i hi => ?_⟩
  by_cases e : i < n
  · obtain ⟨b, b1, b2, b3⟩ := t.2.2 i e
    exact ⟨b, b1, (c0 i e).trans b2, (m0 i (Or.inl e)).trans b3⟩
  · obtain ⟨j, rfl⟩ : ∃ j, i = n + j := ⟨i - n, by omega⟩
    exact ⟨_, byt_lt _ _, c j (by omega), m j (by omega)⟩
end FF
section PB
variable {h : mH}
theorem c_feed (R : Rel h) (x1 x2 x3 x4 x5 : Int32) : ∃ v h1 h2, f14 h 0 x1 x2 x3 x4 x5 = some (v, h1) ∧ f176 h1 193 x1 x2 x3 x4 x5 = some (v, h2) ∧ Rel h2 ∧ Hi h h1 ∧ Hi h1 h2 := by
  have w := R.1
  obtain ⟨n, hn, a1, a2, a3⟩ := R.2.1.1
  have F0 : Fr (fun b => Nat.beq b 193) h (mSI h 193 0 (iN 0)) := Fr.rfl.si rfl
  by_cases hc : n ≤ 580
  · obtain ⟨h1, p1, q1, r1, s1, t1, u1⟩ := t15 (x := x1) w a1 (by omega)
    have w1 := w.fr q1
    obtain ⟨h2, p2, q2, r2, s2, t2, u2⟩ := t15 (x := x2) w1 r1 (by omega)
    have w2 := w1.fr q2
    obtain ⟨h3, p3, q3, r3, s3, t3, u3⟩ := t15 (x := x3) w2 r2 (by omega)
    have w3 := w2.fr q3
    obtain ⟨h4, p4, q4, r4, s4, t4, u4⟩ := t15 (x := x4) w3 r3 (by omega)
    have w4 := w3.fr q4
    obtain ⟨h5, p5, q5, r5, s5, t5, u5⟩ := t15 (x := x5) w4 r4 (by omega)
    have w5 := w4.fr q5
    have Q5 := (((q1.tr q2).tr q3).tr q4).tr q5
    have G0 : Fr (fun b => Nat.beq b 193) h5 (mSI h5 193 0 (iN 0)) := Fr.rfl.si rfl
    have v0 := w5.fr G0
    have b1 : mI (mSI h5 193 0 (iN 0)) 195 0 = iN n := (G0.i rfl 0).trans ((Q5.i (pTp_f (by decide) (by decide)) 0).trans a2)
    obtain ⟨g1, P1, Q1, R1, S1, T1, U1⟩ := t177 (x := x1) v0 b1 (by omega)
    have v1 := v0.fr Q1
    obtain ⟨g2, P2, Q2, R2, S2, T2, U2⟩ := t177 (x := x2) v1 R1 (by omega)
    have v2 := v1.fr Q2
    obtain ⟨g3, P3, Q3, R3, S3, T3, U3⟩ := t177 (x := x3) v2 R2 (by omega)
    have v3 := v2.fr Q3
    obtain ⟨g4, P4, Q4, R4, S4, T4, U4⟩ := t177 (x := x4) v3 R3 (by omega)
    have v4 := v3.fr Q4
    obtain ⟨g5, P5, Q5', R5, S5, T5, U5⟩ := t177 (x := x5) v4 R4 (by omega)
    have v5 := v4.fr Q5'
    have QQ := (((Q1.tr Q2).tr Q3).tr Q4).tr Q5'
    have T0 : TP h (mSI h5 193 0 (iN 0)) n := ⟨a1, b1, fun i hi => by
      obtain ⟨b, c1, c2, c3⟩ := a3 i hi
      refine ⟨b, c1, c2, ?_⟩
      rw [G0.i rfl, Q5.i (pTp_f (by decide) (by decide))]
      have e : 600 * 0 + i = i := by omega
      rw [e] at c3
      exact c3⟩
    have T9 := ((((T0.ap r1 s1 t1 R1 S1 T1).ap r2 s2 t2 R2 S2 T2).ap r3 s3 t3 R3 S3 T3).ap r4 s4 t4 R4 S4 T4).ap r5 s5 t5 R5 S5 T5
    have lo : ∀ y, y < 193 → ∀ j, mI g5 y j = mI h5 y j := fun y hy j => by
      rw [QQ.i (pTm_f (show y ≠ 194 by omega) (show y ≠ 195 by omega)), G0.i (nbq (show y ≠ 193 by omega))]
    refine ⟨iN (n + 4 + 4 + 4 + 4 + 4), h5, g5, ?_, ?_, R.tp v5 ⟨n + 4 + 4 + 4 + 4 + 4, by omega, (lo 1 (by decide) 5).trans T9.1, T9.2.1, fun i hi => ?_⟩ (fun j hj => ?_) (fun y h1 h2 j => ?_) (fun j hj => ?_) (fun j hj => ?_) (fun y h1 h2 j => ?_) (fun j => ?_), Hi.fr Q5 (fun a ha => pTp_f (by omega) (by omega)), (Hi.refl.si (by decide)).tr (Hi.fr QQ (fun a ha => pTm_f (by omega) (by omega)))⟩
    · unfold f14
      simp (disch := omega) only [gT, nbeq, Option.isSome_some, Option.getD_some, Bool.and_true, Bool.true_and, Bool.and_self, mX_some, bS, bN_if, bN_01, i1_01, i0_01, if_true, if_false, Bool.false_eq_true, false_and, and_false, and_true, true_and, and_self, Bool.or_false, Bool.false_or, Bool.or_true, Bool.true_or, Bool.false_and, Bool.and_false, decide_true, decide_false, L0, L1, L2, L3, L4, L5, L6, L7, L8, L9, L10, L11, L12, L13, L14, L15, L16, L17, L18, L19, L20, L21, L22, L23, L24, L25, L27, L33, L39, L40, L45, L48, L57, L60, L72, L90, L97, L98, L99, L100, L121, L122, L242, L255, L256, L580, L600, L1000, L1584, L1000000, Ln1, iN_add, iN_and, iN_or, iN_nd, iN_shl, iN_shr, iN_cl, iN_in, iN_mul, k0 w, r0_0 w, r0_1 w, r0_2 w, r0_3 w, r0_4 w, r0_5 w, r0_6 w, r0_7 w, r0_8 w, k1 w, r1_0 w, r1_1 w, r1_2 w, r1_3 w, r1_4 w, k0 w1, r0_0 w1, r0_1 w1, r0_2 w1, r0_3 w1, r0_4 w1, r0_5 w1, r0_6 w1, r0_7 w1, r0_8 w1, k1 w1, r1_0 w1, r1_1 w1, r1_2 w1, r1_3 w1, r1_4 w1, k0 w2, r0_0 w2, r0_1 w2, r0_2 w2, r0_3 w2, r0_4 w2, r0_5 w2, r0_6 w2, r0_7 w2, r0_8 w2, k1 w2, r1_0 w2, r1_1 w2, r1_2 w2, r1_3 w2, r1_4 w2, k0 w3, r0_0 w3, r0_1 w3, r0_2 w3, r0_3 w3, r0_4 w3, r0_5 w3, r0_6 w3, r0_7 w3, r0_8 w3, k1 w3, r1_0 w3, r1_1 w3, r1_2 w3, r1_3 w3, r1_4 w3, k0 w4, r0_0 w4, r0_1 w4, r0_2 w4, r0_3 w4, r0_4 w4, r0_5 w4, r0_6 w4, r0_7 w4, r0_8 w4, k1 w4, r1_0 w4, r1_1 w4, r1_2 w4, r1_3 w4, r1_4 w4, k0 w5, r0_0 w5, r0_1 w5, r0_2 w5, r0_3 w5, r0_4 w5, r0_5 w5, r0_6 w5, r0_7 w5, r0_8 w5, k1 w5, r1_0 w5, r1_1 w5, r1_2 w5, r1_3 w5, r1_4 w5, a1, ile_p, p1, p2, p3, p4, p5, r5]
    · unfold f176
      simp (disch := omega) only [gT, nbeq, Option.isSome_some, Option.getD_some, Bool.and_true, Bool.true_and, Bool.and_self, mX_some, bS, bN_if, bN_01, i1_01, i0_01, if_true, if_false, Bool.false_eq_true, false_and, and_false, and_true, true_and, and_self, Bool.or_false, Bool.false_or, Bool.or_true, Bool.true_or, Bool.false_and, Bool.and_false, decide_true, decide_false, L0, L1, L2, L3, L4, L5, L6, L7, L8, L9, L10, L11, L12, L13, L14, L15, L16, L17, L18, L19, L20, L21, L22, L23, L24, L25, L27, L33, L39, L40, L45, L48, L57, L60, L72, L90, L97, L98, L99, L100, L121, L122, L242, L255, L256, L580, L600, L1000, L1584, L1000000, Ln1, iN_add, iN_and, iN_or, iN_nd, iN_shl, iN_shr, iN_cl, iN_in, iN_mul, k193 w5, r193_1 w5, r193_2 w5, r193_3 w5, r193_4 w5, r193_5 w5, r193_6 w5, r193_7 w5, r193_8 w5, r193_18 w5, r193_19 w5, r193_32 w5, r193_33 w5, r193_34 w5, r193_36 w5, r193_38 w5, r193_39 w5, r193_40 w5, r193_42 w5, r193_45 w5, r193_46 w5, r193_47 w5, r193_48 w5, r193_49 w5, r193_50 w5, k195 w5, k193 v1, r193_1 v1, r193_2 v1, r193_3 v1, r193_4 v1, r193_5 v1, r193_6 v1, r193_7 v1, r193_8 v1, r193_18 v1, r193_19 v1, r193_32 v1, r193_33 v1, r193_34 v1, r193_36 v1, r193_38 v1, r193_39 v1, r193_40 v1, r193_42 v1, r193_45 v1, r193_46 v1, r193_47 v1, r193_48 v1, r193_49 v1, r193_50 v1, k193 v2, r193_1 v2, r193_2 v2, r193_3 v2, r193_4 v2, r193_5 v2, r193_6 v2, r193_7 v2, r193_8 v2, r193_18 v2, r193_19 v2, r193_32 v2, r193_33 v2, r193_34 v2, r193_36 v2, r193_38 v2, r193_39 v2, r193_40 v2, r193_42 v2, r193_45 v2, r193_46 v2, r193_47 v2, r193_48 v2, r193_49 v2, r193_50 v2, k193 v3, r193_1 v3, r193_2 v3, r193_3 v3, r193_4 v3, r193_5 v3, r193_6 v3, r193_7 v3, r193_8 v3, r193_18 v3, r193_19 v3, r193_32 v3, r193_33 v3, r193_34 v3, r193_36 v3, r193_38 v3, r193_39 v3, r193_40 v3, r193_42 v3, r193_45 v3, r193_46 v3, r193_47 v3, r193_48 v3, r193_49 v3, r193_50 v3, k193 v4, r193_1 v4, r193_2 v4, r193_3 v4, r193_4 v4, r193_5 v4, r193_6 v4, r193_7 v4, r193_8 v4, r193_18 v4, r193_19 v4, r193_32 v4, r193_33 v4, r193_34 v4, r193_36 v4, r193_38 v4, r193_39 v4, r193_40 v4, r193_42 v4, r193_45 v4, r193_46 v4, r193_47 v4, r193_48 v4, r193_49 v4, r193_50 v4, k193 v5, r193_1 v5, r193_2 v5, r193_3 v5, r193_4 v5, r193_5 v5, r193_6 v5, r193_7 v5, r193_8 v5, r193_18 v5, r193_19 v5, r193_32 v5, r193_33 v5, r193_34 v5, r193_36 v5, r193_38 v5, r193_39 v5, r193_40 v5, r193_42 v5, r193_45 v5, r193_46 v5, r193_47 v5, r193_48 v5, r193_49 v5, r193_50 v5, k195 v5, iN_in, iN_cl, b1, ile_p, P1, P2, P3, P4, P5, R5]
    · obtain ⟨b, c1, c2, c3⟩ := T9.2.2 i hi
      have e : 600 * 0 + i = i := by omega
      rw [e]
      exact ⟨b, c1, (lo 2 (by decide) i).trans c2, c3⟩
    · rw [lo 1 (by decide), u5 j hj, u4 j hj, u3 j hj, u2 j hj, u1 j hj]
    · rw [lo y (by omega), Q5.i (pTp_f (show y ≠ 1 by omega) (show y ≠ 2 by omega))]
    · rw [T5 j (by omega), T4 j (by omega), T3 j (by omega), T2 j (by omega), T1 j (by omega), G0.i rfl, Q5.i (pTp_f (by decide) (by decide))]
    · rw [U5 j (by omega), U4 j (by omega), U3 j (by omega), U2 j (by omega), U1 j (by omega), G0.i rfl, Q5.i (pTp_f (by decide) (by decide))]
    · rw [QQ.i (pTm_f (show y ≠ 194 by omega) (show y ≠ 195 by omega)), G0.i (nbq (show y ≠ 193 by omega)), Q5.i (pTp_f (show y ≠ 1 by omega) (show y ≠ 2 by omega))]
    · rw [QQ.i (pTm_f (by decide) (by decide)), G0.i rfl, Q5.i (pTp_f (by decide) (by decide))]
  · refine ⟨jN, h, mSI h 193 0 (iN 0), ?_, ?_, R.q FQ.c0, Hi.refl, Hi.refl.si (by decide)⟩
    · unfold f14
      simp (disch := omega) only [gT, nbeq, Option.isSome_some, Option.getD_some, Bool.and_true, Bool.true_and, Bool.and_self, mX_some, bS, bN_if, bN_01, i1_01, i0_01, if_true, if_false, Bool.false_eq_true, false_and, and_false, and_true, true_and, and_self, Bool.or_false, Bool.false_or, Bool.or_true, Bool.true_or, Bool.false_and, Bool.and_false, decide_true, decide_false, L0, L1, L2, L3, L4, L5, L6, L7, L8, L9, L10, L11, L12, L13, L14, L15, L16, L17, L18, L19, L20, L21, L22, L23, L24, L25, L27, L33, L39, L40, L45, L48, L57, L60, L72, L90, L97, L98, L99, L100, L121, L122, L242, L255, L256, L580, L600, L1000, L1584, L1000000, Ln1, iN_add, iN_and, iN_or, iN_nd, iN_shl, iN_shr, iN_cl, iN_in, iN_mul, k0 w, r0_0 w, r0_1 w, r0_2 w, r0_3 w, r0_4 w, r0_5 w, r0_6 w, r0_7 w, r0_8 w, k1 w, r1_0 w, r1_1 w, r1_2 w, r1_3 w, r1_4 w, a1, ile_n]
    · unfold f176
      simp (disch := omega) only [gT, nbeq, Option.isSome_some, Option.getD_some, Bool.and_true, Bool.true_and, Bool.and_self, mX_some, bS, bN_if, bN_01, i1_01, i0_01, if_true, if_false, Bool.false_eq_true, false_and, and_false, and_true, true_and, and_self, Bool.or_false, Bool.false_or, Bool.or_true, Bool.true_or, Bool.false_and, Bool.and_false, decide_true, decide_false, L0, L1, L2, L3, L4, L5, L6, L7, L8, L9, L10, L11, L12, L13, L14, L15, L16, L17, L18, L19, L20, L21, L22, L23, L24, L25, L27, L33, L39, L40, L45, L48, L57, L60, L72, L90, L97, L98, L99, L100, L121, L122, L242, L255, L256, L580, L600, L1000, L1584, L1000000, Ln1, iN_add, iN_and, iN_or, iN_nd, iN_shl, iN_shr, iN_cl, iN_in, iN_mul, k193 w, r193_1 w, r193_2 w, r193_3 w, r193_4 w, r193_5 w, r193_6 w, r193_7 w, r193_8 w, r193_18 w, r193_19 w, r193_32 w, r193_33 w, r193_34 w, r193_36 w, r193_38 w, r193_39 w, r193_40 w, r193_42 w, r193_45 w, r193_46 w, r193_47 w, r193_48 w, r193_49 w, r193_50 w, k195 w, iN_in, iN_cl, si_ne, si_nk, si_eq, a2, ile_n]
theorem c_end (R : Rel h) (x1 : Int32) : ∃ v h1 h2, f16 h 0 x1 = some (v, h1) ∧ f178 h1 193 x1 = some (v, h2) ∧ Rel h2 ∧ Hi h h1 ∧ Hi h1 h2 := by
  have w := R.1
  obtain ⟨n, hn, a1, a2, a3⟩ := R.2.1.1
  cases hr : rg x1 (n + 1) with
  | false =>
    refine ⟨jN, h, mSI h 193 0 (iN 0), ?_, ?_, R.q FQ.c0, Hi.refl, Hi.refl.si (by decide)⟩
    · unfold f16
      simp (disch := omega) only [gT, nbeq, Option.isSome_some, Option.getD_some, Bool.and_true, Bool.true_and, Bool.and_self, mX_some, bS, bN_if, bN_01, i1_01, i0_01, if_true, if_false, Bool.false_eq_true, false_and, and_false, and_true, true_and, and_self, Bool.or_false, Bool.false_or, Bool.or_true, Bool.true_or, Bool.false_and, Bool.and_false, decide_true, decide_false, L0, L1, L2, L3, L4, L5, L6, L7, L8, L9, L10, L11, L12, L13, L14, L15, L16, L17, L18, L19, L20, L21, L22, L23, L24, L25, L27, L33, L39, L40, L45, L48, L57, L60, L72, L90, L97, L98, L99, L100, L121, L122, L242, L255, L256, L580, L600, L1000, L1584, L1000000, Ln1, iN_add, iN_and, iN_or, iN_nd, iN_shl, iN_shr, iN_cl, iN_in, iN_mul, k0 w, r0_0 w, r0_1 w, r0_2 w, r0_3 w, r0_4 w, r0_5 w, r0_6 w, r0_7 w, r0_8 w, k1 w, r1_0 w, r1_1 w, r1_2 w, r1_3 w, r1_4 w, a1, t17r, hr]
    · unfold f178
      simp (disch := omega) only [gT, nbeq, Option.isSome_some, Option.getD_some, Bool.and_true, Bool.true_and, Bool.and_self, mX_some, bS, bN_if, bN_01, i1_01, i0_01, if_true, if_false, Bool.false_eq_true, false_and, and_false, and_true, true_and, and_self, Bool.or_false, Bool.false_or, Bool.or_true, Bool.true_or, Bool.false_and, Bool.and_false, decide_true, decide_false, L0, L1, L2, L3, L4, L5, L6, L7, L8, L9, L10, L11, L12, L13, L14, L15, L16, L17, L18, L19, L20, L21, L22, L23, L24, L25, L27, L33, L39, L40, L45, L48, L57, L60, L72, L90, L97, L98, L99, L100, L121, L122, L242, L255, L256, L580, L600, L1000, L1584, L1000000, Ln1, iN_add, iN_and, iN_or, iN_nd, iN_shl, iN_shr, iN_cl, iN_in, iN_mul, k193 w, r193_1 w, r193_2 w, r193_3 w, r193_4 w, r193_5 w, r193_6 w, r193_7 w, r193_8 w, r193_18 w, r193_19 w, r193_32 w, r193_33 w, r193_34 w, r193_36 w, r193_38 w, r193_39 w, r193_40 w, r193_42 w, r193_45 w, r193_46 w, r193_47 w, r193_48 w, r193_49 w, r193_50 w, k195 w, iN_in, iN_cl, si_ne, si_nk, si_eq, a2, t179r, hr]
  | true =>
    obtain ⟨m, hm, rfl, _⟩ := rg_t hr
    have F1 : Fr pTp h (mSI h 1 5 (iN m)) := Fr.rfl.si (by decide)
    have w1 := w.fr F1
    have F2 : Fr (fun b => Nat.beq b 193) (mSI h 1 5 (iN m)) (mSI (mSI h 1 5 (iN m)) 193 0 (iN 0)) := Fr.rfl.si rfl
    have F3 : Fr pTm (mSI (mSI h 1 5 (iN m)) 193 0 (iN 0)) (mSI (mSI (mSI h 1 5 (iN m)) 193 0 (iN 0)) 195 0 (iN m)) := Fr.rfl.si (by decide)
    have w3 := (w1.fr F2).fr F3
    refine ⟨iN m, mSI h 1 5 (iN m), mSI (mSI (mSI h 1 5 (iN m)) 193 0 (iN 0)) 195 0 (iN m), ?_, ?_, R.tp w3 ⟨m, by omega, ?_, ?_, fun i hi => ?_⟩ (fun j hj => ?_) (fun y h1 h2 j => ?_) (fun j hj => ?_) (fun j hj => ?_) (fun y h1 h2 j => ?_) (fun j => ?_), Hi.refl.si (by decide), (Hi.refl.si (by decide)).si (by decide)⟩
    · unfold f16
      simp (disch := omega) only [gT, nbeq, Option.isSome_some, Option.getD_some, Bool.and_true, Bool.true_and, Bool.and_self, mX_some, bS, bN_if, bN_01, i1_01, i0_01, if_true, if_false, Bool.false_eq_true, false_and, and_false, and_true, true_and, and_self, Bool.or_false, Bool.false_or, Bool.or_true, Bool.true_or, Bool.false_and, Bool.and_false, decide_true, decide_false, L0, L1, L2, L3, L4, L5, L6, L7, L8, L9, L10, L11, L12, L13, L14, L15, L16, L17, L18, L19, L20, L21, L22, L23, L24, L25, L27, L33, L39, L40, L45, L48, L57, L60, L72, L90, L97, L98, L99, L100, L121, L122, L242, L255, L256, L580, L600, L1000, L1584, L1000000, Ln1, iN_add, iN_and, iN_or, iN_nd, iN_shl, iN_shr, iN_cl, iN_in, iN_mul, k0 w, r0_0 w, r0_1 w, r0_2 w, r0_3 w, r0_4 w, r0_5 w, r0_6 w, r0_7 w, r0_8 w, k1 w, r1_0 w, r1_1 w, r1_2 w, r1_3 w, r1_4 w, a1, t17r, hr]
    · unfold f178
      simp (disch := omega) only [gT, nbeq, Option.isSome_some, Option.getD_some, Bool.and_true, Bool.true_and, Bool.and_self, mX_some, bS, bN_if, bN_01, i1_01, i0_01, if_true, if_false, Bool.false_eq_true, false_and, and_false, and_true, true_and, and_self, Bool.or_false, Bool.false_or, Bool.or_true, Bool.true_or, Bool.false_and, Bool.and_false, decide_true, decide_false, L0, L1, L2, L3, L4, L5, L6, L7, L8, L9, L10, L11, L12, L13, L14, L15, L16, L17, L18, L19, L20, L21, L22, L23, L24, L25, L27, L33, L39, L40, L45, L48, L57, L60, L72, L90, L97, L98, L99, L100, L121, L122, L242, L255, L256, L580, L600, L1000, L1584, L1000000, Ln1, iN_add, iN_and, iN_or, iN_nd, iN_shl, iN_shr, iN_cl, iN_in, iN_mul, k193 w1, r193_1 w1, r193_2 w1, r193_3 w1, r193_4 w1, r193_5 w1, r193_6 w1, r193_7 w1, r193_8 w1, r193_18 w1, r193_19 w1, r193_32 w1, r193_33 w1, r193_34 w1, r193_36 w1, r193_38 w1, r193_39 w1, r193_40 w1, r193_42 w1, r193_45 w1, r193_46 w1, r193_47 w1, r193_48 w1, r193_49 w1, r193_50 w1, k195 w1, iN_in, iN_cl, si_ne, si_nk, si_eq, a2, t179r, hr]
    · simp (disch := omega) only [si_ne, si_nk, si_eq]
    · simp (disch := omega) only [si_ne, si_nk, si_eq]
    · obtain ⟨b, c1, c2, c3⟩ := a3 i (by omega)
      refine ⟨b, c1, ?_, ?_⟩
      · simp (disch := omega) only [si_ne, si_nk, si_eq]; exact c2
      · simp (disch := omega) only [si_ne, si_nk, si_eq]; exact c3
    · simp (disch := omega) only [si_ne, si_nk, si_eq]
    · simp (disch := omega) only [si_ne, si_nk, si_eq]
    · simp (disch := omega) only [si_ne, si_nk, si_eq]
    · simp (disch := omega) only [si_ne, si_nk, si_eq]
    · simp (disch := omega) only [si_ne, si_nk, si_eq]
    · simp (disch := omega) only [si_ne, si_nk, si_eq]
end PB
