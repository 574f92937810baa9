/-! tokens: the reference's -/
def pkF (c : Nat → Nat) : Nat → Nat
  | 0 => 0
  | n + 1 => pkF c n * 256 + c n
theorem ysee : ∀ x, x < 256 → yN x &&& iN 255 = iN x := by decide +kernel
theorem t179k {h : mH} {v a b : Nat} (hv : v < 2147483648) (ha : a < 2147483648) (hb : b < 2147483648) : f179 h (iN v) (iN a) (iN b) = some (bN (decide (a ≤ v ∧ v ≤ b))) := t17k (h := h) hv ha hb
theorem t179j {h : mH} {a : Nat} {b : Int32} (ha : a < 2147483648) : f179 h jN (iN a) b = some (bN false) := by
  rw [t179]
  have : ¬ iN a ≤ jN := by rw [Int32.le_iff_toInt_le, iN_toInt ha, jN_toInt]; omega
  rw [decide_eq_false this]; rfl
theorem sh8 : ((gN 8 &&& (63 : Int64)).toBitVec).smod 64 = BitVec.ofNat 64 8 := by decide
theorem wsh {a c : Nat} (hc : c < 256) : gN a <<< (gN 8 &&& (63 : Int64)) ||| gN c = gN (a * 256 + c) := by
  refine Int64.toBitVec.inj ?_
  rw [Int64.toBitVec_or, Int64.toBitVec_shiftLeft, sh8]
  show (BitVec.ofNat 64 a <<< BitVec.ofNat 64 8) ||| BitVec.ofNat 64 c = BitVec.ofNat 64 (a * 256 + c)
  have h1 : BitVec.ofNat 64 a <<< BitVec.ofNat 64 8 = BitVec.ofNat 64 (a <<< 8) := by
    apply BitVec.eq_of_toNat_eq
    rw [BitVec.shiftLeft_eq', BitVec.toNat_shiftLeft, BitVec.toNat_ofNat, BitVec.toNat_ofNat, BitVec.toNat_ofNat, Nat.mod_eq_of_lt (a := 8) (by omega), Nat.shiftLeft_eq, Nat.shiftLeft_eq, Nat.mod_mul_mod]
  rw [h1, ← BitVec.ofNat_or, ← Nat.shiftLeft_add_eq_or_of_lt (show c < 2 ^ 8 from hc), Nat.shiftLeft_eq]
def TpM (g : mH) (b : Nat → Nat) (len : Nat) : Prop := Wd g ∧ mI g 193 10 = iN len ∧ len ≤ 600 ∧ ∀ i, i < len → b i < 256 ∧ mI g 194 i = yN (b i)
def kM (k : Nat) : Nat := if k = 0 then 0 else if k = 1 then 2 else if k = 2 then 3 else if k = 3 then 4 else 1
def SM (g : mH) (b : Nat → Nat) (len p : Nat) : Prop := mI g 193 9 = iN (tkE b len p) ∧ mI g 193 11 = iN (tkS b len p) ∧ mI g 193 12 = iN (kM (tkK b len p)) ∧ (tkK b len p = 2 → mI g 193 13 = iN (tkV b len p)) ∧ (tkK b len p = 1 → mL g 193 14 = gN (if tkE b len p - tkS b len p ≤ 8 then pkF (fun i => b (tkS b len p + i)) (tkE b len p - tkS b len p) else 0))
def p193 (x : Nat) : Bool := Nat.beq x 193
def seeB (b : Nat → Nat) (len p : Nat) : Option Nat := if p < len then some (b p) else none
section MT
variable {g : mH} {b : Nat → Nat} {len : Nat}
theorem TpM.fr {g' : mH} {P : Nat → Bool} (T : TpM g b len) (x : Fr P g g') (p2 : P 194 = false) (e : mI g' 193 10 = mI g 193 10) : TpM g' b len := ⟨T.1.fr x, e.trans T.2.1, T.2.2.1, fun i hi => ⟨(T.2.2.2 i hi).1, (x.i p2 i).trans (T.2.2.2 i hi).2⟩⟩
theorem t184 {p : Nat} (T : TpM g b len) (hp : p ≤ len) (h9 : mI g 193 9 = iN p) : f184 g 193 = some (zN (seeB b len p)) := by
  obtain ⟨w, t1, t2, t3⟩ := T
  unfold f184 f184_28 seeB
  by_cases e : p < len
  · obtain ⟨b1, b2⟩ := t3 p e
    simp (disch := omega) only [gT, nbeq, Option.isSome_some, Option.getD_some, Bool.and_true, Bool.true_and, Bool.and_self, mX_some, bS, bN_if, bN_01, i1_01, i0_01, if_true, if_false, Bool.false_eq_true, false_and, and_false, and_true, true_and, and_self, Bool.or_false, Bool.false_or, Bool.or_true, Bool.true_or, Bool.false_and, Bool.and_false, decide_true, decide_false, L0, L1, L2, L3, L4, L5, L6, L7, L8, L9, L10, L11, L12, L13, L14, L15, L16, L17, L18, L19, L20, L21, L22, L23, L24, L25, L27, L33, L39, L40, L45, L48, L57, L60, L72, L90, L97, L98, L99, L100, L121, L122, L242, L255, L256, L580, L600, L1000, L1584, L1000000, Ln1, iN_add, iN_and, iN_or, iN_nd, iN_shl, iN_shr, iN_cl, iN_in, iN_mul, k193 w, r193_1 w, r193_2 w, r193_3 w, r193_4 w, r193_5 w, r193_6 w, r193_7 w, r193_8 w, r193_18 w, r193_19 w, r193_32 w, r193_33 w, r193_34 w, r193_36 w, r193_38 w, r193_39 w, r193_40 w, r193_42 w, r193_45 w, r193_46 w, r193_47 w, r193_48 w, r193_49 w, r193_50 w, k194 w, t1, h9, ile_n, iN_in, iN_cl, b2, ysee]
    rw [if_pos e]; rfl
  · simp (disch := omega) only [gT, nbeq, Option.isSome_some, Option.getD_some, Bool.and_true, Bool.true_and, Bool.and_self, mX_some, bS, bN_if, bN_01, i1_01, i0_01, if_true, if_false, Bool.false_eq_true, false_and, and_false, and_true, true_and, and_self, Bool.or_false, Bool.false_or, Bool.or_true, Bool.true_or, Bool.false_and, Bool.and_false, decide_true, decide_false, L0, L1, L2, L3, L4, L5, L6, L7, L8, L9, L10, L11, L12, L13, L14, L15, L16, L17, L18, L19, L20, L21, L22, L23, L24, L25, L27, L33, L39, L40, L45, L48, L57, L60, L72, L90, L97, L98, L99, L100, L121, L122, L242, L255, L256, L580, L600, L1000, L1584, L1000000, Ln1, iN_add, iN_and, iN_or, iN_nd, iN_shl, iN_shr, iN_cl, iN_in, iN_mul, k193 w, r193_1 w, r193_2 w, r193_3 w, r193_4 w, r193_5 w, r193_6 w, r193_7 w, r193_8 w, r193_18 w, r193_19 w, r193_32 w, r193_33 w, r193_34 w, r193_36 w, r193_38 w, r193_39 w, r193_40 w, r193_42 w, r193_45 w, r193_46 w, r193_47 w, r193_48 w, r193_49 w, r193_50 w, k194 w, t1, h9, ile_p]
    rw [if_neg e]; rfl
theorem pk_congr {c d : Nat → Nat} : ∀ n, (∀ i, i < n → c i = d i) → pkF c n = pkF d n := by
  intro n
  induction n with
  | zero => intro _; rfl
  | succ n ih => intro h; show pkF c n * 256 + c n = pkF d n * 256 + d n; rw [ih (fun i hi => h i (by omega)), h n (by omega)]
theorem t183w {s : Nat} (T : TpM g b len) (hs : s ≤ len) (h9 : mI g 193 9 = iN s) (hL : mL g 193 14 = gN 0) : ∃ g', mLoop (f183_74 193) mFuel (iN 0, g) = some ((), g') ∧ Fr p193 g g' ∧ mI g' 193 9 = iN (tkW b len s) ∧ mI g' 193 12 = iN 2 ∧ mL g' 193 14 = gN (if tkW b len s - s ≤ 8 then pkF (fun i => b (s + i)) (tkW b len s - s) else 0) ∧ ∀ j, j ≠ 9 → j ≠ 12 → mI g' 193 j = mI g 193 j := by
  obtain ⟨g1, g2, g3, g4⟩ := tkW_ok (b := b) hs
  have hl := T.2.2.1
  have := lp_inv (body := f183_74 193) (P := fun i z => z.1 = iN i ∧ Fr p193 g z.2 ∧ mI z.2 193 9 = iN (s + i) ∧ mL z.2 193 14 = gN (pkF (fun i => b (s + i)) i) ∧ ∀ j, j ≠ 9 → mI z.2 193 j = mI g 193 j) (Q := fun r => Fr p193 g r.2 ∧ mI r.2 193 9 = iN (tkW b len s) ∧ mI r.2 193 12 = iN 2 ∧ mL r.2 193 14 = gN (if tkW b len s - s ≤ 8 then pkF (fun i => b (s + i)) (tkW b len s - s) else 0) ∧ ∀ j, j ≠ 9 → j ≠ 12 → mI r.2 193 j = mI g 193 j) (tkW b len s - s) (fun i z hi hP => by
    obtain ⟨z1, z2, z3, z4, z5⟩ := hP
    have T2 := T.fr z2 rfl (z5 10 (by decide))
    have w2 := T2.1
    have e1 := t184 T2 (p := s + i) (by omega) z3
    have b3 := g3 (s + i) (by omega) (by omega)
    have b4 := isLt_t.1 b3
    have e2 : seeB b len (s + i) = some (b (s + i)) := if_pos (by omega)
    rw [e2, zN_some] at e1
    have ex : decide (97 ≤ b (s + i) ∧ b (s + i) ≤ 122) = true := decide_eq_true b4
    refine Or.inl ⟨(iN (i + 1), mSI (mSL z.2 193 14 (gN (pkF (fun i => b (s + i)) i * 256 + b (s + i)))) 193 9 (iN (s + i + 1))), ?_, rfl, (z2.sl).si rfl, by simp only [si_ne, si_nk, si_eq]; rfl, ?_, fun j hj => ?_⟩
    · unfold f183_74
      rw [z1]
      simp (disch := omega) only [gT, nbeq, Option.isSome_some, Option.getD_some, Bool.and_true, Bool.true_and, Bool.and_self, mX_some, bS, bN_if, bN_01, i1_01, i0_01, if_true, if_false, Bool.false_eq_true, false_and, and_false, and_true, true_and, and_self, Bool.or_false, Bool.false_or, Bool.or_true, Bool.true_or, Bool.false_and, Bool.and_false, decide_true, decide_false, L0, L1, L2, L3, L4, L5, L6, L7, L8, L9, L10, L11, L12, L13, L14, L15, L16, L17, L18, L19, L20, L21, L22, L23, L24, L25, L27, L33, L39, L40, L45, L48, L57, L60, L72, L90, L97, L98, L99, L100, L121, L122, L242, L255, L256, L580, L600, L1000, L1584, L1000000, Ln1, iN_add, iN_and, iN_or, iN_nd, iN_shl, iN_shr, iN_cl, iN_in, iN_mul, k193 w2, r193_1 w2, r193_2 w2, r193_3 w2, r193_4 w2, r193_5 w2, r193_6 w2, r193_7 w2, r193_8 w2, r193_18 w2, r193_19 w2, r193_32 w2, r193_33 w2, r193_34 w2, r193_36 w2, r193_38 w2, r193_39 w2, r193_40 w2, r193_42 w2, r193_45 w2, r193_46 w2, r193_47 w2, r193_48 w2, r193_49 w2, r193_50 w2, e1, t179k, ex, z3, z4, iN_l, wsh]
    · rw [mL_SI, mL_SL, if_pos ⟨rfl, rfl⟩]; rfl
    · simp (disch := omega) only [si_ne, si_nk, si_eq]
      rw [mI_SL]
      exact z5 j hj) (fun z hP => by
    obtain ⟨z1, z2, z3, z4, z5⟩ := hP
    have T2 := T.fr z2 rfl (z5 10 (by decide))
    have w2 := T2.1
    rw [show s + (tkW b len s - s) = tkW b len s by omega] at z3
    have e1 := t184 T2 (p := tkW b len s) (by omega) z3
    have e2 : ∃ v, f184 z.2 193 = some v ∧ f179 z.2 v (iN 97) (iN 122) = some (bN false) := by
      refine ⟨_, e1, ?_⟩
      unfold seeB
      by_cases e : tkW b len s < len
      · rw [if_pos e, zN_some]
        have b5 := g4 e
        obtain ⟨b1, _⟩ := T2.2.2.2 _ e
        rw [t179k (by omega) (by omega) (by omega)]
        have : ¬ (97 ≤ b (tkW b len s) ∧ b (tkW b len s) ≤ 122) := fun h => by rw [isLt_t.2 h] at b5; cases b5
        rw [decide_eq_false this]
      · rw [if_neg e, zN_none, t179j (by omega)]
    obtain ⟨v, e3, e4⟩ := e2
    by_cases e8 : tkW b len s - s ≤ 8
    · refine ⟨((), mSI (mSL z.2 193 14 (mL z.2 193 14)) 193 12 (iN 2)), ?_, (z2.sl).si rfl, by simp (disch := omega) only [si_ne, si_nk, si_eq]; rw [mI_SL]; exact z3, by simp only [si_ne, si_nk, si_eq], by rw [mL_SI, mL_SL, if_pos ⟨rfl, rfl⟩, if_pos e8]; exact z4, fun j h1 h2 => by simp (disch := omega) only [si_ne, si_nk, si_eq]; rw [mI_SL]; exact z5 j h1⟩
      unfold f183_74 f183_266
      rw [z1]
      simp (disch := omega) only [gT, nbeq, Option.isSome_some, Option.getD_some, Bool.and_true, Bool.true_and, Bool.and_self, mX_some, bS, bN_if, bN_01, i1_01, i0_01, if_true, if_false, Bool.false_eq_true, false_and, and_false, and_true, true_and, and_self, Bool.or_false, Bool.false_or, Bool.or_true, Bool.true_or, Bool.false_and, Bool.and_false, decide_true, decide_false, L0, L1, L2, L3, L4, L5, L6, L7, L8, L9, L10, L11, L12, L13, L14, L15, L16, L17, L18, L19, L20, L21, L22, L23, L24, L25, L27, L33, L39, L40, L45, L48, L57, L60, L72, L90, L97, L98, L99, L100, L121, L122, L242, L255, L256, L580, L600, L1000, L1584, L1000000, Ln1, iN_add, iN_and, iN_or, iN_nd, iN_shl, iN_shr, iN_cl, iN_in, iN_mul, k193 w2, r193_1 w2, r193_2 w2, r193_3 w2, r193_4 w2, r193_5 w2, r193_6 w2, r193_7 w2, r193_8 w2, r193_18 w2, r193_19 w2, r193_32 w2, r193_33 w2, r193_34 w2, r193_36 w2, r193_38 w2, r193_39 w2, r193_40 w2, r193_42 w2, r193_45 w2, r193_46 w2, r193_47 w2, r193_48 w2, r193_49 w2, r193_50 w2, e3, e4, ile_p]
    · refine ⟨((), mSI (mSL z.2 193 14 (gN 0)) 193 12 (iN 2)), ?_, (z2.sl).si rfl, by simp (disch := omega) only [si_ne, si_nk, si_eq]; rw [mI_SL]; exact z3, by simp only [si_ne, si_nk, si_eq], by rw [mL_SI, mL_SL, if_pos ⟨rfl, rfl⟩, if_neg e8], fun j h1 h2 => by simp (disch := omega) only [si_ne, si_nk, si_eq]; rw [mI_SL]; exact z5 j h1⟩
      unfold f183_74 f183_266
      rw [z1]
      simp (disch := omega) only [gT, nbeq, Option.isSome_some, Option.getD_some, Bool.and_true, Bool.true_and, Bool.and_self, mX_some, bS, bN_if, bN_01, i1_01, i0_01, if_true, if_false, Bool.false_eq_true, false_and, and_false, and_true, true_and, and_self, Bool.or_false, Bool.false_or, Bool.or_true, Bool.true_or, Bool.false_and, Bool.and_false, decide_true, decide_false, L0, L1, L2, L3, L4, L5, L6, L7, L8, L9, L10, L11, L12, L13, L14, L15, L16, L17, L18, L19, L20, L21, L22, L23, L24, L25, L27, L33, L39, L40, L45, L48, L57, L60, L72, L90, L97, L98, L99, L100, L121, L122, L242, L255, L256, L580, L600, L1000, L1584, L1000000, Ln1, iN_add, iN_and, iN_or, iN_nd, iN_shl, iN_shr, iN_cl, iN_in, iN_mul, K0l, k193 w2, r193_1 w2, r193_2 w2, r193_3 w2, r193_4 w2, r193_5 w2, r193_6 w2, r193_7 w2, r193_8 w2, r193_18 w2, r193_19 w2, r193_32 w2, r193_33 w2, r193_34 w2, r193_36 w2, r193_38 w2, r193_39 w2, r193_40 w2, r193_42 w2, r193_45 w2, r193_46 w2, r193_47 w2, r193_48 w2, r193_49 w2, r193_50 w2, e3, e4, ile_n]) (by omega) (s := (iN 0, g)) ⟨rfl, Fr.rfl, h9, hL, fun j _ => rfl⟩
  obtain ⟨⟨r, g'⟩, r1, r2⟩ := this
  exact ⟨g', r1, r2⟩
theorem t183d {s : Nat} (T : TpM g b len) (hs : s ≤ len) (h9 : mI g 193 9 = iN s) (h13 : mI g 193 13 = iN 0) : ∃ g', mLoop (f183_163 193) mFuel (iN 0, g) = some ((), g') ∧ Fr p193 g g' ∧ mI g' 193 9 = iN (tkD b len s) ∧ mI g' 193 12 = iN (if tkD b len s - s ≤ 2 then 3 else 1) ∧ mI g' 193 13 = iN (vlN b s (tkD b len s - s)) ∧ ∀ j, j ≠ 9 → j ≠ 12 → j ≠ 13 → mI g' 193 j = mI g 193 j := by
  obtain ⟨g1, g2, g3, g4⟩ := tkD_ok (b := b) hs
  have hl := T.2.2.1
  have := lp_inv (body := f183_163 193) (P := fun i z => z.1 = iN i ∧ Fr p193 g z.2 ∧ mI z.2 193 9 = iN (s + i) ∧ mI z.2 193 13 = iN (vlN b s i) ∧ ∀ j, j ≠ 9 → j ≠ 13 → mI z.2 193 j = mI g 193 j) (Q := fun r => Fr p193 g r.2 ∧ mI r.2 193 9 = iN (tkD b len s) ∧ mI r.2 193 12 = iN (if tkD b len s - s ≤ 2 then 3 else 1) ∧ mI r.2 193 13 = iN (vlN b s (tkD b len s - s)) ∧ ∀ j, j ≠ 9 → j ≠ 12 → j ≠ 13 → mI r.2 193 j = mI g 193 j) (tkD b len s - s) (fun i z hi hP => by
    obtain ⟨z1, z2, z3, z4, z5⟩ := hP
    have T2 := T.fr z2 rfl (z5 10 (by decide) (by decide))
    have w2 := T2.1
    have e1 := t184 T2 (p := s + i) (by omega) z3
    have b3 := g3 (s + i) (by omega) (by omega)
    have b4 := isDg_t.1 b3
    have vl := vlN_le (b := b) (s := s) (i := i) (fun j h1 h2 => g3 j h1 (by omega))
    have e2 : seeB b len (s + i) = some (b (s + i)) := if_pos (by omega)
    rw [e2, zN_some] at e1
    have ex : decide (48 ≤ b (s + i) ∧ b (s + i) ≤ 57) = true := decide_eq_true b4
    by_cases e : 2 ≤ i
    · have ev : vlN b s (i + 1) = vlN b s i := by
        unfold vlN
        rw [if_neg (by omega), if_neg (by omega), if_neg (by omega), if_neg (by omega)]
      refine Or.inl ⟨(iN (i + 1), mSI (mSI z.2 193 13 (iN (vlN b s i))) 193 9 (iN (s + i + 1))), ?_, rfl, (z2.si rfl).si rfl, by simp only [si_ne, si_nk, si_eq]; rfl, by rw [ev]; simp (disch := omega) only [si_ne, si_nk, si_eq], fun j h1 h2 => by simp (disch := omega) only [si_ne, si_nk, si_eq]; exact z5 j h1 h2⟩
      unfold f183_163
      rw [z1]
      simp (disch := omega) only [gT, nbeq, Option.isSome_some, Option.getD_some, Bool.and_true, Bool.true_and, Bool.and_self, mX_some, bS, bN_if, bN_01, i1_01, i0_01, if_true, if_false, Bool.false_eq_true, false_and, and_false, and_true, true_and, and_self, Bool.or_false, Bool.false_or, Bool.or_true, Bool.true_or, Bool.false_and, Bool.and_false, decide_true, decide_false, L0, L1, L2, L3, L4, L5, L6, L7, L8, L9, L10, L11, L12, L13, L14, L15, L16, L17, L18, L19, L20, L21, L22, L23, L24, L25, L27, L33, L39, L40, L45, L48, L57, L60, L72, L90, L97, L98, L99, L100, L121, L122, L242, L255, L256, L580, L600, L1000, L1584, L1000000, Ln1, iN_add, iN_and, iN_or, iN_nd, iN_shl, iN_shr, iN_cl, iN_in, iN_mul, k193 w2, r193_1 w2, r193_2 w2, r193_3 w2, r193_4 w2, r193_5 w2, r193_6 w2, r193_7 w2, r193_8 w2, r193_18 w2, r193_19 w2, r193_32 w2, r193_33 w2, r193_34 w2, r193_36 w2, r193_38 w2, r193_39 w2, r193_40 w2, r193_42 w2, r193_45 w2, r193_46 w2, r193_47 w2, r193_48 w2, r193_49 w2, r193_50 w2, e1, t179k, ex, z3, z4, ile_p, si_ne, si_nk, si_eq]
    · have ev : vlN b s (i + 1) = 10 * vlN b s i + b (s + i) - 48 := by
        unfold vlN
        have : i = 0 ∨ i = 1 := by omega
        rcases this with rfl | rfl
        · simp
        · have b5 := isDg_t.1 (g3 s (by omega) (by omega))
          simp
          omega
      refine Or.inl ⟨(iN (i + 1), mSI (mSI z.2 193 13 (iN (vlN b s (i + 1)))) 193 9 (iN (s + i + 1))), ?_, rfl, (z2.si rfl).si rfl, by simp only [si_ne, si_nk, si_eq]; rfl, by simp (disch := omega) only [si_ne, si_nk, si_eq], fun j h1 h2 => by simp (disch := omega) only [si_ne, si_nk, si_eq]; exact z5 j h1 h2⟩
      rw [ev]
      unfold f183_163
      rw [z1]
      simp (disch := omega) only [gT, nbeq, Option.isSome_some, Option.getD_some, Bool.and_true, Bool.true_and, Bool.and_self, mX_some, bS, bN_if, bN_01, i1_01, i0_01, if_true, if_false, Bool.false_eq_true, false_and, and_false, and_true, true_and, and_self, Bool.or_false, Bool.false_or, Bool.or_true, Bool.true_or, Bool.false_and, Bool.and_false, decide_true, decide_false, L0, L1, L2, L3, L4, L5, L6, L7, L8, L9, L10, L11, L12, L13, L14, L15, L16, L17, L18, L19, L20, L21, L22, L23, L24, L25, L27, L33, L39, L40, L45, L48, L57, L60, L72, L90, L97, L98, L99, L100, L121, L122, L242, L255, L256, L580, L600, L1000, L1584, L1000000, Ln1, iN_add, iN_and, iN_or, iN_nd, iN_shl, iN_shr, iN_cl, iN_in, iN_mul, k193 w2, r193_1 w2, r193_2 w2, r193_3 w2, r193_4 w2, r193_5 w2, r193_6 w2, r193_7 w2, r193_8 w2, r193_18 w2, r193_19 w2, r193_32 w2, r193_33 w2, r193_34 w2, r193_36 w2, r193_38 w2, r193_39 w2, r193_40 w2, r193_42 w2, r193_45 w2, r193_46 w2, r193_47 w2, r193_48 w2, r193_49 w2, r193_50 w2, e1, t179k, ex, z3, z4, ile_n, iN_sub, si_ne, si_nk, si_eq]) (fun z hP => by
    obtain ⟨z1, z2, z3, z4, z5⟩ := hP
    have T2 := T.fr z2 rfl (z5 10 (by decide) (by decide))
    have w2 := T2.1
    rw [show s + (tkD b len s - s) = tkD b len s by omega] at z3
    have e1 := t184 T2 (p := tkD b len s) (by omega) z3
    have e2 : ∃ v, f184 z.2 193 = some v ∧ f179 z.2 v (iN 48) (iN 57) = some (bN false) := by
      refine ⟨_, e1, ?_⟩
      unfold seeB
      by_cases e : tkD b len s < len
      · rw [if_pos e, zN_some]
        have b5 := g4 e
        obtain ⟨b1, _⟩ := T2.2.2.2 _ e
        rw [t179k (by omega) (by omega) (by omega)]
        have : ¬ (48 ≤ b (tkD b len s) ∧ b (tkD b len s) ≤ 57) := fun h => by rw [isDg_t.2 h] at b5; cases b5
        rw [decide_eq_false this]
      · rw [if_neg e, zN_none, t179j (by omega)]
    obtain ⟨v, e3, e4⟩ := e2
    refine ⟨((), mSI z.2 193 12 (iN (if tkD b len s - s ≤ 2 then 3 else 1))), ?_, z2.si rfl, by simp (disch := omega) only [si_ne, si_nk, si_eq]; exact z3, by simp only [si_ne, si_nk, si_eq], by simp (disch := omega) only [si_ne, si_nk, si_eq]; exact z4, fun j h1 h2 h3 => by simp (disch := omega) only [si_ne, si_nk, si_eq]; exact z5 j h1 h3⟩
    unfold f183_163 f183_266
    rw [z1]
    by_cases e8 : tkD b len s - s ≤ 2
    · simp (disch := omega) only [gT, nbeq, Option.isSome_some, Option.getD_some, Bool.and_true, Bool.true_and, Bool.and_self, mX_some, bS, bN_if, bN_01, i1_01, i0_01, if_true, if_false, Bool.false_eq_true, false_and, and_false, and_true, true_and, and_self, Bool.or_false, Bool.false_or, Bool.or_true, Bool.true_or, Bool.false_and, Bool.and_false, decide_true, decide_false, L0, L1, L2, L3, L4, L5, L6, L7, L8, L9, L10, L11, L12, L13, L14, L15, L16, L17, L18, L19, L20, L21, L22, L23, L24, L25, L27, L33, L39, L40, L45, L48, L57, L60, L72, L90, L97, L98, L99, L100, L121, L122, L242, L255, L256, L580, L600, L1000, L1584, L1000000, Ln1, iN_add, iN_and, iN_or, iN_nd, iN_shl, iN_shr, iN_cl, iN_in, iN_mul, k193 w2, r193_1 w2, r193_2 w2, r193_3 w2, r193_4 w2, r193_5 w2, r193_6 w2, r193_7 w2, r193_8 w2, r193_18 w2, r193_19 w2, r193_32 w2, r193_33 w2, r193_34 w2, r193_36 w2, r193_38 w2, r193_39 w2, r193_40 w2, r193_42 w2, r193_45 w2, r193_46 w2, r193_47 w2, r193_48 w2, r193_49 w2, r193_50 w2, e3, e4, ile_p]
      rw [if_pos e8]
    · simp (disch := omega) only [gT, nbeq, Option.isSome_some, Option.getD_some, Bool.and_true, Bool.true_and, Bool.and_self, mX_some, bS, bN_if, bN_01, i1_01, i0_01, if_true, if_false, Bool.false_eq_true, false_and, and_false, and_true, true_and, and_self, Bool.or_false, Bool.false_or, Bool.or_true, Bool.true_or, Bool.false_and, Bool.and_false, decide_true, decide_false, L0, L1, L2, L3, L4, L5, L6, L7, L8, L9, L10, L11, L12, L13, L14, L15, L16, L17, L18, L19, L20, L21, L22, L23, L24, L25, L27, L33, L39, L40, L45, L48, L57, L60, L72, L90, L97, L98, L99, L100, L121, L122, L242, L255, L256, L580, L600, L1000, L1584, L1000000, Ln1, iN_add, iN_and, iN_or, iN_nd, iN_shl, iN_shr, iN_cl, iN_in, iN_mul, k193 w2, r193_1 w2, r193_2 w2, r193_3 w2, r193_4 w2, r193_5 w2, r193_6 w2, r193_7 w2, r193_8 w2, r193_18 w2, r193_19 w2, r193_32 w2, r193_33 w2, r193_34 w2, r193_36 w2, r193_38 w2, r193_39 w2, r193_40 w2, r193_42 w2, r193_45 w2, r193_46 w2, r193_47 w2, r193_48 w2, r193_49 w2, r193_50 w2, e3, e4, ile_n]
      rw [if_neg e8]) (by omega) (s := (iN 0, g)) ⟨rfl, Fr.rfl, h9, h13, fun j _ _ => rfl⟩
  obtain ⟨⟨r, g'⟩, r1, r2⟩ := this
  exact ⟨g', r1, r2⟩
theorem t183 {p : Nat} (T : TpM g b len) (hp : p ≤ len) (h9 : mI g 193 9 = iN p) : ∃ g', f183 g 193 = some ((), g') ∧ Fr p193 g g' ∧ (∀ j, j ≠ 9 → j ≠ 11 → j ≠ 12 → j ≠ 13 → mI g' 193 j = mI g 193 j) ∧ TpM g' b len ∧ SM g' b len p := by
  obtain ⟨g1, g2, g3, g4⟩ := tkS_ok (b := b) hp
  have hl := T.2.2.1
  unfold f183
  have := lp_inv (body := f183_0 193) (P := fun i z => Fr p193 g z ∧ mI z 193 9 = iN (p + i) ∧ ∀ j, j ≠ 9 → mI z 193 j = mI g 193 j) (Q := fun r => Fr p193 g r.2 ∧ (∀ j, j ≠ 9 → j ≠ 11 → j ≠ 12 → j ≠ 13 → mI r.2 193 j = mI g 193 j) ∧ TpM r.2 b len ∧ SM r.2 b len p) (tkS b len p - p) (fun i z hi hP => by
    obtain ⟨z1, z2, z3⟩ := hP
    have T2 := T.fr z1 rfl (z3 10 (by decide))
    have w2 := T2.1
    have e1 := t184 T2 (p := p + i) (by omega) z2
    have e2 : seeB b len (p + i) = some (b (p + i)) := if_pos (by omega)
    rw [e2, zN_some] at e1
    obtain ⟨b1, _⟩ := T2.2.2.2 (p + i) (by omega)
    have b3 := g3 (p + i) (by omega) (by omega)
    refine Or.inl ⟨mSI z 193 9 (iN (p + i + 1)), ?_, z1.si rfl, by simp only [si_ne, si_nk, si_eq]; rfl, fun j hj => by simp (disch := omega) only [si_ne, si_nk, si_eq]; exact z3 j hj⟩
    unfold f183_0 f183_18
    simp (disch := omega) only [gT, nbeq, Option.isSome_some, Option.getD_some, Bool.and_true, Bool.true_and, Bool.and_self, mX_some, bS, bN_if, bN_01, i1_01, i0_01, if_true, if_false, Bool.false_eq_true, false_and, and_false, and_true, true_and, and_self, Bool.or_false, Bool.false_or, Bool.or_true, Bool.true_or, Bool.false_and, Bool.and_false, decide_true, decide_false, L0, L1, L2, L3, L4, L5, L6, L7, L8, L9, L10, L11, L12, L13, L14, L15, L16, L17, L18, L19, L20, L21, L22, L23, L24, L25, L27, L33, L39, L40, L45, L48, L57, L60, L72, L90, L97, L98, L99, L100, L121, L122, L242, L255, L256, L580, L600, L1000, L1584, L1000000, Ln1, iN_add, iN_and, iN_or, iN_nd, iN_shl, iN_shr, iN_cl, iN_in, iN_mul, L32, k193 w2, r193_1 w2, r193_2 w2, r193_3 w2, r193_4 w2, r193_5 w2, r193_6 w2, r193_7 w2, r193_8 w2, r193_18 w2, r193_19 w2, r193_32 w2, r193_33 w2, r193_34 w2, r193_36 w2, r193_38 w2, r193_39 w2, r193_40 w2, r193_42 w2, r193_45 w2, r193_46 w2, r193_47 w2, r193_48 w2, r193_49 w2, r193_50 w2, e1, ieq_d, z2]
    unfold isBl at b3
    by_cases e : b (p + i) = 10
    · rw [if_pos e]
    · rw [if_neg e]
      have e2 : b (p + i) = 32 := by simpa [e] using b3
      rw [if_pos e2]) (fun z hP => by
    obtain ⟨z1, z2, z3⟩ := hP
    have T2 := T.fr z1 rfl (z3 10 (by decide))
    have w2 := T2.1
    rw [show p + (tkS b len p - p) = tkS b len p by omega] at z2
    have e1 := t184 T2 g2 z2
    have F0 : Fr p193 z (mSI z 193 11 (iN (tkS b len p))) := Fr.rfl.si rfl
    have T3 := T2.fr F0 rfl (by simp (disch := omega) only [si_ne, si_nk, si_eq])
    have w3 := T3.1
    have z4 : mI (mSI z 193 11 (iN (tkS b len p))) 193 9 = iN (tkS b len p) := by simp (disch := omega) only [si_ne, si_nk, si_eq]; exact z2
    have e5 := t184 T3 g2 z4
    have F1 : Fr p193 z (mSL (mSI z 193 11 (iN (tkS b len p))) 193 14 (gN 0)) := F0.sl
    have T4 := T2.fr F1 rfl (by rw [mI_SL]; simp (disch := omega) only [si_ne, si_nk, si_eq])
    have w4 := T4.1
    have z5 : mI (mSL (mSI z 193 11 (iN (tkS b len p))) 193 14 (gN 0)) 193 9 = iN (tkS b len p) := by rw [mI_SL]; exact z4
    have oth : ∀ j, j ≠ 9 → j ≠ 11 → mI (mSL (mSI z 193 11 (iN (tkS b len p))) 193 14 (gN 0)) 193 j = mI g 193 j := fun j h1 h2 => by
      rw [mI_SL]; simp (disch := omega) only [si_ne, si_nk, si_eq]; exact z3 j h1
    have o11 : mI (mSL (mSI z 193 11 (iN (tkS b len p))) 193 14 (gN 0)) 193 11 = iN (tkS b len p) := by
      rw [mI_SL]; simp only [si_ne, si_nk, si_eq]
    by_cases e : len ≤ tkS b len p
    · have es : seeB b len (tkS b len p) = none := if_neg (by omega)
      rw [es, zN_none] at e1 e5
      have F9 : Fr p193 g (mSI (mSL (mSI z 193 11 (iN (tkS b len p))) 193 14 (gN 0)) 193 12 (iN 0)) := (z1.tr F1).si rfl
      refine ⟨((), mSI (mSL (mSI z 193 11 (iN (tkS b len p))) 193 14 (gN 0)) 193 12 (iN 0)), ?_, F9, fun j h1 h2 h3 h4 => ?_, T.fr F9 rfl ?_, ?_, ?_, ?_, fun hk => ?_, fun hk => ?_⟩
      · unfold f183_0 f183_266
        simp (disch := omega) only [gT, nbeq, Option.isSome_some, Option.getD_some, Bool.and_true, Bool.true_and, Bool.and_self, mX_some, bS, bN_if, bN_01, i1_01, i0_01, if_true, if_false, Bool.false_eq_true, false_and, and_false, and_true, true_and, and_self, Bool.or_false, Bool.false_or, Bool.or_true, Bool.true_or, Bool.false_and, Bool.and_false, decide_true, decide_false, L0, L1, L2, L3, L4, L5, L6, L7, L8, L9, L10, L11, L12, L13, L14, L15, L16, L17, L18, L19, L20, L21, L22, L23, L24, L25, L27, L33, L39, L40, L45, L48, L57, L60, L72, L90, L97, L98, L99, L100, L121, L122, L242, L255, L256, L580, L600, L1000, L1584, L1000000, Ln1, iN_add, iN_and, iN_or, iN_nd, iN_shl, iN_shr, iN_cl, iN_in, iN_mul, K0l, L32, k193 w2, r193_1 w2, r193_2 w2, r193_3 w2, r193_4 w2, r193_5 w2, r193_6 w2, r193_7 w2, r193_8 w2, r193_18 w2, r193_19 w2, r193_32 w2, r193_33 w2, r193_34 w2, r193_36 w2, r193_38 w2, r193_39 w2, r193_40 w2, r193_42 w2, r193_45 w2, r193_46 w2, r193_47 w2, r193_48 w2, r193_49 w2, r193_50 w2, k193 w3, r193_1 w3, r193_2 w3, r193_3 w3, r193_4 w3, r193_5 w3, r193_6 w3, r193_7 w3, r193_8 w3, r193_18 w3, r193_19 w3, r193_32 w3, r193_33 w3, r193_34 w3, r193_36 w3, r193_38 w3, r193_39 w3, r193_40 w3, r193_42 w3, r193_45 w3, r193_46 w3, r193_47 w3, r193_48 w3, r193_49 w3, r193_50 w3, e1, z2, e5, jN_ni, if_false]
        rw [if_neg (show ¬ iN 0 ≤ jN by rw [Int32.le_iff_toInt_le, iN_toInt (by omega), jN_toInt]; omega)]
        simp only [gT, nbeq, Option.isSome_some, Option.getD_some, Bool.and_true, Bool.true_and, Bool.and_self, mX_some, bS, bN_if, bN_01, i1_01, i0_01, if_true, if_false, Bool.false_eq_true, false_and, and_false, and_true, true_and, and_self, Bool.or_false, Bool.false_or, Bool.or_true, Bool.true_or, Bool.false_and, Bool.and_false, decide_true, decide_false]
      · simp (disch := omega) only [si_ne, si_nk, si_eq]; exact oth j h1 h2
      · simp (disch := omega) only [si_ne, si_nk, si_eq]; exact oth 10 (by decide) (by decide)
      · unfold tkE; rw [if_pos e]; simp (disch := omega) only [si_ne, si_nk, si_eq]; exact z5
      · simp (disch := omega) only [si_ne, si_nk, si_eq]; exact o11
      · unfold tkK; rw [if_pos e]; simp (disch := omega) only [si_ne, si_nk, si_eq]; rfl
      · unfold tkK at hk; rw [if_pos e] at hk; cases hk
      · unfold tkK at hk; rw [if_pos e] at hk; cases hk
    · have hlt : tkS b len p < len := by omega
      have es : seeB b len (tkS b len p) = some (b (tkS b len p)) := if_pos hlt
      rw [es, zN_some] at e1 e5
      obtain ⟨b1, _⟩ := T2.2.2.2 _ hlt
      have b3 := g4 hlt
      unfold isBl at b3
      rw [Bool.or_eq_false_iff] at b3
      have n1 : ¬ b (tkS b len p) = 10 := of_decide_eq_false b3.1
      have n2 : ¬ b (tkS b len p) = 32 := of_decide_eq_false b3.2
      cases eL : isLt (b (tkS b len p)) with
      | true =>
        have ex : decide (97 ≤ b (tkS b len p) ∧ b (tkS b len p) ≤ 122) = true := decide_eq_true (isLt_t.1 eL)
        obtain ⟨g5, c1, c2, c3, c4, c5, c6⟩ := t183w T4 g2 z5 (by rw [mL_SL, if_pos ⟨rfl, rfl⟩])
        have F9 := (z1.tr F1).tr c2
        refine ⟨((), g5), ?_, F9, fun j h1 h2 h3 h4 => ?_, T.fr F9 rfl ?_, ?_, ?_, ?_, fun hk => ?_, fun hk => ?_⟩
        · unfold f183_0
          simp (disch := omega) only [gT, nbeq, Option.isSome_some, Option.getD_some, Bool.and_true, Bool.true_and, Bool.and_self, mX_some, bS, bN_if, bN_01, i1_01, i0_01, if_true, if_false, Bool.false_eq_true, false_and, and_false, and_true, true_and, and_self, Bool.or_false, Bool.false_or, Bool.or_true, Bool.true_or, Bool.false_and, Bool.and_false, decide_true, decide_false, L0, L1, L2, L3, L4, L5, L6, L7, L8, L9, L10, L11, L12, L13, L14, L15, L16, L17, L18, L19, L20, L21, L22, L23, L24, L25, L27, L33, L39, L40, L45, L48, L57, L60, L72, L90, L97, L98, L99, L100, L121, L122, L242, L255, L256, L580, L600, L1000, L1584, L1000000, Ln1, iN_add, iN_and, iN_or, iN_nd, iN_shl, iN_shr, iN_cl, iN_in, iN_mul, K0l, L32, k193 w2, r193_1 w2, r193_2 w2, r193_3 w2, r193_4 w2, r193_5 w2, r193_6 w2, r193_7 w2, r193_8 w2, r193_18 w2, r193_19 w2, r193_32 w2, r193_33 w2, r193_34 w2, r193_36 w2, r193_38 w2, r193_39 w2, r193_40 w2, r193_42 w2, r193_45 w2, r193_46 w2, r193_47 w2, r193_48 w2, r193_49 w2, r193_50 w2, k193 w3, r193_1 w3, r193_2 w3, r193_3 w3, r193_4 w3, r193_5 w3, r193_6 w3, r193_7 w3, r193_8 w3, r193_18 w3, r193_19 w3, r193_32 w3, r193_33 w3, r193_34 w3, r193_36 w3, r193_38 w3, r193_39 w3, r193_40 w3, r193_42 w3, r193_45 w3, r193_46 w3, r193_47 w3, r193_48 w3, r193_49 w3, r193_50 w3, e1, z2, e5, ieq_n, ile_p, t179k, ex, c1]
        · rw [c6 j h1 h3]; exact oth j h1 h2
        · rw [c6 10 (by decide) (by decide)]; exact oth 10 (by decide) (by decide)
        · unfold tkE; rw [if_neg e, if_pos eL]; exact c3
        · rw [c6 11 (by decide) (by decide)]; exact o11
        · unfold tkK; rw [if_neg e, if_pos eL]; exact c4
        · unfold tkK at hk; rw [if_neg e, if_pos eL] at hk; cases hk
        · have eE : tkE b len p = tkW b len (tkS b len p) := by unfold tkE; rw [if_neg e, if_pos eL]
          rw [eE]; exact c5
      | false =>
        have eL2 : ¬ isLt (b (tkS b len p)) = true := by rw [eL]; decide
        have ex : decide (97 ≤ b (tkS b len p) ∧ b (tkS b len p) ≤ 122) = false := decide_eq_false (fun h => eL2 (isLt_t.2 h))
        cases eD : isDg (b (tkS b len p)) with
        | true =>
          have ex2 : decide (48 ≤ b (tkS b len p) ∧ b (tkS b len p) ≤ 57) = true := decide_eq_true (isDg_t.1 eD)
          have F2 : Fr p193 z (mSI (mSL (mSI z 193 11 (iN (tkS b len p))) 193 14 (gN 0)) 193 13 (iN 0)) := F1.si rfl
          have T5 := T2.fr F2 rfl (by simp (disch := omega) only [si_ne, si_nk, si_eq]; exact T4.2.1.trans T2.2.1.symm)
          obtain ⟨g5, c1, c2, c3, c4, c5, c6⟩ := t183d T5 g2 (by simp (disch := omega) only [si_ne, si_nk, si_eq]; exact z5) (by simp only [si_ne, si_nk, si_eq])
          have F9 := (z1.tr F2).tr c2
          refine ⟨((), g5), ?_, F9, fun j h1 h2 h3 h4 => ?_, T.fr F9 rfl ?_, ?_, ?_, ?_, fun hk => ?_, fun hk => ?_⟩
          · unfold f183_0
            simp (disch := omega) only [gT, nbeq, Option.isSome_some, Option.getD_some, Bool.and_true, Bool.true_and, Bool.and_self, mX_some, bS, bN_if, bN_01, i1_01, i0_01, if_true, if_false, Bool.false_eq_true, false_and, and_false, and_true, true_and, and_self, Bool.or_false, Bool.false_or, Bool.or_true, Bool.true_or, Bool.false_and, Bool.and_false, decide_true, decide_false, L0, L1, L2, L3, L4, L5, L6, L7, L8, L9, L10, L11, L12, L13, L14, L15, L16, L17, L18, L19, L20, L21, L22, L23, L24, L25, L27, L33, L39, L40, L45, L48, L57, L60, L72, L90, L97, L98, L99, L100, L121, L122, L242, L255, L256, L580, L600, L1000, L1584, L1000000, Ln1, iN_add, iN_and, iN_or, iN_nd, iN_shl, iN_shr, iN_cl, iN_in, iN_mul, K0l, L32, k193 w2, r193_1 w2, r193_2 w2, r193_3 w2, r193_4 w2, r193_5 w2, r193_6 w2, r193_7 w2, r193_8 w2, r193_18 w2, r193_19 w2, r193_32 w2, r193_33 w2, r193_34 w2, r193_36 w2, r193_38 w2, r193_39 w2, r193_40 w2, r193_42 w2, r193_45 w2, r193_46 w2, r193_47 w2, r193_48 w2, r193_49 w2, r193_50 w2, k193 w3, r193_1 w3, r193_2 w3, r193_3 w3, r193_4 w3, r193_5 w3, r193_6 w3, r193_7 w3, r193_8 w3, r193_18 w3, r193_19 w3, r193_32 w3, r193_33 w3, r193_34 w3, r193_36 w3, r193_38 w3, r193_39 w3, r193_40 w3, r193_42 w3, r193_45 w3, r193_46 w3, r193_47 w3, r193_48 w3, r193_49 w3, r193_50 w3, e1, z2, e5, ieq_n, ile_p, t179k, ex, ex2, c1]
          · rw [c6 j h1 h3 h4]; simp (disch := omega) only [si_ne, si_nk, si_eq]; exact oth j h1 h2
          · rw [c6 10 (by decide) (by decide) (by decide)]; simp (disch := omega) only [si_ne, si_nk, si_eq]; exact oth 10 (by decide) (by decide)
          · unfold tkE; rw [if_neg e, if_neg eL2, if_pos eD]; exact c3
          · rw [c6 11 (by decide) (by decide) (by decide)]; simp (disch := omega) only [si_ne, si_nk, si_eq]; exact o11
          · unfold tkK; rw [if_neg e, if_neg eL2, if_pos eD, c4]
            by_cases e8 : tkD b len (tkS b len p) - tkS b len p ≤ 2
            · rw [if_pos e8, if_pos e8]; rfl
            · rw [if_neg e8, if_neg e8]; rfl
          · have eE : tkE b len p = tkD b len (tkS b len p) := by unfold tkE; rw [if_neg e, if_neg eL2, if_pos eD]
            unfold tkV
            rw [eE]; exact c5
          · unfold tkK at hk; rw [if_neg e, if_neg eL2, if_pos eD] at hk
            split at hk <;> omega
        | false =>
          have eD2 : ¬ isDg (b (tkS b len p)) = true := by rw [eD]; decide
          have ex2 : decide (48 ≤ b (tkS b len p) ∧ b (tkS b len p) ≤ 57) = false := decide_eq_false (fun h => eD2 (isDg_t.2 h))
          have F9 : ∀ v, Fr p193 g (mSI (mSI (mSL (mSI z 193 11 (iN (tkS b len p))) 193 14 (gN 0)) 193 9 (iN (tkS b len p + 1))) 193 12 v) := fun v => ((z1.tr F1).si rfl).si rfl
          by_cases e9 : b (tkS b len p) = 59
          · refine ⟨((), mSI (mSI (mSL (mSI z 193 11 (iN (tkS b len p))) 193 14 (gN 0)) 193 9 (iN (tkS b len p + 1))) 193 12 (iN 4)), ?_, F9 _, fun j h1 h2 h3 h4 => ?_, T.fr (F9 _) rfl ?_, ?_, ?_, ?_, fun hk => ?_, fun hk => ?_⟩
            · unfold f183_0 f183_266
              simp (disch := omega) only [gT, nbeq, Option.isSome_some, Option.getD_some, Bool.and_true, Bool.true_and, Bool.and_self, mX_some, bS, bN_if, bN_01, i1_01, i0_01, if_true, if_false, Bool.false_eq_true, false_and, and_false, and_true, true_and, and_self, Bool.or_false, Bool.false_or, Bool.or_true, Bool.true_or, Bool.false_and, Bool.and_false, decide_true, decide_false, L0, L1, L2, L3, L4, L5, L6, L7, L8, L9, L10, L11, L12, L13, L14, L15, L16, L17, L18, L19, L20, L21, L22, L23, L24, L25, L27, L33, L39, L40, L45, L48, L57, L60, L72, L90, L97, L98, L99, L100, L121, L122, L242, L255, L256, L580, L600, L1000, L1584, L1000000, Ln1, iN_add, iN_and, iN_or, iN_nd, iN_shl, iN_shr, iN_cl, iN_in, iN_mul, K0l, L32, L59, k193 w2, r193_1 w2, r193_2 w2, r193_3 w2, r193_4 w2, r193_5 w2, r193_6 w2, r193_7 w2, r193_8 w2, r193_18 w2, r193_19 w2, r193_32 w2, r193_33 w2, r193_34 w2, r193_36 w2, r193_38 w2, r193_39 w2, r193_40 w2, r193_42 w2, r193_45 w2, r193_46 w2, r193_47 w2, r193_48 w2, r193_49 w2, r193_50 w2, k193 w3, r193_1 w3, r193_2 w3, r193_3 w3, r193_4 w3, r193_5 w3, r193_6 w3, r193_7 w3, r193_8 w3, r193_18 w3, r193_19 w3, r193_32 w3, r193_33 w3, r193_34 w3, r193_36 w3, r193_38 w3, r193_39 w3, r193_40 w3, r193_42 w3, r193_45 w3, r193_46 w3, r193_47 w3, r193_48 w3, r193_49 w3, r193_50 w3, e1, z2, e5, ieq_n, ile_p, t179k, ex, ex2, ieq_p, si_ne, si_nk, si_eq, z4]
            · simp (disch := omega) only [si_ne, si_nk, si_eq]; exact oth j h1 h2
            · simp (disch := omega) only [si_ne, si_nk, si_eq]; exact oth 10 (by decide) (by decide)
            · unfold tkE; rw [if_neg e, if_neg eL2, if_neg eD2]; simp (disch := omega) only [si_ne, si_nk, si_eq]
            · simp (disch := omega) only [si_ne, si_nk, si_eq]; exact o11
            · unfold tkK; rw [if_neg e, if_neg eL2, if_neg eD2, if_pos e9]; simp (disch := omega) only [si_ne, si_nk, si_eq]; rfl
            · unfold tkK at hk; rw [if_neg e, if_neg eL2, if_neg eD2, if_pos e9] at hk; cases hk
            · unfold tkK at hk; rw [if_neg e, if_neg eL2, if_neg eD2, if_pos e9] at hk; cases hk
          · refine ⟨((), mSI (mSI (mSL (mSI z 193 11 (iN (tkS b len p))) 193 14 (gN 0)) 193 9 (iN (tkS b len p + 1))) 193 12 (iN 1)), ?_, F9 _, fun j h1 h2 h3 h4 => ?_, T.fr (F9 _) rfl ?_, ?_, ?_, ?_, fun hk => ?_, fun hk => ?_⟩
            · unfold f183_0 f183_266
              simp (disch := omega) only [gT, nbeq, Option.isSome_some, Option.getD_some, Bool.and_true, Bool.true_and, Bool.and_self, mX_some, bS, bN_if, bN_01, i1_01, i0_01, if_true, if_false, Bool.false_eq_true, false_and, and_false, and_true, true_and, and_self, Bool.or_false, Bool.false_or, Bool.or_true, Bool.true_or, Bool.false_and, Bool.and_false, decide_true, decide_false, L0, L1, L2, L3, L4, L5, L6, L7, L8, L9, L10, L11, L12, L13, L14, L15, L16, L17, L18, L19, L20, L21, L22, L23, L24, L25, L27, L33, L39, L40, L45, L48, L57, L60, L72, L90, L97, L98, L99, L100, L121, L122, L242, L255, L256, L580, L600, L1000, L1584, L1000000, Ln1, iN_add, iN_and, iN_or, iN_nd, iN_shl, iN_shr, iN_cl, iN_in, iN_mul, K0l, L32, L59, k193 w2, r193_1 w2, r193_2 w2, r193_3 w2, r193_4 w2, r193_5 w2, r193_6 w2, r193_7 w2, r193_8 w2, r193_18 w2, r193_19 w2, r193_32 w2, r193_33 w2, r193_34 w2, r193_36 w2, r193_38 w2, r193_39 w2, r193_40 w2, r193_42 w2, r193_45 w2, r193_46 w2, r193_47 w2, r193_48 w2, r193_49 w2, r193_50 w2, k193 w3, r193_1 w3, r193_2 w3, r193_3 w3, r193_4 w3, r193_5 w3, r193_6 w3, r193_7 w3, r193_8 w3, r193_18 w3, r193_19 w3, r193_32 w3, r193_33 w3, r193_34 w3, r193_36 w3, r193_38 w3, r193_39 w3, r193_40 w3, r193_42 w3, r193_45 w3, r193_46 w3, r193_47 w3, r193_48 w3, r193_49 w3, r193_50 w3, e1, z2, e5, ieq_n, ile_p, t179k, ex, ex2, si_ne, si_nk, si_eq, z4]
            · simp (disch := omega) only [si_ne, si_nk, si_eq]; exact oth j h1 h2
            · simp (disch := omega) only [si_ne, si_nk, si_eq]; exact oth 10 (by decide) (by decide)
            · unfold tkE; rw [if_neg e, if_neg eL2, if_neg eD2]; simp (disch := omega) only [si_ne, si_nk, si_eq]
            · simp (disch := omega) only [si_ne, si_nk, si_eq]; exact o11
            · unfold tkK; rw [if_neg e, if_neg eL2, if_neg eD2, if_neg e9]; simp (disch := omega) only [si_ne, si_nk, si_eq]; rfl
            · unfold tkK at hk; rw [if_neg e, if_neg eL2, if_neg eD2, if_neg e9] at hk; cases hk
            · unfold tkK at hk; rw [if_neg e, if_neg eL2, if_neg eD2, if_neg e9] at hk; cases hk) (by omega) (s := g) ⟨Fr.rfl, h9, fun j _ => rfl⟩
  obtain ⟨⟨r, g'⟩, r1, r2⟩ := this
  exact ⟨g', r1, r2⟩
end MT
