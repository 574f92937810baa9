/-! Small numbers as ints; loops; reads behind writes. -/
def iN (n : Nat) : Int32 := Int32.ofNat n
def jN : Int32 := -1
def zN : Option Nat → Int32
  | none => jN
  | some n => iN n
def bN : Bool → Int32
  | true => iN 1
  | false => iN 0
theorem zN_none : zN none = jN := rfl
theorem zN_some (n : Nat) : zN (some n) = iN n := rfl
theorem bN_t : bN true = iN 1 := rfl
theorem bN_f : bN false = iN 0 := rfl
theorem iN_toInt {n : Nat} (h : n < 2147483648) : (iN n).toInt = (n : Int) := Int32.toInt_ofNat_of_lt h
theorem jN_toInt : jN.toInt = -1 := by decide
theorem iN_eq {a b : Nat} (ha : a < 2147483648) (hb : b < 2147483648) : (iN a = iN b) ↔ a = b := by
  rw [← Int32.toInt_inj, iN_toInt ha, iN_toInt hb]; omega
theorem iN_le {a b : Nat} (ha : a < 2147483648) (hb : b < 2147483648) : (iN a ≤ iN b) ↔ a ≤ b := by
  rw [Int32.le_iff_toInt_le, iN_toInt ha, iN_toInt hb]; omega
theorem iN_lt {a b : Nat} (ha : a < 2147483648) (hb : b < 2147483648) : (iN a < iN b) ↔ a < b := by
  rw [Int32.lt_iff_toInt_lt, iN_toInt ha, iN_toInt hb]; omega
theorem iN_nj {a : Nat} (ha : a < 2147483648) : iN a ≠ jN := by
  intro h; have h2 := congrArg Int32.toInt h; rw [iN_toInt ha, jN_toInt] at h2; omega
theorem jN_ni {a : Nat} (ha : a < 2147483648) : jN ≠ iN a := fun h => iN_nj ha h.symm
theorem iN_add (a b : Nat) : iN a + iN b = iN (a + b) := (Int32.ofNat_add a b).symm
theorem iN_sub {a b : Nat} (h : b ≤ a) : iN a - iN b = iN (a - b) := (Int32.ofNat_sub a b h).symm
theorem iN_mul (a b : Nat) : iN a * iN b = iN (a * b) := (Int32.ofNat_mul a b).symm
theorem iN_j (a : Nat) : iN (a + 1) + jN = iN a := by
  show iN (a + 1) + -iN 1 = iN a
  rw [← Int32.sub_eq_add_neg, iN_sub (by omega)]; rfl
theorem iN_cl {a : Nat} (h : a < 2147483648) : Int32.toNatClampNeg (iN a) = a := Int32.toNatClampNeg_ofNat_of_lt h
theorem iN_in {i n : Nat} (hi : i < 2147483648) (h : i < n) : mIn (iN i) n = true := by
  unfold mIn
  rw [decide_eq_true_iff, iN_cl hi]
  intro q
  rcases q with q | q
  · rw [Int32.lt_iff_toInt_lt, iN_toInt hi] at q
    have : (0 : Int32).toInt = 0 := rfl
    omega
  · omega
theorem iN_and (a b : Nat) : iN a &&& iN b = iN (a &&& b) := Int32.toBitVec.inj (BitVec.ofNat_and).symm
theorem iN_or (a b : Nat) : iN a ||| iN b = iN (a ||| b) := Int32.toBitVec.inj (BitVec.ofNat_or).symm
theorem iN_xor (a b : Nat) : iN a ^^^ iN b = iN (a ^^^ b) := Int32.toBitVec.inj (BitVec.ofNat_xor).symm
/-- a without d -/
def nd (a d : Nat) : Nat := a ^^^ (a &&& d)
theorem nd_tb (a d j : Nat) : (nd a d).testBit j = (a.testBit j && !d.testBit j) := by
  unfold nd; rw [Nat.testBit_xor, Nat.testBit_and]; cases a.testBit j <;> cases d.testBit j <;> rfl
theorem iN_nd (a d : Nat) : iN a &&& (iN d ^^^ jN) = iN (nd a d) := by
  unfold nd
  rw [← iN_xor, ← iN_and]
  refine Int32.toBitVec.inj ?_
  rw [Int32.toBitVec_and, Int32.toBitVec_xor, Int32.toBitVec_xor, Int32.toBitVec_and, show jN.toBitVec = BitVec.allOnes 32 from by decide]
  ext i hi
  simp only [BitVec.getElem_and, BitVec.getElem_xor, BitVec.getElem_allOnes]
  cases (iN a).toBitVec[i] <;> cases (iN d).toBitVec[i] <;> rfl
theorem nd_le (a d : Nat) : nd a d ≤ a := by
  have : nd a d = a &&& nd a d := by
    apply Nat.eq_of_testBit_eq; intro j; rw [Nat.testBit_and, nd_tb]; cases a.testBit j <;> rfl
  rw [this]; exact Nat.and_le_left
theorem sh_k : ∀ k, k < 32 → ((iN k &&& (31 : Int32)).toBitVec).smod 32 = BitVec.ofNat 32 k := by decide +kernel
theorem iN_shl {a k : Nat} (h : k < 32) : iN a <<< (iN k &&& (31 : Int32)) = iN (a <<< k) := by
  refine Int32.toBitVec.inj ?_
  rw [Int32.toBitVec_shiftLeft, sh_k k h]
  show (BitVec.ofNat 32 a) <<< (BitVec.ofNat 32 k) = BitVec.ofNat 32 (a <<< k)
  apply BitVec.eq_of_toNat_eq
  rw [BitVec.shiftLeft_eq', BitVec.toNat_shiftLeft, BitVec.toNat_ofNat, BitVec.toNat_ofNat, BitVec.toNat_ofNat, Nat.mod_eq_of_lt (a := k) (by omega), Nat.shiftLeft_eq, Nat.shiftLeft_eq, Nat.mod_mul_mod]
theorem iN_shr {a k : Nat} (h : k < 32) (ha : a < 2147483648) : iN a >>> (iN k &&& (31 : Int32)) = iN (a >>> k) := by
  refine Int32.toBitVec.inj ?_
  rw [Int32.toBitVec_shiftRight, sh_k k h]
  show (BitVec.ofNat 32 a).sshiftRight (BitVec.ofNat 32 k).toNat = BitVec.ofNat 32 (a >>> k)
  rw [BitVec.sshiftRight_eq_of_msb_false (by rw [BitVec.msb_eq_false_iff_two_mul_lt, BitVec.toNat_ofNat]; omega), BitVec.toNat_ofNat, Nat.mod_eq_of_lt (a := k) (by omega)]
  apply BitVec.eq_of_toNat_eq
  have h2 : a >>> k ≤ a := by rw [Nat.shiftRight_eq_div_pow]; exact Nat.div_le_self _ _
  rw [BitVec.toNat_ushiftRight, BitVec.toNat_ofNat, BitVec.toNat_ofNat, Nat.mod_eq_of_lt (a := a) (by omega), Nat.mod_eq_of_lt (by omega)]
theorem iN_div {a b : Nat} (ha : a < 2147483648) (hb : b < 2147483648) : iN a / iN b = iN (a / b) := by
  have h : a / b ≤ a := Nat.div_le_self _ _
  refine Int32.toInt.inj ?_
  rw [Int32.toInt_div_of_ne_right _ _ (iN_nj hb), iN_toInt ha, iN_toInt hb, iN_toInt (by omega)]
  exact Int.ofNat_tdiv a b
theorem iN_rem {a b : Nat} (ha : a < 2147483648) (hb : b < 2147483648) : iN a - iN a / iN b * iN b = iN (a % b) := by
  rw [iN_div ha hb, iN_mul, iN_sub (Nat.div_mul_le_self a b)]
  congr 1
  have := Nat.div_add_mod a b
  rw [Nat.mul_comm] at this
  omega
theorem iN_nz {b : Nat} (hb : b < 2147483648) (h0 : 0 < b) : (!(iN b == iN 0)) = true := by
  have : ¬ iN b = iN 0 := by rw [iN_eq hb (by omega)]; omega
  simp [this]
/-! branches -/
section BR
variable {α : Type} {x y : α} {a b : Nat}
theorem ile_p (ha : a < 2147483648) (hb : b < 2147483648) (h : a ≤ b) : (if iN a ≤ iN b then x else y) = x := if_pos ((iN_le ha hb).2 h)
theorem ile_n (ha : a < 2147483648) (hb : b < 2147483648) (h : b < a) : (if iN a ≤ iN b then x else y) = y := if_neg (fun q => by rw [iN_le ha hb] at q; omega)
theorem ilt_p (ha : a < 2147483648) (hb : b < 2147483648) (h : a < b) : (if iN a < iN b then x else y) = x := if_pos ((iN_lt ha hb).2 h)
theorem ilt_n (ha : a < 2147483648) (hb : b < 2147483648) (h : b ≤ a) : (if iN a < iN b then x else y) = y := if_neg (fun q => by rw [iN_lt ha hb] at q; omega)
theorem ieq_p (h : a = b) : (if iN a = iN b then x else y) = x := if_pos (by rw [h])
theorem ieq_n (ha : a < 2147483648) (hb : b < 2147483648) (h : a ≠ b) : (if iN a = iN b then x else y) = y := if_neg (fun q => h ((iN_eq ha hb).1 q))
theorem ile_d (ha : a < 2147483648) (hb : b < 2147483648) : (if iN a ≤ iN b then x else y) = if a ≤ b then x else y := by
  by_cases h : a ≤ b
  · rw [ile_p ha hb h, if_pos h]
  · rw [ile_n ha hb (by omega), if_neg h]
theorem ilt_d (ha : a < 2147483648) (hb : b < 2147483648) : (if iN a < iN b then x else y) = if a < b then x else y := by
  by_cases h : a < b
  · rw [ilt_p ha hb h, if_pos h]
  · rw [ilt_n ha hb (by omega), if_neg h]
theorem ieq_d (ha : a < 2147483648) (hb : b < 2147483648) : (if iN a = iN b then x else y) = if a = b then x else y := by
  by_cases h : a = b
  · rw [ieq_p h, if_pos h]
  · rw [ieq_n ha hb h, if_neg h]
theorem ij_n (ha : a < 2147483648) : (if iN a = jN then x else y) = y := if_neg (iN_nj ha)
theorem jj_p : (if jN = jN then x else y) = x := if_pos rfl
theorem ijle (ha : a < 2147483648) : (if iN a ≤ jN then x else y) = y := if_neg (by rw [Int32.le_iff_toInt_le, iN_toInt ha, jN_toInt]; omega)
theorem jile (ha : a < 2147483648) : (if jN ≤ iN a then x else y) = x := if_pos (by rw [Int32.le_iff_toInt_le, iN_toInt ha, jN_toInt]; omega)
theorem ijlt (ha : a < 2147483648) : (if iN a < jN then x else y) = y := if_neg (by rw [Int32.lt_iff_toInt_lt, iN_toInt ha, jN_toInt]; omega)
theorem jilt (ha : a < 2147483648) : (if jN < iN a then x else y) = x := if_pos (by rw [Int32.lt_iff_toInt_lt, iN_toInt ha, jN_toInt]; omega)
theorem bN_if {c : Bool} : (if bN c = iN 0 then x else y) = if c = true then y else x := by
  cases c
  · rw [if_pos bN_f]; rfl
  · rw [if_neg (by rw [bN_t, iN_eq (by omega) (by omega)]; omega)]; rfl
end BR
theorem bN_01 (b : Bool) : mIs01 (bN b) = true := by cases b <;> decide
theorem i1_01 : mIs01 (iN 1) = true := by decide
theorem i0_01 : mIs01 (iN 0) = true := by decide
theorem nbeq (n : Nat) : Nat.beq n n = true := Nat.beq_refl n
theorem tb_and1 (a k : Nat) : a >>> k &&& 1 = if a.testBit k = true then 1 else 0 := by
  rw [Nat.and_one_is_mod, Nat.shiftRight_eq_div_pow]
  have h := Nat.toNat_testBit a k
  rw [← h]
  cases a.testBit k <;> rfl
/-- as rewritings, not as reductions: the kernel must not run programs -/
theorem gT {α : Type} (m : Option α) : mGd true m = m := by cases m <;> rfl
theorem bS {α β : Type} (a : α) (f : α → Option β) : (some a).bind f = f a := by rw [Option.bind_some]
theorem mX_some {σ ρ : Type} (r : ρ) : mX (σ := σ) (some r) = some (Sum.inr r) := rfl
theorem lp_run {σ ρ : Type} {body : σ → Option (σ ⊕ ρ)} (S : Nat → σ) (n : Nat) {r : ρ} (hs : ∀ i, i < n → body (S i) = some (.inl (S (i + 1)))) (he : body (S n) = some (.inr r)) (hn : n < 5000) : mLoop body mFuel (S 0) = some r := by
  have key : ∀ k i, i + k = n → ∀ f, k < f → mLoop body f (S i) = some r := by
    intro k
    induction k with
    | zero =>
      intro i hi f hf
      obtain ⟨f, rfl⟩ : ∃ g, f = g + 1 := ⟨f - 1, by omega⟩
      have : i = n := by omega
      subst this
      simp only [mLoop, he]
    | succ k ih =>
      intro i hi f hf
      obtain ⟨f, rfl⟩ : ∃ g, f = g + 1 := ⟨f - 1, by omega⟩
      simp only [mLoop, hs i (by omega)]
      exact ih (i + 1) (by omega) f (by omega)
  exact key n 0 (by omega) mFuel (by show n < 5000; omega)
/-- a loop by an invariant; it may end early -/
theorem lp_inv {σ ρ : Type} {body : σ → Option (σ ⊕ ρ)} (P : Nat → σ → Prop) (Q : ρ → Prop) (n : Nat) (hs : ∀ i s, i < n → P i s → (∃ s', body s = some (.inl s') ∧ P (i + 1) s') ∨ (∃ r, body s = some (.inr r) ∧ Q r)) (he : ∀ s, P n s → ∃ r, body s = some (.inr r) ∧ Q r) (hn : n < 5000) {s : σ} (h0 : P 0 s) : ∃ r, mLoop body mFuel s = some r ∧ Q r := by
  have key : ∀ k i s, i + k = n → P i s → ∀ f, k < f → ∃ r, mLoop body f s = some r ∧ Q r := by
    intro k
    induction k with
    | zero =>
      intro i s hi hP f hf
      obtain ⟨f, rfl⟩ : ∃ g, f = g + 1 := ⟨f - 1, by omega⟩
      have : i = n := by omega
      subst this
      obtain ⟨r, hr, hq⟩ := he s hP
      exact ⟨r, by simp only [mLoop, hr], hq⟩
    | succ k ih =>
      intro i s hi hP f hf
      obtain ⟨f, rfl⟩ : ∃ g, f = g + 1 := ⟨f - 1, by omega⟩
      rcases hs i s (by omega) hP with ⟨s', hb, hP'⟩ | ⟨r, hr, hq⟩
      · obtain ⟨r, hr, hq⟩ := ih (i + 1) s' (by omega) hP' f (by omega)
        exact ⟨r, by simp only [mLoop, hb]; exact hr, hq⟩
      · exact ⟨r, by simp only [mLoop, hr], hq⟩
  exact key n 0 s (by omega) h0 mFuel (by show n < 5000; omega)
/-! reads behind writes -/
section RW
variable (h : mH) (a b j k : Nat)
theorem mI_SI (v : Int32) : mI (mSI h a j v) b k = if b = a ∧ k = j then v else mI h b k := rfl
theorem mI_SR (v : Option Nat) : mI (mSR h a j v) b k = mI h b k := rfl
theorem mI_SL (v : Int64) : mI (mSL h a j v) b k = mI h b k := rfl
theorem mR_SI (v : Int32) : mR (mSI h a j v) b k = mR h b k := rfl
theorem mR_SR (v : Option Nat) : mR (mSR h a j v) b k = if b = a ∧ k = j then v else mR h b k := rfl
theorem mR_SL (v : Int64) : mR (mSL h a j v) b k = mR h b k := rfl
theorem mK_SI (v : Int32) : mK (mSI h a j v) b = mK h b := rfl
theorem mK_SR (v : Option Nat) : mK (mSR h a j v) b = mK h b := rfl
theorem mK_SL (v : Int64) : mK (mSL h a j v) b = mK h b := rfl
theorem mL_SI (v : Int32) : mL (mSI h a j v) b k = mL h b k := rfl
theorem mL_SR (v : Option Nat) : mL (mSR h a j v) b k = mL h b k := rfl
theorem mL_SL (v : Int64) : mL (mSL h a j v) b k = if b = a ∧ k = j then v else mL h b k := rfl
theorem mI_Cp (s sp d dp n : Nat) : mI (mCp h s sp d dp n) a j = if a = d ∧ dp ≤ j ∧ j < dp + n then mI h s (sp + (j - dp)) else mI h a j := rfl
theorem mR_Cp (s sp d dp n : Nat) : mR (mCp h s sp d dp n) a j = mR h a j := rfl
theorem mK_Cp (s sp d dp n : Nat) : mK (mCp h s sp d dp n) a = mK h a := rfl
theorem si_ne (v : Int32) (hn : b ≠ a) : mI (mSI h a j v) b k = mI h b k := by rw [mI_SI, if_neg (fun q => hn q.1)]
theorem si_nk (v : Int32) (hn : k ≠ j) : mI (mSI h a j v) b k = mI h b k := by rw [mI_SI, if_neg (fun q => hn q.2)]
theorem si_eq (v : Int32) : mI (mSI h a j v) a j = v := by rw [mI_SI, if_pos ⟨rfl, rfl⟩]
end RW
/-! what changed: cells of P alone; kinds and references stay -/
def Fr (P : Nat → Bool) (h h' : mH) : Prop := h'.1 = h.1 ∧ h'.2.2.1 = h.2.2.1 ∧ ∀ a, P a = false → ∀ j, mI h' a j = mI h a j
theorem Fr.rfl {P : Nat → Bool} {h : mH} : Fr P h h := ⟨Eq.refl _, Eq.refl _, fun _ _ _ => Eq.refl _⟩
theorem Fr.tr {P : Nat → Bool} {h h' h2 : mH} (x : Fr P h h') (y : Fr P h' h2) : Fr P h h2 := ⟨y.1.trans x.1, y.2.1.trans x.2.1, fun a p j => (y.2.2 a p j).trans (x.2.2 a p j)⟩
theorem Fr.si {P : Nat → Bool} {h h' : mH} (x : Fr P h h') {a j : Nat} {v : Int32} (p : P a = true) : Fr P h (mSI h' a j v) := ⟨x.1, x.2.1, fun b q k => by rw [si_ne _ _ _ _ _ _ (fun e => by rw [e, p] at q; cases q)]; exact x.2.2 b q k⟩
theorem Fr.sl {P : Nat → Bool} {h h' : mH} (x : Fr P h h') {a j : Nat} {v : Int64} : Fr P h (mSL h' a j v) := ⟨x.1, x.2.1, fun b q k => x.2.2 b q k⟩
theorem Fr.cp {P : Nat → Bool} {h h' : mH} (x : Fr P h h') {s sp d dp n : Nat} (p : P d = true) : Fr P h (mCp h' s sp d dp n) := ⟨x.1, x.2.1, fun b q k => by rw [mI_Cp, if_neg (fun e => by rw [e.1, p] at q; cases q)]; exact x.2.2 b q k⟩
theorem Fr.mono {P P' : Nat → Bool} {h h' : mH} (x : Fr P h h') (m : ∀ a, P a = true → P' a = true) : Fr P' h h' := ⟨x.1, x.2.1, fun a q j => x.2.2 a (by cases e : P a with
  | false => exact Eq.refl _
  | true => rw [m a e] at q; cases q) j⟩
theorem Fr.k {P : Nat → Bool} {h h' : mH} (x : Fr P h h') (a : Nat) : mK h' a = mK h a := by unfold mK; rw [x.1]
theorem Fr.r {P : Nat → Bool} {h h' : mH} (x : Fr P h h') (a j : Nat) : mR h' a j = mR h a j := by unfold mR; rw [x.2.1]
theorem Fr.i {P : Nat → Bool} {h h' : mH} (x : Fr P h h') {a : Nat} (p : P a = false) (j : Nat) : mI h' a j = mI h a j := x.2.2 a p j
/-! numbers as they stand in the programs -/
theorem L0 : (0 : Int32) = iN 0 := by unfold iN; rfl
theorem L1 : (1 : Int32) = iN 1 := by unfold iN; rfl
theorem L2 : (2 : Int32) = iN 2 := by unfold iN; rfl
theorem L3 : (3 : Int32) = iN 3 := by unfold iN; rfl
theorem L4 : (4 : Int32) = iN 4 := by unfold iN; rfl
theorem L5 : (5 : Int32) = iN 5 := by unfold iN; rfl
theorem L6 : (6 : Int32) = iN 6 := by unfold iN; rfl
theorem L7 : (7 : Int32) = iN 7 := by unfold iN; rfl
theorem L8 : (8 : Int32) = iN 8 := by unfold iN; rfl
theorem L9 : (9 : Int32) = iN 9 := by unfold iN; rfl
theorem L10 : (10 : Int32) = iN 10 := by unfold iN; rfl
theorem L11 : (11 : Int32) = iN 11 := by unfold iN; rfl
theorem L12 : (12 : Int32) = iN 12 := by unfold iN; rfl
theorem L13 : (13 : Int32) = iN 13 := by unfold iN; rfl
theorem L14 : (14 : Int32) = iN 14 := by unfold iN; rfl
theorem L15 : (15 : Int32) = iN 15 := by unfold iN; rfl
theorem L16 : (16 : Int32) = iN 16 := by unfold iN; rfl
theorem L17 : (17 : Int32) = iN 17 := by unfold iN; rfl
theorem L18 : (18 : Int32) = iN 18 := by unfold iN; rfl
theorem L19 : (19 : Int32) = iN 19 := by unfold iN; rfl
theorem L20 : (20 : Int32) = iN 20 := by unfold iN; rfl
theorem L21 : (21 : Int32) = iN 21 := by unfold iN; rfl
theorem L22 : (22 : Int32) = iN 22 := by unfold iN; rfl
theorem L23 : (23 : Int32) = iN 23 := by unfold iN; rfl
theorem L24 : (24 : Int32) = iN 24 := by unfold iN; rfl
theorem L25 : (25 : Int32) = iN 25 := by unfold iN; rfl
theorem L27 : (27 : Int32) = iN 27 := by unfold iN; rfl
theorem L33 : (33 : Int32) = iN 33 := by unfold iN; rfl
theorem L39 : (39 : Int32) = iN 39 := by unfold iN; rfl
theorem L40 : (40 : Int32) = iN 40 := by unfold iN; rfl
theorem L45 : (45 : Int32) = iN 45 := by unfold iN; rfl
theorem L48 : (48 : Int32) = iN 48 := by unfold iN; rfl
theorem L57 : (57 : Int32) = iN 57 := by unfold iN; rfl
theorem L60 : (60 : Int32) = iN 60 := by unfold iN; rfl
theorem L72 : (72 : Int32) = iN 72 := by unfold iN; rfl
theorem L90 : (90 : Int32) = iN 90 := by unfold iN; rfl
theorem L97 : (97 : Int32) = iN 97 := by unfold iN; rfl
theorem L98 : (98 : Int32) = iN 98 := by unfold iN; rfl
theorem L99 : (99 : Int32) = iN 99 := by unfold iN; rfl
theorem L100 : (100 : Int32) = iN 100 := by unfold iN; rfl
theorem L121 : (121 : Int32) = iN 121 := by unfold iN; rfl
theorem L122 : (122 : Int32) = iN 122 := by unfold iN; rfl
theorem L242 : (242 : Int32) = iN 242 := by unfold iN; rfl
theorem L255 : (255 : Int32) = iN 255 := by unfold iN; rfl
theorem L256 : (256 : Int32) = iN 256 := by unfold iN; rfl
theorem L580 : (580 : Int32) = iN 580 := by unfold iN; rfl
theorem L600 : (600 : Int32) = iN 600 := by unfold iN; rfl
theorem L1000 : (1000 : Int32) = iN 1000 := by unfold iN; rfl
theorem L1584 : (1584 : Int32) = iN 1584 := by unfold iN; rfl
theorem L1000000 : (1000000 : Int32) = iN 1000000 := by unfold iN; rfl
theorem Ln1 : -(iN 1) = jN := by unfold jN; rfl
