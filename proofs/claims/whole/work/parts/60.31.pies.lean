/-! PIES in rows: nextPies of both -/
/-- the rows of m PIES in their order, a row a number, its digits the TOPICS -/
def pT : Nat → List Nat
  | 0 => [0]
  | 1 => [0, 1, 2, 3, 4, 5]
  | 2 => [0, 10, 20, 30, 40, 50, 11, 21, 31, 41, 51, 22, 32, 42, 52, 33, 43, 53, 44, 54, 55]
  | 3 => [0, 100, 200, 300, 400, 500, 110, 210, 310, 410, 510, 220, 320, 420, 520, 330, 430, 530, 440, 540, 550, 111, 211, 311, 411, 511, 221, 321, 421, 521, 331, 431, 531, 441, 541, 551, 222, 322, 422, 522, 332, 432, 532, 442, 542, 552, 333, 433, 533, 443, 543, 553, 444, 544, 554, 555]
  | _ => [0, 1000, 2000, 3000, 4000, 5000, 1100, 2100, 3100, 4100, 5100, 2200, 3200, 4200, 5200, 3300, 4300, 5300, 4400, 5400, 5500, 1110, 2110, 3110, 4110, 5110, 2210, 3210, 4210, 5210, 3310, 4310, 5310, 4410, 5410, 5510, 2220, 3220, 4220, 5220, 3320, 4320, 5320, 4420, 5420, 5520, 3330, 4330, 5330, 4430, 5430, 5530, 4440, 5440, 5540, 5550, 1111, 2111, 3111, 4111, 5111, 2211, 3211, 4211, 5211, 3311, 4311, 5311, 4411, 5411, 5511, 2221, 3221, 4221, 5221, 3321, 4321, 5321, 4421, 5421, 5521, 3331, 4331, 5331, 4431, 5431, 5531, 4441, 5441, 5541, 5551, 2222, 3222, 4222, 5222, 3322, 4322, 5322, 4422, 5422, 5522, 3332, 4332, 5332, 4432, 5432, 5532, 4442, 5442, 5542, 5552, 3333, 4333, 5333, 4433, 5433, 5533, 4443, 5443, 5543, 5553, 4444, 5444, 5544, 5554, 5555]
def pR (m : Nat) : Nat := (pT m).length
def pP (m k i : Nat) : Nat := (pT m).getD k 0 / 10 ^ i % 10
/-- the last of the first k that is not 5 -/
def atF (P : Nat → Nat) : Nat → Option Nat
  | 0 => none
  | k + 1 => if P k = 5 then atF P k else some k
theorem atF_lt {P : Nat → Nat} {a : Nat} : ∀ {m}, atF P m = some a → a < m := by
  intro m
  induction m with
  | zero => intro e; cases e
  | succ m ih =>
    intro e
    unfold atF at e
    split at e
    · have := ih e; omega
    · have : m = a := Option.some.inj e
      omega
theorem pR_b : ∀ m, m < 5 → 1 ≤ pR m ∧ pR m < 127 := by decide +kernel
theorem pP_5 : ∀ m, m < 5 → ∀ k, k < pR m → ∀ i, i < 4 → pP m k i < 6 := by decide +kernel
theorem pP_0 : ∀ m, m < 5 → ∀ i, i < 4 → pP m 0 i = 0 := by decide +kernel
theorem pP_e : ∀ m, m < 5 → atF (pP m (pR m - 1)) m = none := by decide +kernel
def pC1 (m k a i : Nat) : Nat := if a ≤ i ∧ i < m then pP m k a + 1 else pP m k i
def pC2 (m k : Nat) : Option Nat → Bool
  | none => false
  | some a => (List.range m).all (fun i => Nat.beq (pC1 m k a i) (pP m (k + 1) i))
theorem pC3 : ∀ m, m < 5 → ∀ k, k < pR m - 1 → pC2 m k (atF (pP m k) m) = true := by decide +kernel
theorem pP_s' : ∀ m, m < 5 → ∀ k, k < pR m - 1 → (match atF (pP m k) m with
  | none => False
  | some a => ∀ i, i < m → (if a ≤ i ∧ i < m then pP m k a + 1 else pP m k i) = pP m (k + 1) i) := by
  intro m hm k hk
  have t := pC3 m hm k hk
  generalize atF (pP m k) m = o at t
  cases o with
  | none => cases t
  | some a =>
    intro i hi
    unfold pC2 at t
    rw [List.all_eq_true] at t
    exact Nat.eq_of_beq_eq_true (t i (List.mem_range.2 hi))
theorem pP_s {m k : Nat} (hm : m < 5) (hk : k + 1 < pR m) : ∃ a, atF (pP m k) m = some a ∧ ∀ i, i < m → (if a ≤ i ∧ i < m then pP m k a + 1 else pP m k i) = pP m (k + 1) i := by
  have t := pP_s' m hm k (by omega)
  generalize atF (pP m k) m = o at t
  cases o with
  | none => cases t
  | some a => exact ⟨a, rfl, t⟩
section NP
variable {h : mH} {m : Nat} {P : Nat → Nat}
theorem t91f (w : Wd h) (hm : m ≤ 4) {a : Nat} {x : Nat} (ha : a ≤ m) (hp : ∀ i, i < m → mI h 68 i = iN (P i)) : ∃ h', mLoop (f91_46 66 (iN m) (iN x)) mFuel (iN a, h) = some (bN true, h') ∧ Fr (fun b => Nat.beq b 68) h h' ∧ ∀ i, i < m → mI h' 68 i = iN (if a ≤ i ∧ i < m then x else P i) := by
  have := lp_inv (body := f91_46 66 (iN m) (iN x)) (P := fun i z => z.1 = iN (a + i) ∧ Fr (fun b => Nat.beq b 68) h z.2 ∧ ∀ j, j < m → mI z.2 68 j = iN (if a ≤ j ∧ j < a + i then x else P j)) (Q := fun r => r.1 = bN true ∧ Fr (fun b => Nat.beq b 68) h r.2 ∧ ∀ j, j < m → mI r.2 68 j = iN (if a ≤ j ∧ j < m then x else P j)) (m - a) (fun i z hi hP => by
    obtain ⟨u1, u3⟩ := z
    obtain ⟨z1, z2, z3⟩ := hP
    have z1 : u1 = iN (a + i) := z1
    have z2 : Fr (fun b => Nat.beq b 68) h u3 := z2
    subst z1
    have w2 := w.fr z2
    left
    refine ⟨(iN (a + i + 1), mSI u3 68 (a + i) (iN x)), ?_, rfl, z2.si (by decide), fun j hj => ?_⟩
    · unfold f91_46
      simp (disch := omega) only [gT, nbeq, Option.isSome_some, Option.getD_some, Bool.and_true, Bool.true_and, Bool.and_self, mX_some, bS, bN_if, bN_01, i1_01, i0_01, if_true, if_false, Bool.false_eq_true, false_and, and_false, and_true, true_and, and_self, Bool.or_false, Bool.false_or, Bool.or_true, Bool.true_or, Bool.false_and, Bool.and_false, decide_true, decide_false, L0, L1, L2, L3, L4, L5, L6, L7, L8, L9, L10, L11, L12, L13, L14, L15, L16, L17, L18, L19, L20, L21, L22, L23, L24, L25, L27, L33, L39, L40, L45, L48, L57, L60, L72, L90, L97, L98, L99, L100, L121, L122, L242, L255, L256, L580, L600, L1000, L1584, L1000000, Ln1, iN_add, iN_and, iN_or, iN_nd, iN_shl, iN_shr, iN_cl, iN_in, iN_mul, k66 w2, r66_0 w2, r66_1 w2, r66_2 w2, r66_4 w2, k68 w2, ile_n]
    · by_cases e : j = a + i
      · subst e
        rw [if_pos (by omega)]
        simp (disch := omega) only [si_ne, si_nk, si_eq]
      · have := z3 j hj
        simp (disch := omega) only [si_ne, si_nk, si_eq]
        rw [this]
        by_cases e2 : a ≤ j ∧ j < a + i
        · rw [if_pos e2, if_pos (by omega)]
        · rw [if_neg e2, if_neg (by omega)]) (fun z hP => by
    obtain ⟨u1, u3⟩ := z
    obtain ⟨z1, z2, z3⟩ := hP
    have z1 : u1 = iN (a + (m - a)) := z1
    rw [show a + (m - a) = m by omega] at z1 z3
    subst z1
    refine ⟨(bN true, u3), ?_, rfl, z2, z3⟩
    unfold f91_46 f91_72
    simp (disch := omega) only [gT, nbeq, Option.isSome_some, Option.getD_some, Bool.and_true, Bool.true_and, Bool.and_self, mX_some, bS, bN_if, bN_01, i1_01, i0_01, if_true, if_false, Bool.false_eq_true, false_and, and_false, and_true, true_and, and_self, Bool.or_false, Bool.false_or, Bool.or_true, Bool.true_or, Bool.false_and, Bool.and_false, decide_true, decide_false, L0, L1, L2, L3, L4, L5, L6, L7, L8, L9, L10, L11, L12, L13, L14, L15, L16, L17, L18, L19, L20, L21, L22, L23, L24, L25, L27, L33, L39, L40, L45, L48, L57, L60, L72, L90, L97, L98, L99, L100, L121, L122, L242, L255, L256, L580, L600, L1000, L1584, L1000000, Ln1, iN_add, iN_and, iN_or, iN_nd, iN_shl, iN_shr, iN_cl, iN_in, iN_mul, ile_p, bN_t]) (by omega) (s := (iN a, h)) ⟨rfl, Fr.rfl, fun j hj => by
      show _ = iN (if a ≤ j ∧ j < a + 0 then x else P j)
      rw [if_neg (by omega)]; exact hp j hj⟩
  obtain ⟨⟨r, h'⟩, r1, r2, r3, r4⟩ := this
  have r2' : r = bN true := r2
  rw [r2'] at r1
  exact ⟨h', r1, r3, r4⟩
theorem t91 (w : Wd h) (hm : m ≤ 4) (hp : ∀ i, i < m → P i < 6 ∧ mI h 68 i = iN (P i)) : (atF P m = none ∧ f91 h 66 (iN m) = some (bN false, h)) ∨ ∃ a h', atF P m = some a ∧ f91 h 66 (iN m) = some (bN true, h') ∧ Fr (fun b => Nat.beq b 68) h h' ∧ ∀ i, i < m → mI h' 68 i = iN (if a ≤ i ∧ i < m then P a + 1 else P i) := by
  have := lp_run2 (body := f91_8 h 66 (iN m)) (R := fun k (_ : Unit) s => s = pN (m - k)) (Q := fun (o : Option Nat) r => (o = none ∧ r = (bN false, h)) ∨ ∃ a h', o = some a ∧ r = (bN true, h') ∧ Fr (fun b => Nat.beq b 68) h h' ∧ ∀ i, i < m → mI h' 68 i = iN (if a ≤ i ∧ i < m then P a + 1 else P i)) (go := fun n _ _ => atF P n) m (fun n k x s hk hR => by
    have e : m - k = n + 1 := by omega
    rw [e, pN_s] at hR
    subst hR
    obtain ⟨p6, pe⟩ := hp n (by omega)
    by_cases d : P n = 5
    · left
      refine ⟨pN n, (), ?_, by rw [show m - (k + 1) = n by omega], ?_⟩
      · unfold f91_8
        simp (disch := omega) only [gT, nbeq, Option.isSome_some, Option.getD_some, Bool.and_true, Bool.true_and, Bool.and_self, mX_some, bS, bN_if, bN_01, i1_01, i0_01, if_true, if_false, Bool.false_eq_true, false_and, and_false, and_true, true_and, and_self, Bool.or_false, Bool.false_or, Bool.or_true, Bool.true_or, Bool.false_and, Bool.and_false, decide_true, decide_false, L0, L1, L2, L3, L4, L5, L6, L7, L8, L9, L10, L11, L12, L13, L14, L15, L16, L17, L18, L19, L20, L21, L22, L23, L24, L25, L27, L33, L39, L40, L45, L48, L57, L60, L72, L90, L97, L98, L99, L100, L121, L122, L242, L255, L256, L580, L600, L1000, L1584, L1000000, Ln1, iN_add, iN_and, iN_or, iN_nd, iN_shl, iN_shr, iN_cl, iN_in, iN_mul, k66 w, r66_0 w, r66_1 w, r66_2 w, r66_4 w, k68 w, ilt_n, pe, ieq_p, iN_pj]
      · show atF P (n + 1) = atF P n
        unfold atF
        rw [if_pos d]
        cases n <;> rfl
    · right
      obtain ⟨h', b1, b2, b3⟩ := t91f (P := P) (a := n) (x := P n + 1) w hm (by omega) (fun i hi => (hp i hi).2)
      refine ⟨(bN true, h'), ?_, Or.inr ⟨n, h', ?_, rfl, b2, b3⟩⟩
      · unfold f91_8 f91_28
        simp (disch := omega) only [gT, nbeq, Option.isSome_some, Option.getD_some, Bool.and_true, Bool.true_and, Bool.and_self, mX_some, bS, bN_if, bN_01, i1_01, i0_01, if_true, if_false, Bool.false_eq_true, false_and, and_false, and_true, true_and, and_self, Bool.or_false, Bool.false_or, Bool.or_true, Bool.true_or, Bool.false_and, Bool.and_false, decide_true, decide_false, L0, L1, L2, L3, L4, L5, L6, L7, L8, L9, L10, L11, L12, L13, L14, L15, L16, L17, L18, L19, L20, L21, L22, L23, L24, L25, L27, L33, L39, L40, L45, L48, L57, L60, L72, L90, L97, L98, L99, L100, L121, L122, L242, L255, L256, L580, L600, L1000, L1584, L1000000, Ln1, iN_add, iN_and, iN_or, iN_nd, iN_shl, iN_shr, iN_cl, iN_in, iN_mul, k66 w, r66_0 w, r66_1 w, r66_2 w, r66_4 w, k68 w, ilt_n, pe, ieq_n, ile_p, b1]
      · show atF P (n + 1) = some n
        unfold atF
        rw [if_neg d]) (fun x s hR => by
    rw [Nat.sub_self, pN_z] at hR
    subst hR
    refine ⟨(bN false, h), ?_, Or.inl ⟨rfl, rfl⟩⟩
    unfold f91_8 f91_28
    simp (disch := omega) only [gT, nbeq, Option.isSome_some, Option.getD_some, Bool.and_true, Bool.true_and, Bool.and_self, mX_some, bS, bN_if, bN_01, i1_01, i0_01, if_true, if_false, Bool.false_eq_true, false_and, and_false, and_true, true_and, and_self, Bool.or_false, Bool.false_or, Bool.or_true, Bool.true_or, Bool.false_and, Bool.and_false, decide_true, decide_false, L0, L1, L2, L3, L4, L5, L6, L7, L8, L9, L10, L11, L12, L13, L14, L15, L16, L17, L18, L19, L20, L21, L22, L23, L24, L25, L27, L33, L39, L40, L45, L48, L57, L60, L72, L90, L97, L98, L99, L100, L121, L122, L242, L255, L256, L580, L600, L1000, L1584, L1000000, Ln1, iN_add, iN_and, iN_or, iN_nd, iN_shl, iN_shr, iN_cl, iN_in, iN_mul, jilt, ijle, jile, bN_f]) (by omega) (x0 := ()) (s := pN m) (by rw [Nat.sub_zero])
  obtain ⟨r, r1, r2⟩ := this
  have e : f91 h 66 (iN m) = mLoop (f91_8 h 66 (iN m)) mFuel (pN m) := by
    unfold f91
    simp (disch := omega) only [gT, nbeq, Option.isSome_some, Option.getD_some, Bool.and_true, Bool.true_and, Bool.and_self, mX_some, bS, bN_if, bN_01, i1_01, i0_01, if_true, if_false, Bool.false_eq_true, false_and, and_false, and_true, true_and, and_self, Bool.or_false, Bool.false_or, Bool.or_true, Bool.true_or, Bool.false_and, Bool.and_false, decide_true, decide_false, L0, L1, L2, L3, L4, L5, L6, L7, L8, L9, L10, L11, L12, L13, L14, L15, L16, L17, L18, L19, L20, L21, L22, L23, L24, L25, L27, L33, L39, L40, L45, L48, L57, L60, L72, L90, L97, L98, L99, L100, L121, L122, L242, L255, L256, L580, L600, L1000, L1584, L1000000, Ln1, iN_add, iN_and, iN_or, iN_nd, iN_shl, iN_shr, iN_cl, iN_in, iN_mul, ilt_n, iN_p]
  rw [e]
  rcases r2 with ⟨r3, rfl⟩ | ⟨a, h', r3, rfl, r4, r5⟩
  · exact Or.inl ⟨r3, r1⟩
  · exact Or.inr ⟨a, h', r3, r1, r4, r5⟩
theorem t240f (w : Wd h) (hm : m ≤ 4) {a : Nat} {x : Nat} (ha : a ≤ m) (hp : ∀ i, i < m → mI h 208 i = iN (P i)) : ∃ h', mLoop (f240_42 193 (iN m) (iN x)) mFuel (iN a, h) = some (bN true, h') ∧ Fr (fun b => Nat.beq b 208) h h' ∧ ∀ i, i < m → mI h' 208 i = iN (if a ≤ i ∧ i < m then x else P i) := by
  have := lp_inv (body := f240_42 193 (iN m) (iN x)) (P := fun i z => z.1 = iN (a + i) ∧ Fr (fun b => Nat.beq b 208) h z.2 ∧ ∀ j, j < m → mI z.2 208 j = iN (if a ≤ j ∧ j < a + i then x else P j)) (Q := fun r => r.1 = bN true ∧ Fr (fun b => Nat.beq b 208) h r.2 ∧ ∀ j, j < m → mI r.2 208 j = iN (if a ≤ j ∧ j < m then x else P j)) (m - a) (fun i z hi hP => by
    obtain ⟨u1, u3⟩ := z
    obtain ⟨z1, z2, z3⟩ := hP
    have z1 : u1 = iN (a + i) := z1
    have z2 : Fr (fun b => Nat.beq b 208) h u3 := z2
    subst z1
    have w2 := w.fr z2
    left
    refine ⟨(iN (a + i + 1), mSI u3 208 (a + i) (iN x)), ?_, rfl, z2.si (by decide), fun j hj => ?_⟩
    · unfold f240_42
      simp (disch := omega) only [gT, nbeq, Option.isSome_some, Option.getD_some, Bool.and_true, Bool.true_and, Bool.and_self, mX_some, bS, bN_if, bN_01, i1_01, i0_01, if_true, if_false, Bool.false_eq_true, false_and, and_false, and_true, true_and, and_self, Bool.or_false, Bool.false_or, Bool.or_true, Bool.true_or, Bool.false_and, Bool.and_false, decide_true, decide_false, L0, L1, L2, L3, L4, L5, L6, L7, L8, L9, L10, L11, L12, L13, L14, L15, L16, L17, L18, L19, L20, L21, L22, L23, L24, L25, L27, L33, L39, L40, L45, L48, L57, L60, L72, L90, L97, L98, L99, L100, L121, L122, L242, L255, L256, L580, L600, L1000, L1584, L1000000, Ln1, iN_add, iN_and, iN_or, iN_nd, iN_shl, iN_shr, iN_cl, iN_in, iN_mul, k193 w2, r193_1 w2, r193_2 w2, r193_3 w2, r193_4 w2, r193_5 w2, r193_6 w2, r193_7 w2, r193_8 w2, r193_18 w2, r193_19 w2, r193_32 w2, r193_33 w2, r193_34 w2, r193_36 w2, r193_38 w2, r193_39 w2, r193_40 w2, r193_42 w2, r193_45 w2, r193_46 w2, r193_47 w2, r193_48 w2, r193_49 w2, r193_50 w2, k208 w2, ile_n]
    · by_cases e : j = a + i
      · subst e
        rw [if_pos (by omega)]
        simp (disch := omega) only [si_ne, si_nk, si_eq]
      · have := z3 j hj
        simp (disch := omega) only [si_ne, si_nk, si_eq]
        rw [this]
        by_cases e2 : a ≤ j ∧ j < a + i
        · rw [if_pos e2, if_pos (by omega)]
        · rw [if_neg e2, if_neg (by omega)]) (fun z hP => by
    obtain ⟨u1, u3⟩ := z
    obtain ⟨z1, z2, z3⟩ := hP
    have z1 : u1 = iN (a + (m - a)) := z1
    rw [show a + (m - a) = m by omega] at z1 z3
    subst z1
    refine ⟨(bN true, u3), ?_, rfl, z2, z3⟩
    unfold f240_42
    simp (disch := omega) only [gT, nbeq, Option.isSome_some, Option.getD_some, Bool.and_true, Bool.true_and, Bool.and_self, mX_some, bS, bN_if, bN_01, i1_01, i0_01, if_true, if_false, Bool.false_eq_true, false_and, and_false, and_true, true_and, and_self, Bool.or_false, Bool.false_or, Bool.or_true, Bool.true_or, Bool.false_and, Bool.and_false, decide_true, decide_false, L0, L1, L2, L3, L4, L5, L6, L7, L8, L9, L10, L11, L12, L13, L14, L15, L16, L17, L18, L19, L20, L21, L22, L23, L24, L25, L27, L33, L39, L40, L45, L48, L57, L60, L72, L90, L97, L98, L99, L100, L121, L122, L242, L255, L256, L580, L600, L1000, L1584, L1000000, Ln1, iN_add, iN_and, iN_or, iN_nd, iN_shl, iN_shr, iN_cl, iN_in, iN_mul, ile_p, bN_t]) (by omega) (s := (iN a, h)) ⟨rfl, Fr.rfl, fun j hj => by
      show _ = iN (if a ≤ j ∧ j < a + 0 then x else P j)
      rw [if_neg (by omega)]; exact hp j hj⟩
  obtain ⟨⟨r, h'⟩, r1, r2, r3, r4⟩ := this
  have r2' : r = bN true := r2
  rw [r2'] at r1
  exact ⟨h', r1, r3, r4⟩
theorem t240 (w : Wd h) (hm : m ≤ 4) (hp : ∀ i, i < m → P i < 6 ∧ mI h 208 i = iN (P i)) : (atF P m = none ∧ f240 h 193 (iN m) = some (bN false, h)) ∨ ∃ a h', atF P m = some a ∧ f240 h 193 (iN m) = some (bN true, h') ∧ Fr (fun b => Nat.beq b 208) h h' ∧ ∀ i, i < m → mI h' 208 i = iN (if a ≤ i ∧ i < m then P a + 1 else P i) := by
  have := lp_run2 (body := f240_4 h 193 (iN m)) (R := fun k (_ : Unit) s => s = pN (m - k)) (Q := fun (o : Option Nat) r => (o = none ∧ r = (bN false, h)) ∨ ∃ a h', o = some a ∧ r = (bN true, h') ∧ Fr (fun b => Nat.beq b 208) h h' ∧ ∀ i, i < m → mI h' 208 i = iN (if a ≤ i ∧ i < m then P a + 1 else P i)) (go := fun n _ _ => atF P n) m (fun n k x s hk hR => by
    have e : m - k = n + 1 := by omega
    rw [e, pN_s] at hR
    subst hR
    obtain ⟨p6, pe⟩ := hp n (by omega)
    by_cases d : P n = 5
    · left
      refine ⟨pN n, (), ?_, by rw [show m - (k + 1) = n by omega], ?_⟩
      · unfold f240_4
        simp (disch := omega) only [gT, nbeq, Option.isSome_some, Option.getD_some, Bool.and_true, Bool.true_and, Bool.and_self, mX_some, bS, bN_if, bN_01, i1_01, i0_01, if_true, if_false, Bool.false_eq_true, false_and, and_false, and_true, true_and, and_self, Bool.or_false, Bool.false_or, Bool.or_true, Bool.true_or, Bool.false_and, Bool.and_false, decide_true, decide_false, L0, L1, L2, L3, L4, L5, L6, L7, L8, L9, L10, L11, L12, L13, L14, L15, L16, L17, L18, L19, L20, L21, L22, L23, L24, L25, L27, L33, L39, L40, L45, L48, L57, L60, L72, L90, L97, L98, L99, L100, L121, L122, L242, L255, L256, L580, L600, L1000, L1584, L1000000, Ln1, iN_add, iN_and, iN_or, iN_nd, iN_shl, iN_shr, iN_cl, iN_in, iN_mul, k193 w, r193_1 w, r193_2 w, r193_3 w, r193_4 w, r193_5 w, r193_6 w, r193_7 w, r193_8 w, r193_18 w, r193_19 w, r193_32 w, r193_33 w, r193_34 w, r193_36 w, r193_38 w, r193_39 w, r193_40 w, r193_42 w, r193_45 w, r193_46 w, r193_47 w, r193_48 w, r193_49 w, r193_50 w, k208 w, ilt_n, pe, ieq_p, iN_pj]
      · show atF P (n + 1) = atF P n
        unfold atF
        rw [if_pos d]
        cases n <;> rfl
    · right
      obtain ⟨h', b1, b2, b3⟩ := t240f (P := P) (a := n) (x := P n + 1) w hm (by omega) (fun i hi => (hp i hi).2)
      refine ⟨(bN true, h'), ?_, Or.inr ⟨n, h', ?_, rfl, b2, b3⟩⟩
      · unfold f240_4 f240_24
        simp (disch := omega) only [gT, nbeq, Option.isSome_some, Option.getD_some, Bool.and_true, Bool.true_and, Bool.and_self, mX_some, bS, bN_if, bN_01, i1_01, i0_01, if_true, if_false, Bool.false_eq_true, false_and, and_false, and_true, true_and, and_self, Bool.or_false, Bool.false_or, Bool.or_true, Bool.true_or, Bool.false_and, Bool.and_false, decide_true, decide_false, L0, L1, L2, L3, L4, L5, L6, L7, L8, L9, L10, L11, L12, L13, L14, L15, L16, L17, L18, L19, L20, L21, L22, L23, L24, L25, L27, L33, L39, L40, L45, L48, L57, L60, L72, L90, L97, L98, L99, L100, L121, L122, L242, L255, L256, L580, L600, L1000, L1584, L1000000, Ln1, iN_add, iN_and, iN_or, iN_nd, iN_shl, iN_shr, iN_cl, iN_in, iN_mul, k193 w, r193_1 w, r193_2 w, r193_3 w, r193_4 w, r193_5 w, r193_6 w, r193_7 w, r193_8 w, r193_18 w, r193_19 w, r193_32 w, r193_33 w, r193_34 w, r193_36 w, r193_38 w, r193_39 w, r193_40 w, r193_42 w, r193_45 w, r193_46 w, r193_47 w, r193_48 w, r193_49 w, r193_50 w, k208 w, ilt_n, pe, ieq_n, ile_p, b1]
      · show atF P (n + 1) = some n
        unfold atF
        rw [if_neg d]) (fun x s hR => by
    rw [Nat.sub_self, pN_z] at hR
    subst hR
    refine ⟨(bN false, h), ?_, Or.inl ⟨rfl, rfl⟩⟩
    unfold f240_4 f240_24
    simp (disch := omega) only [gT, nbeq, Option.isSome_some, Option.getD_some, Bool.and_true, Bool.true_and, Bool.and_self, mX_some, bS, bN_if, bN_01, i1_01, i0_01, if_true, if_false, Bool.false_eq_true, false_and, and_false, and_true, true_and, and_self, Bool.or_false, Bool.false_or, Bool.or_true, Bool.true_or, Bool.false_and, Bool.and_false, decide_true, decide_false, L0, L1, L2, L3, L4, L5, L6, L7, L8, L9, L10, L11, L12, L13, L14, L15, L16, L17, L18, L19, L20, L21, L22, L23, L24, L25, L27, L33, L39, L40, L45, L48, L57, L60, L72, L90, L97, L98, L99, L100, L121, L122, L242, L255, L256, L580, L600, L1000, L1584, L1000000, Ln1, iN_add, iN_and, iN_or, iN_nd, iN_shl, iN_shr, iN_cl, iN_in, iN_mul, jilt, ijle, jile, bN_f]) (by omega) (x0 := ()) (s := pN m) (by rw [Nat.sub_zero])
  obtain ⟨r, r1, r2⟩ := this
  have e : f240 h 193 (iN m) = mLoop (f240_4 h 193 (iN m)) mFuel (pN m) := by
    unfold f240
    simp (disch := omega) only [gT, nbeq, Option.isSome_some, Option.getD_some, Bool.and_true, Bool.true_and, Bool.and_self, mX_some, bS, bN_if, bN_01, i1_01, i0_01, if_true, if_false, Bool.false_eq_true, false_and, and_false, and_true, true_and, and_self, Bool.or_false, Bool.false_or, Bool.or_true, Bool.true_or, Bool.false_and, Bool.and_false, decide_true, decide_false, L0, L1, L2, L3, L4, L5, L6, L7, L8, L9, L10, L11, L12, L13, L14, L15, L16, L17, L18, L19, L20, L21, L22, L23, L24, L25, L27, L33, L39, L40, L45, L48, L57, L60, L72, L90, L97, L98, L99, L100, L121, L122, L242, L255, L256, L580, L600, L1000, L1584, L1000000, Ln1, iN_add, iN_and, iN_or, iN_nd, iN_shl, iN_shr, iN_cl, iN_in, iN_mul, ilt_n, iN_p]
  rw [e]
  rcases r2 with ⟨r3, rfl⟩ | ⟨a, h', r3, rfl, r4, r5⟩
  · exact Or.inl ⟨r3, r1⟩
  · exact Or.inr ⟨a, h', r3, r1, r4, r5⟩
theorem t238 (w : Wd h) (hm : m ≤ 4) : ∃ h', f238 h 193 (iN m) = some ((), h') ∧ Fr (fun b => Nat.beq b 208) h h' ∧ ∀ i, i < m → mI h' 208 i = iN 0 := by
  unfold f238
  simp only [L0, L1, L2, L3, L4, L5, L6, L7, L8, L9, L10, L11, L12, L13, L14, L15, L16, L17, L18, L19, L20, L21, L22, L23, L24, L25, L27, L33, L39, L40, L45, L48, L57, L60, L72, L90, L97, L98, L99, L100, L121, L122, L242, L255, L256, L580, L600, L1000, L1584, L1000000, Ln1, iN_add, iN_and, iN_or, iN_nd, iN_shl, iN_shr, iN_cl, iN_in, iN_mul]
  have := lp_inv (body := f238_2 193 (iN m)) (P := fun i z => z.1 = iN i ∧ Fr (fun b => Nat.beq b 208) h z.2 ∧ ∀ j, j < i → mI z.2 208 j = iN 0) (Q := fun r => Fr (fun b => Nat.beq b 208) h r.2 ∧ ∀ j, j < m → mI r.2 208 j = iN 0) m (fun i z hi hP => by
    obtain ⟨u1, u3⟩ := z
    obtain ⟨z1, z2, z3⟩ := hP
    have z1 : u1 = iN i := z1
    have z2 : Fr (fun b => Nat.beq b 208) h u3 := z2
    subst z1
    have w2 := w.fr z2
    left
    refine ⟨(iN (i + 1), mSI u3 208 i (iN 0)), ?_, rfl, z2.si (by decide), fun j hj => ?_⟩
    · unfold f238_2
      simp (disch := omega) only [gT, nbeq, Option.isSome_some, Option.getD_some, Bool.and_true, Bool.true_and, Bool.and_self, mX_some, bS, bN_if, bN_01, i1_01, i0_01, if_true, if_false, Bool.false_eq_true, false_and, and_false, and_true, true_and, and_self, Bool.or_false, Bool.false_or, Bool.or_true, Bool.true_or, Bool.false_and, Bool.and_false, decide_true, decide_false, L0, L1, L2, L3, L4, L5, L6, L7, L8, L9, L10, L11, L12, L13, L14, L15, L16, L17, L18, L19, L20, L21, L22, L23, L24, L25, L27, L33, L39, L40, L45, L48, L57, L60, L72, L90, L97, L98, L99, L100, L121, L122, L242, L255, L256, L580, L600, L1000, L1584, L1000000, Ln1, iN_add, iN_and, iN_or, iN_nd, iN_shl, iN_shr, iN_cl, iN_in, iN_mul, k193 w2, r193_1 w2, r193_2 w2, r193_3 w2, r193_4 w2, r193_5 w2, r193_6 w2, r193_7 w2, r193_8 w2, r193_18 w2, r193_19 w2, r193_32 w2, r193_33 w2, r193_34 w2, r193_36 w2, r193_38 w2, r193_39 w2, r193_40 w2, r193_42 w2, r193_45 w2, r193_46 w2, r193_47 w2, r193_48 w2, r193_49 w2, r193_50 w2, k208 w2, ile_n]
    · by_cases e : j = i
      · subst e
        simp (disch := omega) only [si_ne, si_nk, si_eq]
      · simp (disch := omega) only [si_ne, si_nk, si_eq]
        exact z3 j (by omega)) (fun z hP => by
    obtain ⟨u1, u3⟩ := z
    obtain ⟨z1, z2, z3⟩ := hP
    have z1 : u1 = iN m := z1
    subst z1
    refine ⟨((), u3), ?_, z2, z3⟩
    unfold f238_2
    simp (disch := omega) only [gT, nbeq, Option.isSome_some, Option.getD_some, Bool.and_true, Bool.true_and, Bool.and_self, mX_some, bS, bN_if, bN_01, i1_01, i0_01, if_true, if_false, Bool.false_eq_true, false_and, and_false, and_true, true_and, and_self, Bool.or_false, Bool.false_or, Bool.or_true, Bool.true_or, Bool.false_and, Bool.and_false, decide_true, decide_false, L0, L1, L2, L3, L4, L5, L6, L7, L8, L9, L10, L11, L12, L13, L14, L15, L16, L17, L18, L19, L20, L21, L22, L23, L24, L25, L27, L33, L39, L40, L45, L48, L57, L60, L72, L90, L97, L98, L99, L100, L121, L122, L242, L255, L256, L580, L600, L1000, L1584, L1000000, Ln1, iN_add, iN_and, iN_or, iN_nd, iN_shl, iN_shr, iN_cl, iN_in, iN_mul, ile_p]) (by omega) (s := (iN 0, h)) ⟨rfl, Fr.rfl, fun j hj => by omega⟩
  obtain ⟨⟨⟨⟩, h'⟩, r1, r2, r3⟩ := this
  exact ⟨h', r1, r2, r3⟩

end NP
