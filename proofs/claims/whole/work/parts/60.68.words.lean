/-! words -/
def wdL (k : Nat) : List Nat := ([[99, 104, 97, 112, 116, 101, 114], [108, 101, 97, 110, 115], [108, 105, 107, 101, 115], [108, 97, 109, 112], [112, 101, 114, 115, 111, 110], [104, 101, 97, 114, 115], [114, 101, 97, 100], [115, 107, 105, 112], [112, 105, 101], [116, 101, 108, 108], [99, 111, 108, 100], [100, 97, 121], [107, 110, 111, 119, 115], [110, 111, 116]] : List (List Nat)).getD k []
theorem mStr_w : ∀ k, k < 14 → (mStr.getD k []).length = (wdL k).length ∧ ∀ i, i < (wdL k).length → (mStr.getD k []).getD i (iN 0) = iN ((wdL k).getD i 0) := by decide +kernel
theorem wdL_l : ∀ k, k < 14 → 1 ≤ (wdL k).length ∧ (wdL k).length ≤ 7 ∧ ∀ i, i < (wdL k).length → 97 ≤ (wdL k).getD i 0 ∧ (wdL k).getD i 0 ≤ 122 := by decide +kernel
theorem wdL_ne : ∀ j, j < 14 → ∀ k, k < 14 → (wdL j).length = (wdL k).length → (∀ i, i < (wdL j).length → (wdL j).getD i 0 = (wdL k).getD i 0) → j = k := by decide +kernel
def wEq (b : Nat → Nat) (s n : Nat) (l : List Nat) : Bool := decide (n = l.length ∧ ∀ i, i < l.length → b (s + i) = l.getD i 0)
/-- is the token at p the word k -/
def wIs (b : Nat → Nat) (len p k : Nat) : Bool := decide (tkK b len p = 1) && wEq b (tkS b len p) (tkE b len p - tkS b len p) (wdL k)
theorem wIs_t {b : Nat → Nat} {len p k : Nat} (h : wIs b len p k = true) : tkK b len p = 1 ∧ tkE b len p - tkS b len p = (wdL k).length ∧ ∀ i, i < (wdL k).length → b (tkS b len p + i) = (wdL k).getD i 0 := by
  unfold wIs wEq at h
  rw [Bool.and_eq_true, decide_eq_true_eq, decide_eq_true_eq] at h
  exact ⟨h.1, h.2.1, h.2.2⟩
theorem wIs_1 {b : Nat → Nat} {len p j k : Nat} (hj : j < 14) (hk : k < 14) (h1 : wIs b len p j = true) (h2 : wIs b len p k = true) : j = k := by
  obtain ⟨a1, a2, a3⟩ := wIs_t h1
  obtain ⟨c1, c2, c3⟩ := wIs_t h2
  exact wdL_ne j hj k hk (by omega) (fun i hi => by rw [← a3 i hi, c3 i (by omega)])
theorem ofN (n : Nat) : Int32.ofNat n = iN n := by unfold iN; rfl
section W1
variable {h : mH} {b : Nat → Nat} {len p : Nat}
theorem t29 {k l : Nat} (hk : k < 14) (hl : l = 1000000 + k) (hp : p ≤ len) (T : TpC h b len) (S : SC h b len p) : f29 h 52 l = some (bN (wIs b len p k)) := by
  subst hl
  obtain ⟨w, t2, t3, t4, t5⟩ := T
  obtain ⟨s2, s4, s3, s5⟩ := S
  obtain ⟨g1, g2, g3⟩ := tkE_ok (b := b) hp
  obtain ⟨m1, m2⟩ := mStr_w k hk
  obtain ⟨l1, l2, l3⟩ := wdL_l k hk
  have hkk : tkK b len p ≤ 4 := by
    unfold tkK
    repeat' split
    all_goals omega
  have e0 : 1000000 + k - 1000000 = k := by omega
  have e1 : Nat.ble 1000000 (1000000 + k) = true := nble (by omega)
  have e2 : Nat.blt (1000000 + k) 1000014 = true := Nat.ble_eq_true_of_le (by omega)
  unfold f29 f29_24
  simp (disch := omega) only [gT, nbeq, Option.isSome_some, Option.getD_some, Bool.and_true, Bool.true_and, Bool.and_self, mX_some, bS, bN_if, bN_01, i1_01, i0_01, if_true, if_false, Bool.false_eq_true, false_and, and_false, and_true, true_and, and_self, Bool.or_false, Bool.false_or, Bool.or_true, Bool.true_or, Bool.false_and, Bool.and_false, decide_true, decide_false, L0, L1, L2, L3, L4, L5, L6, L7, L8, L9, L10, L11, L12, L13, L14, L15, L16, L17, L18, L19, L20, L21, L22, L23, L24, L25, L27, L33, L39, L40, L45, L48, L57, L60, L72, L90, L97, L98, L99, L100, L121, L122, L242, L255, L256, L580, L600, L1000, L1584, L1000000, Ln1, iN_add, iN_and, iN_or, iN_nd, iN_shl, iN_shr, iN_cl, iN_in, iN_mul, k52 w, s3, ieq_d]
  by_cases c1 : tkK b len p = 1
  · rw [if_pos c1]
    simp (disch := omega) only [gT, nbeq, Option.isSome_some, Option.getD_some, Bool.and_true, Bool.true_and, Bool.and_self, mX_some, bS, bN_if, bN_01, i1_01, i0_01, if_true, if_false, Bool.false_eq_true, false_and, and_false, and_true, true_and, and_self, Bool.or_false, Bool.false_or, Bool.or_true, Bool.true_or, Bool.false_and, Bool.and_false, decide_true, decide_false, L0, L1, L2, L3, L4, L5, L6, L7, L8, L9, L10, L11, L12, L13, L14, L15, L16, L17, L18, L19, L20, L21, L22, L23, L24, L25, L27, L33, L39, L40, L45, L48, L57, L60, L72, L90, L97, L98, L99, L100, L121, L122, L242, L255, L256, L580, L600, L1000, L1584, L1000000, Ln1, iN_add, iN_and, iN_or, iN_nd, iN_shl, iN_shr, iN_cl, iN_in, iN_mul, k52 w, s2, s4, iN_sub, e0, e1, e2, ofN, m1, ieq_d]
    by_cases c2 : tkE b len p - tkS b len p = (wdL k).length
    · rw [if_pos c2]
      have := lp_inv (body := f29_28 h 52 (1000000 + k)) (P := fun i z => z = iN i ∧ ∀ j, j < i → b (tkS b len p + j) = (wdL k).getD j 0) (Q := fun r => r = bN (wIs b len p k)) (wdL k).length (fun i z hi hP => by
        obtain ⟨rfl, ho⟩ := hP
        obtain ⟨b1, b2⟩ := t5 (tkS b len p + i) (by omega)
        have m3 := m2 i hi
        have l4 := l3 i hi
        by_cases c3 : b (tkS b len p + i) = (wdL k).getD i 0
        · refine Or.inl ⟨iN (i + 1), ?_, rfl, fun j hj => ?_⟩
          · unfold f29_28
            simp (disch := omega) only [gT, nbeq, Option.isSome_some, Option.getD_some, Bool.and_true, Bool.true_and, Bool.and_self, mX_some, bS, bN_if, bN_01, i1_01, i0_01, if_true, if_false, Bool.false_eq_true, false_and, and_false, and_true, true_and, and_self, Bool.or_false, Bool.false_or, Bool.or_true, Bool.true_or, Bool.false_and, Bool.and_false, decide_true, decide_false, L0, L1, L2, L3, L4, L5, L6, L7, L8, L9, L10, L11, L12, L13, L14, L15, L16, L17, L18, L19, L20, L21, L22, L23, L24, L25, L27, L33, L39, L40, L45, L48, L57, L60, L72, L90, L97, L98, L99, L100, L121, L122, L242, L255, L256, L580, L600, L1000, L1584, L1000000, Ln1, iN_add, iN_and, iN_or, iN_nd, iN_shl, iN_shr, iN_cl, iN_in, iN_mul, e0, e1, e2, ofN, m1, ile_n, k52 w, t2, k2 w, s4, iN_in, iN_cl, b2, m3, ieq_p]
          · by_cases ej : j = i
            · rw [ej]; exact c3
            · exact ho j (by omega)
        · refine Or.inr ⟨iN 0, ?_, ?_⟩
          · unfold f29_28
            simp (disch := omega) only [gT, nbeq, Option.isSome_some, Option.getD_some, Bool.and_true, Bool.true_and, Bool.and_self, mX_some, bS, bN_if, bN_01, i1_01, i0_01, if_true, if_false, Bool.false_eq_true, false_and, and_false, and_true, true_and, and_self, Bool.or_false, Bool.false_or, Bool.or_true, Bool.true_or, Bool.false_and, Bool.and_false, decide_true, decide_false, L0, L1, L2, L3, L4, L5, L6, L7, L8, L9, L10, L11, L12, L13, L14, L15, L16, L17, L18, L19, L20, L21, L22, L23, L24, L25, L27, L33, L39, L40, L45, L48, L57, L60, L72, L90, L97, L98, L99, L100, L121, L122, L242, L255, L256, L580, L600, L1000, L1584, L1000000, Ln1, iN_add, iN_and, iN_or, iN_nd, iN_shl, iN_shr, iN_cl, iN_in, iN_mul, e0, e1, e2, ofN, m1, ile_n, k52 w, t2, k2 w, s4, iN_in, iN_cl, b2, m3, ieq_n]
          · have : wIs b len p k = false := by
              cases e : wIs b len p k with
              | false => rfl
              | true => exact absurd ((wIs_t e).2.2 i hi) c3
            rw [this]; rfl) (fun z hP => by
        obtain ⟨rfl, ho⟩ := hP
        refine ⟨iN 1, ?_, ?_⟩
        · unfold f29_28
          simp (disch := omega) only [gT, nbeq, Option.isSome_some, Option.getD_some, Bool.and_true, Bool.true_and, Bool.and_self, mX_some, bS, bN_if, bN_01, i1_01, i0_01, if_true, if_false, Bool.false_eq_true, false_and, and_false, and_true, true_and, and_self, Bool.or_false, Bool.false_or, Bool.or_true, Bool.true_or, Bool.false_and, Bool.and_false, decide_true, decide_false, L0, L1, L2, L3, L4, L5, L6, L7, L8, L9, L10, L11, L12, L13, L14, L15, L16, L17, L18, L19, L20, L21, L22, L23, L24, L25, L27, L33, L39, L40, L45, L48, L57, L60, L72, L90, L97, L98, L99, L100, L121, L122, L242, L255, L256, L580, L600, L1000, L1584, L1000000, Ln1, iN_add, iN_and, iN_or, iN_nd, iN_shl, iN_shr, iN_cl, iN_in, iN_mul, e0, e1, e2, ofN, m1, ile_p]
        · have : wIs b len p k = true := by
            unfold wIs wEq
            rw [decide_eq_true c1, decide_eq_true ⟨c2, ho⟩]; rfl
          rw [this]; rfl) (by omega) (s := iN 0) ⟨rfl, fun j hj => by omega⟩
      obtain ⟨r, r1, r2⟩ := this
      rw [r1, r2]
    · rw [if_neg c2]
      have : wIs b len p k = false := by
        cases e : wIs b len p k with
        | false => rfl
        | true => exact absurd (wIs_t e).2.1 c2
      rw [this]; rfl
  · rw [if_neg c1]
    have : wIs b len p k = false := by
      cases e : wIs b len p k with
      | false => rfl
      | true => exact absurd (wIs_t e).1 c1
    rw [this]; rfl
/-- which word of a sort the token at p is -/
def wlo (sort : Nat) : Nat := if sort = 0 then 0 else if sort = 1 then 6 else 12
def wcn (sort : Nat) : Nat := if sort = 2 then 2 else 6
def wF (b : Nat → Nat) (len p sort : Nat) : Option Nat := fz (wIs b len p) (wcn sort) (wlo sort)
def wcd (k : Nat) : Nat := if k < 6 then 6 + k else if k < 12 then k - 6 else k
theorem fz_6 (Z : Nat → Bool) (k : Nat) : fz Z 6 k = if Z k = true then some k else if Z (k + 1) = true then some (k + 1) else if Z (k + 2) = true then some (k + 2) else if Z (k + 3) = true then some (k + 3) else if Z (k + 4) = true then some (k + 4) else if Z (k + 5) = true then some (k + 5) else none := rfl
theorem fz_2 (Z : Nat → Bool) (k : Nat) : fz Z 2 k = if Z k = true then some k else if Z (k + 1) = true then some (k + 1) else none := rfl
theorem t28 (hp : p ≤ len) (T : TpC h b len) (S : SC h b len p) : f28 h 37 = some (zN ((wF b len p 0).map wcd)) := by
  have w := T.1
  unfold f28 f28_93 wF
  rw [show wcn 0 = 6 from rfl, show wlo 0 = 0 from rfl, fz_6]
  simp only [gT, nbeq, Option.isSome_some, Option.getD_some, Bool.and_true, Bool.true_and, Bool.and_self, mX_some, bS, bN_if, bN_01, i1_01, i0_01, if_true, if_false, Bool.false_eq_true, false_and, and_false, and_true, true_and, and_self, Bool.or_false, Bool.false_or, Bool.or_true, Bool.true_or, Bool.false_and, Bool.and_false, decide_true, decide_false, L0, L1, L2, L3, L4, L5, L6, L7, L8, L9, L10, L11, L12, L13, L14, L15, L16, L17, L18, L19, L20, L21, L22, L23, L24, L25, L27, L33, L39, L40, L45, L48, L57, L60, L72, L90, L97, L98, L99, L100, L121, L122, L242, L255, L256, L580, L600, L1000, L1584, L1000000, Ln1, iN_add, iN_and, iN_or, iN_nd, iN_shl, iN_shr, iN_cl, iN_in, iN_mul, k37 w, r37_0 w, r37_1 w, r37_2 w, r37_5 w, r37_6 w, r37_7 w, k52 w, t29 (k := 0) (by decide) rfl hp T S, t29 (k := 1) (by decide) rfl hp T S, t29 (k := 2) (by decide) rfl hp T S, t29 (k := 3) (by decide) rfl hp T S, t29 (k := 4) (by decide) rfl hp T S, t29 (k := 5) (by decide) rfl hp T S]
  cases wIs b len p 0 with
  | true => rfl
  | false =>
    cases wIs b len p 1 with
    | true => rfl
    | false =>
      cases wIs b len p 2 with
      | true => rfl
      | false =>
        cases wIs b len p 3 with
        | true => rfl
        | false =>
          cases wIs b len p 4 with
          | true => rfl
          | false =>
            cases wIs b len p 5 with
            | true => rfl
            | false => rfl
theorem t30 (hp : p ≤ len) (T : TpC h b len) (S : SC h b len p) : f30 h 37 = some (zN ((wF b len p 1).map wcd)) := by
  have w := T.1
  unfold f30 f30_87 wF
  rw [show wcn 1 = 6 from rfl, show wlo 1 = 6 from rfl, fz_6]
  simp only [gT, nbeq, Option.isSome_some, Option.getD_some, Bool.and_true, Bool.true_and, Bool.and_self, mX_some, bS, bN_if, bN_01, i1_01, i0_01, if_true, if_false, Bool.false_eq_true, false_and, and_false, and_true, true_and, and_self, Bool.or_false, Bool.false_or, Bool.or_true, Bool.true_or, Bool.false_and, Bool.and_false, decide_true, decide_false, L0, L1, L2, L3, L4, L5, L6, L7, L8, L9, L10, L11, L12, L13, L14, L15, L16, L17, L18, L19, L20, L21, L22, L23, L24, L25, L27, L33, L39, L40, L45, L48, L57, L60, L72, L90, L97, L98, L99, L100, L121, L122, L242, L255, L256, L580, L600, L1000, L1584, L1000000, Ln1, iN_add, iN_and, iN_or, iN_nd, iN_shl, iN_shr, iN_cl, iN_in, iN_mul, k37 w, r37_0 w, r37_1 w, r37_2 w, r37_5 w, r37_6 w, r37_7 w, k52 w, t29 (k := 6) (by decide) rfl hp T S, t29 (k := 7) (by decide) rfl hp T S, t29 (k := 8) (by decide) rfl hp T S, t29 (k := 9) (by decide) rfl hp T S, t29 (k := 10) (by decide) rfl hp T S, t29 (k := 11) (by decide) rfl hp T S]
  cases wIs b len p 6 with
  | true => rfl
  | false =>
    cases wIs b len p 7 with
    | true => rfl
    | false =>
      cases wIs b len p 8 with
      | true => rfl
      | false =>
        cases wIs b len p 9 with
        | true => rfl
        | false =>
          cases wIs b len p 10 with
          | true => rfl
          | false =>
            cases wIs b len p 11 with
            | true => rfl
            | false => rfl
theorem t27 {sort : Nat} (hs : sort < 3) (hp : p ≤ len) (T : TpC h b len) (S : SC h b len p) : f27 h 37 (iN sort) = some (zN ((wF b len p sort).map wcd)) := by
  have w := T.1
  have : sort = 0 ∨ sort = 1 ∨ sort = 2 := by omega
  unfold f27 f27_73
  rcases this with rfl | rfl | rfl
  · simp (disch := omega) only [gT, nbeq, Option.isSome_some, Option.getD_some, Bool.and_true, Bool.true_and, Bool.and_self, mX_some, bS, bN_if, bN_01, i1_01, i0_01, if_true, if_false, Bool.false_eq_true, false_and, and_false, and_true, true_and, and_self, Bool.or_false, Bool.false_or, Bool.or_true, Bool.true_or, Bool.false_and, Bool.and_false, decide_true, decide_false, L0, L1, L2, L3, L4, L5, L6, L7, L8, L9, L10, L11, L12, L13, L14, L15, L16, L17, L18, L19, L20, L21, L22, L23, L24, L25, L27, L33, L39, L40, L45, L48, L57, L60, L72, L90, L97, L98, L99, L100, L121, L122, L242, L255, L256, L580, L600, L1000, L1584, L1000000, Ln1, iN_add, iN_and, iN_or, iN_nd, iN_shl, iN_shr, iN_cl, iN_in, iN_mul, k37 w, r37_0 w, r37_1 w, r37_2 w, r37_5 w, r37_6 w, r37_7 w, k52 w, eq_self, t28 hp T S]
  · simp (disch := omega) only [gT, nbeq, Option.isSome_some, Option.getD_some, Bool.and_true, Bool.true_and, Bool.and_self, mX_some, bS, bN_if, bN_01, i1_01, i0_01, if_true, if_false, Bool.false_eq_true, false_and, and_false, and_true, true_and, and_self, Bool.or_false, Bool.false_or, Bool.or_true, Bool.true_or, Bool.false_and, Bool.and_false, decide_true, decide_false, L0, L1, L2, L3, L4, L5, L6, L7, L8, L9, L10, L11, L12, L13, L14, L15, L16, L17, L18, L19, L20, L21, L22, L23, L24, L25, L27, L33, L39, L40, L45, L48, L57, L60, L72, L90, L97, L98, L99, L100, L121, L122, L242, L255, L256, L580, L600, L1000, L1584, L1000000, Ln1, iN_add, iN_and, iN_or, iN_nd, iN_shl, iN_shr, iN_cl, iN_in, iN_mul, k37 w, r37_0 w, r37_1 w, r37_2 w, r37_5 w, r37_6 w, r37_7 w, k52 w, eq_self, ineF, t30 hp T S]
  · unfold wF
    rw [show wcn 2 = 2 from rfl, show wlo 2 = 12 from rfl, fz_2]
    simp (disch := omega) only [gT, nbeq, Option.isSome_some, Option.getD_some, Bool.and_true, Bool.true_and, Bool.and_self, mX_some, bS, bN_if, bN_01, i1_01, i0_01, if_true, if_false, Bool.false_eq_true, false_and, and_false, and_true, true_and, and_self, Bool.or_false, Bool.false_or, Bool.or_true, Bool.true_or, Bool.false_and, Bool.and_false, decide_true, decide_false, L0, L1, L2, L3, L4, L5, L6, L7, L8, L9, L10, L11, L12, L13, L14, L15, L16, L17, L18, L19, L20, L21, L22, L23, L24, L25, L27, L33, L39, L40, L45, L48, L57, L60, L72, L90, L97, L98, L99, L100, L121, L122, L242, L255, L256, L580, L600, L1000, L1584, L1000000, Ln1, iN_add, iN_and, iN_or, iN_nd, iN_shl, iN_shr, iN_cl, iN_in, iN_mul, k37 w, r37_0 w, r37_1 w, r37_2 w, r37_5 w, r37_6 w, r37_7 w, k52 w, eq_self, ineF, t29 (k := 12) (by decide) rfl hp T S, t29 (k := 13) (by decide) rfl hp T S]
    cases wIs b len p 12 with
    | true => rfl
    | false =>
      cases wIs b len p 13 with
      | true => rfl
      | false => rfl
end W1
/-! the reference's words -/
theorem pkF_lt {c : Nat → Nat} : ∀ n, (∀ i, i < n → c i ≤ 122) → pkF c n * 2 < 256 ^ n := by
  intro n
  induction n with
  | zero => intro _; show 0 * 2 < 256 ^ 0; decide
  | succ n ih =>
    intro h
    have h1 := ih (fun i hi => h i (by omega))
    have h2 := h n (by omega)
    show (pkF c n * 256 + c n) * 2 < 256 ^ n * 256
    generalize 256 ^ n = M at h1
    omega
theorem pk_inj {c d : Nat → Nat} : ∀ n m, (∀ i, i < n → 1 ≤ c i ∧ c i < 256) → (∀ i, i < m → 1 ≤ d i ∧ d i < 256) → pkF c n = pkF d m → n = m ∧ ∀ i, i < n → c i = d i := by
  intro n
  induction n with
  | zero =>
    intro m _ hd e
    cases m with
    | zero => exact ⟨rfl, fun i hi => by omega⟩
    | succ m =>
      have := hd m (by omega)
      have e : 0 = pkF d m * 256 + d m := e
      omega
  | succ n ih =>
    intro m hc hd e
    cases m with
    | zero =>
      have := hc n (by omega)
      have e : pkF c n * 256 + c n = 0 := e
      omega
    | succ m =>
      have h1 := hc n (by omega)
      have h2 := hd m (by omega)
      have e : pkF c n * 256 + c n = pkF d m * 256 + d m := e
      obtain ⟨e1, e2⟩ := ih m (fun i hi => hc i (by omega)) (fun i hi => hd i (by omega)) (by omega)
      subst e1
      refine ⟨rfl, fun i hi => ?_⟩
      by_cases ei : i = n
      · subst ei; omega
      · exact e2 i (by omega)
def pkL (k : Nat) : Nat := pkF (fun i => (wdL k).getD i 0) (wdL k).length
theorem pkL_n : pkL 0 = 27980790402147698 ∧ pkL 1 = 465557352051 ∧ pkL 2 = 465625113971 ∧ pkL 3 = 1818324336 ∧ pkL 4 = 123581014175598 ∧ pkL 5 = 448377483891 ∧ pkL 6 = 1919246692 ∧ pkL 7 = 1936419184 ∧ pkL 8 = 7367013 ∧ pkL 9 = 1952803948 ∧ pkL 10 = 1668246628 ∧ pkL 11 = 6578553 ∧ pkL 12 = 461414299507 ∧ pkL 13 = 7237492 := by decide +kernel
theorem pkL_lt : ∀ k, k < 14 → 0 < pkL k ∧ pkL k < 9223372036854775808 := by decide +kernel
/-- the number of the word at p, 0 if it is none -/
def wv (b : Nat → Nat) (len p : Nat) : Nat := if tkK b len p = 1 then (if tkE b len p - tkS b len p ≤ 8 then pkF (fun i => b (tkS b len p + i)) (tkE b len p - tkS b len p) else 0) else 0
theorem tk1_l {b : Nat → Nat} {len p : Nat} (hp : p ≤ len) (h : tkK b len p = 1) : ∀ i, tkS b len p ≤ i → i < tkE b len p → isLt (b i) = true := by
  obtain ⟨h1, h2, _, _⟩ := tkS_ok (b := b) hp
  unfold tkK at h
  unfold tkE
  by_cases e : len ≤ tkS b len p
  · rw [if_pos e] at h; cases h
  · rw [if_neg e] at h ⊢
    by_cases e2 : isLt (b (tkS b len p)) = true
    · rw [if_pos e2]
      exact (tkW_ok (b := b) (len := len) h2).2.2.1
    · rw [if_neg e2] at h
      repeat' split at h
      all_goals omega
theorem wv_iff {b : Nat → Nat} {len p k : Nat} (hp : p ≤ len) (hk : k < 14) : wv b len p = pkL k ↔ wIs b len p k = true := by
  obtain ⟨l1, l2, l3⟩ := wdL_l k hk
  constructor
  · intro h
    have hpos := (pkL_lt k hk).1
    unfold wv at h
    by_cases c1 : tkK b len p = 1
    · rw [if_pos c1] at h
      by_cases c2 : tkE b len p - tkS b len p ≤ 8
      · rw [if_pos c2] at h
        have hl := tk1_l hp c1
        obtain ⟨e1, e2⟩ := pk_inj _ _ (fun i hi => by have := isLt_t.1 (hl (tkS b len p + i) (by omega) (by omega)); show 1 ≤ b (tkS b len p + i) ∧ b (tkS b len p + i) < 256; omega) (fun i hi => by have := l3 i hi; show 1 ≤ (wdL k).getD i 0 ∧ (wdL k).getD i 0 < 256; omega) h
        unfold wIs wEq
        rw [decide_eq_true c1, decide_eq_true ⟨e1, fun i hi => e2 i (by omega)⟩]; rfl
      · rw [if_neg c2] at h; omega
    · rw [if_neg c1] at h; omega
  · intro h
    obtain ⟨a1, a2, a3⟩ := wIs_t h
    unfold wv pkL
    rw [if_pos a1, if_pos (by omega), a2]
    exact pk_congr _ (fun i hi => a3 i hi)
theorem wv_lt {b : Nat → Nat} {len p : Nat} (hp : p ≤ len) : wv b len p < 9223372036854775808 := by
  unfold wv
  by_cases c1 : tkK b len p = 1
  · rw [if_pos c1]
    by_cases c2 : tkE b len p - tkS b len p ≤ 8
    · rw [if_pos c2]
      have hl := tk1_l hp c1
      have h1 := pkF_lt (c := fun i => b (tkS b len p + i)) (tkE b len p - tkS b len p) (fun i hi => (isLt_t.1 (hl (tkS b len p + i) (by omega) (by omega))).2)
      have h2 : 256 ^ (tkE b len p - tkS b len p) ≤ 256 ^ 8 := Nat.pow_le_pow_right (by omega) c2
      have h3 : 256 ^ 8 = 18446744073709551616 := by decide
      omega
    · rw [if_neg c2]; omega
  · rw [if_neg c1]; omega
theorem wcmp {b : Nat → Nat} {len p k : Nat} {α : Type} {x y : α} (hp : p ≤ len) (hk : k < 14) : (if lg_cmp (gN (wv b len p)) (gN (pkL k)) = iN 0 then x else y) = if wIs b len p k = true then x else y := by
  have e : (lg_cmp (gN (wv b len p)) (gN (pkL k)) = iN 0) ↔ wIs b len p k = true := by
    rw [← wv_iff hp hk, ← gN_eq (wv_lt hp) (pkL_lt k hk).2]
    exact lg_cmp_eq _ _
  by_cases c : wIs b len p k = true
  · rw [if_pos c, if_pos (e.2 c)]
  · rw [if_neg c, if_neg (fun h => c (e.1 h))]
