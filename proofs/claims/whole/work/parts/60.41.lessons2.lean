/-! lessons: the calls -/
def lbt : Option Nat → Nat → Bool
  | none, _ => true
  | some y, x => decide (x < y)
def bsl (Cn : Nat → Nat) : Nat → Option Nat × Nat → Option Nat × Nat := fun k x => if lbt x.1 (Cn k) = true then (some (Cn k), k) else x
def lC (q : LQ) (m k : Nat) : Nat := mst q m (eP m (q 0 0) k)
def lN9 : Option Nat → Int32
  | none => iN 1000000
  | some y => iN y
theorem lN9_le {α : Type} {o : Option Nat} {x : Nat} {A B : α} (hx : x ≤ 72) (ho : ∀ v, o = some v → v ≤ 72) : (if lN9 o ≤ iN x then A else B) = if lbt o x = true then B else A := by
  cases o with
  | none =>
    show (if iN 1000000 ≤ iN x then A else B) = B
    rw [ile_n (by omega) (by omega) (by omega)]
  | some y =>
    have hy := ho y rfl
    show (if iN y ≤ iN x then A else B) = if decide (x < y) = true then B else A
    by_cases d : x < y
    · rw [ile_n (by omega) (by omega) d, if_pos (decide_eq_true d)]
    · rw [ile_p (by omega) (by omega) (by omega), if_neg (by rw [decide_eq_true_eq]; exact d)]
theorem t195z {h : mH} {o : Option Nat} {x : Nat} (hx : x ≤ 72) (ho : ∀ v, o = some v → v ≤ 72) : f195 h (lN9 o) (iN x) = some (lN9 (if lbt o x = true then some x else o)) := by
  cases o with
  | none =>
    show f195 h (iN 1000000) (iN x) = some (iN x)
    rw [t195 (by omega) (by omega), Nat.min_eq_right (by omega)]
  | some y =>
    have hy := ho y rfl
    show f195 h (iN y) (iN x) = some (lN9 (if decide (x < y) = true then some x else some y))
    rw [t195 (by omega) (by omega)]
    by_cases d : x < y
    · rw [if_pos (decide_eq_true d), Nat.min_eq_right (by omega)]; rfl
    · rw [if_neg (by rw [decide_eq_true_eq]; exact d), Nat.min_eq_left (by omega)]; rfl
section LS
variable {h : mH} {la : Nat} {q : LQ} {m : Nat} {B : Nat → Option Nat × Nat}
theorem fr87 {h h' : mH} (x : Fr (fun b => Nat.beq b 87) h h') : FQ h h' := (x.mono (P' := pC) (fun b hb => by rw [Nat.eq_of_beq_eq_true hb]; decide)).qC
theorem fr86 {h h' : mH} (x : Fr (fun b => Nat.beq b 86) h h') : FQ h h' := (x.mono (P' := pC) (fun b hb => by rw [Nat.eq_of_beq_eq_true hb]; decide)).qC
theorem bsl_some {Cn : Nat → Nat} (Bs : ∀ k, B (k + 1) = bsl Cn k (B k)) {n : Nat} (hn : 1 ≤ n) : (B n).1.isSome = true := by
  obtain ⟨r, hr⟩ : ∃ r, n = r + 1 := ⟨n - 1, by omega⟩
  rw [hr, Bs]
  unfold bsl
  cases e : lbt (B r).1 (Cn r) with
  | true => rfl
  | false =>
    simp only [Bool.false_eq_true, if_false]
    generalize (B r).1 = o at e
    cases o with
    | none => cases e
    | some y => rfl
theorem t138 (w : Wd h) (H : LibS h la q) (W : QW q) (p : la + 7 ≤ 37) (h1 : 1 ≤ m) (hm : m ≤ 4) (B0 : B 0 = (none, 0)) (Bs : ∀ k, B (k + 1) = bsl (lC q m) k (B k)) : ∃ h', f138 h 85 la (iN m) = some (zN (B (eR m (q 0 0))).1, h') ∧ FQ h h' ∧ ∀ i, i < m → (B (eR m (q 0 0))).1.isSome = true → mI h' 86 i = iN (eP m (q 0 0) (B (eR m (q 0 0))).2 i) := by
  have hn := W.1.1
  obtain ⟨hR, p5, p0, pe⟩ := e_ok h1 hm hn
  obtain ⟨h0, a1, a2, a3⟩ := t4 (v := 0) (x := iN 0) (k87 w) (by omega) rfl
  have F0 := fr87 a2
  unfold f138
  simp only [gT, nbeq, Option.isSome_some, Option.getD_some, Bool.and_true, Bool.true_and, Bool.and_self, mX_some, bS, bN_if, bN_01, i1_01, i0_01, if_true, if_false, Bool.false_eq_true, false_and, and_false, and_true, true_and, and_self, Bool.or_false, Bool.false_or, Bool.or_true, Bool.true_or, Bool.false_and, Bool.and_false, decide_true, decide_false, L0, L1, L2, L3, L4, L5, L6, L7, L8, L9, L10, L11, L12, L13, L14, L15, L16, L17, L18, L19, L20, L21, L22, L23, L24, L25, L27, L33, L39, L40, L45, L48, L57, L60, L72, L90, L97, L98, L99, L100, L121, L122, L242, L255, L256, L580, L600, L1000, L1584, L1000000, Ln1, iN_add, iN_and, iN_or, iN_nd, iN_shl, iN_shr, iN_cl, iN_in, iN_mul, k85 w, r85_0 w, r85_1 w, a1]
  have := lp_inv (body := f138_16 85 la (iN m)) (P := fun k z => FQ h z.2.2.2 ∧ z.1 = zN (B k).1 ∧ (∀ v, (B k).1 = some v → v ≤ 72) ∧ (∀ i, i < m → (B k).1.isSome = true → mI z.2.2.2 86 i = iN (eP m (q 0 0) (B k).2 i)) ∧ ((z.2.1 = iN 1 ∧ z.2.2.1 = iN k ∧ k < eR m (q 0 0) ∧ ∀ i, i < m → mI z.2.2.2 87 i = iN (eP m (q 0 0) k i)) ∨ (z.2.1 = iN 0 ∧ k = eR m (q 0 0)))) (Q := fun r => r.1 = zN (B (eR m (q 0 0))).1 ∧ FQ h r.2 ∧ ∀ i, i < m → (B (eR m (q 0 0))).1.isSome = true → mI r.2 86 i = iN (eP m (q 0 0) (B (eR m (q 0 0))).2 i)) (eR m (q 0 0)) (fun k z hk hP => by
    obtain ⟨u1, u2, u4, u3⟩ := z
    obtain ⟨F, z0, y1, y2, ⟨z1, z2, z3, z4⟩ | ⟨z1, z2⟩⟩ := hP
    · have z0 : u1 = zN (B k).1 := z0
      have z1 : u2 = iN 1 := z1
      have z2 : u4 = iN k := z2
      have F : FQ h u3 := F
      have z4 : ∀ i, i < m → mI u3 87 i = iN (eP m (q 0 0) k i) := z4
      have y2 : ∀ i, i < m → (B k).1.isSome = true → mI u3 86 i = iN (eP m (q 0 0) (B k).2 i) := y2
      subst z0 z1 z2
      have w2 := w.q F
      have H2 : LibS u3 la q := H.st (fun i hi => F.lo (by omega))
      have p6 := p5 k z3
      have b1 : f139 u3 85 la (iN m) = some (iN (lC q m k)) := t139 w2 H2 W h1 hm p6 z4
      have b5 : lC q m k ≤ 72 := mst_b W p6
      have key : ∃ g, f138_16 85 la (iN m) (zN (B k).1, iN 1, iN k, u3) = f138_65 g 85 la (iN m) (zN (B (k + 1)).1) (iN k) ∧ FQ h g ∧ (∀ v, (B (k + 1)).1 = some v → v ≤ 72) ∧ (∀ i, i < m → (B (k + 1)).1.isSome = true → mI g 86 i = iN (eP m (q 0 0) (B (k + 1)).2 i)) ∧ ∀ i, i < m → mI g 87 i = iN (eP m (q 0 0) k i) := by
        rw [Bs k]
        unfold bsl
        cases eb : lbt (B k).1 (lC q m k) with
        | false =>
          refine ⟨u3, ?_, F, y1, y2, z4⟩
          cases eo : (B k).1 with
          | none => rw [eo] at eb; cases eb
          | some y =>
            rw [eo] at eb
            have hy := y1 y eo
            have d : ¬ lC q m k < y := of_decide_eq_false eb
            unfold f138_16
            simp (disch := omega) only [gT, nbeq, Option.isSome_some, Option.getD_some, Bool.and_true, Bool.true_and, Bool.and_self, mX_some, bS, bN_if, bN_01, i1_01, i0_01, if_true, if_false, Bool.false_eq_true, false_and, and_false, and_true, true_and, and_self, Bool.or_false, Bool.false_or, Bool.or_true, Bool.true_or, Bool.false_and, Bool.and_false, decide_true, decide_false, L0, L1, L2, L3, L4, L5, L6, L7, L8, L9, L10, L11, L12, L13, L14, L15, L16, L17, L18, L19, L20, L21, L22, L23, L24, L25, L27, L33, L39, L40, L45, L48, L57, L60, L72, L90, L97, L98, L99, L100, L121, L122, L242, L255, L256, L580, L600, L1000, L1584, L1000000, Ln1, iN_add, iN_and, iN_or, iN_nd, iN_shl, iN_shr, iN_cl, iN_in, iN_mul, k85 w2, r85_0 w2, r85_1 w2, ile_n, ieq_n, b1, zN_some, ij_n, eo]
            have hle : iN y ≤ iN (lC q m k) := by
              rw [Int32.le_iff_toInt_le, iN_toInt (by omega), iN_toInt (by omega)]
              omega
            exact if_pos hle
        | true =>
          refine ⟨mCp u3 87 0 86 0 4, ?_, F.tr (fr86 (Fr.rfl.cp (by decide))), fun v hv => ?_, fun i hi _ => ?_, fun i hi => ?_⟩
          · have e48 : f138_48 u3 85 la (iN m) (iN k) (iN (lC q m k)) = f138_65 (mCp u3 87 0 86 0 4) 85 la (iN m) (iN (lC q m k)) (iN k) := by
              unfold f138_48
              simp (disch := omega) only [gT, nbeq, Option.isSome_some, Option.getD_some, Bool.and_true, Bool.true_and, Bool.and_self, mX_some, bS, bN_if, bN_01, i1_01, i0_01, if_true, if_false, Bool.false_eq_true, false_and, and_false, and_true, true_and, and_self, Bool.or_false, Bool.false_or, Bool.or_true, Bool.true_or, Bool.false_and, Bool.and_false, decide_true, decide_false, L0, L1, L2, L3, L4, L5, L6, L7, L8, L9, L10, L11, L12, L13, L14, L15, L16, L17, L18, L19, L20, L21, L22, L23, L24, L25, L27, L33, L39, L40, L45, L48, L57, L60, L72, L90, L97, L98, L99, L100, L121, L122, L242, L255, L256, L580, L600, L1000, L1584, L1000000, Ln1, iN_add, iN_and, iN_or, iN_nd, iN_shl, iN_shr, iN_cl, iN_in, iN_mul, k85 w2, r85_0 w2, r85_1 w2, k86 w2, k87 w2, g0_, g4_, gb_]
            cases eo : (B k).1 with
            | none =>
              unfold f138_16
              simp (disch := omega) only [gT, nbeq, Option.isSome_some, Option.getD_some, Bool.and_true, Bool.true_and, Bool.and_self, mX_some, bS, bN_if, bN_01, i1_01, i0_01, if_true, if_false, Bool.false_eq_true, false_and, and_false, and_true, true_and, and_self, Bool.or_false, Bool.false_or, Bool.or_true, Bool.true_or, Bool.false_and, Bool.and_false, decide_true, decide_false, L0, L1, L2, L3, L4, L5, L6, L7, L8, L9, L10, L11, L12, L13, L14, L15, L16, L17, L18, L19, L20, L21, L22, L23, L24, L25, L27, L33, L39, L40, L45, L48, L57, L60, L72, L90, L97, L98, L99, L100, L121, L122, L242, L255, L256, L580, L600, L1000, L1584, L1000000, Ln1, iN_add, iN_and, iN_or, iN_nd, iN_shl, iN_shr, iN_cl, iN_in, iN_mul, k85 w2, r85_0 w2, r85_1 w2, ile_n, ieq_n, b1, zN_none, jj_p, e48]
              rfl
            | some y =>
              rw [eo] at eb
              have hy := y1 y eo
              have d : lC q m k < y := of_decide_eq_true eb
              unfold f138_16
              simp (disch := omega) only [gT, nbeq, Option.isSome_some, Option.getD_some, Bool.and_true, Bool.true_and, Bool.and_self, mX_some, bS, bN_if, bN_01, i1_01, i0_01, if_true, if_false, Bool.false_eq_true, false_and, and_false, and_true, true_and, and_self, Bool.or_false, Bool.false_or, Bool.or_true, Bool.true_or, Bool.false_and, Bool.and_false, decide_true, decide_false, L0, L1, L2, L3, L4, L5, L6, L7, L8, L9, L10, L11, L12, L13, L14, L15, L16, L17, L18, L19, L20, L21, L22, L23, L24, L25, L27, L33, L39, L40, L45, L48, L57, L60, L72, L90, L97, L98, L99, L100, L121, L122, L242, L255, L256, L580, L600, L1000, L1584, L1000000, Ln1, iN_add, iN_and, iN_or, iN_nd, iN_shl, iN_shr, iN_cl, iN_in, iN_mul, k85 w2, r85_0 w2, r85_1 w2, ile_n, ieq_n, b1, zN_some, ij_n, e48]
          · have hv : some (lC q m k) = some v := hv
            have : lC q m k = v := Option.some.inj hv
            omega
          · rw [mI_Cp, if_pos (by omega)]
            rw [show 0 + (i - 0) = i by omega]
            exact z4 i hi
          · rw [mI_Cp, if_neg (by omega)]
            exact z4 i hi
      obtain ⟨g, k1, k2, k3, k4, k5⟩ := key
      have w4 := w.q k2
      have H4 : LibS g la q := H.st (fun i hi => k2.lo (by omega))
      left
      rw [k1]
      unfold f138_65
      rcases t140 (e := q 0 0) w4 h1 hm hn (fun i hi => ⟨by have := p6 i hi; omega, k5 i hi⟩) with ⟨c0, c1⟩ | ⟨a, h2, c0, c1, c2, _, c3⟩
      · have ek : ¬ k + 1 < eR m (q 0 0) := fun hlt => by
          obtain ⟨a, ea, _⟩ := e_s h1 hm hn hlt
          rw [ea] at c0; cases c0
        refine ⟨(zN (B (k + 1)).1, iN 0, iN (k + 1), g), ?_, k2, rfl, k3, k4, Or.inr ⟨rfl, by omega⟩⟩
        simp (disch := omega) only [gT, nbeq, Option.isSome_some, Option.getD_some, Bool.and_true, Bool.true_and, Bool.and_self, mX_some, bS, bN_if, bN_01, i1_01, i0_01, if_true, if_false, Bool.false_eq_true, false_and, and_false, and_true, true_and, and_self, Bool.or_false, Bool.false_or, Bool.or_true, Bool.true_or, Bool.false_and, Bool.and_false, decide_true, decide_false, L0, L1, L2, L3, L4, L5, L6, L7, L8, L9, L10, L11, L12, L13, L14, L15, L16, L17, L18, L19, L20, L21, L22, L23, L24, L25, L27, L33, L39, L40, L45, L48, L57, L60, L72, L90, L97, L98, L99, L100, L121, L122, L242, L255, L256, L580, L600, L1000, L1584, L1000000, Ln1, iN_add, iN_and, iN_or, iN_nd, iN_shl, iN_shr, iN_cl, iN_in, iN_mul, k85 w4, r85_0 w4, r85_1 w4, H4.k, H4.n, c1, bN_f]
      · have ek : k + 1 < eR m (q 0 0) := by
          refine Decidable.byContradiction (fun hn2 => ?_)
          rw [show eR m (q 0 0) - 1 = k by omega, c0] at pe
          cases pe
        obtain ⟨a', ea, en⟩ := e_s h1 hm hn ek
        have : a = a' := Option.some.inj (c0.symm.trans ea)
        subst this
        refine ⟨(zN (B (k + 1)).1, iN 1, iN (k + 1), h2), ?_, k2.tr (fr87 c2), rfl, k3, fun i hi hs => (c2.i (by decide) i).trans (k4 i hi hs), Or.inl ⟨rfl, rfl, ek, fun i hi => (c3 i hi).trans (by rw [en i hi])⟩⟩
        simp (disch := omega) only [gT, nbeq, Option.isSome_some, Option.getD_some, Bool.and_true, Bool.true_and, Bool.and_self, mX_some, bS, bN_if, bN_01, i1_01, i0_01, if_true, if_false, Bool.false_eq_true, false_and, and_false, and_true, true_and, and_self, Bool.or_false, Bool.false_or, Bool.or_true, Bool.true_or, Bool.false_and, Bool.and_false, decide_true, decide_false, L0, L1, L2, L3, L4, L5, L6, L7, L8, L9, L10, L11, L12, L13, L14, L15, L16, L17, L18, L19, L20, L21, L22, L23, L24, L25, L27, L33, L39, L40, L45, L48, L57, L60, L72, L90, L97, L98, L99, L100, L121, L122, L242, L255, L256, L580, L600, L1000, L1584, L1000000, Ln1, iN_add, iN_and, iN_or, iN_nd, iN_shl, iN_shr, iN_cl, iN_in, iN_mul, k85 w4, r85_0 w4, r85_1 w4, H4.k, H4.n, c1, bN_t]
    · omega) (fun z hP => by
    obtain ⟨u1, u2, u4, u3⟩ := z
    obtain ⟨F, z0, y1, y2, ⟨z1, z2, z3, z4⟩ | ⟨z1, z2⟩⟩ := hP
    · omega
    · have z0 : u1 = zN (B (eR m (q 0 0))).1 := z0
      have z1 : u2 = iN 0 := z1
      subst z0 z1
      refine ⟨(zN (B (eR m (q 0 0))).1, u3), ?_, rfl, F, y2⟩
      unfold f138_16 f138_82
      simp only [gT, nbeq, Option.isSome_some, Option.getD_some, Bool.and_true, Bool.true_and, Bool.and_self, mX_some, bS, bN_if, bN_01, i1_01, i0_01, if_true, if_false, Bool.false_eq_true, false_and, and_false, and_true, true_and, and_self, Bool.or_false, Bool.false_or, Bool.or_true, Bool.true_or, Bool.false_and, Bool.and_false, decide_true, decide_false, L0, L1, L2, L3, L4, L5, L6, L7, L8, L9, L10, L11, L12, L13, L14, L15, L16, L17, L18, L19, L20, L21, L22, L23, L24, L25, L27, L33, L39, L40, L45, L48, L57, L60, L72, L90, L97, L98, L99, L100, L121, L122, L242, L255, L256, L580, L600, L1000, L1584, L1000000, Ln1, iN_add, iN_and, iN_or, iN_nd, iN_shl, iN_shr, iN_cl, iN_in, iN_mul]
      split <;> rfl) (by omega) (s := (jN, iN 1, iN 0, h0)) ⟨F0, (by rw [B0]; rfl), (fun v hv => by rw [B0] at hv; cases hv), (fun i hi hs => by rw [B0] at hs; cases hs), Or.inl ⟨rfl, rfl, by omega, fun i hi => (a3 i (by omega)).trans (by rw [p0 i hi])⟩⟩
  obtain ⟨⟨r, h'⟩, r1, r2, r3, r4⟩ := this
  have r2' : r = zN (B (eR m (q 0 0))).1 := r2
  rw [r2'] at r1
  exact ⟨h', r1, r3, r4⟩
end LS
