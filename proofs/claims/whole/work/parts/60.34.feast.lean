/-! feast: the PIES that make him read most -/
def bet : Option Nat → Nat → Bool
  | none, _ => true
  | some y, x => decide (y < x)
theorem bet_le {α : Type} {o : Option Nat} {x : Nat} {A B : α} (hx : x < 2147483648) (ho : ∀ v, o = some v → v < 2147483648) : (if iN x ≤ zN o then A else B) = if bet o x = true then B else A := by
  cases o with
  | none => rw [zN_none, ijle hx]; rfl
  | some y =>
    have hy := ho y rfl
    rw [zN_some]
    unfold bet
    by_cases d : y < x
    · rw [ile_n hx hy d, if_pos (decide_eq_true d)]
    · rw [ile_p hx hy (by omega), if_neg (by rw [decide_eq_true_eq]; exact d)]
def bst (Cn : Nat → Nat) : Nat → Option Nat × Nat → Option Nat × Nat := fun k x => if bet x.1 (Cn k) = true then (some (Cn k), k) else x
def fC (Df : (Nat → Nat) → Nat → Nat → AZ) (d m k : Nat) : Nat := (Df (pP m k) m d).2.1
section FT
variable {h : mH} {la : Nat} {q : LQ} {Df : (Nat → Nat) → Nat → Nat → AZ} {d m : Nat} {B : Nat → Option Nat × Nat}
theorem fr69 {h h' : mH} (x : Fr (fun b => Nat.beq b 69) h h') : FQ h h' := (x.mono (P' := pC) (fun b hb => by rw [Nat.eq_of_beq_eq_true hb]; decide)).qC
theorem fr209 {h h' : mH} (x : Fr (fun b => Nat.beq b 209) h h') : FQ h h' := (x.mono (P' := pM) (fun b hb => by rw [Nat.eq_of_beq_eq_true hb]; decide)).qM
theorem g0_ : decide (¬ iN 0 < iN 0) = true := by decide
theorem g4_ : decide (¬ iN 4 < iN 0) = true := by decide
theorem gb_ : Nat.ble (0 + 4) 4 = true := rfl
theorem t142 (w : Wd h) (H : LibS h la q) (W : QW q) (p : la + 7 ≤ 37) (hD : ∀ P m, aD q P m (Df P m)) (hd : d ≤ 20) (hm : m ≤ 4) (B0 : B 0 = (none, 0)) (Bs : ∀ k, B (k + 1) = bst (fC Df d m) k (B k)) : ∃ h', f142 h 66 la (iN d) (iN m) = some (zN (B (pR m)).1, h') ∧ FQ h h' ∧ (∀ v, (B (pR m)).1 = some v → v ≤ 8) ∧ ∀ i, i < m → (B (pR m)).1.isSome = true → mI h' 69 i = iN (pP m (B (pR m)).2 i) := by
  have hR := pR_b m (by omega)
  obtain ⟨h0, a1, a2, a3⟩ := t4 (v := 0) (x := iN 0) (k68 w) (by omega) rfl
  have F0 := fr68 a2
  unfold f142
  simp only [gT, nbeq, Option.isSome_some, Option.getD_some, Bool.and_true, Bool.true_and, Bool.and_self, mX_some, bS, bN_if, bN_01, i1_01, i0_01, if_true, if_false, Bool.false_eq_true, false_and, and_false, and_true, true_and, and_self, Bool.or_false, Bool.false_or, Bool.or_true, Bool.true_or, Bool.false_and, Bool.and_false, decide_true, decide_false, L0, L1, L2, L3, L4, L5, L6, L7, L8, L9, L10, L11, L12, L13, L14, L15, L16, L17, L18, L19, L20, L21, L22, L23, L24, L25, L27, L33, L39, L40, L45, L48, L57, L60, L72, L90, L97, L98, L99, L100, L121, L122, L242, L255, L256, L580, L600, L1000, L1584, L1000000, Ln1, iN_add, iN_and, iN_or, iN_nd, iN_shl, iN_shr, iN_cl, iN_in, iN_mul, k66 w, r66_0 w, r66_1 w, r66_2 w, r66_4 w, a1]
  have := lp_inv (body := f142_17 66 la (iN d) (iN m)) (P := fun k z => FQ h z.2.2.2 ∧ z.1 = zN (B k).1 ∧ (∀ v, (B k).1 = some v → v ≤ 8) ∧ (∀ i, i < m → (B k).1.isSome = true → mI z.2.2.2 69 i = iN (pP m (B k).2 i)) ∧ ((z.2.1 = iN 1 ∧ z.2.2.1 = iN k ∧ k < pR m ∧ ∀ i, i < m → mI z.2.2.2 68 i = iN (pP m k i)) ∨ (z.2.1 = iN 0 ∧ k = pR m))) (Q := fun r => r.1 = zN (B (pR m)).1 ∧ FQ h r.2 ∧ (∀ v, (B (pR m)).1 = some v → v ≤ 8) ∧ ∀ i, i < m → (B (pR m)).1.isSome = true → mI r.2 69 i = iN (pP m (B (pR m)).2 i)) (pR m) (fun k z hk hP => by
    obtain ⟨u1, u2, u4, u3⟩ := z
    obtain ⟨F, z0, y1, y2, ⟨z1, z2, z3, z4⟩ | ⟨z1, z2⟩⟩ := hP
    · have z0 : u1 = zN (B k).1 := z0
      have z1 : u2 = iN 1 := z1
      have z2 : u4 = iN k := z2
      have F : FQ h u3 := F
      have z4 : ∀ i, i < m → mI u3 68 i = iN (pP m k i) := z4
      have y2 : ∀ i, i < m → (B k).1.isSome = true → mI u3 69 i = iN (pP m (B k).2 i) := y2
      subst z0 z1 z2
      have w2 := w.q F
      have H2 : LibS u3 la q := H.st (fun i hi => F.lo (by omega))
      have p5 := pP_5 m (by omega) k z3
      obtain ⟨h1, b1, b2, b3, _⟩ := t84 (n := d) w2 H2 W (by omega) hm (fun i hi => ⟨p5 i (by omega), z4 i hi⟩) (hD (pP m k) m) (by omega)
      have w3 := b3.1
      have b4 : mI h1 66 3 = iN (fC Df d m k) := b3.2.2.2.2.1
      have b5 : fC Df d m k ≤ 8 := by
        have := b3.2.2.2.2.2.2
        have := pc_le (sRd (amor q (Df (pP m k) m d)).1)
        have e : (amor q (Df (pP m k) m d)).2.1 = fC Df d m k := rfl
        omega
      have b6 : ∀ i, i < m → mI h1 68 i = iN (pP m k i) := fun i hi => (b2.2.2 68 (by decide) i).trans (z4 i hi)
      have b7 : ∀ i, i < m → (B k).1.isSome = true → mI h1 69 i = iN (pP m (B k).2 i) := fun i hi hs => (b2.2.2 69 (by decide) i).trans (y2 i hi hs)
      have key : ∃ g, f142_17 66 la (iN d) (iN m) (zN (B k).1, iN 1, iN k, u3) = f142_66 g 66 la (iN d) (iN m) (zN (B (k + 1)).1) (iN k) ∧ FQ h g ∧ (∀ v, (B (k + 1)).1 = some v → v ≤ 8) ∧ (∀ i, i < m → (B (k + 1)).1.isSome = true → mI g 69 i = iN (pP m (B (k + 1)).2 i)) ∧ ∀ i, i < m → mI g 68 i = iN (pP m k i) := by
        rw [Bs k]
        unfold bst
        cases eb : bet (B k).1 (fC Df d m k) with
        | false =>
          refine ⟨h1, ?_, F.tr b2.q, y1, b7, b6⟩
          unfold f142_17
          simp (disch := omega) only [gT, nbeq, Option.isSome_some, Option.getD_some, Bool.and_true, Bool.true_and, Bool.and_self, mX_some, bS, bN_if, bN_01, i1_01, i0_01, if_true, if_false, Bool.false_eq_true, false_and, and_false, and_true, true_and, and_self, Bool.or_false, Bool.false_or, Bool.or_true, Bool.true_or, Bool.false_and, Bool.and_false, decide_true, decide_false, L0, L1, L2, L3, L4, L5, L6, L7, L8, L9, L10, L11, L12, L13, L14, L15, L16, L17, L18, L19, L20, L21, L22, L23, L24, L25, L27, L33, L39, L40, L45, L48, L57, L60, L72, L90, L97, L98, L99, L100, L121, L122, L242, L255, L256, L580, L600, L1000, L1584, L1000000, Ln1, iN_add, iN_and, iN_or, iN_nd, iN_shl, iN_shr, iN_cl, iN_in, iN_mul, k66 w2, r66_0 w2, r66_1 w2, r66_2 w2, r66_4 w2, k66 w3, r66_0 w3, r66_1 w3, r66_2 w3, r66_4 w3, ile_n, ieq_n, b1, b4]
          rw [bet_le (by omega) (fun v hv => by have := y1 v hv; omega), eb]
          rfl
        | true =>
          refine ⟨mCp h1 68 0 69 0 4, ?_, F.tr (b2.q.tr (fr69 (Fr.rfl.cp (by decide)))), fun v hv => ?_, fun i hi _ => ?_, fun i hi => ?_⟩
          · unfold f142_17
            simp (disch := omega) only [gT, nbeq, Option.isSome_some, Option.getD_some, Bool.and_true, Bool.true_and, Bool.and_self, mX_some, bS, bN_if, bN_01, i1_01, i0_01, if_true, if_false, Bool.false_eq_true, false_and, and_false, and_true, true_and, and_self, Bool.or_false, Bool.false_or, Bool.or_true, Bool.true_or, Bool.false_and, Bool.and_false, decide_true, decide_false, L0, L1, L2, L3, L4, L5, L6, L7, L8, L9, L10, L11, L12, L13, L14, L15, L16, L17, L18, L19, L20, L21, L22, L23, L24, L25, L27, L33, L39, L40, L45, L48, L57, L60, L72, L90, L97, L98, L99, L100, L121, L122, L242, L255, L256, L580, L600, L1000, L1584, L1000000, Ln1, iN_add, iN_and, iN_or, iN_nd, iN_shl, iN_shr, iN_cl, iN_in, iN_mul, k66 w2, r66_0 w2, r66_1 w2, r66_2 w2, r66_4 w2, k66 w3, r66_0 w3, r66_1 w3, r66_2 w3, r66_4 w3, k68 w3, k69 w3, ile_n, ieq_n, b1, b4, g0_, g4_, gb_]
            rw [bet_le (by omega) (fun v hv => by have := y1 v hv; omega), eb]
            rfl
          · have hv : some (fC Df d m k) = some v := hv
            have : fC Df d m k = v := Option.some.inj hv
            omega
          · rw [mI_Cp, if_pos (by omega)]
            rw [show 0 + (i - 0) = i by omega]
            exact b6 i hi
          · rw [mI_Cp, if_neg (by omega)]
            exact b6 i hi
      obtain ⟨g, k1, k2, k3, k4, k5⟩ := key
      have w4 := w.q k2
      left
      rw [k1]
      unfold f142_66
      rcases t91 w4 hm (fun i hi => ⟨p5 i (by omega), k5 i hi⟩) with ⟨c0, c1⟩ | ⟨a, h2, c0, c1, c2, c3⟩
      · have ek : ¬ k + 1 < pR m := fun hlt => by
          obtain ⟨a, ea, _⟩ := pP_s (by omega) hlt
          rw [ea] at c0; cases c0
        refine ⟨(zN (B (k + 1)).1, iN 0, iN (k + 1), g), ?_, k2, rfl, k3, k4, Or.inr ⟨rfl, by omega⟩⟩
        simp (disch := omega) only [gT, nbeq, Option.isSome_some, Option.getD_some, Bool.and_true, Bool.true_and, Bool.and_self, mX_some, bS, bN_if, bN_01, i1_01, i0_01, if_true, if_false, Bool.false_eq_true, false_and, and_false, and_true, true_and, and_self, Bool.or_false, Bool.false_or, Bool.or_true, Bool.true_or, Bool.false_and, Bool.and_false, decide_true, decide_false, L0, L1, L2, L3, L4, L5, L6, L7, L8, L9, L10, L11, L12, L13, L14, L15, L16, L17, L18, L19, L20, L21, L22, L23, L24, L25, L27, L33, L39, L40, L45, L48, L57, L60, L72, L90, L97, L98, L99, L100, L121, L122, L242, L255, L256, L580, L600, L1000, L1584, L1000000, Ln1, iN_add, iN_and, iN_or, iN_nd, iN_shl, iN_shr, iN_cl, iN_in, iN_mul, k66 w4, r66_0 w4, r66_1 w4, r66_2 w4, r66_4 w4, c1, bN_f]
      · have ek : k + 1 < pR m := by
          refine Decidable.byContradiction (fun hn => ?_)
          have := pP_e m (by omega)
          rw [show pR m - 1 = k by omega, c0] at this
          cases this
        obtain ⟨a', ea, en⟩ := pP_s (by omega) ek
        have : a = a' := Option.some.inj (c0.symm.trans ea)
        subst this
        refine ⟨(zN (B (k + 1)).1, iN 1, iN (k + 1), h2), ?_, k2.tr (fr68 c2), rfl, k3, fun i hi hs => (c2.i (by decide) i).trans (k4 i hi hs), Or.inl ⟨rfl, rfl, ek, fun i hi => (c3 i hi).trans (by rw [en i hi])⟩⟩
        simp (disch := omega) only [gT, nbeq, Option.isSome_some, Option.getD_some, Bool.and_true, Bool.true_and, Bool.and_self, mX_some, bS, bN_if, bN_01, i1_01, i0_01, if_true, if_false, Bool.false_eq_true, false_and, and_false, and_true, true_and, and_self, Bool.or_false, Bool.false_or, Bool.or_true, Bool.true_or, Bool.false_and, Bool.and_false, decide_true, decide_false, L0, L1, L2, L3, L4, L5, L6, L7, L8, L9, L10, L11, L12, L13, L14, L15, L16, L17, L18, L19, L20, L21, L22, L23, L24, L25, L27, L33, L39, L40, L45, L48, L57, L60, L72, L90, L97, L98, L99, L100, L121, L122, L242, L255, L256, L580, L600, L1000, L1584, L1000000, Ln1, iN_add, iN_and, iN_or, iN_nd, iN_shl, iN_shr, iN_cl, iN_in, iN_mul, k66 w4, r66_0 w4, r66_1 w4, r66_2 w4, r66_4 w4, c1, bN_t]
    · omega) (fun z hP => by
    obtain ⟨u1, u2, u4, u3⟩ := z
    obtain ⟨F, z0, y1, y2, ⟨z1, z2, z3, z4⟩ | ⟨z1, z2⟩⟩ := hP
    · omega
    · have z0 : u1 = zN (B (pR m)).1 := z0
      have z1 : u2 = iN 0 := z1
      subst z0 z1
      refine ⟨(zN (B (pR m)).1, u3), ?_, rfl, F, y1, y2⟩
      unfold f142_17 f142_79
      simp only [gT, nbeq, Option.isSome_some, Option.getD_some, Bool.and_true, Bool.true_and, Bool.and_self, mX_some, bS, bN_if, bN_01, i1_01, i0_01, if_true, if_false, Bool.false_eq_true, false_and, and_false, and_true, true_and, and_self, Bool.or_false, Bool.false_or, Bool.or_true, Bool.true_or, Bool.false_and, Bool.and_false, decide_true, decide_false, L0, L1, L2, L3, L4, L5, L6, L7, L8, L9, L10, L11, L12, L13, L14, L15, L16, L17, L18, L19, L20, L21, L22, L23, L24, L25, L27, L33, L39, L40, L45, L48, L57, L60, L72, L90, L97, L98, L99, L100, L121, L122, L242, L255, L256, L580, L600, L1000, L1584, L1000000, Ln1, iN_add, iN_and, iN_or, iN_nd, iN_shl, iN_shr, iN_cl, iN_in, iN_mul]
      split <;> rfl) (by omega) (s := (jN, iN 1, iN 0, h0)) ⟨F0, (by rw [B0]; rfl), (fun v hv => by rw [B0] at hv; cases hv), (fun i hi hs => by rw [B0] at hs; cases hs), Or.inl ⟨rfl, rfl, by omega, fun i hi => (a3 i (by omega)).trans (by rw [pP_0 m (by omega) i (by omega)])⟩⟩
  obtain ⟨⟨r, h'⟩, r1, r2, r3, r4, r5⟩ := this
  have r2' : r = zN (B (pR m)).1 := r2
  rw [r2'] at r1
  exact ⟨h', r1, r3, r4, r5⟩
end FT
