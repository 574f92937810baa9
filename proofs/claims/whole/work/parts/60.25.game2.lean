/-! game: the loops, the call -/
theorem up_ex {α : Type} (f : Nat → α → α) (x : α) : ∃ D : Nat → α, D 0 = x ∧ ∀ n, D (n + 1) = f n (D n) := ⟨fun n => up f n x, rfl, fun _ => rfl⟩
theorem wm_lt {q : LQ} {hh s c : Nat} {w : Nat → Bool} (h : wm q hh w s = some c) : c < q 0 0 := by
  have := fz_lt h; omega
theorem zN_is {o : Option Nat} {x y : Int32} (ho : ∀ v, o = some v → v < 2147483648) : (if zN o = jN then x else y) = if o.isSome = true then y else x := zj ho
section GM
variable {h : mH} {q : LQ} {hh : Nat} {X : Nat → (Nat → Bool) × Option Nat}
theorem gm_lt (X0 : X 0 = (fun _ => false, none)) (Xs : ∀ i, X (i + 1) = gmf q hh (2 ^ q 0 0 - (i + 1)) (X i)) : ∀ i c, (X i).2 = some c → c < q 0 0 := by
  intro i
  cases i with
  | zero => intro c hc; rw [X0] at hc; cases hc
  | succ i => intro c hc; rw [Xs] at hc; exact wm_lt hc
theorem t103 {a : Nat} (wd : Wd h) (H : LibS h a q) (W : QW q) (hb : hh ≤ 72) (pa : a + 7 ≤ 80) (X0 : X 0 = (fun _ => false, none)) (Xs : ∀ i, X (i + 1) = gmf q hh (2 ^ q 0 0 - (i + 1)) (X i)) : ∃ h', f103 h 80 a (iN hh) = some (zN (X (2 ^ q 0 0)).2, h') ∧ Fr (fun b => Nat.beq b 83) h h' := by
  have hn := W.1.1
  have h8 := pw_8 hn
  have h1 := pw_pos (q 0 0)
  have pn : ∀ i, i < 7 → (fun b => Nat.beq b 83) (a + i) = false := fun i hi => by
    show Nat.beq (a + i) 83 = false
    cases e : Nat.beq (a + i) 83 with
    | false => rfl
    | true => have := Nat.eq_of_beq_eq_true e; omega
  unfold f103
  simp (disch := omega) only [gT, nbeq, Option.isSome_some, Option.getD_some, Bool.and_true, Bool.true_and, Bool.and_self, mX_some, bS, bN_if, bN_01, i1_01, i0_01, if_true, if_false, Bool.false_eq_true, false_and, and_false, and_true, true_and, and_self, Bool.or_false, Bool.false_or, Bool.or_true, Bool.true_or, Bool.false_and, Bool.and_false, decide_true, decide_false, L0, L1, L2, L3, L4, L5, L6, L7, L8, L9, L10, L11, L12, L13, L14, L15, L16, L17, L18, L19, L20, L21, L22, L23, L24, L25, L27, L33, L39, L40, L45, L48, L57, L60, L72, L90, L97, L98, L99, L100, L121, L122, L242, L255, L256, L580, L600, L1000, L1584, L1000000, Ln1, iN_add, iN_and, iN_or, iN_nd, iN_shl, iN_shr, iN_cl, iN_in, iN_mul, H.k, t94 H W]
  have := lp_inv (body := f103_8 80 a (iN hh)) (P := fun i z => z.1 = zN (X i).2 ∧ z.2.1 = pN (2 ^ q 0 0 - i) ∧ Fr (fun b => Nat.beq b 83) h z.2.2 ∧ ∀ j, 2 ^ q 0 0 - i ≤ j → j < 2 ^ q 0 0 → mI z.2.2 83 j = bN ((X i).1 j)) (Q := fun r => r.1 = zN (X (2 ^ q 0 0)).2 ∧ Fr (fun b => Nat.beq b 83) h r.2) (2 ^ q 0 0) (fun i z hi hP => by
    obtain ⟨z1, z2, z3, z4⟩ := hP
    have w2 := wd.fr z3
    have H2 := H.fr z3 pn
    obtain ⟨s, hs⟩ : ∃ s, 2 ^ q 0 0 - i = s + 1 := ⟨2 ^ q 0 0 - i - 1, by omega⟩
    have es : 2 ^ q 0 0 - (i + 1) = s := by omega
    rw [hs, pN_s] at z2
    rw [Xs i, es]
    generalize X i = x at z1 z4
    have hmv := t104 (s := s) (w := x.1) w2 H2 W hb (by omega) (fun j h1 h2 => z4 j (by omega) h2)
    have hl : ∀ v, wm q hh x.1 s = some v → v < 2147483648 := fun v hv => by have := wm_lt hv; omega
    refine Or.inl ⟨(zN (wm q hh x.1 s), pN s, mSI z.2.2 83 s (bN (wm q hh x.1 s).isSome)), ?_, rfl, rfl, z3.si (by decide), fun j h1 h2 => ?_⟩
    · unfold f103_8
      rw [z2]
      simp (disch := omega) only [gT, nbeq, Option.isSome_some, Option.getD_some, Bool.and_true, Bool.true_and, Bool.and_self, mX_some, bS, bN_if, bN_01, i1_01, i0_01, if_true, if_false, Bool.false_eq_true, false_and, and_false, and_true, true_and, and_self, Bool.or_false, Bool.false_or, Bool.or_true, Bool.true_or, Bool.false_and, Bool.and_false, decide_true, decide_false, L0, L1, L2, L3, L4, L5, L6, L7, L8, L9, L10, L11, L12, L13, L14, L15, L16, L17, L18, L19, L20, L21, L22, L23, L24, L25, L27, L33, L39, L40, L45, L48, L57, L60, L72, L90, L97, L98, L99, L100, L121, L122, L242, L255, L256, L580, L600, L1000, L1584, L1000000, Ln1, iN_add, iN_and, iN_or, iN_nd, iN_shl, iN_shr, iN_cl, iN_in, iN_mul, k80 w2, r80_0 w2, r80_4 w2, r80_5 w2, r80_6 w2, k83 w2, H2.k, ilt_n, t95 H2 W, hmv]
      rw [zj hl]
      cases hm : wm q hh x.1 s with
      | none => simp (disch := omega) only [Option.isSome_none, gT, nbeq, Option.isSome_some, Option.getD_some, Bool.and_true, Bool.true_and, Bool.and_self, mX_some, bS, bN_if, bN_01, i1_01, i0_01, if_true, if_false, Bool.false_eq_true, false_and, and_false, and_true, true_and, and_self, Bool.or_false, Bool.false_or, Bool.or_true, Bool.true_or, Bool.false_and, Bool.and_false, decide_true, decide_false, iN_in, iN_cl, iN_pj, bN_f]
      | some c => simp (disch := omega) only [gT, nbeq, Option.isSome_some, Option.getD_some, Bool.and_true, Bool.true_and, Bool.and_self, mX_some, bS, bN_if, bN_01, i1_01, i0_01, if_true, if_false, Bool.false_eq_true, false_and, and_false, and_true, true_and, and_self, Bool.or_false, Bool.false_or, Bool.or_true, Bool.true_or, Bool.false_and, Bool.and_false, decide_true, decide_false, iN_in, iN_cl, iN_pj, bN_t]
    · show _ = bN (ud x.1 s (wm q hh x.1 s).isSome j)
      by_cases e : j = s
      · subst e; rw [ud_eq]; simp (disch := omega) only [si_ne, si_nk, si_eq]
      · rw [ud_ne _ _ e]; simp (disch := omega) only [si_ne, si_nk, si_eq]; exact z4 j (by omega) h2) (fun z hP => by
    obtain ⟨z1, z2, z3, z4⟩ := hP
    rw [Nat.sub_self, pN_z] at z2
    refine ⟨(zN (X (2 ^ q 0 0)).2, z.2.2), ?_, rfl, z3⟩
    unfold f103_8
    rw [z2, z1]
    simp (disch := omega) only [gT, nbeq, Option.isSome_some, Option.getD_some, Bool.and_true, Bool.true_and, Bool.and_self, mX_some, bS, bN_if, bN_01, i1_01, i0_01, if_true, if_false, Bool.false_eq_true, false_and, and_false, and_true, true_and, and_self, Bool.or_false, Bool.false_or, Bool.or_true, Bool.true_or, Bool.false_and, Bool.and_false, decide_true, decide_false, L0, L1, L2, L3, L4, L5, L6, L7, L8, L9, L10, L11, L12, L13, L14, L15, L16, L17, L18, L19, L20, L21, L22, L23, L24, L25, L27, L33, L39, L40, L45, L48, L57, L60, L72, L90, L97, L98, L99, L100, L121, L122, L242, L255, L256, L580, L600, L1000, L1584, L1000000, Ln1, iN_add, iN_and, iN_or, iN_nd, iN_shl, iN_shr, iN_cl, iN_in, iN_mul, jilt]) (by omega) (s := (jN, iN (2 ^ q 0 0 - 1), h)) ⟨by rw [X0]; rfl, by
      show iN (2 ^ q 0 0 - 1) = pN (2 ^ q 0 0 - 0)
      obtain ⟨s, hs⟩ : ∃ s, 2 ^ q 0 0 = s + 1 := ⟨2 ^ q 0 0 - 1, by omega⟩
      rw [hs]; rfl, Fr.rfl, fun j h1 h2 => by omega⟩
  obtain ⟨⟨r, h'⟩, r1, r2, r3⟩ := this
  have r2' : r = zN (X (2 ^ q 0 0)).2 := r2
  rw [r2'] at r1
  exact ⟨h', r1, r3⟩
theorem t249l {l3 : Int32} (H : MoS h q) (W : QW q) (hb : hh ≤ 72) (X0 : X 0 = (fun _ => false, none)) (Xs : ∀ i, X (i + 1) = gmf q hh (2 ^ q 0 0 - (i + 1)) (X i)) : ∃ h', mLoop (f249_39 193 (iN hh) l3) mFuel (jN, iN (2 ^ q 0 0 - 1), h) = some (if l3 = iN 0 then (if (X (2 ^ q 0 0)).2.isSome = true then iN 1 else iN 0) else zN (X (2 ^ q 0 0)).2, h') ∧ Fr (fun b => Nat.beq b 210) h h' := by
  have hn := W.1.1
  have h8 := pw_8 hn
  have h1 := pw_pos (q 0 0)
  have mf : ∀ {z : mH}, Fr (fun b => Nat.beq b 210) h z → MoS z q := fun {z} x => by
    obtain ⟨w, a1, a2, s, a3, a4, a5⟩ := id H
    exact ⟨w.fr x, (x.i (by decide) _).trans a1, (x.i (by decide) _).trans a2, s, a3, (x.i (by decide) _).trans a4, fun j hj => (x.i (by decide) _).trans (a5 j hj)⟩
  have hlt := gm_lt X0 Xs
  have := lp_inv (body := f249_39 193 (iN hh) l3) (P := fun i z => z.1 = zN (X i).2 ∧ z.2.1 = pN (2 ^ q 0 0 - i) ∧ Fr (fun b => Nat.beq b 210) h z.2.2 ∧ ∀ j, 2 ^ q 0 0 - i ≤ j → j < 2 ^ q 0 0 → mI z.2.2 210 j = bN ((X i).1 j)) (Q := fun r => r.1 = (if l3 = iN 0 then (if (X (2 ^ q 0 0)).2.isSome = true then iN 1 else iN 0) else zN (X (2 ^ q 0 0)).2) ∧ Fr (fun b => Nat.beq b 210) h r.2) (2 ^ q 0 0) (fun i z hi hP => by
    obtain ⟨z1, z2, z3, z4⟩ := hP
    have H2 := mf z3
    have w2 := H2.1
    obtain ⟨s, hs⟩ : ∃ s, 2 ^ q 0 0 - i = s + 1 := ⟨2 ^ q 0 0 - i - 1, by omega⟩
    have es : 2 ^ q 0 0 - (i + 1) = s := by omega
    rw [hs, pN_s] at z2
    rw [Xs i, es]
    generalize X i = x at z1 z4
    have hl : ∀ v, wm q hh x.1 s = some v → v < 2147483648 := fun v hv => by have := wm_lt hv; omega
    refine Or.inl ⟨(zN (wm q hh x.1 s), pN s, mSI z.2.2 210 s (bN (wm q hh x.1 s).isSome)), ?_, rfl, rfl, z3.si (by decide), fun j h1 h2 => ?_⟩
    · unfold f249_39
      rw [z2]
      simp (disch := omega) only [gT, nbeq, Option.isSome_some, Option.getD_some, Bool.and_true, Bool.true_and, Bool.and_self, mX_some, bS, bN_if, bN_01, i1_01, i0_01, if_true, if_false, Bool.false_eq_true, false_and, and_false, and_true, true_and, and_self, Bool.or_false, Bool.false_or, Bool.or_true, Bool.true_or, Bool.false_and, Bool.and_false, decide_true, decide_false, L0, L1, L2, L3, L4, L5, L6, L7, L8, L9, L10, L11, L12, L13, L14, L15, L16, L17, L18, L19, L20, L21, L22, L23, L24, L25, L27, L33, L39, L40, L45, L48, L57, L60, L72, L90, L97, L98, L99, L100, L121, L122, L242, L255, L256, L580, L600, L1000, L1584, L1000000, Ln1, iN_add, iN_and, iN_or, iN_nd, iN_shl, iN_shr, iN_cl, iN_in, iN_mul, k193 w2, r193_1 w2, r193_2 w2, r193_3 w2, r193_4 w2, r193_5 w2, r193_6 w2, r193_7 w2, r193_8 w2, r193_18 w2, r193_19 w2, r193_32 w2, r193_33 w2, r193_34 w2, r193_36 w2, r193_38 w2, r193_39 w2, r193_40 w2, r193_42 w2, r193_45 w2, r193_46 w2, r193_47 w2, r193_48 w2, r193_49 w2, r193_50 w2, H2.n, ilt_n, iN_p]
      have ew : wm q hh x.1 s = dn (fun c (u : Option Nat) => if gd q hh x.1 s c = true then some c else u) (q 0 0) none := by
        rw [dn_fz]
        unfold wm
        cases fz (gd q hh x.1 s) (q 0 0) 0 <;> rfl
      rw [ew]
      refine lp_dn (body := f249_55 z.2.2 193 (iN hh) l3 (iN s)) (fun k (u : Option Nat) => (zN u, pN k)) (fun c (u : Option Nat) => if gd q hh x.1 s c = true then some c else u) (fun u => Sum.inl (zN u, pN s, mSI z.2.2 210 s (bN u.isSome))) (fun _ u => ∀ v, u = some v → v < 8) (q 0 0) (a0 := none) (fun v hv => by cases hv) (fun k u hk hu v hv => by
        by_cases e : gd q hh x.1 s k = true
        · rw [if_pos e] at hv; cases hv; omega
        · rw [if_neg e] at hv; exact hu v hv) ?_ ?_ (by omega)
      · intro k u hk hu
        unfold f249_55 f249_79
        rw [pN_s]
        simp (disch := omega) only [gT, nbeq, Option.isSome_some, Option.getD_some, Bool.and_true, Bool.true_and, Bool.and_self, mX_some, bS, bN_if, bN_01, i1_01, i0_01, if_true, if_false, Bool.false_eq_true, false_and, and_false, and_true, true_and, and_self, Bool.or_false, Bool.false_or, Bool.or_true, Bool.true_or, Bool.false_and, Bool.and_false, decide_true, decide_false, L0, L1, L2, L3, L4, L5, L6, L7, L8, L9, L10, L11, L12, L13, L14, L15, L16, L17, L18, L19, L20, L21, L22, L23, L24, L25, L27, L33, L39, L40, L45, L48, L57, L60, L72, L90, L97, L98, L99, L100, L121, L122, L242, L255, L256, L580, L600, L1000, L1584, L1000000, Ln1, iN_add, iN_and, iN_or, iN_nd, iN_shl, iN_shr, iN_cl, iN_in, iN_mul, k193 w2, r193_1 w2, r193_2 w2, r193_3 w2, r193_4 w2, r193_5 w2, r193_6 w2, r193_7 w2, r193_8 w2, r193_18 w2, r193_19 w2, r193_32 w2, r193_33 w2, r193_34 w2, r193_36 w2, r193_38 w2, r193_39 w2, r193_40 w2, r193_42 w2, r193_45 w2, r193_46 w2, r193_47 w2, r193_48 w2, r193_49 w2, r193_50 w2, ilt_n, t250 (w := x.1) H2 W hb (show s < 2 ^ q 0 0 by omega) hk (fun j h1 h2 => z4 j (by omega) h2), iN_pj]
        cases gd q hh x.1 s k <;> simp only [gT, nbeq, Option.isSome_some, Option.getD_some, Bool.and_true, Bool.true_and, Bool.and_self, mX_some, bS, bN_if, bN_01, i1_01, i0_01, if_true, if_false, Bool.false_eq_true, false_and, and_false, and_true, true_and, and_self, Bool.or_false, Bool.false_or, Bool.or_true, Bool.true_or, Bool.false_and, Bool.and_false, decide_true, decide_false] <;> rfl
      · intro u hu
        unfold f249_55
        rw [pN_z]
        simp (disch := omega) only [gT, nbeq, Option.isSome_some, Option.getD_some, Bool.and_true, Bool.true_and, Bool.and_self, mX_some, bS, bN_if, bN_01, i1_01, i0_01, if_true, if_false, Bool.false_eq_true, false_and, and_false, and_true, true_and, and_self, Bool.or_false, Bool.false_or, Bool.or_true, Bool.true_or, Bool.false_and, Bool.and_false, decide_true, decide_false, L0, L1, L2, L3, L4, L5, L6, L7, L8, L9, L10, L11, L12, L13, L14, L15, L16, L17, L18, L19, L20, L21, L22, L23, L24, L25, L27, L33, L39, L40, L45, L48, L57, L60, L72, L90, L97, L98, L99, L100, L121, L122, L242, L255, L256, L580, L600, L1000, L1584, L1000000, Ln1, iN_add, iN_and, iN_or, iN_nd, iN_shl, iN_shr, iN_cl, iN_in, iN_mul, jilt, k193 w2, r193_1 w2, r193_2 w2, r193_3 w2, r193_4 w2, r193_5 w2, r193_6 w2, r193_7 w2, r193_8 w2, r193_18 w2, r193_19 w2, r193_32 w2, r193_33 w2, r193_34 w2, r193_36 w2, r193_38 w2, r193_39 w2, r193_40 w2, r193_42 w2, r193_45 w2, r193_46 w2, r193_47 w2, r193_48 w2, r193_49 w2, r193_50 w2, k210 w2]
        rw [zj (fun v hv => by have := hu v hv; omega)]
        cases u with
        | none => simp (disch := omega) only [Option.isSome_none, gT, nbeq, Option.isSome_some, Option.getD_some, Bool.and_true, Bool.true_and, Bool.and_self, mX_some, bS, bN_if, bN_01, i1_01, i0_01, if_true, if_false, Bool.false_eq_true, false_and, and_false, and_true, true_and, and_self, Bool.or_false, Bool.false_or, Bool.or_true, Bool.true_or, Bool.false_and, Bool.and_false, decide_true, decide_false, iN_in, iN_cl, iN_pj, bN_f]
        | some c => simp (disch := omega) only [gT, nbeq, Option.isSome_some, Option.getD_some, Bool.and_true, Bool.true_and, Bool.and_self, mX_some, bS, bN_if, bN_01, i1_01, i0_01, if_true, if_false, Bool.false_eq_true, false_and, and_false, and_true, true_and, and_self, Bool.or_false, Bool.false_or, Bool.or_true, Bool.true_or, Bool.false_and, Bool.and_false, decide_true, decide_false, iN_in, iN_cl, iN_pj, bN_t]
    · show _ = bN (ud x.1 s (wm q hh x.1 s).isSome j)
      by_cases e : j = s
      · subst e; rw [ud_eq]; simp (disch := omega) only [si_ne, si_nk, si_eq]
      · rw [ud_ne _ _ e]; simp (disch := omega) only [si_ne, si_nk, si_eq]; exact z4 j (by omega) h2) (fun z hP => by
    obtain ⟨z1, z2, z3, z4⟩ := hP
    rw [Nat.sub_self, pN_z] at z2
    have hl : ∀ v, (X (2 ^ q 0 0)).2 = some v → v < 2147483648 := fun v hv => by have := hlt _ v hv; omega
    refine ⟨(if l3 = iN 0 then (if (X (2 ^ q 0 0)).2.isSome = true then iN 1 else iN 0) else zN (X (2 ^ q 0 0)).2, z.2.2), ?_, rfl, z3⟩
    unfold f249_39 f249_131
    rw [z2, z1]
    simp (disch := omega) only [gT, nbeq, Option.isSome_some, Option.getD_some, Bool.and_true, Bool.true_and, Bool.and_self, mX_some, bS, bN_if, bN_01, i1_01, i0_01, if_true, if_false, Bool.false_eq_true, false_and, and_false, and_true, true_and, and_self, Bool.or_false, Bool.false_or, Bool.or_true, Bool.true_or, Bool.false_and, Bool.and_false, decide_true, decide_false, L0, L1, L2, L3, L4, L5, L6, L7, L8, L9, L10, L11, L12, L13, L14, L15, L16, L17, L18, L19, L20, L21, L22, L23, L24, L25, L27, L33, L39, L40, L45, L48, L57, L60, L72, L90, L97, L98, L99, L100, L121, L122, L242, L255, L256, L580, L600, L1000, L1584, L1000000, Ln1, iN_add, iN_and, iN_or, iN_nd, iN_shl, iN_shr, iN_cl, iN_in, iN_mul, jilt]
    rw [zj hl]
    by_cases e : l3 = iN 0
    · simp only [e, if_true]
      split <;> simp only [gT, nbeq, Option.isSome_some, Option.getD_some, Bool.and_true, Bool.true_and, Bool.and_self, mX_some, bS, bN_if, bN_01, i1_01, i0_01, if_true, if_false, Bool.false_eq_true, false_and, and_false, and_true, true_and, and_self, Bool.or_false, Bool.false_or, Bool.or_true, Bool.true_or, Bool.false_and, Bool.and_false, decide_true, decide_false]
    · simp only [e, if_false, gT, nbeq, Option.isSome_some, Option.getD_some, Bool.and_true, Bool.true_and, Bool.and_self, mX_some, bS, bN_if, bN_01, i1_01, i0_01, if_true, if_false, Bool.false_eq_true, false_and, and_false, and_true, true_and, and_self, Bool.or_false, Bool.false_or, Bool.or_true, Bool.true_or, Bool.false_and, Bool.and_false, decide_true, decide_false]) (by omega) (s := (jN, iN (2 ^ q 0 0 - 1), h)) ⟨by rw [X0]; rfl, by
      show iN (2 ^ q 0 0 - 1) = pN (2 ^ q 0 0 - 0)
      obtain ⟨s, hs⟩ : ∃ s, 2 ^ q 0 0 = s + 1 := ⟨2 ^ q 0 0 - 1, by omega⟩
      rw [hs]; rfl, Fr.rfl, fun j h1 h2 => by omega⟩
  obtain ⟨⟨r, h'⟩, r1, r2, r3⟩ := this
  have r2' : r = (if l3 = iN 0 then (if (X (2 ^ q 0 0)).2.isSome = true then iN 1 else iN 0) else zN (X (2 ^ q 0 0)).2) := r2
  rw [r2'] at r1
  exact ⟨h', r1, r3⟩
end GM
theorem p83_pC : ∀ b, (fun b => Nat.beq b 83) b = true → pC b = true := by
  intro b h
  have : b = 83 := Nat.eq_of_beq_eq_true h
  rw [this]; decide
theorem p210_pM : ∀ b, (fun b => Nat.beq b 210) b = true → pM b = true := by
  intro b h
  have : b = 210 := Nat.eq_of_beq_eq_true h
  rw [this]; decide
section PB
variable {h : mH}
theorem c_game (R : Rel h) (x1 x2 x3 : Int32) : ∃ v h1, f102 h 0 x1 x2 x3 = some (v, h1) ∧ FQ h h1 ∧ ∀ h0, FQ h h0 → ∃ h2, f249 h0 193 x1 x2 x3 = some (v, h2) ∧ FQ h0 h2 := by
  have w := R.1
  unfold f102 f102_25 f102_58
  simp only [gT, nbeq, Option.isSome_some, Option.getD_some, Bool.and_true, Bool.true_and, Bool.and_self, mX_some, bS, bN_if, bN_01, i1_01, i0_01, if_true, if_false, Bool.false_eq_true, false_and, and_false, and_true, true_and, and_self, Bool.or_false, Bool.false_or, Bool.or_true, Bool.true_or, Bool.false_and, Bool.and_false, decide_true, decide_false, k0 w, r0_0 w, r0_1 w, r0_2 w, r0_3 w, r0_4 w, r0_5 w, r0_6 w, r0_7 w, r0_8 w, k1 w, r1_0 w, r1_1 w, r1_2 w, r1_3 w, r1_4 w]
  rcases R.pick x1 with ⟨e1, e2⟩ | ⟨i, q, hi, rfl, W, H, e1, e2⟩
  · simp only [gT, nbeq, Option.isSome_some, Option.getD_some, Bool.and_true, Bool.true_and, Bool.and_self, mX_some, bS, bN_if, bN_01, i1_01, i0_01, if_true, if_false, Bool.false_eq_true, false_and, and_false, and_true, true_and, and_self, Bool.or_false, Bool.false_or, Bool.or_true, Bool.true_or, Bool.false_and, Bool.and_false, decide_true, decide_false, L0, L1, L2, L3, L4, L5, L6, L7, L8, L9, L10, L11, L12, L13, L14, L15, L16, L17, L18, L19, L20, L21, L22, L23, L24, L25, L27, L33, L39, L40, L45, L48, L57, L60, L72, L90, L97, L98, L99, L100, L121, L122, L242, L255, L256, L580, L600, L1000, L1584, L1000000, Ln1, iN_add, iN_and, iN_or, iN_nd, iN_shl, iN_shr, iN_cl, iN_in, iN_mul, Ln2, e1]
    refine ⟨_, _, rfl, FQ.rfl, fun h0 F => ?_⟩
    have w0 := R.1.q F
    unfold f249 f249_23
    simp (disch := omega) only [gT, nbeq, Option.isSome_some, Option.getD_some, Bool.and_true, Bool.true_and, Bool.and_self, mX_some, bS, bN_if, bN_01, i1_01, i0_01, if_true, if_false, Bool.false_eq_true, false_and, and_false, and_true, true_and, and_self, Bool.or_false, Bool.false_or, Bool.or_true, Bool.true_or, Bool.false_and, Bool.and_false, decide_true, decide_false, L0, L1, L2, L3, L4, L5, L6, L7, L8, L9, L10, L11, L12, L13, L14, L15, L16, L17, L18, L19, L20, L21, L22, L23, L24, L25, L27, L33, L39, L40, L45, L48, L57, L60, L72, L90, L97, L98, L99, L100, L121, L122, L242, L255, L256, L580, L600, L1000, L1584, L1000000, Ln1, iN_add, iN_and, iN_or, iN_nd, iN_shl, iN_shr, iN_cl, iN_in, iN_mul, Ln2, k193 w0, r193_1 w0, r193_2 w0, r193_3 w0, r193_4 w0, r193_5 w0, r193_6 w0, r193_7 w0, r193_8 w0, r193_18 w0, r193_19 w0, r193_32 w0, r193_33 w0, r193_34 w0, r193_36 w0, r193_38 w0, r193_39 w0, r193_40 w0, r193_42 w0, r193_45 w0, r193_46 w0, r193_47 w0, r193_48 w0, r193_49 w0, r193_50 w0, t179r, e2 _ F.co]
    cases rg x2 (72 + 1) <;> simp only [gT, nbeq, Option.isSome_some, Option.getD_some, Bool.and_true, Bool.true_and, Bool.and_self, mX_some, bS, bN_if, bN_01, i1_01, i0_01, if_true, if_false, Bool.false_eq_true, false_and, and_false, and_true, true_and, and_self, Bool.or_false, Bool.false_or, Bool.or_true, Bool.true_or, Bool.false_and, Bool.and_false, decide_true, decide_false] <;> exact ⟨_, rfl, FQ.c0⟩
  · have hn := W.1.1
    simp (disch := omega) only [gT, nbeq, Option.isSome_some, Option.getD_some, Bool.and_true, Bool.true_and, Bool.and_self, mX_some, bS, bN_if, bN_01, i1_01, i0_01, if_true, if_false, Bool.false_eq_true, false_and, and_false, and_true, true_and, and_self, Bool.or_false, Bool.false_or, Bool.or_true, Bool.true_or, Bool.false_and, Bool.and_false, decide_true, decide_false, L0, L1, L2, L3, L4, L5, L6, L7, L8, L9, L10, L11, L12, L13, L14, L15, L16, L17, L18, L19, L20, L21, L22, L23, L24, L25, L27, L33, L39, L40, L45, L48, L57, L60, L72, L90, L97, L98, L99, L100, L121, L122, L242, L255, L256, L580, L600, L1000, L1584, L1000000, Ln1, iN_add, iN_and, iN_or, iN_nd, iN_shl, iN_shr, iN_cl, iN_in, iN_mul, Ln2, k80 w, r80_0 w, r80_4 w, r80_5 w, r80_6 w, e1, t17r]
    cases hr : rg x2 (72 + 1) with
    | false =>
      simp only [gT, nbeq, Option.isSome_some, Option.getD_some, Bool.and_true, Bool.true_and, Bool.and_self, mX_some, bS, bN_if, bN_01, i1_01, i0_01, if_true, if_false, Bool.false_eq_true, false_and, and_false, and_true, true_and, and_self, Bool.or_false, Bool.false_or, Bool.or_true, Bool.true_or, Bool.false_and, Bool.and_false, decide_true, decide_false]
      refine ⟨_, _, rfl, FQ.rfl, fun h0 F => ?_⟩
      have w0 := R.1.q F
      unfold f249 f249_23
      simp (disch := omega) only [gT, nbeq, Option.isSome_some, Option.getD_some, Bool.and_true, Bool.true_and, Bool.and_self, mX_some, bS, bN_if, bN_01, i1_01, i0_01, if_true, if_false, Bool.false_eq_true, false_and, and_false, and_true, true_and, and_self, Bool.or_false, Bool.false_or, Bool.or_true, Bool.true_or, Bool.false_and, Bool.and_false, decide_true, decide_false, L0, L1, L2, L3, L4, L5, L6, L7, L8, L9, L10, L11, L12, L13, L14, L15, L16, L17, L18, L19, L20, L21, L22, L23, L24, L25, L27, L33, L39, L40, L45, L48, L57, L60, L72, L90, L97, L98, L99, L100, L121, L122, L242, L255, L256, L580, L600, L1000, L1584, L1000000, Ln1, iN_add, iN_and, iN_or, iN_nd, iN_shl, iN_shr, iN_cl, iN_in, iN_mul, Ln2, k193 w0, r193_1 w0, r193_2 w0, r193_3 w0, r193_4 w0, r193_5 w0, r193_6 w0, r193_7 w0, r193_8 w0, r193_18 w0, r193_19 w0, r193_32 w0, r193_33 w0, r193_34 w0, r193_36 w0, r193_38 w0, r193_39 w0, r193_40 w0, r193_42 w0, r193_45 w0, r193_46 w0, r193_47 w0, r193_48 w0, r193_49 w0, r193_50 w0, t179r, hr]
      exact ⟨_, rfl, FQ.c0⟩
    | true =>
      obtain ⟨d, hd, rfl, _⟩ := rg_t hr
      obtain ⟨X, X0, Xs⟩ := up_ex (fun i x => gmf q d (2 ^ q 0 0 - (i + 1)) x) (fun _ => false, none)
      obtain ⟨h1, a1, a2⟩ := t103 w H W (by omega) (by omega) X0 Xs
      have hlt := gm_lt X0 Xs (2 ^ q 0 0)
      simp only [gT, nbeq, Option.isSome_some, Option.getD_some, Bool.and_true, Bool.true_and, Bool.and_self, mX_some, bS, bN_if, bN_01, i1_01, i0_01, if_true, if_false, Bool.false_eq_true, false_and, and_false, and_true, true_and, and_self, Bool.or_false, Bool.false_or, Bool.or_true, Bool.true_or, Bool.false_and, Bool.and_false, decide_true, decide_false, a1]
      rw [zj (fun v hv => by have := hlt v hv; omega)]
      refine ⟨if x3 = iN 0 then (if (X (2 ^ q 0 0)).2.isSome = true then iN 1 else iN 0) else zN (X (2 ^ q 0 0)).2, h1, ?_, (a2.mono p83_pC).qC, fun h0 F => ?_⟩
      · by_cases e : x3 = iN 0
        · simp only [e, if_true]
          split <;> rfl
        · simp only [e, if_false]
      · have w0 := R.1.q F
        obtain ⟨h', f1, f2, f3, f4, f5⟩ := e2 _ F.co
        have w1 := f4.1
        obtain ⟨h2, c1, c2⟩ := t249l (l3 := x3) f4 W (by omega) X0 Xs
        have h1p := pw_pos (q 0 0)
        refine ⟨h2, ?_, (FQ.c0.tr f2.qM).tr (c2.mono p210_pM).qM⟩
        unfold f249
        simp (disch := omega) only [gT, nbeq, Option.isSome_some, Option.getD_some, Bool.and_true, Bool.true_and, Bool.and_self, mX_some, bS, bN_if, bN_01, i1_01, i0_01, if_true, if_false, Bool.false_eq_true, false_and, and_false, and_true, true_and, and_self, Bool.or_false, Bool.false_or, Bool.or_true, Bool.true_or, Bool.false_and, Bool.and_false, decide_true, decide_false, L0, L1, L2, L3, L4, L5, L6, L7, L8, L9, L10, L11, L12, L13, L14, L15, L16, L17, L18, L19, L20, L21, L22, L23, L24, L25, L27, L33, L39, L40, L45, L48, L57, L60, L72, L90, L97, L98, L99, L100, L121, L122, L242, L255, L256, L580, L600, L1000, L1584, L1000000, Ln1, iN_add, iN_and, iN_or, iN_nd, iN_shl, iN_shr, iN_cl, iN_in, iN_mul, Ln2, k193 w0, r193_1 w0, r193_2 w0, r193_3 w0, r193_4 w0, r193_5 w0, r193_6 w0, r193_7 w0, r193_8 w0, r193_18 w0, r193_19 w0, r193_32 w0, r193_33 w0, r193_34 w0, r193_36 w0, r193_38 w0, r193_39 w0, r193_40 w0, r193_42 w0, r193_45 w0, r193_46 w0, r193_47 w0, r193_48 w0, r193_49 w0, r193_50 w0, k193 w1, r193_1 w1, r193_2 w1, r193_3 w1, r193_4 w1, r193_5 w1, r193_6 w1, r193_7 w1, r193_8 w1, r193_18 w1, r193_19 w1, r193_32 w1, r193_33 w1, r193_34 w1, r193_36 w1, r193_38 w1, r193_39 w1, r193_40 w1, r193_42 w1, r193_45 w1, r193_46 w1, r193_47 w1, r193_48 w1, r193_49 w1, r193_50 w1, t179r, f1, hr, f4.n, Nat.one_shiftLeft, iN_sub, c1]
end PB
