/-! bait: the fewest PIES -/
theorem AL.r1 {h : mH} {la : Nat} {q : LQ} {x : AZ} (A : AL h la q x) (W : QW q) : mI h 70 1 = iN (sRd x.1) ∧ sRd x.1 < 256 := by
  obtain ⟨_, _, _, ⟨s, C, S, E⟩, _⟩ := A
  have := S.rd8 W
  rw [co_rd E] at this
  exact ⟨C.2.2.2.1.trans (by rw [co_rd E]), this⟩
theorem MB.r1 {h : mH} {q : LQ} {x : AZ} (A : MB h q x) (W : QW q) : mI h 193 26 = iN (sRd x.1) ∧ sRd x.1 < 256 := by
  obtain ⟨_, ⟨s, C, S, E⟩, _⟩ := A
  have := S.rd8 W
  rw [co_rd E] at this
  exact ⟨C.2.2.2.1.trans (by rw [co_rd E]), this⟩
theorem Df_ex (q : LQ) : ∃ Df : (Nat → Nat) → Nat → Nat → AZ, ∀ P m, aD q P m (Df P m) := ⟨fun P m => itr (fun x => dgo q 8 (amor q x)) (sPs q P m, 0, fun _ => 0), fun _ _ => ⟨rfl, fun _ => rfl⟩⟩
theorem fr68 {h h' : mH} (x : Fr (fun b => Nat.beq b 68) h h') : FQ h h' := (x.mono (P' := pC) (fun b hb => by rw [Nat.eq_of_beq_eq_true hb]; decide)).qC
theorem fr208 {h h' : mH} (x : Fr (fun b => Nat.beq b 208) h h') : FQ h h' := (x.mono (P' := pM) (fun b hb => by rw [Nat.eq_of_beq_eq_true hb]; decide)).qM
theorem MoS.f8 {h h' : mH} {q : LQ} (H : MoS h q) (x : Fr (fun b => Nat.beq b 208) h h') : MoS h' q := by
  obtain ⟨v, h1, h2, s, h3, h4, h5⟩ := H
  exact ⟨v.fr x, (x.i (by decide) _).trans h1, (x.i (by decide) _).trans h2, s, h3, (x.i (by decide) _).trans h4, fun i hi => (x.i (by decide) _).trans (h5 i hi)⟩
def bZ (Df : (Nat → Nat) → Nat → Nat → AZ) (d c m k : Nat) : Bool := (sRd (Df (pP m k) m d).1).testBit c
def bM (Df : (Nat → Nat) → Nat → Nat → AZ) (d c m : Nat) : Bool := (fz (bZ Df d c m) (pR m) 0).isSome
section BT
variable {h : mH} {la : Nat} {q : LQ} {Df : (Nat → Nat) → Nat → Nat → AZ} {d c m : Nat}
theorem t90i (w : Wd h) (H : LibS h la q) (W : QW q) (p : la + 7 ≤ 37) (hD : ∀ P m, aD q P m (Df P m)) (hd : d ≤ 20) (hc : c < 8) (hm : m ≤ 4) (hp : ∀ i, i < m → mI h 68 i = iN (pP m 0 i)) : ∃ r, mLoop (f90_23 66 la (iN c) (iN d) (iN m)) mFuel (iN 1, iN 0, h) = some r ∧ ((fz (bZ Df d c m) (pR m) 0 = none ∧ ∃ h', r = .inl (iN (m + 1), h') ∧ FQ h h') ∨ ∃ k h', fz (bZ Df d c m) (pR m) 0 = some k ∧ r = .inr (iN m, h') ∧ FQ h h' ∧ ∀ i, i < m → mI h' 68 i = iN (pP m k i)) := by
  have hR := pR_b m (by omega)
  exact lp_run2 (body := f90_23 66 la (iN c) (iN d) (iN m)) (R := fun k (x : Bool) z => FQ h z.2.2 ∧ ((x = true ∧ z.1 = iN 1 ∧ z.2.1 = iN k ∧ k < pR m ∧ ∀ i, i < m → mI z.2.2 68 i = iN (pP m k i)) ∨ (x = false ∧ z.1 = iN 0))) (Q := fun (o : Option Nat) r => (o = none ∧ ∃ h', r = .inl (iN (m + 1), h') ∧ FQ h h') ∨ ∃ k h', o = some k ∧ r = .inr (iN m, h') ∧ FQ h h' ∧ ∀ i, i < m → mI h' 68 i = iN (pP m k i)) (go := fun n k x => if x = true then fz (bZ Df d c m) n k else none) (pR m) (fun n k x z hk hP => by
    obtain ⟨u1, u2, u3⟩ := z
    obtain ⟨F, ⟨rfl, z1, z2, z3, z4⟩ | ⟨rfl, z1⟩⟩ := hP
    · have z1 : u1 = iN 1 := z1
      have z2 : u2 = iN k := z2
      have F : FQ h u3 := F
      have z4 : ∀ i, i < m → mI u3 68 i = iN (pP m k i) := z4
      subst z1 z2
      have w2 := w.q F
      have H2 : LibS u3 la q := H.st (fun i hi => F.lo (by omega))
      have p5 := pP_5 m (by omega) k z3
      obtain ⟨h1, b1, b2, b3, _⟩ := t84 (n := d) w2 H2 W (by omega) hm (fun i hi => ⟨p5 i (by omega), z4 i hi⟩) (hD (pP m k) m) (by omega)
      have w3 := b3.1
      obtain ⟨b4, b5⟩ := b3.r1 W
      have e4 : sRd (amor q (Df (pP m k) m d)).1 = sRd (Df (pP m k) m d).1 := rfl
      rw [e4] at b4 b5
      have b6 : ∀ i, i < m → mI h1 68 i = iN (pP m k i) := fun i hi => (b2.2.2 68 (by decide) i).trans (z4 i hi)
      cases ez : bZ Df d c m k with
      | true =>
        right
        refine ⟨.inr (iN m, h1), ?_, Or.inr ⟨k, h1, ?_, rfl, F.tr b2.q, b6⟩⟩
        · unfold f90_23
          unfold bZ at ez
          simp (disch := omega) only [gT, nbeq, Option.isSome_some, Option.getD_some, Bool.and_true, Bool.true_and, Bool.and_self, mX_some, bS, bN_if, bN_01, i1_01, i0_01, if_true, if_false, Bool.false_eq_true, false_and, and_false, and_true, true_and, and_self, Bool.or_false, Bool.false_or, Bool.or_true, Bool.true_or, Bool.false_and, Bool.and_false, decide_true, decide_false, L0, L1, L2, L3, L4, L5, L6, L7, L8, L9, L10, L11, L12, L13, L14, L15, L16, L17, L18, L19, L20, L21, L22, L23, L24, L25, L27, L33, L39, L40, L45, L48, L57, L60, L72, L90, L97, L98, L99, L100, L121, L122, L242, L255, L256, L580, L600, L1000, L1584, L1000000, Ln1, iN_add, iN_and, iN_or, iN_nd, iN_shl, iN_shr, iN_cl, iN_in, iN_mul, k66 w2, r66_0 w2, r66_1 w2, r66_2 w2, r66_4 w2, k66 w3, r66_0 w3, r66_1 w3, r66_2 w3, r66_4 w3, k70 w3, r70_0 w3, r70_2 w3, ile_n, ieq_n, b1, b4, t71, ez]
        · show fz (bZ Df d c m) (n + 1) k = some k
          unfold fz
          rw [if_pos ez]
      | false =>
        left
        have ef : fz (bZ Df d c m) (n + 1) k = fz (bZ Df d c m) n (k + 1) := by
          show (if bZ Df d c m k = true then some k else fz (bZ Df d c m) n (k + 1)) = _
          rw [ez]; rfl
        have b7 : ∀ i, i < m → pP m k i < 6 ∧ mI h1 68 i = iN (pP m k i) := fun i hi => ⟨p5 i (by omega), b6 i hi⟩
        rcases t91 w3 hm b7 with ⟨c0, c1⟩ | ⟨a, h2, c0, c1, c2, c3⟩
        · have ek : ¬ k + 1 < pR m := fun hlt => by
            obtain ⟨a, ea, _⟩ := pP_s (by omega) hlt
            rw [ea] at c0; cases c0
          refine ⟨(iN 0, iN (k + 1), h1), false, ?_, ⟨F.tr b2.q, Or.inr ⟨rfl, rfl⟩⟩, ?_⟩
          · unfold f90_23
            unfold bZ at ez
            simp (disch := omega) only [gT, nbeq, Option.isSome_some, Option.getD_some, Bool.and_true, Bool.true_and, Bool.and_self, mX_some, bS, bN_if, bN_01, i1_01, i0_01, if_true, if_false, Bool.false_eq_true, false_and, and_false, and_true, true_and, and_self, Bool.or_false, Bool.false_or, Bool.or_true, Bool.true_or, Bool.false_and, Bool.and_false, decide_true, decide_false, L0, L1, L2, L3, L4, L5, L6, L7, L8, L9, L10, L11, L12, L13, L14, L15, L16, L17, L18, L19, L20, L21, L22, L23, L24, L25, L27, L33, L39, L40, L45, L48, L57, L60, L72, L90, L97, L98, L99, L100, L121, L122, L242, L255, L256, L580, L600, L1000, L1584, L1000000, Ln1, iN_add, iN_and, iN_or, iN_nd, iN_shl, iN_shr, iN_cl, iN_in, iN_mul, k66 w2, r66_0 w2, r66_1 w2, r66_2 w2, r66_4 w2, k66 w3, r66_0 w3, r66_1 w3, r66_2 w3, r66_4 w3, k70 w3, r70_0 w3, r70_2 w3, ile_n, ieq_n, b1, b4, t71, ez, c1, bN_f]
          · show fz (bZ Df d c m) (n + 1) k = none
            rw [ef, show n = 0 by omega]; rfl
        · have ek : k + 1 < pR m := by
            refine Decidable.byContradiction (fun hn => ?_)
            have := pP_e m (by omega)
            rw [show pR m - 1 = k by omega, c0] at this
            cases this
          obtain ⟨a', ea, en⟩ := pP_s (by omega) ek
          have : a = a' := Option.some.inj (c0.symm.trans ea)
          subst this
          refine ⟨(iN 1, iN (k + 1), h2), true, ?_, ⟨F.tr (b2.q.tr (fr68 c2)), Or.inl ⟨rfl, rfl, rfl, ek, fun i hi => (c3 i hi).trans (by rw [en i hi])⟩⟩, ef⟩
          unfold f90_23
          unfold bZ at ez
          simp (disch := omega) only [gT, nbeq, Option.isSome_some, Option.getD_some, Bool.and_true, Bool.true_and, Bool.and_self, mX_some, bS, bN_if, bN_01, i1_01, i0_01, if_true, if_false, Bool.false_eq_true, false_and, and_false, and_true, true_and, and_self, Bool.or_false, Bool.false_or, Bool.or_true, Bool.true_or, Bool.false_and, Bool.and_false, decide_true, decide_false, L0, L1, L2, L3, L4, L5, L6, L7, L8, L9, L10, L11, L12, L13, L14, L15, L16, L17, L18, L19, L20, L21, L22, L23, L24, L25, L27, L33, L39, L40, L45, L48, L57, L60, L72, L90, L97, L98, L99, L100, L121, L122, L242, L255, L256, L580, L600, L1000, L1584, L1000000, Ln1, iN_add, iN_and, iN_or, iN_nd, iN_shl, iN_shr, iN_cl, iN_in, iN_mul, k66 w2, r66_0 w2, r66_1 w2, r66_2 w2, r66_4 w2, k66 w3, r66_0 w3, r66_1 w3, r66_2 w3, r66_4 w3, k70 w3, r70_0 w3, r70_2 w3, ile_n, ieq_n, b1, b4, t71, ez, c1, bN_t]
    · have z1 : u1 = iN 0 := z1
      subst z1
      right
      refine ⟨.inl (iN (m + 1), u3), ?_, Or.inl ⟨rfl, u3, rfl, F⟩⟩
      unfold f90_23 f90_75
      simp only [gT, nbeq, Option.isSome_some, Option.getD_some, Bool.and_true, Bool.true_and, Bool.and_self, mX_some, bS, bN_if, bN_01, i1_01, i0_01, if_true, if_false, Bool.false_eq_true, false_and, and_false, and_true, true_and, and_self, Bool.or_false, Bool.false_or, Bool.or_true, Bool.true_or, Bool.false_and, Bool.and_false, decide_true, decide_false, L0, L1, L2, L3, L4, L5, L6, L7, L8, L9, L10, L11, L12, L13, L14, L15, L16, L17, L18, L19, L20, L21, L22, L23, L24, L25, L27, L33, L39, L40, L45, L48, L57, L60, L72, L90, L97, L98, L99, L100, L121, L122, L242, L255, L256, L580, L600, L1000, L1584, L1000000, Ln1, iN_add, iN_and, iN_or, iN_nd, iN_shl, iN_shr, iN_cl, iN_in, iN_mul]
      split <;> rfl) (fun x z hP => by
    obtain ⟨u1, u2, u3⟩ := z
    obtain ⟨F, ⟨rfl, z1, z2, z3, z4⟩ | ⟨rfl, z1⟩⟩ := hP
    · omega
    · have z1 : u1 = iN 0 := z1
      subst z1
      refine ⟨.inl (iN (m + 1), u3), ?_, Or.inl ⟨rfl, u3, rfl, F⟩⟩
      unfold f90_23 f90_75
      simp only [gT, nbeq, Option.isSome_some, Option.getD_some, Bool.and_true, Bool.true_and, Bool.and_self, mX_some, bS, bN_if, bN_01, i1_01, i0_01, if_true, if_false, Bool.false_eq_true, false_and, and_false, and_true, true_and, and_self, Bool.or_false, Bool.false_or, Bool.or_true, Bool.true_or, Bool.false_and, Bool.and_false, decide_true, decide_false, L0, L1, L2, L3, L4, L5, L6, L7, L8, L9, L10, L11, L12, L13, L14, L15, L16, L17, L18, L19, L20, L21, L22, L23, L24, L25, L27, L33, L39, L40, L45, L48, L57, L60, L72, L90, L97, L98, L99, L100, L121, L122, L242, L255, L256, L580, L600, L1000, L1584, L1000000, Ln1, iN_add, iN_and, iN_or, iN_nd, iN_shl, iN_shr, iN_cl, iN_in, iN_mul]
      split <;> rfl) (by omega) (x0 := true) (s := (iN 1, iN 0, h)) ⟨FQ.rfl, Or.inl ⟨rfl, rfl, rfl, by omega, hp⟩⟩
/-- what bait found: how many PIES, and which -/
def bRes (Df : (Nat → Nat) → Nat → Nat → AZ) (d c : Nat) (o : Option Nat) (C : Nat) (h' : mH) : Prop := ∀ m, o = some m → m ≤ 4 ∧ ∃ k, fz (bZ Df d c m) (pR m) 0 = some k ∧ ∀ i, i < m → mI h' C i = iN (pP m k i)
theorem t90 (w : Wd h) (H : LibS h la q) (W : QW q) (p : la + 7 ≤ 37) (hD : ∀ P m, aD q P m (Df P m)) (hd : d ≤ 20) (hc : c < 8) : ∃ h', f90 h 66 la (iN c) (iN d) = some (zN (fz (bM Df d c) 5 0), h') ∧ FQ h h' ∧ bRes Df d c (fz (bM Df d c) 5 0) 68 h' := by
  unfold f90
  simp only [L0, L1, L2, L3, L4, L5, L6, L7, L8, L9, L10, L11, L12, L13, L14, L15, L16, L17, L18, L19, L20, L21, L22, L23, L24, L25, L27, L33, L39, L40, L45, L48, L57, L60, L72, L90, L97, L98, L99, L100, L121, L122, L242, L255, L256, L580, L600, L1000, L1584, L1000000, Ln1, iN_add, iN_and, iN_or, iN_nd, iN_shl, iN_shr, iN_cl, iN_in, iN_mul]
  have := lp_run2 (body := f90_3 66 la (iN c) (iN d)) (R := fun k (_ : Unit) z => z.1 = iN k ∧ FQ h z.2) (Q := fun (o : Option Nat) r => r.1 = zN o ∧ FQ h r.2 ∧ bRes Df d c o 68 r.2) (go := fun n k _ => fz (bM Df d c) n k) 5 (fun n k x z hk hP => by
    obtain ⟨u1, u3⟩ := z
    obtain ⟨z1, F⟩ := hP
    have z1 : u1 = iN k := z1
    have F : FQ h u3 := F
    subst z1
    have w2 := w.q F
    obtain ⟨h1, a1, a2, a3⟩ := t4 (v := 0) (x := iN 0) (k68 w2) (by omega) rfl
    have F1 := F.tr (fr68 a2)
    have w3 := w.q F1
    have H3 : LibS h1 la q := H.st (fun i hi => F1.lo (by omega))
    obtain ⟨r, b1, b2⟩ := t90i (m := k) w3 H3 W p hD hd hc (by omega) (fun i hi => (a3 i (by omega)).trans (by rw [pP_0 k (by omega) i (by omega)]))
    have hbody : f90_3 66 la (iN c) (iN d) (iN k, u3) = some r := by
      unfold f90_3
      simp (disch := omega) only [gT, nbeq, Option.isSome_some, Option.getD_some, Bool.and_true, Bool.true_and, Bool.and_self, mX_some, bS, bN_if, bN_01, i1_01, i0_01, if_true, if_false, Bool.false_eq_true, false_and, and_false, and_true, true_and, and_self, Bool.or_false, Bool.false_or, Bool.or_true, Bool.true_or, Bool.false_and, Bool.and_false, decide_true, decide_false, L0, L1, L2, L3, L4, L5, L6, L7, L8, L9, L10, L11, L12, L13, L14, L15, L16, L17, L18, L19, L20, L21, L22, L23, L24, L25, L27, L33, L39, L40, L45, L48, L57, L60, L72, L90, L97, L98, L99, L100, L121, L122, L242, L255, L256, L580, L600, L1000, L1584, L1000000, Ln1, iN_add, iN_and, iN_or, iN_nd, iN_shl, iN_shr, iN_cl, iN_in, iN_mul, k66 w2, r66_0 w2, r66_1 w2, r66_2 w2, r66_4 w2, ilt_n, a1, b1]
    rcases b2 with ⟨c0, h2, rfl, c1⟩ | ⟨j, h2, c0, rfl, c1, c2⟩
    · left
      refine ⟨(iN (k + 1), h2), (), hbody, ⟨rfl, F1.tr c1⟩, ?_⟩
      show (if bM Df d c k = true then some k else fz (bM Df d c) n (k + 1)) = _
      unfold bM
      rw [c0]; rfl
    · right
      have e : fz (bM Df d c) (n + 1) k = some k := by
        show (if bM Df d c k = true then some k else fz (bM Df d c) n (k + 1)) = _
        rw [if_pos]
        unfold bM
        rw [c0]; rfl
      refine ⟨(iN k, h2), hbody, ?_, F1.tr c1, fun m hm => ?_⟩
      · show iN k = zN (fz (bM Df d c) (n + 1) k)
        rw [e]; rfl
      · rw [e] at hm
        have : k = m := Option.some.inj hm
        subst this
        exact ⟨by omega, j, c0, c2⟩) (fun x z hP => by
    obtain ⟨u1, u3⟩ := z
    obtain ⟨z1, F⟩ := hP
    have z1 : u1 = iN 5 := z1
    subst z1
    refine ⟨(jN, u3), ?_, rfl, F, fun m hm => by cases hm⟩
    unfold f90_3
    simp (disch := omega) only [gT, nbeq, Option.isSome_some, Option.getD_some, Bool.and_true, Bool.true_and, Bool.and_self, mX_some, bS, bN_if, bN_01, i1_01, i0_01, if_true, if_false, Bool.false_eq_true, false_and, and_false, and_true, true_and, and_self, Bool.or_false, Bool.false_or, Bool.or_true, Bool.true_or, Bool.false_and, Bool.and_false, decide_true, decide_false, L0, L1, L2, L3, L4, L5, L6, L7, L8, L9, L10, L11, L12, L13, L14, L15, L16, L17, L18, L19, L20, L21, L22, L23, L24, L25, L27, L33, L39, L40, L45, L48, L57, L60, L72, L90, L97, L98, L99, L100, L121, L122, L242, L255, L256, L580, L600, L1000, L1584, L1000000, Ln1, iN_add, iN_and, iN_or, iN_nd, iN_shl, iN_shr, iN_cl, iN_in, iN_mul, ilt_p]) (by omega) (x0 := ()) (s := (iN 0, h)) ⟨rfl, FQ.rfl⟩
  obtain ⟨⟨r, h'⟩, r1, r2, r3, r4⟩ := this
  have r2' : r = zN (fz (bM Df d c) 5 0) := r2
  rw [r2'] at r1
  exact ⟨h', r1, r3, r4⟩
end BT
