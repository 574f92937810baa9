/-! after -/
theorem nbf_or (s : LSt) : ∀ n b, up (nbf s) n b = b ||| up (nbf s) n 0 := by
  intro n
  induction n with
  | zero => intro b; simp [up]
  | succ n ih =>
    intro b
    simp only [up]
    rw [ih b]
    unfold nbf
    split
    · rw [Nat.or_assoc]
    · rfl
theorem t294 {h : mH} {q : LQ} {s : LSt} (w : Wd h) (C : MLS h s) (S : SW q s) : f294 h 193 = some (iN (up (nbf s) 6 0)) := by
  unfold f294
  refine lp_up (fun k x => (iN x, iN k)) (nbf s) iN (fun _ _ => True) 6 (a0 := 0) trivial (fun _ _ _ _ => trivial) ?_ ?_ (by omega)
  · intro k x hk _
    have e := C.1 k hk
    have h9 := S.1 k hk
    unfold f294_4 f294_27 nbf
    simp (disch := omega) only [gT, nbeq, Option.isSome_some, Option.getD_some, Bool.and_true, Bool.true_and, Bool.and_self, mX_some, bS, bN_if, bN_01, i1_01, i0_01, if_true, if_false, Bool.false_eq_true, false_and, and_false, and_true, true_and, and_self, Bool.or_false, Bool.false_or, Bool.or_true, Bool.true_or, Bool.false_and, Bool.and_false, decide_true, decide_false, L0, L1, L2, L3, L4, L5, L6, L7, L8, L9, L10, L11, L12, L13, L14, L15, L16, L17, L18, L19, L20, L21, L22, L23, L24, L25, L27, L33, L39, L40, L45, L48, L57, L60, L72, L90, L97, L98, L99, L100, L121, L122, L242, L255, L256, L580, L600, L1000, L1584, L1000000, Ln1, iN_add, iN_and, iN_or, iN_nd, iN_shl, iN_shr, iN_cl, iN_in, iN_mul, k193 w, r193_1 w, r193_2 w, r193_3 w, r193_4 w, r193_5 w, r193_6 w, r193_7 w, r193_8 w, r193_18 w, r193_19 w, r193_32 w, r193_33 w, r193_34 w, r193_36 w, r193_38 w, r193_39 w, r193_40 w, r193_42 w, r193_45 w, r193_46 w, r193_47 w, r193_48 w, r193_49 w, r193_50 w, k204 w, ile_n, e, ieq_d]
    split
    · rfl
    · rw [Nat.or_zero]
  · intro x _
    unfold f294_4
    simp (disch := omega) only [gT, nbeq, Option.isSome_some, Option.getD_some, Bool.and_true, Bool.true_and, Bool.and_self, mX_some, bS, bN_if, bN_01, i1_01, i0_01, if_true, if_false, Bool.false_eq_true, false_and, and_false, and_true, true_and, and_self, Bool.or_false, Bool.false_or, Bool.or_true, Bool.true_or, Bool.false_and, Bool.and_false, decide_true, decide_false, L0, L1, L2, L3, L4, L5, L6, L7, L8, L9, L10, L11, L12, L13, L14, L15, L16, L17, L18, L19, L20, L21, L22, L23, L24, L25, L27, L33, L39, L40, L45, L48, L57, L60, L72, L90, L97, L98, L99, L100, L121, L122, L242, L255, L256, L580, L600, L1000, L1584, L1000000, Ln1, iN_add, iN_and, iN_or, iN_nd, iN_shl, iN_shr, iN_cl, iN_in, iN_mul, ile_p]
abbrev ZA : Type := Int32 × Int32 × Int32 × Int32 × Int32 × Int32 × Int32 × mH
/-- the reference's loop at the k-th DEED, c: it goes on -/
def RunZ (h : mH) (q : LQ) (k : Nat) (c : Nat) (u : XSt) (z : ZA) : Prop := ∃ g, z = (iN u.2.2.2.2.2, zN u.2.1, iN u.2.2.1, zN u.2.2.2.2.1, iN u.2.2.2.1, iN c, iN k, g) ∧ FM h g ∧ MLS g u.1 ∧ SW q u.1 ∧ KW q u.1 ∧ u.2.2.1 ≤ 8 ∧ (∀ j, u.2.2.2.2.1 = some j → j < 41) ∧ (u.2.2.2.2.1 = none → sRd u.1 = 0)
theorem act_rd {q : LQ} {s s' : LSt} {k x y : Nat} (h : actS q s k x y = some s') : (k = 0 → sRd s' ≠ 0) ∧ (k ≠ 0 → sRd s' = sRd s) := by
  unfold actS at h
  constructor
  · intro e
    rw [if_pos e] at h
    split at h
    · cases h
      show sRd s ||| 1 <<< x ≠ 0
      intro e2
      have := congrArg (fun z => z.testBit x) e2
      simp only [Nat.testBit_or, tb_sh, Nat.zero_testBit] at this
      simp at this
    · cases h
  · intro e
    rw [if_neg e] at h
    split at h
    · split at h
      · cases h; rfl
      · cases h
    · split at h
      · cases h; rfl
      · split at h
        · split at h
          · cases h; rfl
          · cases h
        · split at h
          · split at h
            · cases h; rfl
            · cases h
          · cases h; rfl
section ML
variable {h : mH} {q : LQ} {y : YQ}
theorem after_in (H : MoS h q) (W : QW q) (Y : MY h y) (V : YW y) {k : Nat} {u : XSt} {z : ZA} {l3 : Int32} (hk : k ≤ y.1) (Z : RunZ h q k 1 u z) : ∃ z', f293_47 193 l3 z = some (.inl z') ∧ ((k = y.1 ∨ yAct q y k u.1 = none) ∧ RunZ h q (k + 1) 0 (ntc q u) z' ∨ ∃ s', k < y.1 ∧ yAct q y k u.1 = some s' ∧ RunZ h q (k + 1) 1 (s', (ntc q u).2.1, (ntc q u).2.2.1, (ntc q u).2.2.2.1, (if y.2.1 k = 0 ∧ u.2.2.2.2.1 = none then some k else u.2.2.2.2.1), u.2.2.2.2.2 + if y.2.1 k = 2 then 1 else 0) z') := by
  have hy := V.1
  have hm := W.1.2.1
  obtain ⟨g, rfl, z1, z2, z3, z4, z5, z6, z7⟩ := Z
  have H1 := H.fm z1
  have Y1 := Y.fm z1
  have w1 := H1.1
  have hr8 := z3.rd8 W
  -- the loop over PEOPLE, given what comes behind it
  have inner : ∀ (out : Option Nat × Nat → ZA), (∀ b : Option Nat × Nat, (mX (σ := Int32 × Int32 × Int32) ((f294 g 193).bind (fun r3 => (f210 g 193).bind (fun r4 => if r4 ≤ iN k then f293_137 g 193 l3 (iN u.2.2.2.2.2) (zN b.1) (iN b.2) (zN u.2.2.2.2.1) (iN u.2.2.2.1 ||| r3) (iN k) else (f215 g 193 (iN k)).bind (fun r6 => if r6.1 = iN 0 then f293_137 r6.2 193 l3 (iN u.2.2.2.2.2) (zN b.1) (iN b.2) (zN u.2.2.2.2.1) (iN u.2.2.2.1 ||| r3) (iN k) else f293_138 r6.2 193 l3 (iN u.2.2.2.2.2) (zN b.1) (iN b.2) (zN u.2.2.2.2.1) (iN u.2.2.2.1 ||| r3) (iN k) (iN 1)))))) = some (.inr (.inl (out b)))) → f293_47 193 l3 (iN u.2.2.2.2.2, zN u.2.1, iN u.2.2.1, zN u.2.2.2.2.1, iN u.2.2.2.1, iN 1, iN k, g) = some (.inl (out (up (ngf q u.1) (q 0 1) (u.2.1, u.2.2.1)))) := by
    intro out hout
    unfold f293_47
    simp (disch := omega) only [gT, nbeq, Option.isSome_some, Option.getD_some, Bool.and_true, Bool.true_and, Bool.and_self, mX_some, bS, bN_if, bN_01, i1_01, i0_01, if_true, if_false, Bool.false_eq_true, false_and, and_false, and_true, true_and, and_self, Bool.or_false, Bool.false_or, Bool.or_true, Bool.true_or, Bool.false_and, Bool.and_false, decide_true, decide_false, L0, L1, L2, L3, L4, L5, L6, L7, L8, L9, L10, L11, L12, L13, L14, L15, L16, L17, L18, L19, L20, L21, L22, L23, L24, L25, L27, L33, L39, L40, L45, L48, L57, L60, L72, L90, L97, L98, L99, L100, L121, L122, L242, L255, L256, L580, L600, L1000, L1584, L1000000, Ln1, iN_add, iN_and, iN_or, iN_nd, iN_shl, iN_shr, iN_cl, iN_in, iN_mul, ieq_n]
    refine lp_up (fun p (b : Option Nat × Nat) => (zN b.1, iN b.2, iN p)) (ngf q u.1) (fun b => Sum.inl (out b)) (fun _ b => b.2 ≤ 8) (q 0 1) (a0 := (u.2.1, u.2.2.1)) z5 ?_ ?_ ?_ (by omega)
    · intro p b hp hb
      unfold ngf
      split
      · exact hb
      · exact pc_le _
    · intro p b hp hb
      have hp8 := pc_le (ups (knB u.1 p) (q 0 0))
      have hu := ups_lt (knB u.1 p) (q 0 0)
      have hu8 := pw_8 W.1.1
      unfold f293_55 f293_89
      simp (disch := omega) only [gT, nbeq, Option.isSome_some, Option.getD_some, Bool.and_true, Bool.true_and, Bool.and_self, mX_some, bS, bN_if, bN_01, i1_01, i0_01, if_true, if_false, Bool.false_eq_true, false_and, and_false, and_true, true_and, and_self, Bool.or_false, Bool.false_or, Bool.or_true, Bool.true_or, Bool.false_and, Bool.and_false, decide_true, decide_false, L0, L1, L2, L3, L4, L5, L6, L7, L8, L9, L10, L11, L12, L13, L14, L15, L16, L17, L18, L19, L20, L21, L22, L23, L24, L25, L27, L33, L39, L40, L45, L48, L57, L60, L72, L90, L97, L98, L99, L100, L121, L122, L242, L255, L256, L580, L600, L1000, L1584, L1000000, Ln1, iN_add, iN_and, iN_or, iN_nd, iN_shl, iN_shr, iN_cl, iN_in, iN_mul, k193 w1, r193_1 w1, r193_2 w1, r193_3 w1, r193_4 w1, r193_5 w1, r193_6 w1, r193_7 w1, r193_8 w1, r193_18 w1, r193_19 w1, r193_32 w1, r193_33 w1, r193_34 w1, r193_36 w1, r193_38 w1, r193_39 w1, r193_40 w1, r193_42 w1, r193_45 w1, r193_46 w1, r193_47 w1, r193_48 w1, r193_49 w1, r193_50 w1, H1.m, ile_n, t231 w1 W z2 z3 z4, t244, t196]
      unfold ngf knS
      by_cases e : pc (ups (knB u.1 p) (q 0 0)) ≤ b.2
      · rw [ile_p (by omega) (by omega) e, if_pos e, Nat.max_eq_left e]
      · rw [ile_n (by omega) (by omega) (by omega), if_neg e, Nat.max_eq_right (by omega)]; rfl
    · intro b hb
      unfold f293_55
      simp (disch := omega) only [gT, nbeq, Option.isSome_some, Option.getD_some, Bool.and_true, Bool.true_and, Bool.and_self, mX_some, bS, bN_if, bN_01, i1_01, i0_01, if_true, if_false, Bool.false_eq_true, false_and, and_false, and_true, true_and, and_self, Bool.or_false, Bool.false_or, Bool.or_true, Bool.true_or, Bool.false_and, Bool.and_false, decide_true, decide_false, L0, L1, L2, L3, L4, L5, L6, L7, L8, L9, L10, L11, L12, L13, L14, L15, L16, L17, L18, L19, L20, L21, L22, L23, L24, L25, L27, L33, L39, L40, L45, L48, L57, L60, L72, L90, L97, L98, L99, L100, L121, L122, L242, L255, L256, L580, L600, L1000, L1584, L1000000, Ln1, iN_add, iN_and, iN_or, iN_nd, iN_shl, iN_shr, iN_cl, iN_in, iN_mul, k193 w1, r193_1 w1, r193_2 w1, r193_3 w1, r193_4 w1, r193_5 w1, r193_6 w1, r193_7 w1, r193_8 w1, r193_18 w1, r193_19 w1, r193_32 w1, r193_33 w1, r193_34 w1, r193_36 w1, r193_38 w1, r193_39 w1, r193_40 w1, r193_42 w1, r193_45 w1, r193_46 w1, r193_47 w1, r193_48 w1, r193_49 w1, r193_50 w1, H1.m, ile_p]
      exact hout b
  have zer : f294 g 193 = some (iN (up (nbf u.1) 6 0)) := t294 w1 z2 z3
  have bor : u.2.2.2.1 ||| up (nbf u.1) 6 0 = up (nbf u.1) 6 u.2.2.2.1 := (nbf_or u.1 6 u.2.2.2.1).symm
  have ng8 : (up (ngf q u.1) (q 0 1) (u.2.1, u.2.2.1)).2 ≤ 8 := up_inv (f := ngf q u.1) (I := fun _ b => b.2 ≤ 8) (n := q 0 1) (fun p b _ hb => by
    unfold ngf
    split
    · exact hb
    · exact pc_le _) z5 _ (Nat.le_refl _)
  -- it can't be
  have stop : ∀ g', FM h g' → MLS g' u.1 → f293_47 193 l3 (iN u.2.2.2.2.2, zN u.2.1, iN u.2.2.1, zN u.2.2.2.2.1, iN u.2.2.2.1, iN 1, iN k, g) = some (.inl (iN u.2.2.2.2.2, zN (up (ngf q u.1) (q 0 1) (u.2.1, u.2.2.1)).1, iN (up (ngf q u.1) (q 0 1) (u.2.1, u.2.2.1)).2, zN u.2.2.2.2.1, iN (up (nbf u.1) 6 u.2.2.2.1), iN 0, iN (k + 1), g')) → ∃ z', f293_47 193 l3 (iN u.2.2.2.2.2, zN u.2.1, iN u.2.2.1, zN u.2.2.2.2.1, iN u.2.2.2.1, iN 1, iN k, g) = some (.inl z') ∧ RunZ h q (k + 1) 0 (ntc q u) z' := fun g' F1 C1 e => ⟨_, e, g', rfl, F1, C1, z3, z4, ng8, z6, z7⟩
  have fin : ∀ g', MLS g' u.1 → Wd g' → ∀ b : Option Nat × Nat, f293_137 g' 193 l3 (iN u.2.2.2.2.2) (zN b.1) (iN b.2) (zN u.2.2.2.2.1) (iN (up (nbf u.1) 6 u.2.2.2.1)) (iN k) = some (.inl (iN u.2.2.2.2.2, zN b.1, iN b.2, zN u.2.2.2.2.1, iN (up (nbf u.1) 6 u.2.2.2.1), iN 0, iN (k + 1), g')) := by
    intro g' C1 w2 b
    have e26 := C1.2.2.2.1
    unfold f293_137 f293_138 f293_162 f293_163 f293_184 f293_186
    simp (disch := omega) only [gT, nbeq, Option.isSome_some, Option.getD_some, Bool.and_true, Bool.true_and, Bool.and_self, mX_some, bS, bN_if, bN_01, i1_01, i0_01, if_true, if_false, Bool.false_eq_true, false_and, and_false, and_true, true_and, and_self, Bool.or_false, Bool.false_or, Bool.or_true, Bool.true_or, Bool.false_and, Bool.and_false, decide_true, decide_false, L0, L1, L2, L3, L4, L5, L6, L7, L8, L9, L10, L11, L12, L13, L14, L15, L16, L17, L18, L19, L20, L21, L22, L23, L24, L25, L27, L33, L39, L40, L45, L48, L57, L60, L72, L90, L97, L98, L99, L100, L121, L122, L242, L255, L256, L580, L600, L1000, L1584, L1000000, Ln1, iN_add, iN_and, iN_or, iN_nd, iN_shl, iN_shr, iN_cl, iN_in, iN_mul, ieq_p, Nat.add_zero, k193 w2, r193_1 w2, r193_2 w2, r193_3 w2, r193_4 w2, r193_5 w2, r193_6 w2, r193_7 w2, r193_8 w2, r193_18 w2, r193_19 w2, r193_32 w2, r193_33 w2, r193_34 w2, r193_36 w2, r193_38 w2, r193_39 w2, r193_40 w2, r193_42 w2, r193_45 w2, r193_46 w2, r193_47 w2, r193_48 w2, r193_49 w2, r193_50 w2, e26]
    rw [zj (fun v hv => by have := z6 v hv; omega)]
    cases hfr : u.2.2.2.2.1 with
    | none => simp only [Option.isSome_none, gT, nbeq, Option.isSome_some, Option.getD_some, Bool.and_true, Bool.true_and, Bool.and_self, mX_some, bS, bN_if, bN_01, i1_01, i0_01, if_true, if_false, Bool.false_eq_true, false_and, and_false, and_true, true_and, and_self, Bool.or_false, Bool.false_or, Bool.or_true, Bool.true_or, Bool.false_and, Bool.and_false, decide_true, decide_false]; rw [ieq_p (z7 hfr)]
    | some v => simp only [gT, nbeq, Option.isSome_some, Option.getD_some, Bool.and_true, Bool.true_and, Bool.and_self, mX_some, bS, bN_if, bN_01, i1_01, i0_01, if_true, if_false, Bool.false_eq_true, false_and, and_false, and_true, true_and, and_self, Bool.or_false, Bool.false_or, Bool.or_true, Bool.true_or, Bool.false_and, Bool.and_false, decide_true, decide_false]
  by_cases hky : k = y.1
  · obtain ⟨z', e1, e2⟩ := stop g z1 z2 (inner (fun b => (iN u.2.2.2.2.2, zN b.1, iN b.2, zN u.2.2.2.2.1, iN (up (nbf u.1) 6 u.2.2.2.1), iN 0, iN (k + 1), g)) (fun b => by
      simp (disch := omega) only [gT, nbeq, Option.isSome_some, Option.getD_some, Bool.and_true, Bool.true_and, Bool.and_self, mX_some, bS, bN_if, bN_01, i1_01, i0_01, if_true, if_false, Bool.false_eq_true, false_and, and_false, and_true, true_and, and_self, Bool.or_false, Bool.false_or, Bool.or_true, Bool.true_or, Bool.false_and, Bool.and_false, decide_true, decide_false, zer, t210 w1 Y1, iN_or, bor, ile_p, fin g z2 w1 b]))
    exact ⟨z', e1, Or.inl ⟨Or.inl hky, e2⟩⟩
  · have hk2 : k < y.1 := by omega
    obtain ⟨h', f1, f2, f3⟩ := t215 H1 W Y1 V z2 z3 z4 hk2
    have H2 := H1.fm f2
    have w2 := H2.1
    cases hya : yAct q y k u.1 with
    | none =>
      rw [hya] at f1 f3
      obtain ⟨z', e1, e2⟩ := stop h' (z1.tr f2) f3 (inner (fun b => (iN u.2.2.2.2.2, zN b.1, iN b.2, zN u.2.2.2.2.1, iN (up (nbf u.1) 6 u.2.2.2.1), iN 0, iN (k + 1), h')) (fun b => by
        simp (disch := omega) only [gT, nbeq, Option.isSome_some, Option.getD_some, Bool.and_true, Bool.true_and, Bool.and_self, mX_some, bS, bN_if, bN_01, i1_01, i0_01, if_true, if_false, Bool.false_eq_true, false_and, and_false, and_true, true_and, and_self, Bool.or_false, Bool.false_or, Bool.or_true, Bool.true_or, Bool.false_and, Bool.and_false, decide_true, decide_false, zer, t210 w1 Y1, iN_or, bor, ile_n, f1, Option.isSome_none, fin h' f3 w2 b]))
      exact ⟨z', e1, Or.inl ⟨Or.inr rfl, e2⟩⟩
    | some s' =>
      rw [hya] at f1 f3
      have hs := SW.act W z3 (V.dOk hk2)
      have hK := z4.act (y.2.1 k) (yA y k) (yB y k) W
      change SW q ((yAct q y k u.1).getD u.1) at hs
      change KW q ((yAct q y k u.1).getD u.1) at hK
      rw [hya] at hs hK
      obtain ⟨rd0, rd1⟩ := act_rd (s' := s') hya
      have hs8 : sRd s' < 256 := hs.rd8 W
      obtain ⟨d0, d1, d2⟩ := t211 w2 (Y1.fm f2) V hk2
      have hkd : y.2.1 k ≤ 5 := (V.2 k hk2).1
      have e26 : mI h' 193 26 = iN (sRd s') := f3.2.2.2.1
      -- behind the deed
      have beh : ∀ b : Option Nat × Nat, f293_138 h' 193 l3 (iN u.2.2.2.2.2) (zN b.1) (iN b.2) (zN u.2.2.2.2.1) (iN (up (nbf u.1) 6 u.2.2.2.1)) (iN k) (iN 1) = some (.inl (iN (u.2.2.2.2.2 + if y.2.1 k = 2 then 1 else 0), zN b.1, iN b.2, zN (if y.2.1 k = 0 ∧ u.2.2.2.2.1 = none then some k else u.2.2.2.2.1), iN (up (nbf u.1) 6 u.2.2.2.1), iN 1, iN (k + 1), h')) := by
        intro b
        have b163 : ∀ d, f293_163 h' 193 l3 (zN b.1) (iN b.2) (zN u.2.2.2.2.1) (iN (up (nbf u.1) 6 u.2.2.2.1)) (iN 1) (iN k) (iN u.2.2.2.2.2) (iN d) = some (.inl (iN (u.2.2.2.2.2 + d), zN b.1, iN b.2, zN (if y.2.1 k = 0 ∧ u.2.2.2.2.1 = none then some k else u.2.2.2.2.1), iN (up (nbf u.1) 6 u.2.2.2.1), iN 1, iN (k + 1), h')) := by
          intro d
          unfold f293_163 f293_184 f293_186
          simp (disch := omega) only [gT, nbeq, Option.isSome_some, Option.getD_some, Bool.and_true, Bool.true_and, Bool.and_self, mX_some, bS, bN_if, bN_01, i1_01, i0_01, if_true, if_false, Bool.false_eq_true, false_and, and_false, and_true, true_and, and_self, Bool.or_false, Bool.false_or, Bool.or_true, Bool.true_or, Bool.false_and, Bool.and_false, decide_true, decide_false, L0, L1, L2, L3, L4, L5, L6, L7, L8, L9, L10, L11, L12, L13, L14, L15, L16, L17, L18, L19, L20, L21, L22, L23, L24, L25, L27, L33, L39, L40, L45, L48, L57, L60, L72, L90, L97, L98, L99, L100, L121, L122, L242, L255, L256, L580, L600, L1000, L1584, L1000000, Ln1, iN_add, iN_and, iN_or, iN_nd, iN_shl, iN_shr, iN_cl, iN_in, iN_mul, k193 w2, r193_1 w2, r193_2 w2, r193_3 w2, r193_4 w2, r193_5 w2, r193_6 w2, r193_7 w2, r193_8 w2, r193_18 w2, r193_19 w2, r193_32 w2, r193_33 w2, r193_34 w2, r193_36 w2, r193_38 w2, r193_39 w2, r193_40 w2, r193_42 w2, r193_45 w2, r193_46 w2, r193_47 w2, r193_48 w2, r193_49 w2, r193_50 w2, e26]
          rw [zj (fun v hv => by have := z6 v hv; omega)]
          cases hfr : u.2.2.2.2.1 with
          | none =>
            simp only [Option.isSome_none, gT, nbeq, Option.isSome_some, Option.getD_some, Bool.and_true, Bool.true_and, Bool.and_self, mX_some, bS, bN_if, bN_01, i1_01, i0_01, if_true, if_false, Bool.false_eq_true, false_and, and_false, and_true, true_and, and_self, Bool.or_false, Bool.false_or, Bool.or_true, Bool.true_or, Bool.false_and, Bool.and_false, decide_true, decide_false]
            by_cases e : y.2.1 k = 0
            · rw [ieq_n (by omega) (by omega) (rd0 e), if_pos e]; rfl
            · rw [ieq_p (by rw [rd1 e]; exact z7 hfr), if_neg e]
          | some v => simp only [gT, nbeq, Option.isSome_some, Option.getD_some, Bool.and_true, Bool.true_and, Bool.and_self, mX_some, bS, bN_if, bN_01, i1_01, i0_01, if_true, if_false, Bool.false_eq_true, false_and, and_false, and_true, true_and, and_self, Bool.or_false, Bool.false_or, Bool.or_true, Bool.true_or, Bool.false_and, Bool.and_false, decide_true, decide_false, reduceCtorEq]
        unfold f293_138 f293_162
        simp (disch := omega) only [gT, nbeq, Option.isSome_some, Option.getD_some, Bool.and_true, Bool.true_and, Bool.and_self, mX_some, bS, bN_if, bN_01, i1_01, i0_01, if_true, if_false, Bool.false_eq_true, false_and, and_false, and_true, true_and, and_self, Bool.or_false, Bool.false_or, Bool.or_true, Bool.true_or, Bool.false_and, Bool.and_false, decide_true, decide_false, L0, L1, L2, L3, L4, L5, L6, L7, L8, L9, L10, L11, L12, L13, L14, L15, L16, L17, L18, L19, L20, L21, L22, L23, L24, L25, L27, L33, L39, L40, L45, L48, L57, L60, L72, L90, L97, L98, L99, L100, L121, L122, L242, L255, L256, L580, L600, L1000, L1584, L1000000, Ln1, iN_add, iN_and, iN_or, iN_nd, iN_shl, iN_shr, iN_cl, iN_in, iN_mul, k193 w2, r193_1 w2, r193_2 w2, r193_3 w2, r193_4 w2, r193_5 w2, r193_6 w2, r193_7 w2, r193_8 w2, r193_18 w2, r193_19 w2, r193_32 w2, r193_33 w2, r193_34 w2, r193_36 w2, r193_38 w2, r193_39 w2, r193_40 w2, r193_42 w2, r193_45 w2, r193_46 w2, r193_47 w2, r193_48 w2, r193_49 w2, r193_50 w2, ieq_n, d0]
        by_cases e : y.2.1 k = 2
        · rw [ieq_p e, b163 1, if_pos e]
        · rw [ieq_n (by omega) (by omega) e, b163 0, if_neg e]
      refine ⟨_, inner (fun b => (iN (u.2.2.2.2.2 + if y.2.1 k = 2 then 1 else 0), zN b.1, iN b.2, zN (if y.2.1 k = 0 ∧ u.2.2.2.2.1 = none then some k else u.2.2.2.2.1), iN (up (nbf u.1) 6 u.2.2.2.1), iN 1, iN (k + 1), h')) (fun b => by
        simp (disch := omega) only [gT, nbeq, Option.isSome_some, Option.getD_some, Bool.and_true, Bool.true_and, Bool.and_self, mX_some, bS, bN_if, bN_01, i1_01, i0_01, if_true, if_false, Bool.false_eq_true, false_and, and_false, and_true, true_and, and_self, Bool.or_false, Bool.false_or, Bool.or_true, Bool.true_or, Bool.false_and, Bool.and_false, decide_true, decide_false, zer, t210 w1 Y1, iN_or, bor, ile_n, f1, beh b]), Or.inr ⟨s', hk2, rfl, h', rfl, z1.tr f2, f3, hs, hK, ng8, fun j hj => ?_, fun e => ?_⟩⟩
      · change (if y.2.1 k = 0 ∧ u.2.2.2.2.1 = none then some k else u.2.2.2.2.1) = some j at hj
        split at hj
        · cases hj; omega
        · exact z6 j hj
      · change (if y.2.1 k = 0 ∧ u.2.2.2.2.1 = none then some k else u.2.2.2.2.1) = none at e
        split at e
        · cases e
        next hc =>
          show sRd s' = 0
          rw [rd1 (fun e0 => hc ⟨e0, e⟩)]
          exact z7 e
end ML
