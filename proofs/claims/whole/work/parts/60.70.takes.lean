/-! the class's lines, taken -/
theorem YrS.fr {P : Nat → Bool} {h h' : mH} {a : Nat} {y : YQ} (H : YrS h a y) (x : Fr P h h') (p : ∀ i, i < 4 → P (a + i) = false) : YrS h' a y := H.st (fun i hi => x.st (p i hi))
theorem LgS.fr {P : Nat → Bool} {h h' : mH} {a : Nat} {g : GQ} (H : LgS h a g) (x : Fr P h h') (p : ∀ i, i < 3 → P (a + i) = false) : LgS h' a g := H.st (fun i hi => x.st (p i hi))
theorem LibS.u {h : mH} {a : Nat} {q : LQ} (H : LibS h a q) {i j v : Nat} (hi : i < 6) : LibS (mSI h (a + 1 + i) j (iN v)) a (u2 q (i + 1) j v) := by
  refine ⟨H.1, ⟨?_, ?_, ?_⟩, fun i' hi' j' hj' => ?_⟩
  · rw [si_ne _ _ _ _ _ _ (by omega), u2_n1 (by omega)]; exact H.2.1.1
  · rw [si_ne _ _ _ _ _ _ (by omega), u2_n1 (by omega)]; exact H.2.1.2.1
  · rw [si_ne _ _ _ _ _ _ (by omega), u2_n1 (by omega)]; exact H.2.1.2.2
  · by_cases e : i' = i
    · subst e
      by_cases e2 : j' = j
      · subst e2; rw [si_eq, u2_eq]
      · rw [si_nk _ _ _ _ _ _ e2, u2_n2 e2]; exact H.2.2 i' hi' j' hj'
    · rw [si_ne _ _ _ _ _ _ (by omega), u2_n1 (by omega)]; exact H.2.2 i' hi' j' hj'
theorem LibS.u0 {h : mH} {a : Nat} {q : LQ} (H : LibS h a q) {k v : Nat} (hk : k < 3) : LibS (mSI h a (6 + k) (iN v)) a (u2 q 0 k v) := by
  refine ⟨H.1, ⟨?_, ?_, ?_⟩, fun i' hi' j' hj' => ?_⟩
  · by_cases e : k = 0
    · subst e; rw [si_eq, u2_eq]
    · rw [si_nk _ _ _ _ _ _ (by omega), u2_n2 (by omega)]; exact H.2.1.1
  · by_cases e : k = 1
    · subst e; rw [si_eq, u2_eq]
    · rw [si_nk _ _ _ _ _ _ (by omega), u2_n2 (by omega)]; exact H.2.1.2.1
  · by_cases e : k = 2
    · subst e; rw [si_eq, u2_eq]
    · rw [si_nk _ _ _ _ _ _ (by omega), u2_n2 (by omega)]; exact H.2.1.2.2
  · rw [si_ne _ _ _ _ _ _ (by omega), u2_n1 (by omega)]; exact H.2.2 i' hi' j' hj'
theorem YrS.ad {h : mH} {a : Nat} {y : YQ} (H : YrS h a y) {k : Nat} {o1 o2 : Option Nat} : YrS (mSI (mSI (mSI (mSI h (a + 1) y.1 (iN k)) (a + 2) y.1 (zN o1)) (a + 3) y.1 (zN o2)) a 3 (iN (y.1 + 1))) a (adY y k o1 o2) := by
  refine ⟨H.1, by rw [si_eq]; rfl, fun j hj => ?_⟩
  have hj : j < y.1 + 1 := hj
  show mI _ (a + 1) j = iN (ud y.2.1 y.1 k j) ∧ mI _ (a + 2) j = zN (ud y.2.2.1 y.1 o1 j) ∧ mI _ (a + 3) j = zN (ud y.2.2.2 y.1 o2 j)
  by_cases e : j = y.1
  · subst e
    rw [ud_eq, ud_eq, ud_eq]
    refine ⟨?_, ?_, ?_⟩
    · simp (disch := omega) only [si_ne, si_nk, si_eq]
    · simp (disch := omega) only [si_ne, si_nk, si_eq]
    · simp (disch := omega) only [si_ne, si_nk, si_eq]
  · rw [ud_ne _ _ e, ud_ne _ _ e, ud_ne _ _ e]
    have z := H.2.2 j (by omega)
    refine ⟨?_, ?_, ?_⟩
    · simp (disch := omega) only [si_ne, si_nk, si_eq]; exact z.1
    · simp (disch := omega) only [si_ne, si_nk, si_eq]; exact z.2.1
    · simp (disch := omega) only [si_ne, si_nk, si_eq]; exact z.2.2
theorem LgS.ad {h : mH} {a : Nat} {g : GQ} (H : LgS h a g) {k v : Nat} : LgS (mSI (mSI (mSI h (a + 1) g.1 (iN (12 + k))) (a + 2) g.1 (iN v)) a 2 (iN (g.1 + 1))) a (adG g k v) := by
  refine ⟨H.1, by rw [si_eq]; rfl, fun j hj => ?_⟩
  have hj : j < g.1 + 1 := hj
  show mI _ (a + 1) j = iN (12 + ud g.2.1 g.1 k j) ∧ mI _ (a + 2) j = iN (ud g.2.2 g.1 v j)
  by_cases e : j = g.1
  · subst e
    rw [ud_eq, ud_eq]
    refine ⟨?_, ?_⟩
    · simp (disch := omega) only [si_ne, si_nk, si_eq]
    · simp (disch := omega) only [si_ne, si_nk, si_eq]
  · rw [ud_ne _ _ e, ud_ne _ _ e]
    have z := H.2.2 j (by omega)
    refine ⟨?_, ?_⟩
    · simp (disch := omega) only [si_ne, si_nk, si_eq]; exact z.1
    · simp (disch := omega) only [si_ne, si_nk, si_eq]; exact z.2
/-- the FAULT as the parser keeps it -/
def FCl (h : mH) : FT → Prop
  | none => mI h 37 3 = iN 0 ∧ mI h 37 4 = jN
  | some x => mI h 37 3 = iN x.1 ∧ mI h 37 4 = iN x.2
def FTW (f : FT) : Prop := ∀ k pl, f = some (k, pl) → 2 ≤ k ∧ k ≤ 4 ∧ pl ≤ 600
theorem FTW.nt {ok : Bool} {k pl : Nat} {f : FT} (F : FTW f) (h : 2 ≤ k ∧ k ≤ 4 ∧ pl ≤ 600) : FTW (nt ok k pl f) := by
  intro k' pl' e
  cases ok with
  | true => exact F k' pl' e
  | false =>
    cases f with
    | none =>
      have e2 := Option.some.inj e
      have e3 : k = k' := congrArg Prod.fst e2
      have e4 : pl = pl' := congrArg Prod.snd e2
      subst e3; subst e4; exact h
    | some x => exact F k' pl' e
def CC (h : mH) (c : CQ) (f : FT) : Prop := Wd h ∧ LibS h 38 c.1 ∧ YrS h 45 c.2.2.1 ∧ LgS h 49 c.2.2.2 ∧ mI h 37 9 = iN c.2.1.1 ∧ mI h 37 10 = iN c.2.1.2 ∧ FCl h f
def LC (h : mH) (s0 : Nat) (n1 n2 : Option Nat) (s1 s2 : Nat) : Prop := mI h 37 8 = iN s0 ∧ mI h 54 0 = zN n1 ∧ mI h 54 1 = zN n2 ∧ (n1 ≠ none → mI h 55 0 = iN s1) ∧ (n2 ≠ none → mI h 55 1 = iN s2)
def p37 (x : Nat) : Bool := Nat.beq x 37
def pPr (x : Nat) : Bool := pRg 37 15 x
theorem p37_Pr : ∀ x, p37 x = true → pPr x = true := fun x h => by
  have : x = 37 := Nat.eq_of_beq_eq_true h
  rw [this]; decide
section CTK
variable {h : mH} {c : CQ} {f : FT} {s0 s1 s2 : Nat} {n1 n2 : Option Nat}
theorem CC.fr {h' : mH} {P : Nat → Bool} (C : CC h c f) (x : Fr P h h') (p : ∀ i, 37 ≤ i → i < 52 → P i = false) : CC h' c f := by
  obtain ⟨w, cL, cY, cG, cA, cB, cF⟩ := C
  have e := x.i (p 37 (by decide) (by decide))
  refine ⟨w.fr x, cL.fr x (fun i hi => p _ (by omega) (by omega)), cY.fr x (fun i hi => p _ (by omega) (by omega)), cG.fr x (fun i hi => p _ (by omega) (by omega)), (e 9).trans cA, (e 10).trans cB, ?_⟩
  cases f with
  | none => exact ⟨(e 3).trans cF.1, (e 4).trans cF.2⟩
  | some y => exact ⟨(e 3).trans cF.1, (e 4).trans cF.2⟩
theorem LC.fr {h' : mH} {P : Nat → Bool} (L : LC h s0 n1 n2 s1 s2) (x : Fr P h h') (p4 : P 54 = false) (p5 : P 55 = false) (e : mI h' 37 8 = mI h 37 8) : LC h' s0 n1 n2 s1 s2 := ⟨e.trans L.1, (x.i p4 0).trans L.2.1, (x.i p4 1).trans L.2.2.1, fun g => (x.i p5 0).trans (L.2.2.2.1 g), fun g => (x.i p5 1).trans (L.2.2.2.2 g)⟩
/-- the fault field alone changes -/
theorem CC.f7 {h' : mH} {f' : FT} (C : CC h c f) (x : Fr p37 h h') (e9 : mI h' 37 9 = mI h 37 9) (e10 : mI h' 37 10 = mI h 37 10) (F : FCl h' f') : CC h' c f' := by
  obtain ⟨w, cL, cY, cG, cA, cB, cF⟩ := C
  exact ⟨w.fr x, cL.fr x (fun i hi => nbq (by omega)), cY.fr x (fun i hi => nbq (by omega)), cG.fr x (fun i hi => nbq (by omega)), e9.trans cA, e10.trans cB, F⟩
theorem t36 {k pl : Nat} (C : CC h c f) (W : FTW f) : ∃ h', f36 h 37 (iN k) (iN pl) = some ((), h') ∧ Fr p37 h h' ∧ CC h' c (nt false k pl f) ∧ ∀ j, j ≠ 3 → j ≠ 4 → mI h' 37 j = mI h 37 j := by
  have w := C.1
  have cF := C.2.2.2.2.2.2
  cases f with
  | none =>
    obtain ⟨e3, e4⟩ := cF
    have F1 : Fr p37 h (mSI (mSI h 37 3 (iN k)) 37 4 (iN pl)) := (Fr.rfl.si rfl).si rfl
    refine ⟨mSI (mSI h 37 3 (iN k)) 37 4 (iN pl), ?_, F1, C.f7 F1 (by simp (disch := omega) only [si_ne, si_nk, si_eq]) (by simp (disch := omega) only [si_ne, si_nk, si_eq]) ⟨by simp (disch := omega) only [si_ne, si_nk, si_eq], by simp only [si_ne, si_nk, si_eq]⟩, fun j h1 h2 => by simp (disch := omega) only [si_ne, si_nk, si_eq]⟩
    unfold f36 f36_17
    simp (disch := omega) only [gT, nbeq, Option.isSome_some, Option.getD_some, Bool.and_true, Bool.true_and, Bool.and_self, mX_some, bS, bN_if, bN_01, i1_01, i0_01, if_true, if_false, Bool.false_eq_true, false_and, and_false, and_true, true_and, and_self, Bool.or_false, Bool.false_or, Bool.or_true, Bool.true_or, Bool.false_and, Bool.and_false, decide_true, decide_false, L0, L1, L2, L3, L4, L5, L6, L7, L8, L9, L10, L11, L12, L13, L14, L15, L16, L17, L18, L19, L20, L21, L22, L23, L24, L25, L27, L33, L39, L40, L45, L48, L57, L60, L72, L90, L97, L98, L99, L100, L121, L122, L242, L255, L256, L580, L600, L1000, L1584, L1000000, Ln1, iN_add, iN_and, iN_or, iN_nd, iN_shl, iN_shr, iN_cl, iN_in, iN_mul, k37 w, e3, ieq_p]
  | some x =>
    obtain ⟨e3, e4⟩ := cF
    have hx := W x.1 x.2 rfl
    refine ⟨h, ?_, Fr.rfl, C, fun _ _ _ => rfl⟩
    unfold f36 f36_17
    simp (disch := omega) only [gT, nbeq, Option.isSome_some, Option.getD_some, Bool.and_true, Bool.true_and, Bool.and_self, mX_some, bS, bN_if, bN_01, i1_01, i0_01, if_true, if_false, Bool.false_eq_true, false_and, and_false, and_true, true_and, and_self, Bool.or_false, Bool.false_or, Bool.or_true, Bool.true_or, Bool.false_and, Bool.and_false, decide_true, decide_false, L0, L1, L2, L3, L4, L5, L6, L7, L8, L9, L10, L11, L12, L13, L14, L15, L16, L17, L18, L19, L20, L21, L22, L23, L24, L25, L27, L33, L39, L40, L45, L48, L57, L60, L72, L90, L97, L98, L99, L100, L121, L122, L242, L255, L256, L580, L600, L1000, L1584, L1000000, Ln1, iN_add, iN_and, iN_or, iN_nd, iN_shl, iN_shr, iN_cl, iN_in, iN_mul, k37 w, e3, ieq_n]
theorem t35 {m M : Nat} (hm : m < 2147483648) (hM : M < 2147483648) (C : CC h c f) (W : FTW f) (L : LC h s0 n1 n2 s1 s2) (hs : s0 ≤ 600) : ∃ h', f35 h 37 (iN m) (iN M) = some ((), h') ∧ Fr p37 h h' ∧ CC h' c (nt (decide (m < M)) 3 s0 f) ∧ FTW (nt (decide (m < M)) 3 s0 f) ∧ LC h' s0 n1 n2 s1 s2 := by
  have w := C.1
  have W2 : FTW (nt (decide (m < M)) 3 s0 f) := W.nt ⟨by omega, by omega, hs⟩
  by_cases e : m < M
  · rw [decide_eq_true e] at W2 ⊢
    refine ⟨h, ?_, Fr.rfl, C, W2, L⟩
    unfold f35 f35_14
    simp (disch := omega) only [gT, nbeq, Option.isSome_some, Option.getD_some, Bool.and_true, Bool.true_and, Bool.and_self, mX_some, bS, bN_if, bN_01, i1_01, i0_01, if_true, if_false, Bool.false_eq_true, false_and, and_false, and_true, true_and, and_self, Bool.or_false, Bool.false_or, Bool.or_true, Bool.true_or, Bool.false_and, Bool.and_false, decide_true, decide_false, ilt_p]
  · rw [decide_eq_false e] at W2 ⊢
    obtain ⟨h1, a1, a2, a3, a4⟩ := t36 (k := 3) (pl := s0) C W
    refine ⟨h1, ?_, a2, a3, W2, L.fr a2 rfl rfl (a4 8 (by decide) (by decide))⟩
    unfold f35 f35_14
    simp (disch := omega) only [gT, nbeq, Option.isSome_some, Option.getD_some, Bool.and_true, Bool.true_and, Bool.and_self, mX_some, bS, bN_if, bN_01, i1_01, i0_01, if_true, if_false, Bool.false_eq_true, false_and, and_false, and_true, true_and, and_self, Bool.or_false, Bool.false_or, Bool.or_true, Bool.true_or, Bool.false_and, Bool.and_false, decide_true, decide_false, L0, L1, L2, L3, L4, L5, L6, L7, L8, L9, L10, L11, L12, L13, L14, L15, L16, L17, L18, L19, L20, L21, L22, L23, L24, L25, L27, L33, L39, L40, L45, L48, L57, L60, L72, L90, L97, L98, L99, L100, L121, L122, L242, L255, L256, L580, L600, L1000, L1584, L1000000, Ln1, iN_add, iN_and, iN_or, iN_nd, iN_shl, iN_shr, iN_cl, iN_in, iN_mul, k37 w, ilt_n, L.1, a1]
theorem t37 {i : Nat} {lo X : Int32} {v pl : Nat} {ok : Bool} (hi : i < 2) (C : CC h c f) (W : FTW f) (L : LC h s0 n1 n2 s1 s2) (hv : mI h 54 i = iN v) (hpl : mI h 55 i = iN pl) (e : ∀ g, f17 g (iN v) lo X = some (bN ok)) (hs : pl ≤ 600) : ∃ h', f37 h 37 (iN i) lo X = some ((), h') ∧ Fr p37 h h' ∧ CC h' c (nt ok 2 pl f) ∧ FTW (nt ok 2 pl f) ∧ LC h' s0 n1 n2 s1 s2 := by
  have w := C.1
  have W2 : FTW (nt ok 2 pl f) := W.nt ⟨by omega, by omega, hs⟩
  cases ok with
  | true =>
    refine ⟨h, ?_, Fr.rfl, C, W2, L⟩
    unfold f37 f37_25
    simp (disch := omega) only [gT, nbeq, Option.isSome_some, Option.getD_some, Bool.and_true, Bool.true_and, Bool.and_self, mX_some, bS, bN_if, bN_01, i1_01, i0_01, if_true, if_false, Bool.false_eq_true, false_and, and_false, and_true, true_and, and_self, Bool.or_false, Bool.false_or, Bool.or_true, Bool.true_or, Bool.false_and, Bool.and_false, decide_true, decide_false, L0, L1, L2, L3, L4, L5, L6, L7, L8, L9, L10, L11, L12, L13, L14, L15, L16, L17, L18, L19, L20, L21, L22, L23, L24, L25, L27, L33, L39, L40, L45, L48, L57, L60, L72, L90, L97, L98, L99, L100, L121, L122, L242, L255, L256, L580, L600, L1000, L1584, L1000000, Ln1, iN_add, iN_and, iN_or, iN_nd, iN_shl, iN_shr, iN_cl, iN_in, iN_mul, k37 w, r37_0 w, r37_1 w, r37_2 w, r37_5 w, r37_6 w, r37_7 w, k54 w, iN_in, iN_cl, hv, e]
  | false =>
    obtain ⟨h1, a1, a2, a3, a4⟩ := t36 (k := 2) (pl := pl) C W
    refine ⟨h1, ?_, a2, a3, W2, L.fr a2 rfl rfl (a4 8 (by decide) (by decide))⟩
    unfold f37 f37_25
    simp (disch := omega) only [gT, nbeq, Option.isSome_some, Option.getD_some, Bool.and_true, Bool.true_and, Bool.and_self, mX_some, bS, bN_if, bN_01, i1_01, i0_01, if_true, if_false, Bool.false_eq_true, false_and, and_false, and_true, true_and, and_self, Bool.or_false, Bool.false_or, Bool.or_true, Bool.true_or, Bool.false_and, Bool.and_false, decide_true, decide_false, L0, L1, L2, L3, L4, L5, L6, L7, L8, L9, L10, L11, L12, L13, L14, L15, L16, L17, L18, L19, L20, L21, L22, L23, L24, L25, L27, L33, L39, L40, L45, L48, L57, L60, L72, L90, L97, L98, L99, L100, L121, L122, L242, L255, L256, L580, L600, L1000, L1584, L1000000, Ln1, iN_add, iN_and, iN_or, iN_nd, iN_shl, iN_shr, iN_cl, iN_in, iN_mul, k37 w, r37_0 w, r37_1 w, r37_2 w, r37_5 w, r37_6 w, r37_7 w, k54 w, k55 w, iN_in, iN_cl, hv, e, hpl, a1]
theorem FCl.z (F : FCl h f) (W : FTW f) {α : Type} {x y : α} : (if mI h 37 3 = iN 0 then x else y) = if f.isSome = true then y else x := by
  cases f with
  | none => rw [if_pos F.1]; rfl
  | some z =>
    have := W z.1 z.2 rfl
    rw [F.1, ieq_n (by omega) (by omega) (by omega)]; rfl
/-- stores into the library's cells -/
theorem CC.lib {h' : mH} {q' : LQ} (C : CC h c none) (x : Fr (pRg 38 7) h h') (H : LibS h' 38 q') : CC h' (q', c.2) none := by
  obtain ⟨w, cL, cY, cG, cA, cB, cF⟩ := C
  have e := x.i (pRg_f (show 37 < 38 ∨ 38 + 7 ≤ 37 by omega))
  exact ⟨w.fr x, H, cY.fr x (fun i hi => pRg_f (by omega)), cG.fr x (fun i hi => pRg_f (by omega)), (e 9).trans cA, (e 10).trans cB, (e 3).trans cF.1, (e 4).trans cF.2⟩
theorem pRL_Pr : ∀ x, pRg 38 7 x = true → pPr x = true := fun x hx => by
  by_cases e : 38 ≤ x ∧ x < 45
  · exact pRg_t (by omega) (by omega)
  · rw [pRg_f (by omega)] at hx; cases hx
theorem pRY_Pr : ∀ x, pRg 45 4 x = true → pPr x = true := fun x hx => by
  by_cases e : 45 ≤ x ∧ x < 49
  · exact pRg_t (by omega) (by omega)
  · rw [pRg_f (by omega)] at hx; cases hx
theorem pRG_Pr : ∀ x, pRg 49 3 x = true → pPr x = true := fun x hx => by
  by_cases e : 49 ≤ x ∧ x < 52
  · exact pRg_t (by omega) (by omega)
  · rw [pRg_f (by omega)] at hx; cases hx
end CTK
section CT2
variable {h : mH} {c : CQ} {f : FT} {s0 s1 s2 v1 v2 : Nat}
theorem t34 (C : CC h c f) (W : FTW f) (V : CWF c) (L : LC h s0 (some v1) (some v2) s1 s2) (hs : s0 ≤ 600 ∧ s1 ≤ 600 ∧ s2 ≤ 600) (hv1 : v1 ≤ 99) (hv2 : v2 ≤ 99) : ∃ h', f34 h 37 = some ((), h') ∧ Fr pPr h h' ∧ CC h' (upf 0 c v1 v2 (chk 0 c s0 s1 s2 v1 v2 f)) (chk 0 c s0 s1 s2 v1 v2 f) ∧ FTW (chk 0 c s0 s1 s2 v1 v2 f) := by
  have w := C.1
  have H := C.2.1
  have hn := V.1.1.1
  obtain ⟨g1, a1, b1, C1, W1, M1⟩ := t35 (m := c.1 0 0) (M := 8) (by omega) (by omega) C W L hs.1
  obtain ⟨g2, a2, b2, C2, W2, M2⟩ := t37 (i := 0) (lo := iN 1) (X := iN 9) (v := v1) (pl := s1) (by omega) C1 W1 M1 M1.2.1 (M1.2.2.2.1 (by simp)) (fun g => t17k (h := g) (by omega) (by omega) (by omega)) hs.2.1
  obtain ⟨g3, a3, b3, C3, W3, M3⟩ := t37 (i := 1) (lo := iN 0) (X := iN 5) (v := v2) (pl := s2) (by omega) C2 W2 M2 M2.2.2.1 (M2.2.2.2.2 (by simp)) (fun g => t17k (h := g) (by omega) (by omega) (by omega)) hs.2.2
  have ec : nt (decide (0 ≤ v2 ∧ v2 ≤ 5)) 2 s2 (nt (decide (1 ≤ v1 ∧ v1 ≤ 9)) 2 s1 (nt (decide (c.1 0 0 < 8)) 3 s0 f)) = chk 0 c s0 s1 s2 v1 v2 f := by
    have : decide (0 ≤ v2 ∧ v2 ≤ 5) = decide (v2 ≤ 5) := by rw [decide_eq_decide]; omega
    rw [this]; rfl
  rw [ec] at C3 W3
  have w1 := C1.1
  have w2 := C2.1
  have w3 := C3.1
  have F3 := ((b1.tr b2).tr b3).mono p37_Pr
  have fz : ∀ x y : Option (Unit × mH), (if mI g3 37 3 = iN 0 then x else y) = if (chk 0 c s0 s1 s2 v1 v2 f).isSome = true then y else x := fun x y => C3.2.2.2.2.2.2.z W3
  unfold f34
  simp (disch := omega) only [gT, nbeq, Option.isSome_some, Option.getD_some, Bool.and_true, Bool.true_and, Bool.and_self, mX_some, bS, bN_if, bN_01, i1_01, i0_01, if_true, if_false, Bool.false_eq_true, false_and, and_false, and_true, true_and, and_self, Bool.or_false, Bool.false_or, Bool.or_true, Bool.true_or, Bool.false_and, Bool.and_false, decide_true, decide_false, L0, L1, L2, L3, L4, L5, L6, L7, L8, L9, L10, L11, L12, L13, L14, L15, L16, L17, L18, L19, L20, L21, L22, L23, L24, L25, L27, L33, L39, L40, L45, L48, L57, L60, L72, L90, L97, L98, L99, L100, L121, L122, L242, L255, L256, L580, L600, L1000, L1584, L1000000, Ln1, iN_add, iN_and, iN_or, iN_nd, iN_shl, iN_shr, iN_cl, iN_in, iN_mul, k37 w, r37_0 w, r37_1 w, r37_2 w, r37_5 w, r37_6 w, r37_7 w, k38 w, H.n, a1, k37 w1, r37_0 w1, r37_1 w1, r37_2 w1, r37_5 w1, r37_6 w1, r37_7 w1, a2, k37 w2, r37_0 w2, r37_1 w2, r37_2 w2, r37_5 w2, r37_6 w2, r37_7 w2, a3, k37 w3, r37_0 w3, r37_1 w3, r37_2 w3, r37_5 w3, r37_6 w3, r37_7 w3, fz]
  cases hf : chk 0 c s0 s1 s2 v1 v2 f with
  | some x =>
    rw [hf] at C3 W3
    unfold f34_90
    simp only [gT, nbeq, Option.isSome_some, Option.getD_some, Bool.and_true, Bool.true_and, Bool.and_self, mX_some, bS, bN_if, bN_01, i1_01, i0_01, if_true, if_false, Bool.false_eq_true, false_and, and_false, and_true, true_and, and_self, Bool.or_false, Bool.false_or, Bool.or_true, Bool.true_or, Bool.false_and, Bool.and_false, decide_true, decide_false]
    exact ⟨g3, rfl, F3, C3, W3⟩
  | none =>
    obtain ⟨⟨q1, q2, q3⟩, _⟩ := chk_0 hf
    rw [hf] at C3 W3
    have H3 := C3.2.1
    have U1 := H3.u (i := 0) (j := c.1 0 0) (v := v1) (by omega)
    have U2 := U1.u (i := 1) (j := c.1 0 0) (v := v2) (by omega)
    have U3 := U2.u0 (k := 0) (v := c.1 0 0 + 1) (by omega)
    have G1 : Fr (pRg 38 7) g3 (mSI g3 39 (c.1 0 0) (iN v1)) := Fr.rfl.si (by decide)
    have G3 : Fr (pRg 38 7) g3 (mSI (mSI (mSI g3 39 (c.1 0 0) (iN v1)) 40 (c.1 0 0) (iN v2)) 38 6 (iN (c.1 0 0 + 1))) := (G1.si (by decide)).si (by decide)
    have w4 := w3.fr G1
    have l0 : mI g3 54 0 = iN v1 := M3.2.1
    have l1 : mI g3 54 1 = iN v2 := M3.2.2.1
    refine ⟨mSI (mSI (mSI g3 39 (c.1 0 0) (iN v1)) 40 (c.1 0 0) (iN v2)) 38 6 (iN (c.1 0 0 + 1)), ?_, F3.tr (G3.mono pRL_Pr), C3.lib G3 U3, W3⟩
    unfold f34_56 f34_90
    simp (disch := omega) only [gT, nbeq, Option.isSome_some, Option.getD_some, Bool.and_true, Bool.true_and, Bool.and_self, mX_some, bS, bN_if, bN_01, i1_01, i0_01, if_true, if_false, Bool.false_eq_true, false_and, and_false, and_true, true_and, and_self, Bool.or_false, Bool.false_or, Bool.or_true, Bool.true_or, Bool.false_and, Bool.and_false, decide_true, decide_false, L0, L1, L2, L3, L4, L5, L6, L7, L8, L9, L10, L11, L12, L13, L14, L15, L16, L17, L18, L19, L20, L21, L22, L23, L24, L25, L27, L33, L39, L40, L45, L48, L57, L60, L72, L90, L97, L98, L99, L100, L121, L122, L242, L255, L256, L580, L600, L1000, L1584, L1000000, Ln1, iN_add, iN_and, iN_or, iN_nd, iN_shl, iN_shr, iN_cl, iN_in, iN_mul, Option.isSome_none, k37 w3, r37_0 w3, r37_1 w3, r37_2 w3, r37_5 w3, r37_6 w3, r37_7 w3, k38 w3, r38_0 w3, r38_1 w3, r38_2 w3, r38_3 w3, r38_4 w3, r38_5 w3, k39 w3, k54 w3, H3.n, l0, iN_in, iN_cl, k37 w4, r37_0 w4, r37_1 w4, r37_2 w4, r37_5 w4, r37_6 w4, r37_7 w4, k38 w4, r38_0 w4, r38_1 w4, r38_2 w4, r38_3 w4, r38_4 w4, r38_5 w4, k40 w4, k54 w4, si_ne, si_nk, si_eq, l1, iN_add]
end CT2
