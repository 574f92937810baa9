/-! the reference's reading: faults and numbers -/
section FLU
variable {q : LQ} {j v t : Nat}
theorem fu0 (hj : j < 3) (ht : t < 45) : flat (u2 q 0 j v) t = if t = j then v else flat q t := by
  unfold flat u2
  repeat' split
  all_goals first | rfl | omega | (exfalso; omega)
theorem fu1 (hj : j < 8) (ht : t < 45) : flat (u2 q 1 j v) t = if t = 3 + j then v else flat q t := by
  unfold flat u2
  repeat' split
  all_goals first | rfl | omega | (exfalso; omega)
theorem fu2 (hj : j < 8) (ht : t < 45) : flat (u2 q 2 j v) t = if t = 11 + j then v else flat q t := by
  unfold flat u2
  repeat' split
  all_goals first | rfl | omega | (exfalso; omega)
theorem fu3 (hj : j < 8) (ht : t < 45) : flat (u2 q 3 j v) t = if t = 19 + j then v else flat q t := by
  unfold flat u2
  repeat' split
  all_goals first | rfl | omega | (exfalso; omega)
theorem fu4 (hj : j < 6) (ht : t < 45) : flat (u2 q 4 j v) t = if t = 27 + j then v else flat q t := by
  unfold flat u2
  repeat' split
  all_goals first | rfl | omega | (exfalso; omega)
theorem fu5 (hj : j < 6) (ht : t < 45) : flat (u2 q 5 j v) t = if t = 33 + j then v else flat q t := by
  unfold flat u2
  repeat' split
  all_goals first | rfl | omega | (exfalso; omega)
theorem fu6 (hj : j < 6) (ht : t < 45) : flat (u2 q 6 j v) t = if t = 39 + j then v else flat q t := by
  unfold flat u2
  repeat' split
  all_goals first | rfl | omega | (exfalso; omega)
end FLU
/-- the FAULT as the reference keeps it -/
def FMf (g : mH) : FT → Prop
  | none => mI g 193 16 = iN 0
  | some x => mI g 193 16 = iN x.1 ∧ mI g 193 17 = iN x.2
/-- all places noted lie ahead of s -/
def PLW (f : FT) (s : Nat) : Prop := ∀ k pl, f = some (k, pl) → pl < s
theorem PLW.nt {ok : Bool} {k pl s : Nat} {f : FT} (F : PLW f s) (h : pl < s) : PLW (nt ok k pl f) s := by
  intro k' pl' e
  cases ok with
  | true => exact F k' pl' e
  | false =>
    cases f with
    | none =>
      have e2 := Option.some.inj e
      have e4 : pl = pl' := congrArg Prod.snd e2
      subst e4; exact h
    | some x => exact F k' pl' e
theorem PLW.mono {f : FT} {s s' : Nat} (F : PLW f s) (h : s ≤ s') : PLW f s' := fun k pl e => Nat.lt_of_lt_of_le (F k pl e) h
def pRd (x : Nat) : Bool := Nat.beq x 193 || Nat.beq x 203
theorem p193_Rd : ∀ x, p193 x = true → pRd x = true := fun x h => by
  have : x = 193 := Nat.eq_of_beq_eq_true h
  rw [this]; decide
/-- in the midst of a line that began at g0 -/
def MS (g0 g : mH) (b : Nat → Nat) (len e : Nat) (f : FT) (gd : Bool) : Prop := Fr pRd g0 g ∧ TpM g b len ∧ SM g b len e ∧ FMf g f ∧ mI g 193 22 = bN gd ∧ mI g 193 20 = mI g0 193 20 ∧ mI g 193 21 = mI g0 193 21
section MTK
variable {g0 g : mH} {b : Nat → Nat} {len e : Nat} {f : FT} {gd : Bool}
theorem t188 {k pl : Nat} (w : Wd g) (F : FMf g f) (W : FTW f) (P : PLW f pl) (hpl : pl ≤ 600) : ∃ g', f188 g 193 (iN k) (iN pl) = some ((), g') ∧ Fr p193 g g' ∧ FMf g' (nt false k pl f) ∧ (∀ j, j ≠ 16 → j ≠ 17 → mI g' 193 j = mI g 193 j) ∧ mL g' 193 14 = mL g 193 14 := by
  cases f with
  | none =>
    have F : mI g 193 16 = iN 0 := F
    refine ⟨mSI (mSI g 193 16 (iN k)) 193 17 (iN pl), ?_, (Fr.rfl.si rfl).si rfl, ⟨by simp (disch := omega) only [si_ne, si_nk, si_eq], by simp only [si_ne, si_nk, si_eq]⟩, fun j h1 h2 => by simp (disch := omega) only [si_ne, si_nk, si_eq], rfl⟩
    unfold f188 f188_31 f188_41
    simp (disch := omega) only [gT, nbeq, Option.isSome_some, Option.getD_some, Bool.and_true, Bool.true_and, Bool.and_self, mX_some, bS, bN_if, bN_01, i1_01, i0_01, if_true, if_false, Bool.false_eq_true, false_and, and_false, and_true, true_and, and_self, Bool.or_false, Bool.false_or, Bool.or_true, Bool.true_or, Bool.false_and, Bool.and_false, decide_true, decide_false, L0, L1, L2, L3, L4, L5, L6, L7, L8, L9, L10, L11, L12, L13, L14, L15, L16, L17, L18, L19, L20, L21, L22, L23, L24, L25, L27, L33, L39, L40, L45, L48, L57, L60, L72, L90, L97, L98, L99, L100, L121, L122, L242, L255, L256, L580, L600, L1000, L1584, L1000000, Ln1, iN_add, iN_and, iN_or, iN_nd, iN_shl, iN_shr, iN_cl, iN_in, iN_mul, k193 w, F, ieq_p]
  | some x =>
    obtain ⟨F1, F2⟩ := F
    have hx := W x.1 x.2 rfl
    have hp := P x.1 x.2 rfl
    refine ⟨g, ?_, Fr.rfl, ⟨F1, F2⟩, fun _ _ _ => rfl, rfl⟩
    unfold f188 f188_41
    simp (disch := omega) only [gT, nbeq, Option.isSome_some, Option.getD_some, Bool.and_true, Bool.true_and, Bool.and_self, mX_some, bS, bN_if, bN_01, i1_01, i0_01, if_true, if_false, Bool.false_eq_true, false_and, and_false, and_true, true_and, and_self, Bool.or_false, Bool.false_or, Bool.or_true, Bool.true_or, Bool.false_and, Bool.and_false, decide_true, decide_false, L0, L1, L2, L3, L4, L5, L6, L7, L8, L9, L10, L11, L12, L13, L14, L15, L16, L17, L18, L19, L20, L21, L22, L23, L24, L25, L27, L33, L39, L40, L45, L48, L57, L60, L72, L90, L97, L98, L99, L100, L121, L122, L242, L255, L256, L580, L600, L1000, L1584, L1000000, Ln1, iN_add, iN_and, iN_or, iN_nd, iN_shl, iN_shr, iN_cl, iN_in, iN_mul, k193 w, F1, F2, ieq_n, ilt_n]
theorem SM.fr {g' : mH} (S : SM g b len e) (h : ∀ j, j = 9 ∨ j = 11 ∨ j = 12 ∨ j = 13 → mI g' 193 j = mI g 193 j) (hL : mL g' 193 14 = mL g 193 14) : SM g' b len e := ⟨(h 9 (by omega)).trans S.1, (h 11 (by omega)).trans S.2.1, (h 12 (by omega)).trans S.2.2.1, fun k => (h 13 (by omega)).trans (S.2.2.2.1 k), fun k => hL.trans (S.2.2.2.2 k)⟩
/-- full: is there room -/
theorem t187 {i m M : Nat} (hi : i < 121) (hm : mI g 202 i = iN m) (hmM : m ≤ M) (hM : M < 1000) (S : MS g0 g b len e f gd) (W : FTW f) (P : PLW f (tkS b len e)) (he : e ≤ len) : ∃ g', f187 g 193 (iN i) (iN M) (iN (tkS b len e)) = some ((), g') ∧ MS g0 g' b len e (nt (decide (m < M)) 3 (tkS b len e) f) gd ∧ FTW (nt (decide (m < M)) 3 (tkS b len e) f) := by
  obtain ⟨s1, s2, s3, s4, s5, s6, s7⟩ := S
  have w := s2.1
  have hl := s2.2.2.1
  have hs := (tkS_ok (b := b) he).2.1
  have W2 : FTW (nt (decide (m < M)) 3 (tkS b len e) f) := W.nt ⟨by omega, by omega, by omega⟩
  by_cases e1 : m < M
  · rw [decide_eq_true e1] at W2 ⊢
    refine ⟨g, ?_, ⟨s1, s2, s3, s4, s5, s6, s7⟩, W2⟩
    unfold f187 f187_16
    simp (disch := omega) only [gT, nbeq, Option.isSome_some, Option.getD_some, Bool.and_true, Bool.true_and, Bool.and_self, mX_some, bS, bN_if, bN_01, i1_01, i0_01, if_true, if_false, Bool.false_eq_true, false_and, and_false, and_true, true_and, and_self, Bool.or_false, Bool.false_or, Bool.or_true, Bool.true_or, Bool.false_and, Bool.and_false, decide_true, decide_false, L0, L1, L2, L3, L4, L5, L6, L7, L8, L9, L10, L11, L12, L13, L14, L15, L16, L17, L18, L19, L20, L21, L22, L23, L24, L25, L27, L33, L39, L40, L45, L48, L57, L60, L72, L90, L97, L98, L99, L100, L121, L122, L242, L255, L256, L580, L600, L1000, L1584, L1000000, Ln1, iN_add, iN_and, iN_or, iN_nd, iN_shl, iN_shr, iN_cl, iN_in, iN_mul, k193 w, r193_1 w, r193_2 w, r193_3 w, r193_4 w, r193_5 w, r193_6 w, r193_7 w, r193_8 w, r193_18 w, r193_19 w, r193_32 w, r193_33 w, r193_34 w, r193_36 w, r193_38 w, r193_39 w, r193_40 w, r193_42 w, r193_45 w, r193_46 w, r193_47 w, r193_48 w, r193_49 w, r193_50 w, k202 w, iN_in, iN_cl, hm, ieq_n]
  · rw [decide_eq_false e1] at W2 ⊢
    obtain ⟨g1, a1, a2, a3, a4, eL⟩ := t188 (k := 3) w s4 W P (by omega)
    refine ⟨g1, ?_, ⟨s1.tr (a2.mono p193_Rd), s2.fr a2 rfl (a4 10 (by decide) (by decide)), s3.fr (fun j hj => a4 j (by omega) (by omega)) eL, a3, (a4 22 (by decide) (by decide)).trans s5, (a4 20 (by decide) (by decide)).trans s6, (a4 21 (by decide) (by decide)).trans s7⟩, W2⟩
    unfold f187 f187_16
    have e2 : m = M := by omega
    simp (disch := omega) only [gT, nbeq, Option.isSome_some, Option.getD_some, Bool.and_true, Bool.true_and, Bool.and_self, mX_some, bS, bN_if, bN_01, i1_01, i0_01, if_true, if_false, Bool.false_eq_true, false_and, and_false, and_true, true_and, and_self, Bool.or_false, Bool.false_or, Bool.or_true, Bool.true_or, Bool.false_and, Bool.and_false, decide_true, decide_false, L0, L1, L2, L3, L4, L5, L6, L7, L8, L9, L10, L11, L12, L13, L14, L15, L16, L17, L18, L19, L20, L21, L22, L23, L24, L25, L27, L33, L39, L40, L45, L48, L57, L60, L72, L90, L97, L98, L99, L100, L121, L122, L242, L255, L256, L580, L600, L1000, L1584, L1000000, Ln1, iN_add, iN_and, iN_or, iN_nd, iN_shl, iN_shr, iN_cl, iN_in, iN_mul, k193 w, r193_1 w, r193_2 w, r193_3 w, r193_4 w, r193_5 w, r193_6 w, r193_7 w, r193_8 w, r193_18 w, r193_19 w, r193_32 w, r193_33 w, r193_34 w, r193_36 w, r193_38 w, r193_39 w, r193_40 w, r193_42 w, r193_45 w, r193_46 w, r193_47 w, r193_48 w, r193_49 w, r193_50 w, k202 w, iN_in, iN_cl, hm, ieq_p, a1]
/-- the next token -/
theorem MS.tk (S : MS g0 g b len e f gd) (he : e ≤ len) : ∃ g', f183 g 193 = some ((), g') ∧ MS g0 g' b len (tkE b len e) f gd ∧ ∀ x, x ≠ 193 → ∀ j, mI g' x j = mI g x j := by
  obtain ⟨s1, s2, s3, s4, s5, s6, s7⟩ := S
  obtain ⟨g1, a1, a2, a3, a4, a5⟩ := t183 s2 (tkE_ok (b := b) he).2.1 s3.1
  refine ⟨g1, a1, ⟨s1.tr (a2.mono p193_Rd), a4, a5, ?_, (a3 22 (by decide) (by decide) (by decide) (by decide)).trans s5, (a3 20 (by decide) (by decide) (by decide) (by decide)).trans s6, (a3 21 (by decide) (by decide) (by decide) (by decide)).trans s7⟩, fun x hx j => a2.i (nbq hx) j⟩
  cases f with
  | none => exact (a3 16 (by decide) (by decide) (by decide) (by decide)).trans s4
  | some x => exact ⟨(a3 16 (by decide) (by decide) (by decide) (by decide)).trans s4.1, (a3 17 (by decide) (by decide) (by decide) (by decide)).trans s4.2⟩
theorem t192 {x : Nat} (w : Wd g) (h : mI g 193 11 = iN x) : f192 g 193 = some (iN 0, mSI g 193 15 (iN x)) := by
  unfold f192
  simp (disch := omega) only [gT, nbeq, Option.isSome_some, Option.getD_some, Bool.and_true, Bool.true_and, Bool.and_self, mX_some, bS, bN_if, bN_01, i1_01, i0_01, if_true, if_false, Bool.false_eq_true, false_and, and_false, and_true, true_and, and_self, Bool.or_false, Bool.false_or, Bool.or_true, Bool.true_or, Bool.false_and, Bool.and_false, decide_true, decide_false, L0, L1, L2, L3, L4, L5, L6, L7, L8, L9, L10, L11, L12, L13, L14, L15, L16, L17, L18, L19, L20, L21, L22, L23, L24, L25, L27, L33, L39, L40, L45, L48, L57, L60, L72, L90, L97, L98, L99, L100, L121, L122, L242, L255, L256, L580, L600, L1000, L1584, L1000000, Ln1, iN_add, iN_and, iN_or, iN_nd, iN_shl, iN_shr, iN_cl, iN_in, iN_mul, k193 w, h]
/-- take a number -/
theorem t191 {i : Nat} {lo hi but : Int32} {ok : Bool} (h3 : i < 3) (S : MS g0 g b len e f gd) (W : FTW f) (P : PLW f (tkS b len e)) (he : e ≤ len) (eo : tkK b len e = 2 → (decide (lo ≤ iN (tkV b len e)) && decide (iN (tkV b len e) ≤ hi) && !decide (iN (tkV b len e) = but)) = ok) : (tkK b len e = 2 → ∃ g', f191 g 193 (iN i) lo hi but = some (iN 1, g') ∧ MS g0 g' b len (tkE b len e) (nt ok 2 (tkS b len e) f) (gd && ok) ∧ FTW (nt ok 2 (tkS b len e) f) ∧ mI g' 203 i = iN (tkV b len e) ∧ ∀ j, j ≠ i → mI g' 203 j = mI g 203 j) ∧ (tkK b len e ≠ 2 → ∃ g', f191 g 193 (iN i) lo hi but = some (iN 0, g') ∧ Fr pRd g0 g' ∧ mI g' 193 15 = iN (tkS b len e)) := by
  obtain ⟨s1, s2, s3, s4, s5, s6, s7⟩ := id S
  have w := s2.1
  have hl := s2.2.2.1
  have hs := (tkS_ok (b := b) he).2.1
  have hkk := tkK_le (b := b) (len := len) (p := e)
  constructor
  · intro hk
    have e12 : mI g 193 12 = iN 3 := by rw [s3.2.2.1, hk]; rfl
    have e13 := s3.2.2.2.1 hk
    have eo := eo hk
    have F0 : Fr pRd g (mSI g 203 i (iN (tkV b len e))) := Fr.rfl.si (by decide)
    have S0 : MS g0 (mSI g 203 i (iN (tkV b len e))) b len e f gd := by
      refine ⟨s1.tr F0, s2.fr F0 rfl (by simp (disch := omega) only [si_ne, si_nk, si_eq]), s3.fr (fun j hj => by simp (disch := omega) only [si_ne, si_nk, si_eq]) (mL_SI _ _ _ _ _ _), ?_, by simp (disch := omega) only [si_ne, si_nk, si_eq]; exact s5, by simp (disch := omega) only [si_ne, si_nk, si_eq]; exact s6, by simp (disch := omega) only [si_ne, si_nk, si_eq]; exact s7⟩
      cases f with
      | none => exact (by simp (disch := omega) only [si_ne, si_nk, si_eq]; exact s4 : mI (mSI g 203 i (iN (tkV b len e))) 193 16 = iN 0)
      | some x => exact ⟨by simp (disch := omega) only [si_ne, si_nk, si_eq]; exact s4.1, by simp (disch := omega) only [si_ne, si_nk, si_eq]; exact s4.2⟩
    have w0 := S0.2.1.1
    have W2 : FTW (nt ok 2 (tkS b len e) f) := W.nt ⟨by omega, by omega, by omega⟩
    cases ok with
    | true =>
      rw [Bool.and_eq_true, Bool.not_eq_true'] at eo
      obtain ⟨g1, a1, a2, a3⟩ := S0.tk he
      refine ⟨g1, ?_, by rw [Bool.and_true]; exact a2, W2, by rw [a3 203 (by decide)]; simp only [si_ne, si_nk, si_eq], fun j hj => by rw [a3 203 (by decide)]; simp (disch := omega) only [si_ne, si_nk, si_eq]⟩
      unfold f191 f191_58
      simp (disch := omega) only [gT, nbeq, Option.isSome_some, Option.getD_some, Bool.and_true, Bool.true_and, Bool.and_self, mX_some, bS, bN_if, bN_01, i1_01, i0_01, if_true, if_false, Bool.false_eq_true, false_and, and_false, and_true, true_and, and_self, Bool.or_false, Bool.false_or, Bool.or_true, Bool.true_or, Bool.false_and, Bool.and_false, decide_true, decide_false, L0, L1, L2, L3, L4, L5, L6, L7, L8, L9, L10, L11, L12, L13, L14, L15, L16, L17, L18, L19, L20, L21, L22, L23, L24, L25, L27, L33, L39, L40, L45, L48, L57, L60, L72, L90, L97, L98, L99, L100, L121, L122, L242, L255, L256, L580, L600, L1000, L1584, L1000000, Ln1, iN_add, iN_and, iN_or, iN_nd, iN_shl, iN_shr, iN_cl, iN_in, iN_mul, k193 w, r193_1 w, r193_2 w, r193_3 w, r193_4 w, r193_5 w, r193_6 w, r193_7 w, r193_8 w, r193_18 w, r193_19 w, r193_32 w, r193_33 w, r193_34 w, r193_36 w, r193_38 w, r193_39 w, r193_40 w, r193_42 w, r193_45 w, r193_46 w, r193_47 w, r193_48 w, r193_49 w, r193_50 w, k203 w, e12, ieq_p, iN_in, iN_cl, e13, si_ne, si_nk, si_eq, t179, eo.1, a1, k193 w0, r193_1 w0, r193_2 w0, r193_3 w0, r193_4 w0, r193_5 w0, r193_6 w0, r193_7 w0, r193_8 w0, r193_18 w0, r193_19 w0, r193_32 w0, r193_33 w0, r193_34 w0, r193_36 w0, r193_38 w0, r193_39 w0, r193_40 w0, r193_42 w0, r193_45 w0, r193_46 w0, r193_47 w0, r193_48 w0, r193_49 w0, r193_50 w0]
      rw [if_neg (of_decide_eq_false eo.2)]
    | false =>
      obtain ⟨g1, a1, a2, a3, a4, eL0⟩ := t188 (k := 2) (pl := tkS b len e) w0 S0.2.2.2.1 W P (by omega)
      have w1 := w0.fr a2
      have eL : mL g1 193 14 = mL g 193 14 := eL0.trans (mL_SI _ _ _ _ _ _)
      have F2 : Fr p193 g1 (mSI g1 193 22 (iN 0)) := Fr.rfl.si rfl
      have S1 : MS g0 (mSI g1 193 22 (iN 0)) b len e (nt false 2 (tkS b len e) f) false := by
        obtain ⟨s1', s2', s3', s4', s5', s6', s7'⟩ := S0
        refine ⟨(s1'.tr (a2.mono p193_Rd)).tr (F2.mono p193_Rd), (s2'.fr a2 rfl (a4 10 (by decide) (by decide))).fr F2 rfl (by simp (disch := omega) only [si_ne, si_nk, si_eq]), (s3'.fr (fun j hj => a4 j (by omega) (by omega)) (eL.trans (mL_SI _ _ _ _ _ _).symm)).fr (fun j hj => by simp (disch := omega) only [si_ne, si_nk, si_eq]) (mL_SI _ _ _ _ _ _), ?_, by simp only [si_ne, si_nk, si_eq]; rfl, by simp (disch := omega) only [si_ne, si_nk, si_eq]; exact (a4 20 (by decide) (by decide)).trans s6', by simp (disch := omega) only [si_ne, si_nk, si_eq]; exact (a4 21 (by decide) (by decide)).trans s7'⟩
        generalize nt false 2 (tkS b len e) f = f9 at a3
        cases f9 with
        | none => exact (by simp (disch := omega) only [si_ne, si_nk, si_eq]; exact a3 : mI (mSI g1 193 22 (iN 0)) 193 16 = iN 0)
        | some x => exact ⟨by simp (disch := omega) only [si_ne, si_nk, si_eq]; exact a3.1, by simp (disch := omega) only [si_ne, si_nk, si_eq]; exact a3.2⟩
      obtain ⟨g2, b1, b2, b3⟩ := S1.tk he
      have r1 : mI g2 203 i = iN (tkV b len e) := by
        rw [b3 203 (by decide)]; simp (disch := omega) only [si_ne, si_nk, si_eq]; rw [a2.i rfl]; simp only [si_ne, si_nk, si_eq]
      have r2 : ∀ j, j ≠ i → mI g2 203 j = mI g 203 j := fun j hj => by
        rw [b3 203 (by decide)]; simp (disch := omega) only [si_ne, si_nk, si_eq]; rw [a2.i rfl]; simp (disch := omega) only [si_ne, si_nk, si_eq]
      have e11 : mI (mSI g 203 i (iN (tkV b len e))) 193 11 = iN (tkS b len e) := S0.2.2.1.2.1
      refine ⟨g2, ?_, by rw [Bool.and_false]; exact b2, W2, r1, r2⟩
      unfold f191 f191_44 f191_58
      simp (disch := omega) only [gT, nbeq, Option.isSome_some, Option.getD_some, Bool.and_true, Bool.true_and, Bool.and_self, mX_some, bS, bN_if, bN_01, i1_01, i0_01, if_true, if_false, Bool.false_eq_true, false_and, and_false, and_true, true_and, and_self, Bool.or_false, Bool.false_or, Bool.or_true, Bool.true_or, Bool.false_and, Bool.and_false, decide_true, decide_false, L0, L1, L2, L3, L4, L5, L6, L7, L8, L9, L10, L11, L12, L13, L14, L15, L16, L17, L18, L19, L20, L21, L22, L23, L24, L25, L27, L33, L39, L40, L45, L48, L57, L60, L72, L90, L97, L98, L99, L100, L121, L122, L242, L255, L256, L580, L600, L1000, L1584, L1000000, Ln1, iN_add, iN_and, iN_or, iN_nd, iN_shl, iN_shr, iN_cl, iN_in, iN_mul, k193 w, r193_1 w, r193_2 w, r193_3 w, r193_4 w, r193_5 w, r193_6 w, r193_7 w, r193_8 w, r193_18 w, r193_19 w, r193_32 w, r193_33 w, r193_34 w, r193_36 w, r193_38 w, r193_39 w, r193_40 w, r193_42 w, r193_45 w, r193_46 w, r193_47 w, r193_48 w, r193_49 w, r193_50 w, k203 w, e12, ieq_p, iN_in, iN_cl, e13, t179, si_ne, si_nk, si_eq]
      have e11' : mI g 193 11 = iN (tkS b len e) := s3.2.1
      have w2 := w1.fr F2
      cases c1 : (decide (lo ≤ iN (tkV b len e)) && decide (iN (tkV b len e) ≤ hi)) with
      | false =>
        simp (disch := omega) only [gT, nbeq, Option.isSome_some, Option.getD_some, Bool.and_true, Bool.true_and, Bool.and_self, mX_some, bS, bN_if, bN_01, i1_01, i0_01, if_true, if_false, Bool.false_eq_true, false_and, and_false, and_true, true_and, and_self, Bool.or_false, Bool.false_or, Bool.or_true, Bool.true_or, Bool.false_and, Bool.and_false, decide_true, decide_false, L0, L1, L2, L3, L4, L5, L6, L7, L8, L9, L10, L11, L12, L13, L14, L15, L16, L17, L18, L19, L20, L21, L22, L23, L24, L25, L27, L33, L39, L40, L45, L48, L57, L60, L72, L90, L97, L98, L99, L100, L121, L122, L242, L255, L256, L580, L600, L1000, L1584, L1000000, Ln1, iN_add, iN_and, iN_or, iN_nd, iN_shl, iN_shr, iN_cl, iN_in, iN_mul, k193 w0, r193_1 w0, r193_2 w0, r193_3 w0, r193_4 w0, r193_5 w0, r193_6 w0, r193_7 w0, r193_8 w0, r193_18 w0, r193_19 w0, r193_32 w0, r193_33 w0, r193_34 w0, r193_36 w0, r193_38 w0, r193_39 w0, r193_40 w0, r193_42 w0, r193_45 w0, r193_46 w0, r193_47 w0, r193_48 w0, r193_49 w0, r193_50 w0, si_ne, si_nk, si_eq, e11', a1, k193 w1, r193_1 w1, r193_2 w1, r193_3 w1, r193_4 w1, r193_5 w1, r193_6 w1, r193_7 w1, r193_8 w1, r193_18 w1, r193_19 w1, r193_32 w1, r193_33 w1, r193_34 w1, r193_36 w1, r193_38 w1, r193_39 w1, r193_40 w1, r193_42 w1, r193_45 w1, r193_46 w1, r193_47 w1, r193_48 w1, r193_49 w1, r193_50 w1, b1, k193 w2, r193_1 w2, r193_2 w2, r193_3 w2, r193_4 w2, r193_5 w2, r193_6 w2, r193_7 w2, r193_8 w2, r193_18 w2, r193_19 w2, r193_32 w2, r193_33 w2, r193_34 w2, r193_36 w2, r193_38 w2, r193_39 w2, r193_40 w2, r193_42 w2, r193_45 w2, r193_46 w2, r193_47 w2, r193_48 w2, r193_49 w2, r193_50 w2]
      | true =>
        rw [c1] at eo
        have eo : decide (iN (tkV b len e) = but) = true := by simpa using eo
        have eo := (of_decide_eq_true eo).symm
        subst eo
        simp (disch := omega) only [gT, nbeq, Option.isSome_some, Option.getD_some, Bool.and_true, Bool.true_and, Bool.and_self, mX_some, bS, bN_if, bN_01, i1_01, i0_01, if_true, if_false, Bool.false_eq_true, false_and, and_false, and_true, true_and, and_self, Bool.or_false, Bool.false_or, Bool.or_true, Bool.true_or, Bool.false_and, Bool.and_false, decide_true, decide_false, L0, L1, L2, L3, L4, L5, L6, L7, L8, L9, L10, L11, L12, L13, L14, L15, L16, L17, L18, L19, L20, L21, L22, L23, L24, L25, L27, L33, L39, L40, L45, L48, L57, L60, L72, L90, L97, L98, L99, L100, L121, L122, L242, L255, L256, L580, L600, L1000, L1584, L1000000, Ln1, iN_add, iN_and, iN_or, iN_nd, iN_shl, iN_shr, iN_cl, iN_in, iN_mul, eq_self, if_true, k193 w0, r193_1 w0, r193_2 w0, r193_3 w0, r193_4 w0, r193_5 w0, r193_6 w0, r193_7 w0, r193_8 w0, r193_18 w0, r193_19 w0, r193_32 w0, r193_33 w0, r193_34 w0, r193_36 w0, r193_38 w0, r193_39 w0, r193_40 w0, r193_42 w0, r193_45 w0, r193_46 w0, r193_47 w0, r193_48 w0, r193_49 w0, r193_50 w0, si_ne, si_nk, si_eq, e11', a1, k193 w1, r193_1 w1, r193_2 w1, r193_3 w1, r193_4 w1, r193_5 w1, r193_6 w1, r193_7 w1, r193_8 w1, r193_18 w1, r193_19 w1, r193_32 w1, r193_33 w1, r193_34 w1, r193_36 w1, r193_38 w1, r193_39 w1, r193_40 w1, r193_42 w1, r193_45 w1, r193_46 w1, r193_47 w1, r193_48 w1, r193_49 w1, r193_50 w1, b1, k193 w2, r193_1 w2, r193_2 w2, r193_3 w2, r193_4 w2, r193_5 w2, r193_6 w2, r193_7 w2, r193_8 w2, r193_18 w2, r193_19 w2, r193_32 w2, r193_33 w2, r193_34 w2, r193_36 w2, r193_38 w2, r193_39 w2, r193_40 w2, r193_42 w2, r193_45 w2, r193_46 w2, r193_47 w2, r193_48 w2, r193_49 w2, r193_50 w2]
  · intro hk
    have e12 := s3.2.2.1
    have hne : kM (tkK b len e) ≠ 3 ∧ kM (tkK b len e) < 5 := by
      unfold kM
      have : tkK b len e = 0 ∨ tkK b len e = 1 ∨ tkK b len e = 3 ∨ tkK b len e = 4 := by omega
      rcases this with h | h | h | h <;> rw [h] <;> decide
    refine ⟨mSI g 193 15 (iN (tkS b len e)), ?_, s1.si rfl, by simp only [si_ne, si_nk, si_eq]⟩
    unfold f191
    simp (disch := omega) only [gT, nbeq, Option.isSome_some, Option.getD_some, Bool.and_true, Bool.true_and, Bool.and_self, mX_some, bS, bN_if, bN_01, i1_01, i0_01, if_true, if_false, Bool.false_eq_true, false_and, and_false, and_true, true_and, and_self, Bool.or_false, Bool.false_or, Bool.or_true, Bool.true_or, Bool.false_and, Bool.and_false, decide_true, decide_false, L0, L1, L2, L3, L4, L5, L6, L7, L8, L9, L10, L11, L12, L13, L14, L15, L16, L17, L18, L19, L20, L21, L22, L23, L24, L25, L27, L33, L39, L40, L45, L48, L57, L60, L72, L90, L97, L98, L99, L100, L121, L122, L242, L255, L256, L580, L600, L1000, L1584, L1000000, Ln1, iN_add, iN_and, iN_or, iN_nd, iN_shl, iN_shr, iN_cl, iN_in, iN_mul, k193 w, r193_1 w, r193_2 w, r193_3 w, r193_4 w, r193_5 w, r193_6 w, r193_7 w, r193_8 w, r193_18 w, r193_19 w, r193_32 w, r193_33 w, r193_34 w, r193_36 w, r193_38 w, r193_39 w, r193_40 w, r193_42 w, r193_45 w, r193_46 w, r193_47 w, r193_48 w, r193_49 w, r193_50 w, e12, ieq_n, t192 w s3.2.1]
theorem t190 {i : Nat} {lo hi : Int32} {ok : Bool} (h3 : i < 3) (S : MS g0 g b len e f gd) (W : FTW f) (P : PLW f (tkS b len e)) (he : e ≤ len) (eo : tkK b len e = 2 → (decide (lo ≤ iN (tkV b len e)) && decide (iN (tkV b len e) ≤ hi)) = ok) : (tkK b len e = 2 → ∃ g', f190 g 193 (iN i) lo hi = some (iN 1, g') ∧ MS g0 g' b len (tkE b len e) (nt ok 2 (tkS b len e) f) (gd && ok) ∧ FTW (nt ok 2 (tkS b len e) f) ∧ mI g' 203 i = iN (tkV b len e) ∧ ∀ j, j ≠ i → mI g' 203 j = mI g 203 j) ∧ (tkK b len e ≠ 2 → ∃ g', f190 g 193 (iN i) lo hi = some (iN 0, g') ∧ Fr pRd g0 g' ∧ mI g' 193 15 = iN (tkS b len e)) := by
  have w := S.2.1.1
  obtain ⟨y1, y2⟩ := t191 (i := i) (lo := lo) (hi := hi) (but := jN) (ok := ok) h3 S W P he (fun hk => by
    have hv := tkV_le he hk
    rw [eo hk, decide_eq_false (iN_nj (by omega))]; simp)
  constructor
  · intro hk
    obtain ⟨g', a1, a2⟩ := y1 hk
    refine ⟨g', ?_, a2⟩
    unfold f190
    simp (disch := omega) only [gT, nbeq, Option.isSome_some, Option.getD_some, Bool.and_true, Bool.true_and, Bool.and_self, mX_some, bS, bN_if, bN_01, i1_01, i0_01, if_true, if_false, Bool.false_eq_true, false_and, and_false, and_true, true_and, and_self, Bool.or_false, Bool.false_or, Bool.or_true, Bool.true_or, Bool.false_and, Bool.and_false, decide_true, decide_false, L0, L1, L2, L3, L4, L5, L6, L7, L8, L9, L10, L11, L12, L13, L14, L15, L16, L17, L18, L19, L20, L21, L22, L23, L24, L25, L27, L33, L39, L40, L45, L48, L57, L60, L72, L90, L97, L98, L99, L100, L121, L122, L242, L255, L256, L580, L600, L1000, L1584, L1000000, Ln1, iN_add, iN_and, iN_or, iN_nd, iN_shl, iN_shr, iN_cl, iN_in, iN_mul, k193 w, a1]
  · intro hk
    obtain ⟨g', a1, a2⟩ := y2 hk
    refine ⟨g', ?_, a2⟩
    unfold f190
    simp (disch := omega) only [gT, nbeq, Option.isSome_some, Option.getD_some, Bool.and_true, Bool.true_and, Bool.and_self, mX_some, bS, bN_if, bN_01, i1_01, i0_01, if_true, if_false, Bool.false_eq_true, false_and, and_false, and_true, true_and, and_self, Bool.or_false, Bool.false_or, Bool.or_true, Bool.true_or, Bool.false_and, Bool.and_false, decide_true, decide_false, L0, L1, L2, L3, L4, L5, L6, L7, L8, L9, L10, L11, L12, L13, L14, L15, L16, L17, L18, L19, L20, L21, L22, L23, L24, L25, L27, L33, L39, L40, L45, L48, L57, L60, L72, L90, L97, L98, L99, L100, L121, L122, L242, L255, L256, L580, L600, L1000, L1584, L1000000, Ln1, iN_add, iN_and, iN_or, iN_nd, iN_shl, iN_shr, iN_cl, iN_in, iN_mul, k193 w, a1]
theorem inK {lo hi v : Nat} (h1 : lo < 2147483648) (h2 : hi < 2147483648) (h3 : v < 2147483648) : (decide (iN lo ≤ iN v) && decide (iN v ≤ iN hi)) = decide (lo ≤ v ∧ v ≤ hi) := by
  rw [← Bool.decide_and, decide_eq_decide, iN_le h1 h3, iN_le h3 h2]
end MTK
