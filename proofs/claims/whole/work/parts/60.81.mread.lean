/-! readText -/
section AB
variable {b : Nat → Nat} {len sort : Nat}
theorem upf_ab {k : Nat} {c : CQ} {v1 v2 : Nat} {f : FT} (h6 : 6 ≤ k) : (upf k c v1 v2 f).2.1 = c.2.1 := by
  cases f with
  | some x => rfl
  | none =>
    show (upc k c v1 v2).2.1 = c.2.1
    by_cases h12 : k < 12
    · rw [upc_y h6 h12]
    · rw [upc_g (by omega)]
theorem lnS_ab {p : Nat} {c : CQ} {f : FT} {y : Nat × CQ × FT} (hs : sort < 3) (h0 : sort ≠ 0) (h : lnS b len sort p c f = .inr y) : y.2.1.2.1 = c.2.1 := by
  unfold lnS at h
  cases hw : wF b len p sort with
  | none => rw [hw] at h; cases h
  | some k =>
    obtain ⟨hk, _, h2, _⟩ := wF_k hs hw
    have h6 : 6 ≤ k := by
      have : sort = 1 ∨ sort = 2 := by omega
      rcases this with rfl | rfl
      · exact h2
      · have : 12 ≤ k := h2; omega
    rw [hw] at h
    simp only at h
    unfold ln1 lnE at h
    repeat' split at h
    all_goals first | (cases h; done) | (have h := Sum.inr.inj h; subst h; exact upf_ab h6)
theorem prs_ab (hs : sort < 3) (h0 : sort ≠ 0) : ∀ n p c f y, c.2.1 = (0, 0) → prs b len sort n p c f = .inr y → y.1.2.1 = (0, 0) := by
  intro n
  induction n with
  | zero =>
    intro p c f y hc h
    have h : (.inr (c, f) : Nat ⊕ (CQ × FT)) = .inr y := h
    have h := Sum.inr.inj h
    subst h; exact hc
  | succ n ih =>
    intro p c f y hc h
    by_cases e : tkK b len p = 0
    · rw [prs_0 e] at h
      have h := Sum.inr.inj h
      subst h; exact hc
    · cases hr : lnS b len sort p c f with
      | inl x => rw [prs_l e hr] at h; cases h
      | inr z =>
        rw [prs_r e hr] at h
        exact ih z.1 z.2.1 z.2.2 y ((lnS_ab hs h0 hr).trans hc) h
end AB
def pTx (x : Nat) : Bool := pTl x || Nat.beq x 196 || Nat.beq x 197
theorem pTl_Tx : ∀ x, pTl x = true → pTx x = true := fun x h => by unfold pTx; rw [h]; rfl
/-- the FAULT that is told -/
def tldF (g : mH) : FT → Prop
  | none => mI g 196 0 = iN 0 ∧ mI g 197 0 = jN
  | some x => mI g 196 0 = iN x.1 ∧ mI g 197 0 = iN x.2
section RT
variable {g : mH} {b : Nat → Nat} {len sort : Nat}
/-- what readText comes to -/
def RTr (sort len : Nat) (g0 g : mH) (ok : Int32) : Nat ⊕ (CQ × FT) → Prop
  | .inl x => ok = iN 0 ∧ tldF g (some (1, x))
  | .inr y => (ok = if (ffn y.1 len y.2).isSome = true then iN 0 else iN 1) ∧ tldF g (ffn y.1 len y.2) ∧ (ffn y.1 len y.2 = none → RCs sort g y.1 none)
theorem t182e {l2 : Int32} {ff : FT} (w : Wd g) (F : FMf g ff) (W : FTW ff) (hl2 : l2 = iN 1) : ∃ g', f182_136 g 193 l2 = some (if ff.isSome = true then iN 0 else iN 1, g') ∧ Fr (fun x => Nat.beq x 196 || Nat.beq x 197) g g' ∧ tldF g' ff ∧ ∀ j, j ≠ 0 → mI g' 196 j = mI g 196 j ∧ mI g' 197 j = mI g 197 j := by
  subst hl2
  cases ff with
  | none =>
    have F : mI g 193 16 = iN 0 := F
    refine ⟨mSI (mSI g 196 0 (iN 0)) 197 0 jN, ?_, (Fr.rfl.si (by decide)).si (by decide), ⟨by simp (disch := omega) only [si_ne, si_nk, si_eq], by simp only [si_ne, si_nk, si_eq]⟩, fun j hj => ⟨by simp (disch := omega) only [si_ne, si_nk, si_eq], by simp (disch := omega) only [si_ne, si_nk, si_eq]⟩⟩
    unfold f182_136 f182_200
    simp (disch := omega) only [gT, nbeq, Option.isSome_some, Option.getD_some, Bool.and_true, Bool.true_and, Bool.and_self, mX_some, bS, bN_if, bN_01, i1_01, i0_01, if_true, if_false, Bool.false_eq_true, false_and, and_false, and_true, true_and, and_self, Bool.or_false, Bool.false_or, Bool.or_true, Bool.true_or, Bool.false_and, Bool.and_false, decide_true, decide_false, L0, L1, L2, L3, L4, L5, L6, L7, L8, L9, L10, L11, L12, L13, L14, L15, L16, L17, L18, L19, L20, L21, L22, L23, L24, L25, L27, L33, L39, L40, L45, L48, L57, L60, L72, L90, L97, L98, L99, L100, L121, L122, L242, L255, L256, L580, L600, L1000, L1584, L1000000, Ln1, iN_add, iN_and, iN_or, iN_nd, iN_shl, iN_shr, iN_cl, iN_in, iN_mul, k193 w, r193_1 w, r193_2 w, r193_3 w, r193_4 w, r193_5 w, r193_6 w, r193_7 w, r193_8 w, r193_18 w, r193_19 w, r193_32 w, r193_33 w, r193_34 w, r193_36 w, r193_38 w, r193_39 w, r193_40 w, r193_42 w, r193_45 w, r193_46 w, r193_47 w, r193_48 w, r193_49 w, r193_50 w, k196 w, k197 w, ieq_n, iN_in, iN_cl, si_ne, si_nk, si_eq, F, ile_p, ieq_p, Option.isSome_none]
  | some x =>
    obtain ⟨F1, F2⟩ := F
    have hx := W x.1 x.2 rfl
    have w1 : Wd (mSI (mSI g 196 0 (iN x.1)) 197 0 (iN x.2)) := w.fr (P := pTx) ((Fr.rfl.si (by decide)).si (by decide))
    refine ⟨mSI (mSI g 196 0 (iN x.1)) 197 0 (iN x.2), ?_, (Fr.rfl.si (by decide)).si (by decide), ⟨by simp (disch := omega) only [si_ne, si_nk, si_eq], by simp only [si_ne, si_nk, si_eq]⟩, fun j hj => ⟨by simp (disch := omega) only [si_ne, si_nk, si_eq], by simp (disch := omega) only [si_ne, si_nk, si_eq]⟩⟩
    unfold f182_136 f182_186 f182_200
    simp (disch := omega) only [gT, nbeq, Option.isSome_some, Option.getD_some, Bool.and_true, Bool.true_and, Bool.and_self, mX_some, bS, bN_if, bN_01, i1_01, i0_01, if_true, if_false, Bool.false_eq_true, false_and, and_false, and_true, true_and, and_self, Bool.or_false, Bool.false_or, Bool.or_true, Bool.true_or, Bool.false_and, Bool.and_false, decide_true, decide_false, L0, L1, L2, L3, L4, L5, L6, L7, L8, L9, L10, L11, L12, L13, L14, L15, L16, L17, L18, L19, L20, L21, L22, L23, L24, L25, L27, L33, L39, L40, L45, L48, L57, L60, L72, L90, L97, L98, L99, L100, L121, L122, L242, L255, L256, L580, L600, L1000, L1584, L1000000, Ln1, iN_add, iN_and, iN_or, iN_nd, iN_shl, iN_shr, iN_cl, iN_in, iN_mul, k193 w, r193_1 w, r193_2 w, r193_3 w, r193_4 w, r193_5 w, r193_6 w, r193_7 w, r193_8 w, r193_18 w, r193_19 w, r193_32 w, r193_33 w, r193_34 w, r193_36 w, r193_38 w, r193_39 w, r193_40 w, r193_42 w, r193_45 w, r193_46 w, r193_47 w, r193_48 w, r193_49 w, r193_50 w, k196 w, k197 w, k193 w1, r193_1 w1, r193_2 w1, r193_3 w1, r193_4 w1, r193_5 w1, r193_6 w1, r193_7 w1, r193_8 w1, r193_18 w1, r193_19 w1, r193_32 w1, r193_33 w1, r193_34 w1, r193_36 w1, r193_38 w1, r193_39 w1, r193_40 w1, r193_42 w1, r193_45 w1, r193_46 w1, r193_47 w1, r193_48 w1, r193_49 w1, r193_50 w1, k196 w1, ieq_n, iN_in, iN_cl, si_ne, si_nk, si_eq, F1, F2, ile_n]
theorem t182b {x : Nat} (w : Wd g) (h15 : mI g 193 15 = iN x) : ∃ g', f182_136 g 193 (iN 0) = some (iN 0, g') ∧ Fr (fun x => Nat.beq x 196 || Nat.beq x 197) g g' ∧ tldF g' (some (1, x)) ∧ ∀ j, j ≠ 0 → mI g' 196 j = mI g 196 j ∧ mI g' 197 j = mI g 197 j := by
  have w1 : Wd (mSI (mSI g 196 0 (iN 1)) 197 0 (iN x)) := w.fr (P := pTx) ((Fr.rfl.si (by decide)).si (by decide))
  refine ⟨mSI (mSI g 196 0 (iN 1)) 197 0 (iN x), ?_, (Fr.rfl.si (by decide)).si (by decide), ⟨by simp (disch := omega) only [si_ne, si_nk, si_eq], by simp only [si_ne, si_nk, si_eq]⟩, fun j hj => ⟨by simp (disch := omega) only [si_ne, si_nk, si_eq], by simp (disch := omega) only [si_ne, si_nk, si_eq]⟩⟩
  unfold f182_136 f182_186 f182_200
  simp (disch := omega) only [gT, nbeq, Option.isSome_some, Option.getD_some, Bool.and_true, Bool.true_and, Bool.and_self, mX_some, bS, bN_if, bN_01, i1_01, i0_01, if_true, if_false, Bool.false_eq_true, false_and, and_false, and_true, true_and, and_self, Bool.or_false, Bool.false_or, Bool.or_true, Bool.true_or, Bool.false_and, Bool.and_false, decide_true, decide_false, L0, L1, L2, L3, L4, L5, L6, L7, L8, L9, L10, L11, L12, L13, L14, L15, L16, L17, L18, L19, L20, L21, L22, L23, L24, L25, L27, L33, L39, L40, L45, L48, L57, L60, L72, L90, L97, L98, L99, L100, L121, L122, L242, L255, L256, L580, L600, L1000, L1584, L1000000, Ln1, iN_add, iN_and, iN_or, iN_nd, iN_shl, iN_shr, iN_cl, iN_in, iN_mul, k193 w, r193_1 w, r193_2 w, r193_3 w, r193_4 w, r193_5 w, r193_6 w, r193_7 w, r193_8 w, r193_18 w, r193_19 w, r193_32 w, r193_33 w, r193_34 w, r193_36 w, r193_38 w, r193_39 w, r193_40 w, r193_42 w, r193_45 w, r193_46 w, r193_47 w, r193_48 w, r193_49 w, r193_50 w, k196 w, k197 w, k193 w1, r193_1 w1, r193_2 w1, r193_3 w1, r193_4 w1, r193_5 w1, r193_6 w1, r193_7 w1, r193_8 w1, r193_18 w1, r193_19 w1, r193_32 w1, r193_33 w1, r193_34 w1, r193_36 w1, r193_38 w1, r193_39 w1, r193_40 w1, r193_42 w1, r193_45 w1, r193_46 w1, r193_47 w1, r193_48 w1, r193_49 w1, r193_50 w1, k196 w1, eq_self, if_true, ieq_n, iN_in, iN_cl, si_ne, si_nk, si_eq, h15]
/-- the row that is told, made empty -/
def e0N (sort j : Nat) : Nat := if sort = 0 ∧ 27 ≤ j ∧ j ≤ 32 then 5 else 0
theorem t182l {Q : Int32 × mH → Prop} (hs : sort < 3) (w : Wd g) (hr : ∀ z : Int32 × mH, Fr (fun x => Nat.beq x 202) g z.2 → (∀ j, j < 121 → mI z.2 202 j = iN (e0N sort j)) → z.1 = iN 121 → ∃ v, f182_2 193 (iN sort) z = some (.inr v) ∧ Q v) : ∃ v, f182 g 193 (iN sort) = some v ∧ Q v := by
  unfold f182
  have := lp_inv (body := f182_2 193 (iN sort)) (P := fun i z => z.1 = iN i ∧ Fr (fun x => Nat.beq x 202) g z.2 ∧ ∀ j, j < i → mI z.2 202 j = iN (e0N sort j)) (Q := Q) 121 (fun i z hi hP => by
    obtain ⟨z1, z2, z3⟩ := hP
    have w2 := w.fr z2
    refine Or.inl ⟨(iN (i + 1), mSI z.2 202 i (iN (e0N sort i))), ?_, rfl, z2.si rfl, fun j hj => ?_⟩
    · unfold f182_2
      rw [z1]
      by_cases e : sort = 0
      · subst e
        simp (disch := omega) only [gT, nbeq, Option.isSome_some, Option.getD_some, Bool.and_true, Bool.true_and, Bool.and_self, mX_some, bS, bN_if, bN_01, i1_01, i0_01, if_true, if_false, Bool.false_eq_true, false_and, and_false, and_true, true_and, and_self, Bool.or_false, Bool.false_or, Bool.or_true, Bool.true_or, Bool.false_and, Bool.and_false, decide_true, decide_false, L0, L1, L2, L3, L4, L5, L6, L7, L8, L9, L10, L11, L12, L13, L14, L15, L16, L17, L18, L19, L20, L21, L22, L23, L24, L25, L27, L33, L39, L40, L45, L48, L57, L60, L72, L90, L97, L98, L99, L100, L121, L122, L242, L255, L256, L580, L600, L1000, L1584, L1000000, Ln1, iN_add, iN_and, iN_or, iN_nd, iN_shl, iN_shr, iN_cl, iN_in, iN_mul, L32, ile_n, k193 w2, r193_1 w2, r193_2 w2, r193_3 w2, r193_4 w2, r193_5 w2, r193_6 w2, r193_7 w2, r193_8 w2, r193_18 w2, r193_19 w2, r193_32 w2, r193_33 w2, r193_34 w2, r193_36 w2, r193_38 w2, r193_39 w2, r193_40 w2, r193_42 w2, r193_45 w2, r193_46 w2, r193_47 w2, r193_48 w2, r193_49 w2, r193_50 w2, k202 w2, eq_self, if_true, t179k, iN_in, iN_cl]
        by_cases e2 : 27 ≤ i ∧ i ≤ 32
        · rw [decide_eq_true e2]
          have : e0N 0 i = 5 := by unfold e0N; rw [if_pos ⟨rfl, e2⟩]
          rw [this]; rfl
        · rw [decide_eq_false e2]
          have : e0N 0 i = 0 := by unfold e0N; rw [if_neg (fun h => e2 h.2)]
          rw [this]; rfl
      · have : e0N sort i = 0 := by unfold e0N; rw [if_neg (fun h => e h.1)]
        rw [this]
        simp (disch := omega) only [gT, nbeq, Option.isSome_some, Option.getD_some, Bool.and_true, Bool.true_and, Bool.and_self, mX_some, bS, bN_if, bN_01, i1_01, i0_01, if_true, if_false, Bool.false_eq_true, false_and, and_false, and_true, true_and, and_self, Bool.or_false, Bool.false_or, Bool.or_true, Bool.true_or, Bool.false_and, Bool.and_false, decide_true, decide_false, L0, L1, L2, L3, L4, L5, L6, L7, L8, L9, L10, L11, L12, L13, L14, L15, L16, L17, L18, L19, L20, L21, L22, L23, L24, L25, L27, L33, L39, L40, L45, L48, L57, L60, L72, L90, L97, L98, L99, L100, L121, L122, L242, L255, L256, L580, L600, L1000, L1584, L1000000, Ln1, iN_add, iN_and, iN_or, iN_nd, iN_shl, iN_shr, iN_cl, iN_in, iN_mul, ile_n, k193 w2, r193_1 w2, r193_2 w2, r193_3 w2, r193_4 w2, r193_5 w2, r193_6 w2, r193_7 w2, r193_8 w2, r193_18 w2, r193_19 w2, r193_32 w2, r193_33 w2, r193_34 w2, r193_36 w2, r193_38 w2, r193_39 w2, r193_40 w2, r193_42 w2, r193_45 w2, r193_46 w2, r193_47 w2, r193_48 w2, r193_49 w2, r193_50 w2, k202 w2, ieq_n, iN_in, iN_cl]
    · by_cases e : j = i
      · subst e; simp only [si_ne, si_nk, si_eq]
      · simp (disch := omega) only [si_ne, si_nk, si_eq]; exact z3 j (by omega)) (fun z hP => by
    obtain ⟨z1, z2, z3⟩ := hP
    exact hr z z2 z3 z1) (by omega) (s := (iN 0, g)) ⟨rfl, Fr.rfl, fun j hj => by omega⟩
  simp only [L0]
  exact this
theorem e0_q : ∀ j, j < 45 → j ≠ 2 → e0N 0 j = flat qE j := by decide +kernel
theorem t182 (hs : sort < 3) (w : Wd g) (h10 : mI g 193 10 = iN len) (hl : len ≤ 600) (hb : ∀ i, i < len → b i < 256 ∧ mI g 194 i = yN (b i)) : ∃ ok g', f182 g 193 (iN sort) = some (ok, g') ∧ (Fr pTx g g' ∧ ∀ j, j ≠ 0 → mI g' 196 j = mI g 196 j ∧ mI g' 197 j = mI g 197 j) ∧ RTr sort len g g' ok (prs b len sort 600 0 cE none) := by
  obtain ⟨⟨ok, g'⟩, h1, h2⟩ := t182l (Q := fun v => (Fr pTx g v.2 ∧ ∀ j, j ≠ 0 → mI v.2 196 j = mI g 196 j ∧ mI v.2 197 j = mI g 197 j) ∧ RTr sort len g v.2 v.1 (prs b len sort 600 0 cE none)) (sort := sort) hs w (fun z z2 z3 z1 => by
    have w2 := w.fr z2
    have G1 : ∀ v, Fr pTl z.2 (mSI (mSI (mSI (mSI (mSI z.2 202 2 v) 193 20 jN) 193 21 jN) 193 9 (iN 0)) 193 16 (iN 0)) := fun v => ((((Fr.rfl.si (by decide)).si (by decide)).si (by decide)).si (by decide)).si (by decide)
    -- behind the making empty
    have main : ∀ v, v = (if sort = 0 then iN 6 else iN 0) → ∃ g1 g2 ok, f183 (mSI (mSI (mSI (mSI (mSI z.2 202 2 v) 193 20 jN) 193 21 jN) 193 9 (iN 0)) 193 16 (iN 0)) 193 = some ((), g1) ∧ Wd g1 ∧ f185 g1 193 (iN sort) = some (ok, g2) ∧ MPr sort g b len g2 ok (prs b len sort 600 0 cE none) := fun v hv => by
      have Gv := (z2.mono p202_Tl).tr (G1 v)
      have T1 : TpM (mSI (mSI (mSI (mSI (mSI z.2 202 2 v) 193 20 jN) 193 21 jN) 193 9 (iN 0)) 193 16 (iN 0)) b len := ⟨w.fr Gv, by simp (disch := omega) only [si_ne, si_nk, si_eq]; exact (z2.i rfl 10).trans h10, hl, fun i hi => ⟨(hb i hi).1, (Gv.i rfl i).trans (hb i hi).2⟩⟩
      obtain ⟨g1, a1, a2, a3, a4, a5⟩ := t183 T1 (Nat.zero_le _) (by simp (disch := omega) only [si_ne, si_nk, si_eq])
      have F1 : FMf g1 none := (a3 16 (by decide) (by decide) (by decide) (by decide)).trans (by simp only [si_ne, si_nk, si_eq])
      have e202 : ∀ j, j < 121 → mI g1 202 j = if j = 2 then v else iN (e0N sort j) := fun j hj => by
        rw [a2.i rfl]
        simp (disch := omega) only [si_ne, si_nk, si_eq]
        by_cases e : j = 2
        · subst e; rw [if_pos rfl]; simp only [si_ne, si_nk, si_eq]
        · rw [if_neg e, si_nk _ _ _ _ _ _ e]; exact z3 j hj
      have R1 : RCs sort g1 cE none := by
        have : sort = 0 ∨ sort = 1 ∨ sort = 2 := by omega
        rcases this with rfl | rfl | rfl
        · refine ⟨fun j hj => ?_, (a3 20 (by decide) (by decide) (by decide) (by decide)).trans (by simp (disch := omega) only [si_ne, si_nk, si_eq]; rfl), (a3 21 (by decide) (by decide) (by decide) (by decide)).trans (by simp (disch := omega) only [si_ne, si_nk, si_eq]; rfl)⟩
          rw [e202 j (by omega)]
          by_cases e : j = 2
          · subst e; rw [if_pos rfl, hv]; rfl
          · rw [if_neg e, e0_q j hj e]; rfl
        · exact ⟨by rw [e202 0 (by decide)]; rfl, fun k hk => by have : k < 0 := hk; omega⟩
        · exact ⟨by rw [e202 0 (by decide)]; rfl, fun k hk => by have : k < 0 := hk; omega⟩
      obtain ⟨ok, g2, b1, b2⟩ := t185 hs a4 a5 F1 R1
      refine ⟨g1, g2, ok, a1, a4.1, b1, ?_⟩
      have Fg := Gv.tr (a2.mono (fun x h => pRd_Tl x (p193_Rd x h)))
      generalize prs b len sort 600 0 cE none = r at b2
      cases r with
      | inl x => exact ⟨b2.1, Fg.tr b2.2.1, b2.2.2⟩
      | inr y => exact ⟨b2.1, Fg.tr b2.2.1, b2.2.2⟩
    -- the end
    obtain ⟨g1, g2, ok, m1, m2, m3, m4⟩ := main (if sort = 0 then iN 6 else iN 0) rfl
    have pl : ∀ x, (fun x => Nat.beq x 196 || Nat.beq x 197) x = true → pTx x = true := fun x h => by
      have h : (Nat.beq x 196 || Nat.beq x 197) = true := h
      unfold pTx
      rw [Bool.or_assoc, h, Bool.or_true]
    have st : ∀ {ok' v f'} {g3 : mH}, Fr pTl g g3 → f182_136 g3 193 ok' = some v → (Fr (fun x => Nat.beq x 196 || Nat.beq x 197) g3 v.2 ∧ tldF v.2 f' ∧ ∀ j, j ≠ 0 → mI v.2 196 j = mI g3 196 j ∧ mI v.2 197 j = mI g3 197 j) → (Fr pTx g v.2 ∧ ∀ j, j ≠ 0 → mI v.2 196 j = mI g 196 j ∧ mI v.2 197 j = mI g 197 j) := fun {ok' v f'} {g3} x1 _ x3 => ⟨(x1.mono pTl_Tx).tr (x3.1.mono pl), fun j hj => ⟨(x3.2.2 j hj).1.trans (x1.i rfl j), (x3.2.2 j hj).2.trans (x1.i rfl j)⟩⟩
    cases hr : prs b len sort 600 0 cE none with
    | inl x =>
      rw [hr] at m4
      obtain ⟨rfl, n1, n2⟩ := m4
      obtain ⟨g4, d1, d2, d3, d4⟩ := t182b (w.fr n1) n2
      refine ⟨(iN 0, g4), ?_, st n1 d1 ⟨d2, d3, d4⟩, rfl, d3⟩
      unfold f182_2
      rw [z1]
      by_cases e : sort = 0
      · subst e
        simp (disch := omega) only [gT, nbeq, Option.isSome_some, Option.getD_some, Bool.and_true, Bool.true_and, Bool.and_self, mX_some, bS, bN_if, bN_01, i1_01, i0_01, if_true, if_false, Bool.false_eq_true, false_and, and_false, and_true, true_and, and_self, Bool.or_false, Bool.false_or, Bool.or_true, Bool.true_or, Bool.false_and, Bool.and_false, decide_true, decide_false, L0, L1, L2, L3, L4, L5, L6, L7, L8, L9, L10, L11, L12, L13, L14, L15, L16, L17, L18, L19, L20, L21, L22, L23, L24, L25, L27, L33, L39, L40, L45, L48, L57, L60, L72, L90, L97, L98, L99, L100, L121, L122, L242, L255, L256, L580, L600, L1000, L1584, L1000000, Ln1, iN_add, iN_and, iN_or, iN_nd, iN_shl, iN_shr, iN_cl, iN_in, iN_mul, ile_p, k193 w2, r193_1 w2, r193_2 w2, r193_3 w2, r193_4 w2, r193_5 w2, r193_6 w2, r193_7 w2, r193_8 w2, r193_18 w2, r193_19 w2, r193_32 w2, r193_33 w2, r193_34 w2, r193_36 w2, r193_38 w2, r193_39 w2, r193_40 w2, r193_42 w2, r193_45 w2, r193_46 w2, r193_47 w2, r193_48 w2, r193_49 w2, r193_50 w2, k202 w2, eq_self, if_true, iN_in, iN_cl] at m1 ⊢
        simp (disch := omega) only [gT, nbeq, Option.isSome_some, Option.getD_some, Bool.and_true, Bool.true_and, Bool.and_self, mX_some, bS, bN_if, bN_01, i1_01, i0_01, if_true, if_false, Bool.false_eq_true, false_and, and_false, and_true, true_and, and_self, Bool.or_false, Bool.false_or, Bool.or_true, Bool.true_or, Bool.false_and, Bool.and_false, decide_true, decide_false, m1, k193 m2, m3, eq_self, if_true, d1]
      · rw [if_neg e] at m1
        simp (disch := omega) only [gT, nbeq, Option.isSome_some, Option.getD_some, Bool.and_true, Bool.true_and, Bool.and_self, mX_some, bS, bN_if, bN_01, i1_01, i0_01, if_true, if_false, Bool.false_eq_true, false_and, and_false, and_true, true_and, and_self, Bool.or_false, Bool.false_or, Bool.or_true, Bool.true_or, Bool.false_and, Bool.and_false, decide_true, decide_false, L0, L1, L2, L3, L4, L5, L6, L7, L8, L9, L10, L11, L12, L13, L14, L15, L16, L17, L18, L19, L20, L21, L22, L23, L24, L25, L27, L33, L39, L40, L45, L48, L57, L60, L72, L90, L97, L98, L99, L100, L121, L122, L242, L255, L256, L580, L600, L1000, L1584, L1000000, Ln1, iN_add, iN_and, iN_or, iN_nd, iN_shl, iN_shr, iN_cl, iN_in, iN_mul, ile_p, k193 w2, r193_1 w2, r193_2 w2, r193_3 w2, r193_4 w2, r193_5 w2, r193_6 w2, r193_7 w2, r193_8 w2, r193_18 w2, r193_19 w2, r193_32 w2, r193_33 w2, r193_34 w2, r193_36 w2, r193_38 w2, r193_39 w2, r193_40 w2, r193_42 w2, r193_45 w2, r193_46 w2, r193_47 w2, r193_48 w2, r193_49 w2, r193_50 w2, k202 w2, ineF, if_false, iN_in, iN_cl]
        simp (disch := omega) only [gT, nbeq, Option.isSome_some, Option.getD_some, Bool.and_true, Bool.true_and, Bool.and_self, mX_some, bS, bN_if, bN_01, i1_01, i0_01, if_true, if_false, Bool.false_eq_true, false_and, and_false, and_true, true_and, and_self, Bool.or_false, Bool.false_or, Bool.or_true, Bool.true_or, Bool.false_and, Bool.and_false, decide_true, decide_false, m1, k193 m2, m3, eq_self, if_true, d1]
    | inr y =>
      rw [hr] at m4
      obtain ⟨rfl, n1, n2, n3, n4, n5, n6, n7, n8⟩ := m4
      obtain ⟨c, f⟩ := y
      have n4 : FMf g2 f := n4
      have n5 : FTW f := n5
      have n6 : PLW f len := n6
      have n7 : CWF c := n7
      have n8 : RCs sort g2 c f := n8
      have W3 : FTW (ffn c len f) := n5.nt ⟨by omega, by omega, hl⟩
      -- the last FAULT
      obtain ⟨g3, o1, o2, o3, o4⟩ : ∃ g3, (f182_2 193 (iN sort) z = mX (f182_136 g3 193 (iN 1))) ∧ Fr p193 g2 g3 ∧ FMf g3 (ffn c len f) ∧ ∀ j, j ≠ 16 → j ≠ 17 → mI g3 193 j = mI g2 193 j := by
        by_cases e : sort = 0
        · subst e
          rw [if_pos rfl] at m1
          obtain ⟨⟨⟨a1, a2, _, _⟩, _⟩, a3, a4, _⟩ := id n7
          cases f with
          | some x =>
            have n4' := n4.1
            have hx := n5 x.1 x.2 rfl
            refine ⟨g2, ?_, Fr.rfl, by unfold ffn; rw [nt_s]; exact n4, fun _ _ _ => rfl⟩
            unfold f182_2
            rw [z1]
            simp (disch := omega) only [gT, nbeq, Option.isSome_some, Option.getD_some, Bool.and_true, Bool.true_and, Bool.and_self, mX_some, bS, bN_if, bN_01, i1_01, i0_01, if_true, if_false, Bool.false_eq_true, false_and, and_false, and_true, true_and, and_self, Bool.or_false, Bool.false_or, Bool.or_true, Bool.true_or, Bool.false_and, Bool.and_false, decide_true, decide_false, L0, L1, L2, L3, L4, L5, L6, L7, L8, L9, L10, L11, L12, L13, L14, L15, L16, L17, L18, L19, L20, L21, L22, L23, L24, L25, L27, L33, L39, L40, L45, L48, L57, L60, L72, L90, L97, L98, L99, L100, L121, L122, L242, L255, L256, L580, L600, L1000, L1584, L1000000, Ln1, iN_add, iN_and, iN_or, iN_nd, iN_shl, iN_shr, iN_cl, iN_in, iN_mul, ile_p, k193 w2, r193_1 w2, r193_2 w2, r193_3 w2, r193_4 w2, r193_5 w2, r193_6 w2, r193_7 w2, r193_8 w2, r193_18 w2, r193_19 w2, r193_32 w2, r193_33 w2, r193_34 w2, r193_36 w2, r193_38 w2, r193_39 w2, r193_40 w2, r193_42 w2, r193_45 w2, r193_46 w2, r193_47 w2, r193_48 w2, r193_49 w2, r193_50 w2, k202 w2, eq_self, if_true, iN_in, iN_cl]
            simp (disch := omega) only [gT, nbeq, Option.isSome_some, Option.getD_some, Bool.and_true, Bool.true_and, Bool.and_self, mX_some, bS, bN_if, bN_01, i1_01, i0_01, if_true, if_false, Bool.false_eq_true, false_and, and_false, and_true, true_and, and_self, Bool.or_false, Bool.false_or, Bool.or_true, Bool.true_or, Bool.false_and, Bool.and_false, decide_true, decide_false, m1, k193 m2, m3, ieq_n, k193 n2, n4']
          | none =>
            have n4' : mI g2 193 16 = iN 0 := n4
            obtain ⟨r1, r2, r3⟩ := n8
            have r0 : mI g2 202 0 = iN (c.1 0 0) := r1 0 (by decide)
            have r01 : mI g2 202 1 = iN (c.1 0 1) := r1 1 (by decide)
            obtain ⟨g3, d1, d2, d3, d4, _⟩ := t188 (k := 4) (pl := len) n2 n4 n5 n6 hl
            have cmpA : ∀ {α : Type} {x y : α}, (if iN (c.1 0 0) ≤ pN c.2.1.1 then x else y) = if c.1 0 0 < c.2.1.1 then x else y := fun {α x y} => by
              generalize c.2.1.1 = A at a3
              cases A with
              | zero => rw [pN_z, ijle (by omega), if_neg (by omega)]
              | succ A =>
                rw [pN_s, ile_d (by omega) (by omega)]
                by_cases h : c.1 0 0 ≤ A
                · rw [if_pos h, if_pos (by omega)]
                · rw [if_neg h, if_neg (by omega)]
            have cmpB : ∀ {α : Type} {x y : α}, (if pN c.2.1.2 < iN (c.1 0 1) then x else y) = if c.2.1.2 ≤ c.1 0 1 then x else y := fun {α x y} => by
              generalize c.2.1.2 = B at a4
              cases B with
              | zero => rw [pN_z, jilt (by omega), if_pos (by omega)]
              | succ B =>
                rw [pN_s, ilt_d (by omega) (by omega)]
                by_cases h : B < c.1 0 1
                · rw [if_pos h, if_pos (by omega)]
                · rw [if_neg h, if_neg (by omega)]
            have e7 : f182_127 g2 193 (iN 1) = f182_136 g3 193 (iN 1) := by
              unfold f182_127
              simp (disch := omega) only [gT, nbeq, Option.isSome_some, Option.getD_some, Bool.and_true, Bool.true_and, Bool.and_self, mX_some, bS, bN_if, bN_01, i1_01, i0_01, if_true, if_false, Bool.false_eq_true, false_and, and_false, and_true, true_and, and_self, Bool.or_false, Bool.false_or, Bool.or_true, Bool.true_or, Bool.false_and, Bool.and_false, decide_true, decide_false, L0, L1, L2, L3, L4, L5, L6, L7, L8, L9, L10, L11, L12, L13, L14, L15, L16, L17, L18, L19, L20, L21, L22, L23, L24, L25, L27, L33, L39, L40, L45, L48, L57, L60, L72, L90, L97, L98, L99, L100, L121, L122, L242, L255, L256, L580, L600, L1000, L1584, L1000000, Ln1, iN_add, iN_and, iN_or, iN_nd, iN_shl, iN_shr, iN_cl, iN_in, iN_mul, k193 n2, n3, d1]
            have pre : f182_2 193 (iN 0) z = mX (if c.1 0 0 < c.2.1.1 then f182_136 g3 193 (iN 1) else if c.2.1.2 ≤ c.1 0 1 then f182_136 g2 193 (iN 1) else f182_136 g3 193 (iN 1)) := by
              unfold f182_2
              rw [z1]
              simp (disch := omega) only [gT, nbeq, Option.isSome_some, Option.getD_some, Bool.and_true, Bool.true_and, Bool.and_self, mX_some, bS, bN_if, bN_01, i1_01, i0_01, if_true, if_false, Bool.false_eq_true, false_and, and_false, and_true, true_and, and_self, Bool.or_false, Bool.false_or, Bool.or_true, Bool.true_or, Bool.false_and, Bool.and_false, decide_true, decide_false, L0, L1, L2, L3, L4, L5, L6, L7, L8, L9, L10, L11, L12, L13, L14, L15, L16, L17, L18, L19, L20, L21, L22, L23, L24, L25, L27, L33, L39, L40, L45, L48, L57, L60, L72, L90, L97, L98, L99, L100, L121, L122, L242, L255, L256, L580, L600, L1000, L1584, L1000000, Ln1, iN_add, iN_and, iN_or, iN_nd, iN_shl, iN_shr, iN_cl, iN_in, iN_mul, ile_p, k193 w2, r193_1 w2, r193_2 w2, r193_3 w2, r193_4 w2, r193_5 w2, r193_6 w2, r193_7 w2, r193_8 w2, r193_18 w2, r193_19 w2, r193_32 w2, r193_33 w2, r193_34 w2, r193_36 w2, r193_38 w2, r193_39 w2, r193_40 w2, r193_42 w2, r193_45 w2, r193_46 w2, r193_47 w2, r193_48 w2, r193_49 w2, r193_50 w2, k202 w2, eq_self, if_true, iN_in, iN_cl]
              simp (disch := omega) only [gT, nbeq, Option.isSome_some, Option.getD_some, Bool.and_true, Bool.true_and, Bool.and_self, mX_some, bS, bN_if, bN_01, i1_01, i0_01, if_true, if_false, Bool.false_eq_true, false_and, and_false, and_true, true_and, and_self, Bool.or_false, Bool.false_or, Bool.or_true, Bool.true_or, Bool.false_and, Bool.and_false, decide_true, decide_false, L0, L1, L2, L3, L4, L5, L6, L7, L8, L9, L10, L11, L12, L13, L14, L15, L16, L17, L18, L19, L20, L21, L22, L23, L24, L25, L27, L33, L39, L40, L45, L48, L57, L60, L72, L90, L97, L98, L99, L100, L121, L122, L242, L255, L256, L580, L600, L1000, L1584, L1000000, Ln1, iN_add, iN_and, iN_or, iN_nd, iN_shl, iN_shr, iN_cl, iN_in, iN_mul, m1, k193 m2, m3, ieq_n, k193 n2, r193_1 n2, r193_2 n2, r193_3 n2, r193_4 n2, r193_5 n2, r193_6 n2, r193_7 n2, r193_8 n2, r193_18 n2, r193_19 n2, r193_32 n2, r193_33 n2, r193_34 n2, r193_36 n2, r193_38 n2, r193_39 n2, r193_40 n2, r193_42 n2, r193_45 n2, r193_46 n2, r193_47 n2, r193_48 n2, r193_49 n2, r193_50 n2, k202 n2, n4', eq_self, if_true, iN_in, iN_cl, r0, r01, r2, r3, cmpA, cmpB, e7]
            rw [pre]
            by_cases h : c.1 0 0 < c.2.1.1
            · rw [if_pos h]
              refine ⟨g3, rfl, d2, ?_, d4⟩
              unfold ffn; rw [decide_eq_false (by omega)]; exact d3
            · rw [if_neg h]
              by_cases h2 : c.2.1.2 ≤ c.1 0 1
              · rw [if_pos h2]
                refine ⟨g2, rfl, Fr.rfl, ?_, fun _ _ _ => rfl⟩
                unfold ffn; rw [decide_eq_true ⟨by omega, h2⟩]; exact n4
              · rw [if_neg h2]
                refine ⟨g3, rfl, d2, ?_, d4⟩
                unfold ffn; rw [decide_eq_false (by omega)]; exact d3
        · rw [if_neg e] at m1
          have ab : c.2.1 = (0, 0) := prs_ab hs e 600 0 cE none (c, f) rfl hr
          refine ⟨g2, ?_, Fr.rfl, ?_, fun _ _ _ => rfl⟩
          · unfold f182_2
            rw [z1]
            simp (disch := omega) only [gT, nbeq, Option.isSome_some, Option.getD_some, Bool.and_true, Bool.true_and, Bool.and_self, mX_some, bS, bN_if, bN_01, i1_01, i0_01, if_true, if_false, Bool.false_eq_true, false_and, and_false, and_true, true_and, and_self, Bool.or_false, Bool.false_or, Bool.or_true, Bool.true_or, Bool.false_and, Bool.and_false, decide_true, decide_false, L0, L1, L2, L3, L4, L5, L6, L7, L8, L9, L10, L11, L12, L13, L14, L15, L16, L17, L18, L19, L20, L21, L22, L23, L24, L25, L27, L33, L39, L40, L45, L48, L57, L60, L72, L90, L97, L98, L99, L100, L121, L122, L242, L255, L256, L580, L600, L1000, L1584, L1000000, Ln1, iN_add, iN_and, iN_or, iN_nd, iN_shl, iN_shr, iN_cl, iN_in, iN_mul, ile_p, k193 w2, r193_1 w2, r193_2 w2, r193_3 w2, r193_4 w2, r193_5 w2, r193_6 w2, r193_7 w2, r193_8 w2, r193_18 w2, r193_19 w2, r193_32 w2, r193_33 w2, r193_34 w2, r193_36 w2, r193_38 w2, r193_39 w2, r193_40 w2, r193_42 w2, r193_45 w2, r193_46 w2, r193_47 w2, r193_48 w2, r193_49 w2, r193_50 w2, k202 w2, ineF, if_false, iN_in, iN_cl]
            simp (disch := omega) only [gT, nbeq, Option.isSome_some, Option.getD_some, Bool.and_true, Bool.true_and, Bool.and_self, mX_some, bS, bN_if, bN_01, i1_01, i0_01, if_true, if_false, Bool.false_eq_true, false_and, and_false, and_true, true_and, and_self, Bool.or_false, Bool.false_or, Bool.or_true, Bool.true_or, Bool.false_and, Bool.and_false, decide_true, decide_false, m1, k193 m2, m3, ieq_n]
          · unfold ffn
            rw [ab, decide_eq_true ⟨Nat.zero_le _, Nat.zero_le _⟩]; exact n4
      have N1 : Fr pTl g g3 := n1.tr (o2.mono (fun x h => pRd_Tl x (p193_Rd x h)))
      obtain ⟨g4, d1, d2, d3, d4⟩ := t182e (w.fr N1) o3 W3 rfl
      refine ⟨(_, g4), ?_, st N1 d1 ⟨d2, d3, d4⟩, rfl, d3, fun hn => ?_⟩
      · rw [o1, d1, mX_some]
      · have hf : f = none := (nt_none hn).2
        have R2 : RCs sort g2 c none := by rw [hf] at n8; exact n8
        exact (R2.ge (fun j => o2.i rfl j) (o4 20 (by decide) (by decide)) (o4 21 (by decide) (by decide))).ge (fun j => d2.i rfl j) (d2.i rfl 20) (d2.i rfl 21))
  exact ⟨ok, g', h1, h2⟩
end RT
