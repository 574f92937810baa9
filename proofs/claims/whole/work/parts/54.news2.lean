/-! BETWEEN, CENTRE, LOSS -/
def du (st : Nat → Nat) (g : Nat → Bool) : Nat → Nat → Nat → Option Nat
  | 0, _, _ => none
  | n + 1, k, x => if g x = true then some k else du st g n (k + 1) (st x)
theorem lp_du {σ ρ : Type} {body : σ → Option (σ ⊕ ρ)} (S : Nat → Nat → σ) (st : Nat → Nat) (g : Nat → Bool) (r : Option Nat → ρ) (I : Nat → Prop) (hI : ∀ x, I x → I (st x)) (hg : ∀ k x, k ≤ 6 → I x → g x = true → body (S k x) = some (.inr (r (some k)))) (hs : ∀ k x, k ≤ 6 → I x → g x = false → body (S k x) = some (.inl (S (k + 1) (st x)))) (he : ∀ x, I x → body (S 7 x) = some (.inr (r none))) {x0 : Nat} (h0 : I x0) : mLoop body mFuel (S 0 x0) = some (r (du st g 7 0 x0)) := by
  have key : ∀ n k x, n + k = 7 → I x → ∀ fu, n < fu → mLoop body fu (S k x) = some (r (du st g n k x)) := by
    intro n
    induction n with
    | zero =>
      intro k x hk hx fu hf
      obtain ⟨fu, rfl⟩ : ∃ g, fu = g + 1 := ⟨fu - 1, by omega⟩
      have : k = 7 := by omega
      subst this
      simp only [mLoop, he x hx, du]
    | succ n ih =>
      intro k x hk hx fu hf
      obtain ⟨fu, rfl⟩ : ∃ g, fu = g + 1 := ⟨fu - 1, by omega⟩
      cases hgx : g x with
      | true => simp only [mLoop, hg k x (by omega) hx hgx, du, hgx, if_true]
      | false =>
        simp only [mLoop, hs k x (by omega) hx hgx, du, hgx, Bool.false_eq_true, if_false]
        exact ih (k + 1) (st x) (by omega) (hI x hx) fu (by omega)
  exact key 7 0 x0 rfl h0 mFuel (by show 7 < 5000; omega)
theorem du_le {st : Nat → Nat} {g : Nat → Bool} : ∀ n k x m, du st g n k x = some m → m < n + k := by
  intro n
  induction n with
  | zero => intro k x m h; cases h
  | succ n ih =>
    intro k x m h
    simp only [du] at h
    split at h
    · cases h; omega
    · have := ih _ _ _ h; omega
/-- days until all of t KNOW it -/
def dys (q : LQ) (t x : Nat) : Option Nat := du (spr q) (fun x => decide (nd t x = 0)) 7 0 x
theorem t158 {h : mH} {a : Nat} {q : LQ} (H : LibS h a q) (W : QW q) {x t : Nat} (hx : x < 2 ^ q 0 1) (ht : t < 2147483648) : f158 h a (iN x) (iN t) = some (zN (dys q t x)) := by
  have hm := pw_6 W.1.2.1
  unfold f158
  refine lp_du (fun k x => (iN x, iN k)) (spr q) (fun x => decide (nd t x = 0)) zN (fun x => x < 2 ^ q 0 1) (fun x hx => spr_lt hx) ?_ ?_ ?_ hx
  · intro k x hk hx hg
    have hl := nd_le t x
    rw [decide_eq_true_iff] at hg
    unfold f158_5
    simp (disch := omega) only [gT, nbeq, Option.isSome_some, Option.getD_some, Bool.and_true, Bool.true_and, Bool.and_self, mX_some, bS, bN_if, bN_01, i1_01, i0_01, if_true, if_false, Bool.false_eq_true, false_and, and_false, and_true, true_and, and_self, Bool.or_false, Bool.false_or, Bool.or_true, Bool.true_or, Bool.false_and, Bool.and_false, decide_true, decide_false, L0, L1, L2, L3, L4, L5, L6, L7, L8, L9, L10, L11, L12, L13, L14, L15, L16, L17, L18, L19, L20, L21, L22, L23, L24, L25, L27, L33, L39, L40, L45, L48, L57, L60, L72, L90, L97, L98, L99, L100, L121, L122, L242, L255, L256, L580, L600, L1000, L1584, L1000000, Ln1, iN_add, iN_and, iN_or, iN_nd, iN_shl, iN_shr, iN_cl, iN_in, iN_mul, ilt_n, ieq_p]; rfl
  · intro k x hk hx hg
    have hl := nd_le t x
    rw [decide_eq_false_iff_not] at hg
    unfold f158_5
    simp (disch := omega) only [gT, nbeq, Option.isSome_some, Option.getD_some, Bool.and_true, Bool.true_and, Bool.and_self, mX_some, bS, bN_if, bN_01, i1_01, i0_01, if_true, if_false, Bool.false_eq_true, false_and, and_false, and_true, true_and, and_self, Bool.or_false, Bool.false_or, Bool.or_true, Bool.true_or, Bool.false_and, Bool.and_false, decide_true, decide_false, L0, L1, L2, L3, L4, L5, L6, L7, L8, L9, L10, L11, L12, L13, L14, L15, L16, L17, L18, L19, L20, L21, L22, L23, L24, L25, L27, L33, L39, L40, L45, L48, L57, L60, L72, L90, L97, L98, L99, L100, L121, L122, L242, L255, L256, L580, L600, L1000, L1584, L1000000, Ln1, iN_add, iN_and, iN_or, iN_nd, iN_shl, iN_shr, iN_cl, iN_in, iN_mul, ilt_n, ieq_n, H.k, t98 H W, t99 H W]
    congr 4
    show spr q x &&& (2 ^ q 0 1 - 1) = spr q x
    exact and_all (spr_lt hx)
  · intro x hx
    unfold f158_5
    simp (disch := omega) only [gT, nbeq, Option.isSome_some, Option.getD_some, Bool.and_true, Bool.true_and, Bool.and_self, mX_some, bS, bN_if, bN_01, i1_01, i0_01, if_true, if_false, Bool.false_eq_true, false_and, and_false, and_true, true_and, and_self, Bool.or_false, Bool.false_or, Bool.or_true, Bool.true_or, Bool.false_and, Bool.and_false, decide_true, decide_false, L0, L1, L2, L3, L4, L5, L6, L7, L8, L9, L10, L11, L12, L13, L14, L15, L16, L17, L18, L19, L20, L21, L22, L23, L24, L25, L27, L33, L39, L40, L45, L48, L57, L60, L72, L90, L97, L98, L99, L100, L121, L122, L242, L255, L256, L580, L600, L1000, L1584, L1000000, Ln1, iN_add, iN_and, iN_or, iN_nd, iN_shl, iN_shr, iN_cl, iN_in, iN_mul, ilt_p]; rfl
/-- far: 1000000 -/
def fN : Option Nat → Nat
  | none => 1000000
  | some k => k
theorem nd_bit (b x : Nat) : decide (nd (1 <<< b) x = 0) = x.testBit b := by
  cases h : x.testBit b with
  | true =>
    rw [decide_eq_true_iff]
    apply Nat.eq_of_testBit_eq; intro j
    rw [nd_tb, tb_sh, Nat.zero_testBit]
    by_cases e : b = j
    · subst e; simp [h]
    · simp [e]
  | false =>
    rw [decide_eq_false_iff_not]
    intro e
    have := congrArg (fun z => z.testBit b) e
    simp only [nd_tb, tb_sh, h, Nat.zero_testBit] at this
    simp at this
theorem t289 {h : mH} {q : LQ} (H : MoS h q) (W : QW q) {x b : Nat} (hx : x < q 0 1) (hb : b < 6) : f289 h 193 (iN x) (iN b) = some (iN (fN (dys q (1 <<< b) (1 <<< x)))) := by
  have hm := pw_6 W.1.2.1
  have hm2 := W.1.2.1
  have w := H.1
  unfold f289
  rw [L1, iN_shl (by omega)]
  have e : dys q (1 <<< b) (1 <<< x) = du (spr q) (fun x => x.testBit b) 7 0 (1 <<< x) := by unfold dys; congr 1; funext y; exact nd_bit b y
  rw [e]
  refine lp_du (fun k x => (iN x, iN k)) (spr q) (fun x => x.testBit b) (fun o => iN (fN o)) (fun x => x < 2 ^ q 0 1) (fun x hx => spr_lt hx) ?_ ?_ ?_ (sh1_lt hx)
  · intro k x hk hx hg
    unfold f289_7 f289_35 f289_50
    simp (disch := omega) only [gT, nbeq, Option.isSome_some, Option.getD_some, Bool.and_true, Bool.true_and, Bool.and_self, mX_some, bS, bN_if, bN_01, i1_01, i0_01, if_true, if_false, Bool.false_eq_true, false_and, and_false, and_true, true_and, and_self, Bool.or_false, Bool.false_or, Bool.or_true, Bool.true_or, Bool.false_and, Bool.and_false, decide_true, decide_false, L0, L1, L2, L3, L4, L5, L6, L7, L8, L9, L10, L11, L12, L13, L14, L15, L16, L17, L18, L19, L20, L21, L22, L23, L24, L25, L27, L33, L39, L40, L45, L48, L57, L60, L72, L90, L97, L98, L99, L100, L121, L122, L242, L255, L256, L580, L600, L1000, L1584, L1000000, Ln1, iN_add, iN_and, iN_or, iN_nd, iN_shl, iN_shr, iN_cl, iN_in, iN_mul, t221, hg, ile_p]; rfl
  · intro k x hk hx hg
    unfold f289_7
    simp (disch := omega) only [gT, nbeq, Option.isSome_some, Option.getD_some, Bool.and_true, Bool.true_and, Bool.and_self, mX_some, bS, bN_if, bN_01, i1_01, i0_01, if_true, if_false, Bool.false_eq_true, false_and, and_false, and_true, true_and, and_self, Bool.or_false, Bool.false_or, Bool.or_true, Bool.true_or, Bool.false_and, Bool.and_false, decide_true, decide_false, L0, L1, L2, L3, L4, L5, L6, L7, L8, L9, L10, L11, L12, L13, L14, L15, L16, L17, L18, L19, L20, L21, L22, L23, L24, L25, L27, L33, L39, L40, L45, L48, L57, L60, L72, L90, L97, L98, L99, L100, L121, L122, L242, L255, L256, L580, L600, L1000, L1584, L1000000, Ln1, iN_add, iN_and, iN_or, iN_nd, iN_shl, iN_shr, iN_cl, iN_in, iN_mul, k193 w, r193_1 w, r193_2 w, r193_3 w, r193_4 w, r193_5 w, r193_6 w, r193_7 w, r193_8 w, r193_18 w, r193_19 w, r193_32 w, r193_33 w, r193_34 w, r193_36 w, r193_38 w, r193_39 w, r193_40 w, r193_42 w, r193_45 w, r193_46 w, r193_47 w, r193_48 w, r193_49 w, r193_50 w, t221, hg, ilt_n, t247 H W, nd_0]
  · intro x hx
    unfold f289_7 f289_35 f289_50
    simp (disch := omega) only [gT, nbeq, Option.isSome_some, Option.getD_some, Bool.and_true, Bool.true_and, Bool.and_self, mX_some, bS, bN_if, bN_01, i1_01, i0_01, if_true, if_false, Bool.false_eq_true, false_and, and_false, and_true, true_and, and_self, Bool.or_false, Bool.false_or, Bool.or_true, Bool.true_or, Bool.false_and, Bool.and_false, decide_true, decide_false, L0, L1, L2, L3, L4, L5, L6, L7, L8, L9, L10, L11, L12, L13, L14, L15, L16, L17, L18, L19, L20, L21, L22, L23, L24, L25, L27, L33, L39, L40, L45, L48, L57, L60, L72, L90, L97, L98, L99, L100, L121, L122, L242, L255, L256, L580, L600, L1000, L1584, L1000000, Ln1, iN_add, iN_and, iN_or, iN_nd, iN_shl, iN_shr, iN_cl, iN_in, iN_mul, t221]
    cases x.testBit b <;> simp (disch := omega) only [gT, nbeq, Option.isSome_some, Option.getD_some, Bool.and_true, Bool.true_and, Bool.and_self, mX_some, bS, bN_if, bN_01, i1_01, i0_01, if_true, if_false, Bool.false_eq_true, false_and, and_false, and_true, true_and, and_self, Bool.or_false, Bool.false_or, Bool.or_true, Bool.true_or, Bool.false_and, Bool.and_false, decide_true, decide_false, L0, L1, L2, L3, L4, L5, L6, L7, L8, L9, L10, L11, L12, L13, L14, L15, L16, L17, L18, L19, L20, L21, L22, L23, L24, L25, L27, L33, L39, L40, L45, L48, L57, L60, L72, L90, L97, L98, L99, L100, L121, L122, L242, L255, L256, L580, L600, L1000, L1584, L1000000, Ln1, iN_add, iN_and, iN_or, iN_nd, iN_shl, iN_shr, iN_cl, iN_in, iN_mul, ilt_p, ile_n] <;> rfl
theorem spr_sub {q : LQ} {b j : Nat} (h : b.testBit j = true) : (spr q b).testBit j = true :=
  up_inv (f := spf q b) (I := fun _ x => x.testBit j = true) (n := q 0 1) (fun k x _ hx => by
    unfold spf; split
    · exact hx
    · rw [Nat.testBit_or, hx]; rfl) h _ (Nat.le_refl _)
/-- the first of some days on which all are there is the last of theirs -/
theorem du_max (st : Nat → Nat) (hst : ∀ x j, x.testBit j = true → (st x).testBit j = true) (m : Nat) : ∀ n k x, k + n ≤ 1000000 → fN (du st (fun x => decide (nd (2 ^ m - 1) x = 0)) n k x) = up (fun o y => max y (fN (du st (fun x => x.testBit o) n k x))) m (if m = 0 then fN (du st (fun x => decide (nd (2 ^ m - 1) x = 0)) n k x) else 0) := by
  have key : ∀ m, 0 < m → ∀ n k x, k + n ≤ 1000000 → fN (du st (fun x => decide (nd (2 ^ m - 1) x = 0)) n k x) = up (fun o y => max y (fN (du st (fun x => x.testBit o) n k x))) m 0 := by
    intro m hm n
    have lo : ∀ (g : Nat → Bool) n k x, k + n ≤ 1000000 → k ≤ fN (du st g n k x) := by
      intro g n
      induction n with
      | zero => intro k x h; simp only [du, fN]; omega
      | succ n ih =>
        intro k x h
        simp only [du]
        split
        · simp only [fN]; omega
        · have := ih (k + 1) (st x) (by omega); omega
    have hall : ∀ x, decide (nd (2 ^ m - 1) x = 0) = true ↔ ∀ o, o < m → x.testBit o = true := by
      intro x
      rw [decide_eq_true_iff]
      constructor
      · intro e o ho
        have := congrArg (fun z => z.testBit o) e
        simp only [nd_tb, tb_all, Nat.zero_testBit, ho, decide_true, Bool.true_and] at this
        simpa using this
      · intro e
        apply Nat.eq_of_testBit_eq; intro j
        rw [nd_tb, tb_all, Nat.zero_testBit]
        by_cases hj : j < m
        · simp [hj, e j hj]
        · simp [hj]
    induction n with
    | zero =>
      intro k x h
      simp only [du, fN]
      have : ∀ m, 0 < m → up (fun (_ : Nat) (y : Nat) => max y 1000000) m 0 = 1000000 := by
        intro m
        induction m with
        | zero => intro h; omega
        | succ m ih =>
          intro _
          simp only [up]
          by_cases e : m = 0
          · subst e; rfl
          · rw [ih (by omega)]; rfl
      exact (this m hm).symm
    | succ n ih =>
      intro k x h
      by_cases ha : decide (nd (2 ^ m - 1) x = 0) = true
      · simp only [du, ha, if_true]
        have hb := (hall x).1 ha
        have := up_inv (f := fun o y => max y (fN (if x.testBit o = true then some k else du st (fun x => x.testBit o) n (k + 1) (st x)))) (I := fun i y => if i = 0 then y = 0 else y = k) (n := m) (fun o y ho hy => by
          simp only [hb o ho, if_true, fN]
          by_cases e : o = 0
          · simp only [e, if_true] at hy; subst hy; rw [if_neg (by omega)]; omega
          · simp only [e, if_false] at hy; subst hy; rw [if_neg (by omega)]; omega) (a := 0) (by simp) m (Nat.le_refl _)
        rw [if_neg (by omega)] at this
        rw [this]; rfl
      · have ha' : decide (nd (2 ^ m - 1) x = 0) = false := by simpa using ha
        simp only [du, ha', Bool.false_eq_true, if_false]
        rw [ih (k + 1) (st x) (by omega)]
        -- those that are there now count k; the others decide
        have hk1 : k + 1 ≤ up (fun o y => max y (fN (du st (fun x => x.testBit o) n (k + 1) (st x)))) m 0 := by
          rw [← ih (k + 1) (st x) (by omega)]; exact lo _ _ _ _ (by omega)
        have now : ∀ o, x.testBit o = true → fN (du st (fun x => x.testBit o) n (k + 1) (st x)) = (if n = 0 then 1000000 else k + 1) := by
          intro o ho
          cases n with
          | zero => rfl
          | succ n => simp only [du, hst x o ho, if_true, fN]; rw [if_neg (by omega)]
        have ex : ∃ o, o < m ∧ x.testBit o = false := by
          apply Classical.byContradiction
          intro hno
          apply ha
          rw [hall]
          intro o ho
          cases e : x.testBit o with
          | true => rfl
          | false => exact absurd ⟨o, ho, e⟩ hno
        obtain ⟨o1, ho1, ho1f⟩ := ex
        -- compare the two maxima
        have ge : ∀ (f : Nat → Nat) m o, o < m → f o ≤ up (fun o y => max y (f o)) m 0 := by
          intro f m
          induction m with
          | zero => intro o h; omega
          | succ m ih =>
            intro o h
            simp only [up]
            by_cases e : o = m
            · subst e; omega
            · have := ih o (by omega); omega
        have le : ∀ (f : Nat → Nat) m z, (∀ o, o < m → f o ≤ z) → up (fun o y => max y (f o)) m 0 ≤ z := by
          intro f m
          induction m with
          | zero => intro z _; simp only [up]; omega
          | succ m ih =>
            intro z h
            simp only [up]
            have h1 := ih z (fun o ho => h o (by omega))
            have h2 := h m (by omega)
            omega
        have g1 := lo (fun x => x.testBit o1) n (k + 1) (st x) (by omega)
        apply Nat.le_antisymm
        · apply le
          intro o ho
          cases e : x.testBit o with
          | false =>
            have := ge (fun o => fN (if x.testBit o = true then some k else du st (fun x => x.testBit o) n (k + 1) (st x))) m o ho
            simp only [e, Bool.false_eq_true, if_false] at this
            exact this
          | true =>
            rw [now o e]
            have := ge (fun o => fN (if x.testBit o = true then some k else du st (fun x => x.testBit o) n (k + 1) (st x))) m o1 ho1
            simp only [ho1f, Bool.false_eq_true, if_false] at this
            refine Nat.le_trans ?_ this
            split
            next e0 => subst e0; simp only [du, fN]; omega
            next => exact g1
        · apply le
          intro o ho
          by_cases e : x.testBit o = true
          · rw [if_pos e]
            show k ≤ _
            omega
          · rw [if_neg e]
            exact ge (fun o => fN (du st (fun x => x.testBit o) n (k + 1) (st x))) m o ho
  intro n k x h
  by_cases e : m = 0
  · subst e; simp only [up, if_true]
  · rw [if_neg e]; exact key m (by omega) n k x h
