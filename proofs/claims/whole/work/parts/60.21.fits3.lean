/-! fits, odds, ago: the calls -/
def amA (G : Nat → Nat) : Nat → Option Nat × Nat → Option Nat × Nat := fun p b => if b.2 ≤ G p then b else (some p, G p)
def amB (G : Nat → Nat) : Nat → Option Nat × Nat → Option Nat × Nat := fun p b => (if b.2 ≤ G p then b.1 else some p, min b.2 (G p))
/-- the least by two loops that begin with other numbers -/
theorem am_rel {G : Nat → Nat} {n B B' : Nat} (h : ∀ p, p < n → G p < B ∧ G p < B') : ∀ k, k ≤ n → (fun (b c : Option Nat × Nat) => b.1 = c.1 ∧ ((b.1 = none ∧ b.2 = B ∧ c.2 = B') ∨ ∃ p, p < n ∧ b.1 = some p ∧ b.2 = G p ∧ c.2 = b.2)) (up (amA G) k (none, B)) (up (amB G) k (none, B')) :=
  up_rel (I := fun _ (b c : Option Nat × Nat) => b.1 = c.1 ∧ ((b.1 = none ∧ b.2 = B ∧ c.2 = B') ∨ ∃ p, p < n ∧ b.1 = some p ∧ b.2 = G p ∧ c.2 = b.2)) (n := n) (fun k b c hk hP => by
    obtain ⟨h1, h2⟩ := hP
    have hg := h k hk
    unfold amA amB
    rcases h2 with ⟨a1, a2, a3⟩ | ⟨p, a1, a2, a3, a4⟩
    · rw [if_neg (by omega), if_neg (by omega), Nat.min_eq_right (by omega)]
      exact ⟨rfl, Or.inr ⟨k, hk, rfl, rfl, rfl⟩⟩
    · rw [a4]
      by_cases e : b.2 ≤ G k
      · rw [if_pos e, if_pos e, Nat.min_eq_left e]; exact ⟨h1, Or.inr ⟨p, a1, a2, a3, rfl⟩⟩
      · rw [if_neg e, if_neg e, Nat.min_eq_right (by omega)]; exact ⟨rfl, Or.inr ⟨k, hk, rfl, rfl, rfl⟩⟩) ⟨rfl, Or.inl ⟨rfl, rfl, rfl⟩⟩
def kcf (q : LQ) (l : List Nat) (p : Nat) : Nat → Nat → Nat := fun k x => x + if (kw q (l.getD k 0)).testBit p = true then 1 else 0
def kc (q : LQ) (l : List Nat) (p : Nat) : Nat := up (kcf q l p) l.length 0
theorem kc_le (q : LQ) (l : List Nat) (p : Nat) : kc q l p ≤ l.length := up_inv (f := kcf q l p) (I := fun k x => x ≤ k) (n := l.length) (fun k x _ hx => by unfold kcf; split <;> omega) (by omega) _ (Nat.le_refl _)
def grt (q : LQ) (l : List Nat) (p : Nat) : Nat := max (kc q l p) (l.length - kc q l p)
theorem grt_le (q : LQ) (l : List Nat) (p : Nat) : grt q l p ≤ l.length := by have := kc_le q l p; unfold grt; omega
section LF
variable {h : mH} {q : LQ} {l : List Nat}
theorem t120 (w : Wd h) (W : QW q) (C : CG h q l) (hl : l.length ≤ 10 * q 0 1) (hv : ∀ k, k < l.length → l.getD k 0 < 10 * q 0 1) {p : Nat} (hp : p < 32) : f120 h 88 (iN p) = some (iN (kc q l p)) := by
  have hm := W.1.2.1
  have h6 := pw_6 hm
  unfold f120
  refine lp_up (fun k x => (iN x, iN k)) (kcf q l p) iN (fun _ _ => True) l.length (a0 := 0) trivial (fun _ _ _ _ => trivial) ?_ ?_ (by omega)
  · intro k x hk _
    have h1 := hv k hk
    have h2 := kw_lt (q := q) (f := l.getD k 0) (by omega)
    obtain ⟨c1, c2⟩ := C.2 k hk
    unfold f120_4 f120_28 kcf
    simp (disch := omega) only [gT, nbeq, Option.isSome_some, Option.getD_some, Bool.and_true, Bool.true_and, Bool.and_self, mX_some, bS, bN_if, bN_01, i1_01, i0_01, if_true, if_false, Bool.false_eq_true, false_and, and_false, and_true, true_and, and_self, Bool.or_false, Bool.false_or, Bool.or_true, Bool.true_or, Bool.false_and, Bool.and_false, decide_true, decide_false, L0, L1, L2, L3, L4, L5, L6, L7, L8, L9, L10, L11, L12, L13, L14, L15, L16, L17, L18, L19, L20, L21, L22, L23, L24, L25, L27, L33, L39, L40, L45, L48, L57, L60, L72, L90, L97, L98, L99, L100, L121, L122, L242, L255, L256, L580, L600, L1000, L1584, L1000000, Ln1, iN_add, iN_and, iN_or, iN_nd, iN_shl, iN_shr, iN_cl, iN_in, iN_mul, k88 w, r88_0 w, r88_2 w, k90 w, C.1, ile_n, c2, t71]
    split <;> rfl
  · intro x _
    unfold f120_4
    simp (disch := omega) only [gT, nbeq, Option.isSome_some, Option.getD_some, Bool.and_true, Bool.true_and, Bool.and_self, mX_some, bS, bN_if, bN_01, i1_01, i0_01, if_true, if_false, Bool.false_eq_true, false_and, and_false, and_true, true_and, and_self, Bool.or_false, Bool.false_or, Bool.or_true, Bool.true_or, Bool.false_and, Bool.and_false, decide_true, decide_false, L0, L1, L2, L3, L4, L5, L6, L7, L8, L9, L10, L11, L12, L13, L14, L15, L16, L17, L18, L19, L20, L21, L22, L23, L24, L25, L27, L33, L39, L40, L45, L48, L57, L60, L72, L90, L97, L98, L99, L100, L121, L122, L242, L255, L256, L580, L600, L1000, L1584, L1000000, Ln1, iN_add, iN_and, iN_or, iN_nd, iN_shl, iN_shr, iN_cl, iN_in, iN_mul, k88 w, r88_0 w, r88_2 w, C.1, ile_p]
def sur (l : List Nat) : Option Nat := if l.length = 0 then none else if l.getD 0 0 / 10 = l.getD (l.length - 1) 0 / 10 then some (l.getD 0 0 / 10) else none
theorem t118 (w : Wd h) (C : CG h q l) (hl : l.length ≤ 60) (hv : ∀ k, k < l.length → l.getD k 0 < 60) : f118 h 88 = some (zN (sur l)) := by
  unfold f118 f118_33 sur
  simp (disch := omega) only [gT, nbeq, Option.isSome_some, Option.getD_some, Bool.and_true, Bool.true_and, Bool.and_self, mX_some, bS, bN_if, bN_01, i1_01, i0_01, if_true, if_false, Bool.false_eq_true, false_and, and_false, and_true, true_and, and_self, Bool.or_false, Bool.false_or, Bool.or_true, Bool.true_or, Bool.false_and, Bool.and_false, decide_true, decide_false, L0, L1, L2, L3, L4, L5, L6, L7, L8, L9, L10, L11, L12, L13, L14, L15, L16, L17, L18, L19, L20, L21, L22, L23, L24, L25, L27, L33, L39, L40, L45, L48, L57, L60, L72, L90, L97, L98, L99, L100, L121, L122, L242, L255, L256, L580, L600, L1000, L1584, L1000000, Ln1, iN_add, iN_and, iN_or, iN_nd, iN_shl, iN_shr, iN_cl, iN_in, iN_mul, i10nz, k88 w, r88_0 w, r88_2 w, k89 w, C.1]
  by_cases e : l.length = 0
  · rw [ieq_p e, if_pos e]; rfl
  · rw [ieq_n (by omega) (by omega) e, if_neg e]
    have a1 := (C.2 0 (by omega)).1
    have a2 := (C.2 (l.length - 1) (by omega)).1
    have b1 := hv 0 (by omega)
    have b2 := hv (l.length - 1) (by omega)
    simp (disch := omega) only [gT, nbeq, Option.isSome_some, Option.getD_some, Bool.and_true, Bool.true_and, Bool.and_self, mX_some, bS, bN_if, bN_01, i1_01, i0_01, if_true, if_false, Bool.false_eq_true, false_and, and_false, and_true, true_and, and_self, Bool.or_false, Bool.false_or, Bool.or_true, Bool.true_or, Bool.false_and, Bool.and_false, decide_true, decide_false, L0, L1, L2, L3, L4, L5, L6, L7, L8, L9, L10, L11, L12, L13, L14, L15, L16, L17, L18, L19, L20, L21, L22, L23, L24, L25, L27, L33, L39, L40, L45, L48, L57, L60, L72, L90, L97, L98, L99, L100, L121, L122, L242, L255, L256, L580, L600, L1000, L1584, L1000000, Ln1, iN_add, iN_and, iN_or, iN_nd, iN_shl, iN_shr, iN_cl, iN_in, iN_mul, i10nz, iN_sub, a1, a2, iN_div, ieq_d]
    split <;> rfl
theorem t119 (w : Wd h) (W : QW q) (C : CG h q l) (hl : l.length ≤ 10 * q 0 1) (hv : ∀ k, k < l.length → l.getD k 0 < 10 * q 0 1) (h3 : mI h 88 3 = iN (q 0 1)) (hn : l.length ≠ 0) : f119 h 88 = some (zN (up (amA (grt q l)) (q 0 1) (none, 61)).1) := by
  have hm := W.1.2.1
  unfold f119
  refine lp_up (fun k (b : Option Nat × Nat) => (zN b.1, iN b.2, iN k)) (amA (grt q l)) (fun b => zN b.1) (fun _ b => b.2 ≤ 61) (q 0 1) (a0 := (none, 61)) (by decide) ?_ ?_ ?_ (by omega)
  · intro k b _ hb
    have := grt_le q l k
    unfold amA
    split
    · exact hb
    · show grt q l k ≤ 61; omega
  · intro k b hk hb
    have hk1 := kc_le q l k
    have hk2 := grt_le q l k
    have eg : (if iN (kc q l k) < iN (l.length - kc q l k) then iN (l.length - kc q l k) else iN (kc q l k)) = iN (grt q l k) := by
      unfold grt
      rw [ilt_d (by omega) (by omega)]
      split
      · rw [Nat.max_eq_right (by omega)]
      · rw [Nat.max_eq_left (by omega)]
    unfold f119_7 f119_53 amA
    simp (disch := omega) only [gT, nbeq, Option.isSome_some, Option.getD_some, Bool.and_true, Bool.true_and, Bool.and_self, mX_some, bS, bN_if, bN_01, i1_01, i0_01, if_true, if_false, Bool.false_eq_true, false_and, and_false, and_true, true_and, and_self, Bool.or_false, Bool.false_or, Bool.or_true, Bool.true_or, Bool.false_and, Bool.and_false, decide_true, decide_false, L0, L1, L2, L3, L4, L5, L6, L7, L8, L9, L10, L11, L12, L13, L14, L15, L16, L17, L18, L19, L20, L21, L22, L23, L24, L25, L27, L33, L39, L40, L45, L48, L57, L60, L72, L90, L97, L98, L99, L100, L121, L122, L242, L255, L256, L580, L600, L1000, L1584, L1000000, Ln1, iN_add, iN_and, iN_or, iN_nd, iN_shl, iN_shr, iN_cl, iN_in, iN_mul, k88 w, r88_0 w, r88_2 w, h3, C.1, ile_n, t120 w W C hl hv, iN_sub, eg, ile_d]
    split <;> rfl
  · intro b _
    unfold f119_7 f119_59
    simp (disch := omega) only [gT, nbeq, Option.isSome_some, Option.getD_some, Bool.and_true, Bool.true_and, Bool.and_self, mX_some, bS, bN_if, bN_01, i1_01, i0_01, if_true, if_false, Bool.false_eq_true, false_and, and_false, and_true, true_and, and_self, Bool.or_false, Bool.false_or, Bool.or_true, Bool.true_or, Bool.false_and, Bool.and_false, decide_true, decide_false, L0, L1, L2, L3, L4, L5, L6, L7, L8, L9, L10, L11, L12, L13, L14, L15, L16, L17, L18, L19, L20, L21, L22, L23, L24, L25, L27, L33, L39, L40, L45, L48, L57, L60, L72, L90, L97, L98, L99, L100, L121, L122, L242, L255, L256, L580, L600, L1000, L1584, L1000000, Ln1, iN_add, iN_and, iN_or, iN_nd, iN_shl, iN_shr, iN_cl, iN_in, iN_mul, k88 w, r88_0 w, r88_2 w, h3, ile_p]
theorem t119z (w : Wd h) (W : QW q) (C : CG h q l) (h3 : mI h 88 3 = iN (q 0 1)) (hn : l.length = 0) : f119 h 88 = some jN := by
  have hm := W.1.2.1
  unfold f119
  have := lp_run (body := f119_7 h 88) (r := jN) (fun _ => (jN, iN 61, iN 0)) 0 (fun i hi => by omega) (by
    unfold f119_7 f119_59
    simp (disch := omega) only [gT, nbeq, Option.isSome_some, Option.getD_some, Bool.and_true, Bool.true_and, Bool.and_self, mX_some, bS, bN_if, bN_01, i1_01, i0_01, if_true, if_false, Bool.false_eq_true, false_and, and_false, and_true, true_and, and_self, Bool.or_false, Bool.false_or, Bool.or_true, Bool.true_or, Bool.false_and, Bool.and_false, decide_true, decide_false, L0, L1, L2, L3, L4, L5, L6, L7, L8, L9, L10, L11, L12, L13, L14, L15, L16, L17, L18, L19, L20, L21, L22, L23, L24, L25, L27, L33, L39, L40, L45, L48, L57, L60, L72, L90, L97, L98, L99, L100, L121, L122, L242, L255, L256, L580, L600, L1000, L1584, L1000000, Ln1, iN_add, iN_and, iN_or, iN_nd, iN_shl, iN_shr, iN_cl, iN_in, iN_mul, k88 w, r88_0 w, r88_2 w, h3, C.1, hn]
    by_cases e : q 0 1 ≤ 0
    · rw [ile_p (by omega) (by omega) e]
    · rw [ile_n (by omega) (by omega) (by omega), ile_p (by omega) (by omega) (by omega)]) (by omega)
  exact this
theorem t169 (w : Wd h) (C : CG h q l) (hl : l.length ≤ 60) (hv : ∀ k, k < l.length → l.getD k 0 < 60) : f169 h 88 = some (iN (up (fun k x => max x (l.getD k 0 % 10)) l.length 0)) := by
  unfold f169
  refine lp_up (fun k x => (iN x, iN k)) _ iN (fun _ x => x ≤ 9) l.length (a0 := 0) (by omega) ?_ ?_ ?_ (by omega)
  · intro k x _ hx
    have h9 : l.getD k 0 % 10 < 10 := Nat.mod_lt _ (by omega)
    show max x (l.getD k 0 % 10) ≤ 9
    omega
  · intro k x hk hx
    have h1 := hv k hk
    have c1 := (C.2 k hk).1
    have e6 : iN (l.getD k 0) - iN (l.getD k 0) / iN 10 * iN 10 = iN (l.getD k 0 % 10) := iN_rem (by omega) (by omega)
    have e8 : (if iN x < iN (l.getD k 0 % 10) then iN (l.getD k 0 % 10) else iN x) = iN (max x (l.getD k 0 % 10)) := by
      rw [ilt_d (by omega) (by omega)]
      split
      · rw [Nat.max_eq_right (by omega)]
      · rw [Nat.max_eq_left (by omega)]
    unfold f169_4
    simp (disch := omega) only [gT, nbeq, Option.isSome_some, Option.getD_some, Bool.and_true, Bool.true_and, Bool.and_self, mX_some, bS, bN_if, bN_01, i1_01, i0_01, if_true, if_false, Bool.false_eq_true, false_and, and_false, and_true, true_and, and_self, Bool.or_false, Bool.false_or, Bool.or_true, Bool.true_or, Bool.false_and, Bool.and_false, decide_true, decide_false, L0, L1, L10, i10nz, iN_cl, iN_in, k88 w, r88_0 w, r88_2 w, k89 w, C.1, ile_n, c1, e6, e8, iN_add]
  · intro x _
    unfold f169_4
    simp (disch := omega) only [gT, nbeq, Option.isSome_some, Option.getD_some, Bool.and_true, Bool.true_and, Bool.and_self, mX_some, bS, bN_if, bN_01, i1_01, i0_01, if_true, if_false, Bool.false_eq_true, false_and, and_false, and_true, true_and, and_self, Bool.or_false, Bool.false_or, Bool.or_true, Bool.true_or, Bool.false_and, Bool.and_false, decide_true, decide_false, L0, L1, L2, L3, L4, L5, L6, L7, L8, L9, L10, L11, L12, L13, L14, L15, L16, L17, L18, L19, L20, L21, L22, L23, L24, L25, L27, L33, L39, L40, L45, L48, L57, L60, L72, L90, L97, L98, L99, L100, L121, L122, L242, L255, L256, L580, L600, L1000, L1584, L1000000, Ln1, iN_add, iN_and, iN_or, iN_nd, iN_shl, iN_shr, iN_cl, iN_in, iN_mul, k88 w, r88_0 w, r88_2 w, C.1, ile_p]
theorem t170 (w : Wd h) (C : CG h q l) (hl : l.length ≤ 60) (hv : ∀ k, k < l.length → l.getD k 0 < 60) : f170 h 88 = some (iN (up (fun k x => min x (l.getD k 0 % 10)) l.length 9)) := by
  unfold f170
  refine lp_up (fun k x => (iN x, iN k)) _ iN (fun _ x => x ≤ 9) l.length (a0 := 9) (by omega) (fun k x _ hx => by omega) ?_ ?_ (by omega)
  · intro k x hk hx
    have h1 := hv k hk
    have c1 := (C.2 k hk).1
    have e6 : iN (l.getD k 0) - iN (l.getD k 0) / iN 10 * iN 10 = iN (l.getD k 0 % 10) := iN_rem (by omega) (by omega)
    have e8 : (if iN (l.getD k 0 % 10) < iN x then iN (l.getD k 0 % 10) else iN x) = iN (min x (l.getD k 0 % 10)) := by
      rw [ilt_d (by omega) (by omega)]
      split
      · rw [Nat.min_eq_right (by omega)]
      · rw [Nat.min_eq_left (by omega)]
    unfold f170_5
    simp (disch := omega) only [gT, nbeq, Option.isSome_some, Option.getD_some, Bool.and_true, Bool.true_and, Bool.and_self, mX_some, bS, bN_if, bN_01, i1_01, i0_01, if_true, if_false, Bool.false_eq_true, false_and, and_false, and_true, true_and, and_self, Bool.or_false, Bool.false_or, Bool.or_true, Bool.true_or, Bool.false_and, Bool.and_false, decide_true, decide_false, L0, L1, L10, i10nz, iN_cl, iN_in, k88 w, r88_0 w, r88_2 w, k89 w, C.1, ile_n, c1, e6, e8, iN_add]
  · intro x _
    unfold f170_5
    simp (disch := omega) only [gT, nbeq, Option.isSome_some, Option.getD_some, Bool.and_true, Bool.true_and, Bool.and_self, mX_some, bS, bN_if, bN_01, i1_01, i0_01, if_true, if_false, Bool.false_eq_true, false_and, and_false, and_true, true_and, and_self, Bool.or_false, Bool.false_or, Bool.or_true, Bool.true_or, Bool.false_and, Bool.and_false, decide_true, decide_false, L0, L1, L2, L3, L4, L5, L6, L7, L8, L9, L10, L11, L12, L13, L14, L15, L16, L17, L18, L19, L20, L21, L22, L23, L24, L25, L27, L33, L39, L40, L45, L48, L57, L60, L72, L90, L97, L98, L99, L100, L121, L122, L242, L255, L256, L580, L600, L1000, L1584, L1000000, Ln1, iN_add, iN_and, iN_or, iN_nd, iN_shl, iN_shr, iN_cl, iN_in, iN_mul, k88 w, r88_0 w, r88_2 w, C.1, ile_p]
end LF
section ML
variable {h : mH} {q : LQ} {l : List Nat}
theorem t266 (H : MoS h q) (W : QW q) (C : MGf h l) (hl : l.length ≤ 10 * q 0 1) (hv : ∀ k, k < l.length → l.getD k 0 < 10 * q 0 1) {p : Nat} (hp : p < 32) : f266 h 193 (iN p) = some (iN (kc q l p)) := by
  have w := H.1
  have hm := W.1.2.1
  have h6 := pw_6 hm
  unfold f266
  refine lp_up (fun k x => (iN x, iN k)) (kcf q l p) iN (fun _ _ => True) l.length (a0 := 0) trivial (fun _ _ _ _ => trivial) ?_ ?_ (by omega)
  · intro k x hk _
    have h1 := hv k hk
    have h2 := kw_lt (q := q) (f := l.getD k 0) (by omega)
    have c2 := C.2 k hk
    unfold f266_4 f266_35 kcf
    simp (disch := omega) only [gT, nbeq, Option.isSome_some, Option.getD_some, Bool.and_true, Bool.true_and, Bool.and_self, mX_some, bS, bN_if, bN_01, i1_01, i0_01, if_true, if_false, Bool.false_eq_true, false_and, and_false, and_true, true_and, and_self, Bool.or_false, Bool.false_or, Bool.or_true, Bool.true_or, Bool.false_and, Bool.and_false, decide_true, decide_false, L0, L1, L2, L3, L4, L5, L6, L7, L8, L9, L10, L11, L12, L13, L14, L15, L16, L17, L18, L19, L20, L21, L22, L23, L24, L25, L27, L33, L39, L40, L45, L48, L57, L60, L72, L90, L97, L98, L99, L100, L121, L122, L242, L255, L256, L580, L600, L1000, L1584, L1000000, Ln1, iN_add, iN_and, iN_or, iN_nd, iN_shl, iN_shr, iN_cl, iN_in, iN_mul, k193 w, r193_1 w, r193_2 w, r193_3 w, r193_4 w, r193_5 w, r193_6 w, r193_7 w, r193_8 w, r193_18 w, r193_19 w, r193_32 w, r193_33 w, r193_34 w, r193_36 w, r193_38 w, r193_39 w, r193_40 w, r193_42 w, r193_45 w, r193_46 w, r193_47 w, r193_48 w, r193_49 w, r193_50 w, k211 w, C.1, ile_n, c2, t263 H W, t221]
    split
    · rfl
    · rw [Nat.add_zero]
  · intro x _
    unfold f266_4
    simp (disch := omega) only [gT, nbeq, Option.isSome_some, Option.getD_some, Bool.and_true, Bool.true_and, Bool.and_self, mX_some, bS, bN_if, bN_01, i1_01, i0_01, if_true, if_false, Bool.false_eq_true, false_and, and_false, and_true, true_and, and_self, Bool.or_false, Bool.false_or, Bool.or_true, Bool.true_or, Bool.false_and, Bool.and_false, decide_true, decide_false, L0, L1, L2, L3, L4, L5, L6, L7, L8, L9, L10, L11, L12, L13, L14, L15, L16, L17, L18, L19, L20, L21, L22, L23, L24, L25, L27, L33, L39, L40, L45, L48, L57, L60, L72, L90, L97, L98, L99, L100, L121, L122, L242, L255, L256, L580, L600, L1000, L1584, L1000000, Ln1, iN_add, iN_and, iN_or, iN_nd, iN_shl, iN_shr, iN_cl, iN_in, iN_mul, k193 w, r193_1 w, r193_2 w, r193_3 w, r193_4 w, r193_5 w, r193_6 w, r193_7 w, r193_8 w, r193_18 w, r193_19 w, r193_32 w, r193_33 w, r193_34 w, r193_36 w, r193_38 w, r193_39 w, r193_40 w, r193_42 w, r193_45 w, r193_46 w, r193_47 w, r193_48 w, r193_49 w, r193_50 w, C.1, ile_p]
theorem t264 (H : MoS h q) (C : MGf h l) (hl : l.length ≤ 60) (hv : ∀ k, k < l.length → l.getD k 0 < 60) (hs : ∀ i j, i < j → j < l.length → l.getD i 0 < l.getD j 0) : f264 h 193 = some (zN (sur l)) := by
  have w := H.1
  have lp : ∀ o : Option Nat, (∀ v, o = some v → v < 6) → mLoop (f264_23 h 193) mFuel (zN o, iN 0) = some (zN (up (fun k u => if u = some (l.getD k 0 / 10) then u else none) l.length o)) := by
    intro o ho
    refine lp_up (fun k (u : Option Nat) => (zN u, iN k)) _ zN (fun _ u => ∀ v, u = some v → v < 6) l.length (a0 := o) ho (fun k u _ hu v hv2 => by
      by_cases e : u = some (l.getD k 0 / 10)
      · rw [if_pos e] at hv2; exact hu v hv2
      · rw [if_neg e] at hv2; cases hv2) ?_ ?_ (by omega)
    · intro k u hk hu
      have h1 := hv k hk
      have c2 := C.2 k hk
      unfold f264_23 f264_49
      simp (disch := omega) only [gT, nbeq, Option.isSome_some, Option.getD_some, Bool.and_true, Bool.true_and, Bool.and_self, mX_some, bS, bN_if, bN_01, i1_01, i0_01, if_true, if_false, Bool.false_eq_true, false_and, and_false, and_true, true_and, and_self, Bool.or_false, Bool.false_or, Bool.or_true, Bool.true_or, Bool.false_and, Bool.and_false, decide_true, decide_false, L0, L1, L2, L3, L4, L5, L6, L7, L8, L9, L10, L11, L12, L13, L14, L15, L16, L17, L18, L19, L20, L21, L22, L23, L24, L25, L27, L33, L39, L40, L45, L48, L57, L60, L72, L90, L97, L98, L99, L100, L121, L122, L242, L255, L256, L580, L600, L1000, L1584, L1000000, Ln1, iN_add, iN_and, iN_or, iN_nd, iN_shl, iN_shr, iN_cl, iN_in, iN_mul, i10nz, k193 w, r193_1 w, r193_2 w, r193_3 w, r193_4 w, r193_5 w, r193_6 w, r193_7 w, r193_8 w, r193_18 w, r193_19 w, r193_32 w, r193_33 w, r193_34 w, r193_36 w, r193_38 w, r193_39 w, r193_40 w, r193_42 w, r193_45 w, r193_46 w, r193_47 w, r193_48 w, r193_49 w, r193_50 w, k211 w, C.1, ile_n, c2, iN_div]
      cases u with
      | none => rw [zN_none, if_neg (iN_nj (by omega)), if_neg (by intro e; cases e)]; rfl
      | some v =>
        have := hu v rfl
        rw [zN_some]
        by_cases e : l.getD k 0 / 10 = v
        · rw [ieq_p e, if_pos (by rw [e])]; rfl
        · rw [ieq_n (by omega) (by omega) e, if_neg (by intro e2; cases e2; exact e rfl)]; rfl
    · intro u _
      unfold f264_23
      simp (disch := omega) only [gT, nbeq, Option.isSome_some, Option.getD_some, Bool.and_true, Bool.true_and, Bool.and_self, mX_some, bS, bN_if, bN_01, i1_01, i0_01, if_true, if_false, Bool.false_eq_true, false_and, and_false, and_true, true_and, and_self, Bool.or_false, Bool.false_or, Bool.or_true, Bool.true_or, Bool.false_and, Bool.and_false, decide_true, decide_false, L0, L1, L2, L3, L4, L5, L6, L7, L8, L9, L10, L11, L12, L13, L14, L15, L16, L17, L18, L19, L20, L21, L22, L23, L24, L25, L27, L33, L39, L40, L45, L48, L57, L60, L72, L90, L97, L98, L99, L100, L121, L122, L242, L255, L256, L580, L600, L1000, L1584, L1000000, Ln1, iN_add, iN_and, iN_or, iN_nd, iN_shl, iN_shr, iN_cl, iN_in, iN_mul, k193 w, r193_1 w, r193_2 w, r193_3 w, r193_4 w, r193_5 w, r193_6 w, r193_7 w, r193_8 w, r193_18 w, r193_19 w, r193_32 w, r193_33 w, r193_34 w, r193_36 w, r193_38 w, r193_39 w, r193_40 w, r193_42 w, r193_45 w, r193_46 w, r193_47 w, r193_48 w, r193_49 w, r193_50 w, C.1, ile_p]
  unfold f264 f264_20 sur
  simp (disch := omega) only [gT, nbeq, Option.isSome_some, Option.getD_some, Bool.and_true, Bool.true_and, Bool.and_self, mX_some, bS, bN_if, bN_01, i1_01, i0_01, if_true, if_false, Bool.false_eq_true, false_and, and_false, and_true, true_and, and_self, Bool.or_false, Bool.false_or, Bool.or_true, Bool.true_or, Bool.false_and, Bool.and_false, decide_true, decide_false, L0, L1, L2, L3, L4, L5, L6, L7, L8, L9, L10, L11, L12, L13, L14, L15, L16, L17, L18, L19, L20, L21, L22, L23, L24, L25, L27, L33, L39, L40, L45, L48, L57, L60, L72, L90, L97, L98, L99, L100, L121, L122, L242, L255, L256, L580, L600, L1000, L1584, L1000000, Ln1, iN_add, iN_and, iN_or, iN_nd, iN_shl, iN_shr, iN_cl, iN_in, iN_mul, i10nz, k193 w, r193_1 w, r193_2 w, r193_3 w, r193_4 w, r193_5 w, r193_6 w, r193_7 w, r193_8 w, r193_18 w, r193_19 w, r193_32 w, r193_33 w, r193_34 w, r193_36 w, r193_38 w, r193_39 w, r193_40 w, r193_42 w, r193_45 w, r193_46 w, r193_47 w, r193_48 w, r193_49 w, r193_50 w, k211 w, C.1]
  by_cases e : l.length = 0
  · rw [ieq_p e, if_pos e, show jN = zN none from rfl, lp none (fun v hv => by cases hv), e]; rfl
  · rw [ieq_n (by omega) (by omega) e, if_neg e]
    have a1 := C.2 0 (by omega)
    have b1 := hv 0 (by omega)
    simp (disch := omega) only [gT, nbeq, Option.isSome_some, Option.getD_some, Bool.and_true, Bool.true_and, Bool.and_self, mX_some, bS, bN_if, bN_01, i1_01, i0_01, if_true, if_false, Bool.false_eq_true, false_and, and_false, and_true, true_and, and_self, Bool.or_false, Bool.false_or, Bool.or_true, Bool.true_or, Bool.false_and, Bool.and_false, decide_true, decide_false, a1, iN_div]
    rw [← zN_some, lp _ (fun v hv2 => by cases hv2; omega)]
    congr 2
    have le : ∀ i j, i ≤ j → j < l.length → l.getD i 0 ≤ l.getD j 0 := fun i j hij hj => by
      by_cases e2 : i = j
      · rw [e2]; exact Nat.le_refl _
      · have := hs i j (by omega) hj; omega
    by_cases e2 : l.getD 0 0 / 10 = l.getD (l.length - 1) 0 / 10
    · rw [if_pos e2]
      exact up_inv (f := fun k u => if u = some (l.getD k 0 / 10) then u else none) (I := fun _ u => u = some (l.getD 0 0 / 10)) (n := l.length) (fun k u hk hu => by
        have l1 := le 0 k (by omega) hk
        have l2 := le k (l.length - 1) (by omega) (by omega)
        rw [hu, if_pos]
        congr 1
        omega) rfl _ (Nat.le_refl _)
    · rw [if_neg e2]
      have inv := up_inv (f := fun k u => if u = some (l.getD k 0 / 10) then u else none) (I := fun _ u => u = none ∨ u = some (l.getD 0 0 / 10)) (n := l.length) (fun k u hk hu => by
        split
        · exact hu
        · exact Or.inl rfl) (a := some (l.getD 0 0 / 10)) (Or.inr rfl) (l.length - 1) (by omega)
      have hn : l.length = (l.length - 1) + 1 := by omega
      rw [hn]
      show (if up (fun k u => if u = some (l.getD k 0 / 10) then u else none) (l.length - 1) (some (l.getD 0 0 / 10)) = some (l.getD (l.length - 1) 0 / 10) then _ else none) = none
      rcases inv with e3 | e3
      · rw [e3]; rfl
      · rw [e3, if_neg]
        intro e4
        exact e2 (Option.some.inj e4)
theorem t265 (H : MoS h q) (W : QW q) (C : MGf h l) (hl : l.length ≤ 10 * q 0 1) (hv : ∀ k, k < l.length → l.getD k 0 < 10 * q 0 1) (hn : l.length ≠ 0) : f265 h 193 = some (zN (up (amB (grt q l)) (q 0 1) (none, 1000000)).1) := by
  have w := H.1
  have hm := W.1.2.1
  unfold f265
  refine lp_up (fun k (b : Option Nat × Nat) => (zN b.1, iN b.2, iN k)) (amB (grt q l)) (fun b => zN b.1) (fun _ b => b.2 ≤ 1000000) (q 0 1) (a0 := (none, 1000000)) (by decide) ?_ ?_ ?_ (by omega)
  · intro k b _ hb
    show min b.2 (grt q l k) ≤ _; omega
  · intro k b hk hb
    have hk1 := kc_le q l k
    have hk2 := grt_le q l k
    unfold f265_8 f265_54 amB
    simp (disch := omega) only [gT, nbeq, Option.isSome_some, Option.getD_some, Bool.and_true, Bool.true_and, Bool.and_self, mX_some, bS, bN_if, bN_01, i1_01, i0_01, if_true, if_false, Bool.false_eq_true, false_and, and_false, and_true, true_and, and_self, Bool.or_false, Bool.false_or, Bool.or_true, Bool.true_or, Bool.false_and, Bool.and_false, decide_true, decide_false, L0, L1, L2, L3, L4, L5, L6, L7, L8, L9, L10, L11, L12, L13, L14, L15, L16, L17, L18, L19, L20, L21, L22, L23, L24, L25, L27, L33, L39, L40, L45, L48, L57, L60, L72, L90, L97, L98, L99, L100, L121, L122, L242, L255, L256, L580, L600, L1000, L1584, L1000000, Ln1, iN_add, iN_and, iN_or, iN_nd, iN_shl, iN_shr, iN_cl, iN_in, iN_mul, k193 w, r193_1 w, r193_2 w, r193_3 w, r193_4 w, r193_5 w, r193_6 w, r193_7 w, r193_8 w, r193_18 w, r193_19 w, r193_32 w, r193_33 w, r193_34 w, r193_36 w, r193_38 w, r193_39 w, r193_40 w, r193_42 w, r193_45 w, r193_46 w, r193_47 w, r193_48 w, r193_49 w, r193_50 w, H.m, C.1, ile_n, t266 H W C hl hv, iN_sub, t196, t195]
    rw [show max (kc q l k) (l.length - kc q l k) = grt q l k from rfl, ile_d (by omega) (by omega)]
    split <;> rfl
  · intro b _
    unfold f265_8 f265_68
    simp (disch := omega) only [gT, nbeq, Option.isSome_some, Option.getD_some, Bool.and_true, Bool.true_and, Bool.and_self, mX_some, bS, bN_if, bN_01, i1_01, i0_01, if_true, if_false, Bool.false_eq_true, false_and, and_false, and_true, true_and, and_self, Bool.or_false, Bool.false_or, Bool.or_true, Bool.true_or, Bool.false_and, Bool.and_false, decide_true, decide_false, L0, L1, L2, L3, L4, L5, L6, L7, L8, L9, L10, L11, L12, L13, L14, L15, L16, L17, L18, L19, L20, L21, L22, L23, L24, L25, L27, L33, L39, L40, L45, L48, L57, L60, L72, L90, L97, L98, L99, L100, L121, L122, L242, L255, L256, L580, L600, L1000, L1584, L1000000, Ln1, iN_add, iN_and, iN_or, iN_nd, iN_shl, iN_shr, iN_cl, iN_in, iN_mul, k193 w, r193_1 w, r193_2 w, r193_3 w, r193_4 w, r193_5 w, r193_6 w, r193_7 w, r193_8 w, r193_18 w, r193_19 w, r193_32 w, r193_33 w, r193_34 w, r193_36 w, r193_38 w, r193_39 w, r193_40 w, r193_42 w, r193_45 w, r193_46 w, r193_47 w, r193_48 w, r193_49 w, r193_50 w, H.m, ile_p]
theorem t265z (H : MoS h q) (W : QW q) (C : MGf h l) (hn : l.length = 0) : f265 h 193 = some jN := by
  have w := H.1
  have hm := W.1.2.1
  unfold f265
  have := lp_run (body := f265_8 h 193) (r := jN) (fun _ => (jN, iN 1000000, iN 0)) 0 (fun i hi => by omega) (by
    unfold f265_8 f265_68
    simp (disch := omega) only [gT, nbeq, Option.isSome_some, Option.getD_some, Bool.and_true, Bool.true_and, Bool.and_self, mX_some, bS, bN_if, bN_01, i1_01, i0_01, if_true, if_false, Bool.false_eq_true, false_and, and_false, and_true, true_and, and_self, Bool.or_false, Bool.false_or, Bool.or_true, Bool.true_or, Bool.false_and, Bool.and_false, decide_true, decide_false, L0, L1, L2, L3, L4, L5, L6, L7, L8, L9, L10, L11, L12, L13, L14, L15, L16, L17, L18, L19, L20, L21, L22, L23, L24, L25, L27, L33, L39, L40, L45, L48, L57, L60, L72, L90, L97, L98, L99, L100, L121, L122, L242, L255, L256, L580, L600, L1000, L1584, L1000000, Ln1, iN_add, iN_and, iN_or, iN_nd, iN_shl, iN_shr, iN_cl, iN_in, iN_mul, k193 w, r193_1 w, r193_2 w, r193_3 w, r193_4 w, r193_5 w, r193_6 w, r193_7 w, r193_8 w, r193_18 w, r193_19 w, r193_32 w, r193_33 w, r193_34 w, r193_36 w, r193_38 w, r193_39 w, r193_40 w, r193_42 w, r193_45 w, r193_46 w, r193_47 w, r193_48 w, r193_49 w, r193_50 w, H.m, C.1, hn]
    by_cases e : q 0 1 ≤ 0
    · rw [ile_p (by omega) (by omega) e]
    · rw [ile_n (by omega) (by omega) (by omega), ile_p (by omega) (by omega) (by omega)]) (by omega)
  exact this
end ML
