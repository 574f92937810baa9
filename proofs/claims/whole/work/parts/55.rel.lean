/-! What stays between calls: the class's told and the reference's, as one. -/
def pM (a : Nat) : Bool := Nat.beq a 193 || (Nat.ble 202 a && Nat.blt a 217)
def pC (a : Nat) : Bool := Nat.ble 37 a && Nat.blt a 91
abbrev YQ : Type := Nat × (Nat → Nat) × (Nat → Option Nat) × (Nat → Option Nat)
abbrev GQ : Type := Nat × (Nat → Nat) × (Nat → Nat)
def YrS (h : mH) (a : Nat) (y : YQ) : Prop := (mK h a = (3, 4) ∧ ∀ i, i < 3 → mR h a i = some (a + 1 + i) ∧ mK h (a + 1 + i) = (100, 40)) ∧ mI h a 3 = iN y.1 ∧ ∀ k, k < y.1 → mI h (a + 1) k = iN (y.2.1 k) ∧ mI h (a + 2) k = zN (y.2.2.1 k) ∧ mI h (a + 3) k = zN (y.2.2.2 k)
def LgS (h : mH) (a : Nat) (g : GQ) : Prop := (mK h a = (4, 3) ∧ ∀ i, i < 2 → mR h a i = some (a + 1 + i) ∧ mK h (a + 1 + i) = (100, 8)) ∧ mI h a 2 = iN g.1 ∧ ∀ k, k < g.1 → mI h (a + 1) k = iN (12 + g.2.1 k) ∧ mI h (a + 2) k = iN (g.2.2 k)
/-- a YEAR that can be -/
def YW (y : YQ) : Prop := y.1 ≤ 40 ∧ ∀ k, k < y.1 → y.2.1 k ≤ 5 ∧ (y.2.1 k ≤ 1 ∨ y.2.1 k = 3 → ∃ c, c < 8 ∧ y.2.2.1 k = some c) ∧ (y.2.1 k = 2 → ∃ t, t < 6 ∧ y.2.2.1 k = some t) ∧ (y.2.1 k = 3 → ∃ p, p < 6 ∧ y.2.2.2 k = some p) ∧ (4 ≤ y.2.1 k → y.2.2.1 k = none) ∧ (y.2.1 k ≠ 3 → y.2.2.2 k = none)
/-- a LOG that can be -/
def GW (g : GQ) : Prop := g.1 ≤ 8 ∧ ∀ k, k < g.1 → g.2.1 k ≤ 1 ∧ g.2.2 k < 6
/-- the reference's rows: of a library from o on, of a year, of a log -/
def ShC (h : mH) (o : Nat) (q : LQ) : Prop := ∀ j, j < 45 → mI h 199 (o + j) = iN (flat q j)
def YrC (h : mH) (o : Nat) (y : YQ) : Prop := mI h 200 o = iN y.1 ∧ ∀ k, k < y.1 → mI h 200 (o + 1 + 3 * k) = iN (y.2.1 k) ∧ mI h 200 (o + 1 + 3 * k + 1) = zN (y.2.2.1 k) ∧ mI h 200 (o + 1 + 3 * k + 2) = zN (y.2.2.2 k)
def LgC (h : mH) (o : Nat) (g : GQ) : Prop := mI h 201 o = iN g.1 ∧ ∀ k, k < g.1 → mI h 201 (o + 1 + 2 * k) = iN (g.2.1 k) ∧ mI h 201 (o + 1 + 2 * k + 1) = iN (g.2.2 k)
/-- a byte as the reference keeps it -/
def yN (b : Nat) : Int32 := (Int32.toInt8 (iN b)).toInt32
def RelA (h : mH) (T t : Nat) : Prop := ∃ len, len ≤ 600 ∧ mI h T 5 = iN len ∧ mI h 195 t = iN len ∧ ∀ i, i < len → ∃ b, b < 256 ∧ mI h (T + 1) i = iN b ∧ mI h 194 (600 * t + i) = yN b
def RelB (h : mH) (T t : Nat) : Prop := (∃ f, f < 5 ∧ mI h T 6 = iN f ∧ mI h 196 t = iN f) ∧ ∃ o : Option Nat, (∀ p, o = some p → p ≤ 600) ∧ mI h T 7 = zN o ∧ mI h 197 t = zN o
def RelL (h : mH) (T t : Nat) : Prop := ∃ m, m ≤ 2 ∧ mI h (T + 2) 0 = iN m ∧ mI h 198 (3 * t) = iN m ∧ ∀ i, i < m → ∃ q, QW q ∧ LibS h (T + 6 + 14 * i) q ∧ ShC h (90 * t + 45 * i) q
def RelY (h : mH) (T t : Nat) : Prop := ∃ m, m ≤ 2 ∧ mI h (T + 2) 1 = iN m ∧ mI h 198 (3 * t + 1) = iN m ∧ ∀ i, i < m → ∃ y, YW y ∧ YrS h (T + 13 + 14 * i) y ∧ YrC h (242 * t + 121 * i) y
def RelG (h : mH) (T t : Nat) : Prop := ∃ m, m ≤ 2 ∧ mI h (T + 2) 2 = iN m ∧ mI h 198 (3 * t + 2) = iN m ∧ ∀ i, i < m → ∃ g, GW g ∧ LgS h (T + 17 + 14 * i) g ∧ LgC h (34 * t + 17 * i) g
def RelT (h : mH) (T t : Nat) : Prop := RelA h T t ∧ RelB h T t ∧ RelL h T t ∧ RelY h T t ∧ RelG h T t
def Rel (h : mH) : Prop := Wd h ∧ RelT h 1 0 ∧ ∀ k, k < 3 → ∃ b : Bool, mI h 36 k = bN b ∧ mI h 217 k = bN b ∧ (b = true → RelT h (91 + 34 * k) (k + 1))
/-- what a question may change: neither the told nor what lies beyond the objects -/
def sp (a j : Nat) : Bool := (Nat.beq a 52 && Nat.beq j 0) || (Nat.beq a 56 && Nat.beq j 3) || (Nat.beq a 70 && Nat.beq j 3)
def FQ (h h' : mH) : Prop := h'.1 = h.1 ∧ (∀ a j, sp a j = false → mR h' a j = mR h a j) ∧ ∀ a, pC a = false → pM a = false → ∀ j, mI h' a j = mI h a j
theorem FQ.rfl {h : mH} : FQ h h := ⟨Eq.refl _, fun _ _ _ => Eq.refl _, fun _ _ _ _ => Eq.refl _⟩
theorem FQ.tr {h h' h2 : mH} (x : FQ h h') (y : FQ h' h2) : FQ h h2 := ⟨y.1.trans x.1, fun a j p => (y.2.1 a j p).trans (x.2.1 a j p), fun a p q j => (y.2.2 a p q j).trans (x.2.2 a p q j)⟩
theorem Fr.qM {h h' : mH} (x : Fr pM h h') : FQ h h' := ⟨x.1, fun a j _ => x.r a j, fun a _ q j => x.i q j⟩
theorem Fr.qC {h h' : mH} (x : Fr pC h h') : FQ h h' := ⟨x.1, fun a j _ => x.r a j, fun a p _ j => x.i p j⟩
theorem FQ.k {h h' : mH} (x : FQ h h') (a : Nat) : mK h' a = mK h a := by unfold mK; rw [x.1]
theorem r0_sp : ∀ q ∈ R0, sp q.1 q.2.1 = false := by decide +kernel
theorem Wd.q {h h' : mH} (w : Wd h) (x : FQ h h') : Wd h' := ⟨x.1.trans w.1, fun q hq => by rw [x.2.1 q.1 q.2.1 (r0_sp q hq)]; exact w.2 q hq⟩
theorem Wd.fr {P : Nat → Bool} {h h' : mH} (w : Wd h) (x : Fr P h h') : Wd h' := ⟨x.1.trans w.1, fun q hq => by rw [x.r]; exact w.2 q hq⟩
/-- cells that a question leaves as they are -/
def ps (a : Nat) : Bool := !pC a && !pM a
theorem FQ.i {h h' : mH} (x : FQ h h') {a : Nat} (p : ps a = true) (j : Nat) : mI h' a j = mI h a j := by
  unfold ps at p
  simp only [Bool.and_eq_true, Bool.not_eq_true'] at p
  exact x.2.2 a p.1 p.2 j
theorem ps_lo : ∀ a, a < 37 → ps a = true := by decide +kernel
theorem ps_im : ∀ a, a < 193 → 91 ≤ a → ps a = true := by decide +kernel
theorem ps_mo : ∀ a, a < 202 → 194 ≤ a → ps a = true := by decide +kernel
theorem sp_no : ∀ a, a < 37 → ∀ j, j < 10 → sp a j = false := by decide +kernel
theorem sp_ni : ∀ a, a < 193 → 91 ≤ a → ∀ j, j < 10 → sp a j = false := by decide +kernel
/-- any cell that stays -/
def St (h h' : mH) (a : Nat) : Prop := mK h' a = mK h a ∧ (∀ j, j < 10 → mR h' a j = mR h a j) ∧ ∀ j, mI h' a j = mI h a j
theorem LibS.st {h h' : mH} {a : Nat} {q : LQ} (H : LibS h a q) (x : ∀ i, i < 7 → St h h' (a + i)) : LibS h' a q := by
  have x0 : St h h' a := x 0 (by decide)
  refine ⟨⟨by rw [x0.1]; exact H.1.1, fun i hi => ?_⟩, ⟨by rw [x0.2.2]; exact H.2.1.1, by rw [x0.2.2]; exact H.2.1.2.1, by rw [x0.2.2]; exact H.2.1.2.2⟩, fun i hi j hj => ?_⟩
  · have xi := x (1 + i) (by omega)
    rw [← Nat.add_assoc] at xi
    exact ⟨(x0.2.1 i (by omega)).trans (H.1.2 i hi).1, xi.1.trans (H.1.2 i hi).2⟩
  · have xi := x (1 + i) (by omega)
    rw [← Nat.add_assoc] at xi
    exact (xi.2.2 j).trans (H.2.2 i hi j hj)
theorem YrS.st {h h' : mH} {a : Nat} {y : YQ} (H : YrS h a y) (x : ∀ i, i < 4 → St h h' (a + i)) : YrS h' a y := by
  have x0 : St h h' a := x 0 (by decide)
  refine ⟨⟨by rw [x0.1]; exact H.1.1, fun i hi => ?_⟩, (x0.2.2 3).trans H.2.1, fun k hk => ?_⟩
  · have xi := x (1 + i) (by omega)
    rw [← Nat.add_assoc] at xi
    exact ⟨(x0.2.1 i (by omega)).trans (H.1.2 i hi).1, xi.1.trans (H.1.2 i hi).2⟩
  · have z := H.2.2 k hk
    exact ⟨((x 1 (by decide)).2.2 k).trans z.1, ((x 2 (by decide)).2.2 k).trans z.2.1, ((x 3 (by decide)).2.2 k).trans z.2.2⟩
theorem LgS.st {h h' : mH} {a : Nat} {g : GQ} (H : LgS h a g) (x : ∀ i, i < 3 → St h h' (a + i)) : LgS h' a g := by
  have x0 : St h h' a := x 0 (by decide)
  refine ⟨⟨by rw [x0.1]; exact H.1.1, fun i hi => ?_⟩, (x0.2.2 2).trans H.2.1, fun k hk => ?_⟩
  · have xi := x (1 + i) (by omega)
    rw [← Nat.add_assoc] at xi
    exact ⟨(x0.2.1 i (by omega)).trans (H.1.2 i hi).1, xi.1.trans (H.1.2 i hi).2⟩
  · have z := H.2.2 k hk
    exact ⟨((x 1 (by decide)).2.2 k).trans z.1, ((x 2 (by decide)).2.2 k).trans z.2⟩
theorem FQ.st {h h' : mH} (x : FQ h h') {a : Nat} (p : ps a = true) (s : ∀ j, j < 10 → sp a j = false) : St h h' a := ⟨x.k a, fun j hj => x.2.1 a j (s j hj), fun j => x.i p j⟩
theorem FQ.lo {h h' : mH} (x : FQ h h') {a : Nat} (p : a < 37) : St h h' a := x.st (ps_lo a p) (sp_no a p)
theorem FQ.im {h h' : mH} (x : FQ h h') {a : Nat} (p : a < 193) (p2 : 91 ≤ a) : St h h' a := x.st (ps_im a p p2) (sp_ni a p p2)
/-- cells from T on, and the reference's, stay -/
theorem RelT.st {h h' : mH} {T t : Nat} (R : RelT h T t) (x : ∀ i, i < 34 → St h h' (T + i)) (y : ∀ a, 194 ≤ a → a < 202 → ∀ j, mI h' a j = mI h a j) : RelT h' T t := by
  obtain ⟨⟨len, a1, a2, a3, a4⟩, ⟨⟨f, b1, b2, b3⟩, o, b4, b5, b6⟩, ⟨m, c1, c2, c3, c4⟩, ⟨m1, d1, d2, d3, d4⟩, ⟨m2, e1, e2, e3, e4⟩⟩ := R
  have x0 := (x 0 (by decide)).2.2
  have x1 := (x 1 (by decide)).2.2
  have x2 := (x 2 (by decide)).2.2
  refine ⟨⟨len, a1, (x0 5).trans a2, (y 195 (by decide) (by decide) t).trans a3, fun i hi => ?_⟩, ⟨⟨f, b1, (x0 6).trans b2, (y 196 (by decide) (by decide) t).trans b3⟩, o, b4, (x0 7).trans b5, (y 197 (by decide) (by decide) t).trans b6⟩, ⟨m, c1, (x2 0).trans c2, (y 198 (by decide) (by decide) _).trans c3, fun i hi => ?_⟩, ⟨m1, d1, (x2 1).trans d2, (y 198 (by decide) (by decide) _).trans d3, fun i hi => ?_⟩, ⟨m2, e1, (x2 2).trans e2, (y 198 (by decide) (by decide) _).trans e3, fun i hi => ?_⟩⟩
  · obtain ⟨b, g1, g2, g3⟩ := a4 i hi
    exact ⟨b, g1, (x1 i).trans g2, (y 194 (by decide) (by decide) _).trans g3⟩
  · obtain ⟨q, g1, g2, g3⟩ := c4 i hi
    refine ⟨q, g1, g2.st (fun j hj => ?_), fun j hj => (y 199 (by decide) (by decide) _).trans (g3 j hj)⟩
    have z := x (6 + 14 * i + j) (by omega)
    rw [← Nat.add_assoc, ← Nat.add_assoc] at z
    exact z
  · obtain ⟨q, g1, g2, g3, g4⟩ := d4 i hi
    refine ⟨q, g1, g2.st (fun j hj => ?_), (y 200 (by decide) (by decide) _).trans g3, fun k hk => ⟨(y 200 (by decide) (by decide) _).trans (g4 k hk).1, (y 200 (by decide) (by decide) _).trans (g4 k hk).2.1, (y 200 (by decide) (by decide) _).trans (g4 k hk).2.2⟩⟩
    have z := x (13 + 14 * i + j) (by omega)
    rw [← Nat.add_assoc, ← Nat.add_assoc] at z
    exact z
  · obtain ⟨q, g1, g2, g3, g4⟩ := e4 i hi
    refine ⟨q, g1, g2.st (fun j hj => ?_), (y 201 (by decide) (by decide) _).trans g3, fun k hk => ⟨(y 201 (by decide) (by decide) _).trans (g4 k hk).1, (y 201 (by decide) (by decide) _).trans (g4 k hk).2⟩⟩
    have z := x (17 + 14 * i + j) (by omega)
    rw [← Nat.add_assoc, ← Nat.add_assoc] at z
    exact z
theorem Rel.q {h h' : mH} (R : Rel h) (x : FQ h h') : Rel h' := by
  have y : ∀ a, 194 ≤ a → a < 202 → ∀ j, mI h' a j = mI h a j := fun a p1 p2 j => x.i (ps_mo a p2 p1) j
  refine ⟨R.1.q x, R.2.1.st (fun i hi => x.lo (by omega)) y, fun k hk => ?_⟩
  obtain ⟨b, h1, h2, h3⟩ := R.2.2 k hk
  exact ⟨b, (x.i (ps_lo 36 (by decide)) k).trans h1, (x.i (by decide) k).trans h2, fun e => (h3 e).st (fun i hi => x.im (by omega) (by omega)) y⟩
/-! which LIBRARY, YEAR, LOG a call names -/
theorem Rel.lib {h : mH} (R : Rel h) : ∃ m, m ≤ 2 ∧ mI h 3 0 = iN m ∧ mI h 198 0 = iN m ∧ ∀ i, i < m → ∃ q, QW q ∧ LibS h (7 + 14 * i) q ∧ ShC h (45 * i) q := by
  obtain ⟨m, c1, c2, c3, c4⟩ := R.2.1.2.2.1
  refine ⟨m, c1, c2, c3, fun i hi => ?_⟩
  obtain ⟨q, g1, g2, g3⟩ := c4 i hi
  refine ⟨q, g1, g2, ?_⟩
  have : 90 * 0 + 45 * i = 45 * i := by omega
  rw [this] at g3
  exact g3
theorem t53 {h : mH} (w : Wd h) {m : Nat} (hm : m ≤ 2) (c : mI h 3 0 = iN m) {x : Int32} : f53 h 1 x = some (if rg x m = true then some (7 + 14 * x.toNatClampNeg) else none) := by
  unfold f53
  simp (disch := omega) only [gT, nbeq, Option.isSome_some, Option.getD_some, Bool.and_true, Bool.true_and, Bool.and_self, mX_some, bS, bN_if, bN_01, i1_01, i0_01, if_true, if_false, Bool.false_eq_true, false_and, and_false, and_true, true_and, and_self, Bool.or_false, Bool.false_or, Bool.or_true, Bool.true_or, Bool.false_and, Bool.and_false, decide_true, decide_false, k1 w, r1_0 w, r1_1 w, r1_2 w, r1_3 w, r1_4 w, k3 w, k4 w, r4_0 w, r4_1 w, L0, L1, L2, L3, L4, L5, L6, L7, L8, L9, L10, L11, L12, L13, L14, L15, L16, L17, L18, L19, L20, L21, L22, L23, L24, L25, L27, L33, L39, L40, L45, L48, L57, L60, L72, L90, L97, L98, L99, L100, L121, L122, L242, L255, L256, L580, L600, L1000, L1584, L1000000, Ln1, iN_add, iN_and, iN_or, iN_nd, iN_shl, iN_shr, iN_cl, iN_in, iN_mul, c, iN_p]
  rw [t17p (by omega)]
  simp (disch := omega) only [gT, nbeq, Option.isSome_some, Option.getD_some, Bool.and_true, Bool.true_and, Bool.and_self, mX_some, bS, bN_if, bN_01, i1_01, i0_01, if_true, if_false, Bool.false_eq_true, false_and, and_false, and_true, true_and, and_self, Bool.or_false, Bool.false_or, Bool.or_true, Bool.true_or, Bool.false_and, Bool.and_false, decide_true, decide_false]
  cases hr : rg x m with
  | false => simp only [gT, nbeq, Option.isSome_some, Option.getD_some, Bool.and_true, Bool.true_and, Bool.and_self, mX_some, bS, bN_if, bN_01, i1_01, i0_01, if_true, if_false, Bool.false_eq_true, false_and, and_false, and_true, true_and, and_self, Bool.or_false, Bool.false_or, Bool.or_true, Bool.true_or, Bool.false_and, Bool.and_false, decide_true, decide_false]
  | true =>
    obtain ⟨i, hi, rfl, _⟩ := rg_t hr
    have : i = 0 ∨ i = 1 := by omega
    rcases this with rfl | rfl
    · simp (disch := omega) only [gT, nbeq, Option.isSome_some, Option.getD_some, Bool.and_true, Bool.true_and, Bool.and_self, mX_some, bS, bN_if, bN_01, i1_01, i0_01, if_true, if_false, Bool.false_eq_true, false_and, and_false, and_true, true_and, and_self, Bool.or_false, Bool.false_or, Bool.or_true, Bool.true_or, Bool.false_and, Bool.and_false, decide_true, decide_false, L0, L1, L2, L3, L4, L5, L6, L7, L8, L9, L10, L11, L12, L13, L14, L15, L16, L17, L18, L19, L20, L21, L22, L23, L24, L25, L27, L33, L39, L40, L45, L48, L57, L60, L72, L90, L97, L98, L99, L100, L121, L122, L242, L255, L256, L580, L600, L1000, L1584, L1000000, Ln1, iN_add, iN_and, iN_or, iN_nd, iN_shl, iN_shr, iN_cl, iN_in, iN_mul, k4 w, r4_0 w, r4_1 w]
    · simp (disch := omega) only [gT, nbeq, Option.isSome_some, Option.getD_some, Bool.and_true, Bool.true_and, Bool.and_self, mX_some, bS, bN_if, bN_01, i1_01, i0_01, if_true, if_false, Bool.false_eq_true, false_and, and_false, and_true, true_and, and_self, Bool.or_false, Bool.false_or, Bool.or_true, Bool.true_or, Bool.false_and, Bool.and_false, decide_true, decide_false, L0, L1, L2, L3, L4, L5, L6, L7, L8, L9, L10, L11, L12, L13, L14, L15, L16, L17, L18, L19, L20, L21, L22, L23, L24, L25, L27, L33, L39, L40, L45, L48, L57, L60, L72, L90, L97, L98, L99, L100, L121, L122, L242, L255, L256, L580, L600, L1000, L1584, L1000000, Ln1, iN_add, iN_and, iN_or, iN_nd, iN_shl, iN_shr, iN_cl, iN_in, iN_mul, k4 w, r4_0 w, r4_1 w]
theorem t181 {h : mH} (w : Wd h) {m s : Nat} (hm : m ≤ 2) (hs : s < 3) (c : mI h 198 s = iN m) {x : Int32} : f181 h 193 (iN s) x = some (bN (rg x m)) := by
  unfold f181
  simp (disch := omega) only [gT, nbeq, Option.isSome_some, Option.getD_some, Bool.and_true, Bool.true_and, Bool.and_self, mX_some, bS, bN_if, bN_01, i1_01, i0_01, if_true, if_false, Bool.false_eq_true, false_and, and_false, and_true, true_and, and_self, Bool.or_false, Bool.false_or, Bool.or_true, Bool.true_or, Bool.false_and, Bool.and_false, decide_true, decide_false, k193 w, r193_1 w, r193_2 w, r193_3 w, r193_4 w, r193_5 w, r193_6 w, r193_7 w, r193_8 w, r193_18 w, r193_19 w, r193_32 w, r193_33 w, r193_34 w, r193_36 w, r193_38 w, r193_39 w, r193_40 w, r193_42 w, r193_45 w, r193_46 w, r193_47 w, r193_48 w, r193_49 w, r193_50 w, k198 w, L0, L1, L2, L3, L4, L5, L6, L7, L8, L9, L10, L11, L12, L13, L14, L15, L16, L17, L18, L19, L20, L21, L22, L23, L24, L25, L27, L33, L39, L40, L45, L48, L57, L60, L72, L90, L97, L98, L99, L100, L121, L122, L242, L255, L256, L580, L600, L1000, L1584, L1000000, Ln1, iN_add, iN_and, iN_or, iN_nd, iN_shl, iN_shr, iN_cl, iN_in, iN_mul, c, iN_p]
  rw [t179p (by omega)]
  simp (disch := omega) only [gT, nbeq, Option.isSome_some, Option.getD_some, Bool.and_true, Bool.true_and, Bool.and_self, mX_some, bS, bN_if, bN_01, i1_01, i0_01, if_true, if_false, Bool.false_eq_true, false_and, and_false, and_true, true_and, and_self, Bool.or_false, Bool.false_or, Bool.or_true, Bool.true_or, Bool.false_and, Bool.and_false, decide_true, decide_false]
