/-! image and again: the calls -/
section RC
variable {h h' : mH} {S T s d : Nat}
theorem RelA.cp (R : RelA h S s) (e5 : mI h' T 5 = mI h S 5) (e : ∀ j, j < 600 → mI h' (T + 1) j = mI h (S + 1) j) (m : mI h' 195 d = mI h 195 s) (M : ∀ i b, i < 600 → mI h 194 (600 * s + i) = yN b → mI h' 194 (600 * d + i) = yN b) : RelA h' T d := by
  obtain ⟨len, a1, a2, a3, a4⟩ := R
  refine ⟨len, a1, e5.trans a2, m.trans a3, fun i hi => ?_⟩
  obtain ⟨b, b1, b2, b3⟩ := a4 i hi
  exact ⟨b, b1, (e i (by omega)).trans b2, M i b (by omega) b3⟩
theorem RelB.cp (R : RelB h S s) (e6 : mI h' T 6 = mI h S 6) (e7 : mI h' T 7 = mI h S 7) (m1 : mI h' 196 d = mI h 196 s) (m2 : mI h' 197 d = mI h 197 s) : RelB h' T d := by
  obtain ⟨⟨f, b1, b2, b3⟩, o, b4, b5, b6⟩ := R
  exact ⟨⟨f, b1, e6.trans b2, m1.trans b3⟩, o, b4, e7.trans b5, m2.trans b6⟩
theorem RelL.cp (R : RelL h S s) (K : ∀ i, i < 2 → LibK h' (T + 6 + 14 * i)) (e : mI h' (T + 2) 0 = mI h (S + 2) 0) (E : ∀ i, i < 2 → LibE h h' (S + 6 + 14 * i) (T + 6 + 14 * i)) (m : mI h' 198 (3 * d) = mI h 198 (3 * s)) (M : ∀ j, j < 90 → mI h' 199 (90 * d + j) = mI h 199 (90 * s + j)) : RelL h' T d := by
  obtain ⟨n, c1, c2, c3, c4⟩ := R
  refine ⟨n, c1, e.trans c2, m.trans c3, fun i hi => ?_⟩
  obtain ⟨q, g1, g2, g3⟩ := c4 i hi
  refine ⟨q, g1, g2.cp (K i (by omega)) (E i (by omega)), fun j hj => ?_⟩
  have z := M (45 * i + j) (by omega)
  rw [← Nat.add_assoc, ← Nat.add_assoc] at z
  exact z.trans (g3 j hj)
theorem RelY.cp (R : RelY h S s) (K : ∀ i, i < 2 → YrK h' (T + 13 + 14 * i)) (e : mI h' (T + 2) 1 = mI h (S + 2) 1) (E : ∀ i, i < 2 → YrE h h' (S + 13 + 14 * i) (T + 13 + 14 * i)) (m : mI h' 198 (3 * d + 1) = mI h 198 (3 * s + 1)) (M : ∀ j, j < 242 → mI h' 200 (242 * d + j) = mI h 200 (242 * s + j)) : RelY h' T d := by
  obtain ⟨n, c1, c2, c3, c4⟩ := R
  refine ⟨n, c1, e.trans c2, m.trans c3, fun i hi => ?_⟩
  obtain ⟨y, g1, g2, g3, g4⟩ := c4 i hi
  have hy := g1.1
  have M2 : ∀ k, k < 121 → mI h' 200 (242 * d + 121 * i + k) = mI h 200 (242 * s + 121 * i + k) := fun k hk => by
    have z := M (121 * i + k) (by omega)
    rw [← Nat.add_assoc, ← Nat.add_assoc] at z
    exact z
  refine ⟨y, g1, g2.cp g1 (K i (by omega)) (E i (by omega)), (M2 0 (by omega)).trans g3, fun k hk => ?_⟩
  obtain ⟨p1, p2, p3⟩ := g4 k hk
  have q1 := M2 (1 + 3 * k) (by omega)
  have q2 := M2 (1 + 3 * k + 1) (by omega)
  have q3 := M2 (1 + 3 * k + 2) (by omega)
  simp only [← Nat.add_assoc] at q1 q2 q3
  exact ⟨q1.trans p1, q2.trans p2, q3.trans p3⟩
theorem RelG.cp (R : RelG h S s) (K : ∀ i, i < 2 → LgK h' (T + 17 + 14 * i)) (e : mI h' (T + 2) 2 = mI h (S + 2) 2) (E : ∀ i, i < 2 → LgE h h' (S + 17 + 14 * i) (T + 17 + 14 * i)) (m : mI h' 198 (3 * d + 2) = mI h 198 (3 * s + 2)) (M : ∀ j, j < 34 → mI h' 201 (34 * d + j) = mI h 201 (34 * s + j)) : RelG h' T d := by
  obtain ⟨n, c1, c2, c3, c4⟩ := R
  refine ⟨n, c1, e.trans c2, m.trans c3, fun i hi => ?_⟩
  obtain ⟨g, g1, g2, g3, g4⟩ := c4 i hi
  have hy := g1.1
  have M2 : ∀ k, k < 17 → mI h' 201 (34 * d + 17 * i + k) = mI h 201 (34 * s + 17 * i + k) := fun k hk => by
    have z := M (17 * i + k) (by omega)
    rw [← Nat.add_assoc, ← Nat.add_assoc] at z
    exact z
  refine ⟨g, g1, g2.cp g1 (K i (by omega)) (E i (by omega)), (M2 0 (by omega)).trans g3, fun k hk => ?_⟩
  obtain ⟨p1, p2⟩ := g4 k hk
  have q1 := M2 (1 + 2 * k) (by omega)
  have q2 := M2 (1 + 2 * k + 1) (by omega)
  simp only [← Nat.add_assoc] at q1 q2
  exact ⟨q1.trans p1, q2.trans p2⟩
/-- what the reference keeps of its image t is as before -/
def SmM (h h' : mH) (t : Nat) : Prop := (∀ i, i < 600 → mI h' 194 (600 * t + i) = mI h 194 (600 * t + i)) ∧ mI h' 195 t = mI h 195 t ∧ mI h' 196 t = mI h 196 t ∧ mI h' 197 t = mI h 197 t ∧ (∀ i, i < 3 → mI h' 198 (3 * t + i) = mI h 198 (3 * t + i)) ∧ (∀ i, i < 90 → mI h' 199 (90 * t + i) = mI h 199 (90 * t + i)) ∧ (∀ i, i < 242 → mI h' 200 (242 * t + i) = mI h 200 (242 * t + i)) ∧ ∀ i, i < 34 → mI h' 201 (34 * t + i) = mI h 201 (34 * t + i)
theorem RelT.sm (R : RelT h T s) (K : ToldK h' T) (x : ∀ i, i < 34 → ∀ j, mI h' (T + i) j = mI h (T + i) j) (y : SmM h h' s) : RelT h' T s := by
  obtain ⟨RA, RB, RL, RY, RG⟩ := R
  obtain ⟨y4, y5, y6, y7, y8, y9, y0, y1⟩ := y
  refine ⟨RA.cp (x 0 (by decide) 5) (fun j _ => x 1 (by decide) j) y5 (fun i b hi hb => (y4 i hi).trans hb), RB.cp (x 0 (by decide) 6) (x 0 (by decide) 7) y6 y7, RL.cp (fun i hi => (K.2.2.2 i hi).2.2.2.1) (x 2 (by decide) 0) (fun i hi => LibE.st (fun j hj k => ?_)) (y8 0 (by decide)) y9, RY.cp (fun i hi => (K.2.2.2 i hi).2.2.2.2.1) (x 2 (by decide) 1) (fun i hi => YrE.st (fun j hj k => ?_)) (y8 1 (by decide)) y0, RG.cp (fun i hi => (K.2.2.2 i hi).2.2.2.2.2) (x 2 (by decide) 2) (fun i hi => LgE.st (fun j hj k => ?_)) (y8 2 (by decide)) y1⟩
  · have z := x (6 + 14 * i + j) (by omega) k
    simp only [← Nat.add_assoc] at z
    exact z
  · have z := x (13 + 14 * i + j) (by omega) k
    simp only [← Nat.add_assoc] at z
    exact z
  · have z := x (17 + 14 * i + j) (by omega) k
    simp only [← Nat.add_assoc] at z
    exact z
theorem RelT.cp (R : RelT h S s) (K : ToldK h' T) (C : CpT h h' S T) (M : CpM h h' s d) : RelT h' T d := by
  obtain ⟨RA, RB, RL, RY, RG⟩ := R
  obtain ⟨⟨m1, _⟩, m5, m6, m7, m8, m9, m0, m2⟩ := M
  obtain ⟨⟨c5, c6, c7⟩, c1, c2, c3⟩ := C
  have o : ∀ {c}, RwC h h' c 1 s d → mI h' c d = mI h c s := fun {c} r => by
    have z := r.1 0 (by decide)
    simp only [Nat.one_mul, Nat.add_zero] at z
    exact z
  exact ⟨RA.cp c5 c1 (o m5) (fun i b hi hb => by rw [m1 i hi, hb, ySx_y]), RB.cp c6 c7 (o m6) (o m7), RL.cp (fun i hi => (K.2.2.2 i hi).2.2.2.1) (c2 0 (by decide)) (fun i hi => (c3 i hi).1) (m8.1 0 (by decide)) m9.1, RY.cp (fun i hi => (K.2.2.2 i hi).2.2.2.2.1) (c2 1 (by decide)) (fun i hi => (c3 i hi).2.1) (m8.1 1 (by decide)) m0.1, RG.cp (fun i hi => (K.2.2.2 i hi).2.2.2.2.2) (c2 2 (by decide)) (fun i hi => (c3 i hi).2.2) (m8.1 2 (by decide)) m2.1⟩
theorem CpM.sm {t : Nat} (M : CpM h h' s d) (hne : t ≠ d) : SmM h h' t := by
  obtain ⟨⟨_, m1⟩, m5, m6, m7, m8, m9, m0, m2⟩ := M
  exact ⟨fun i hi => m1 _ (by omega), m5.2 _ (by omega), m6.2 _ (by omega), m7.2 _ (by omega), fun i hi => m8.2 _ (by omega), fun i hi => m9.2 _ (by omega), fun i hi => m0.2 _ (by omega), fun i hi => m2.2 _ (by omega)⟩
theorem SmM.tr {g : mH} {t : Nat} (x : SmM h g t) (y : SmM g h' t) : SmM h h' t := by
  obtain ⟨x4, x5, x6, x7, x8, x9, x0, x1⟩ := x
  obtain ⟨y4, y5, y6, y7, y8, y9, y0, y1⟩ := y
  exact ⟨fun i hi => (y4 i hi).trans (x4 i hi), y5.trans x5, y6.trans x6, y7.trans x7, fun i hi => (y8 i hi).trans (x8 i hi), fun i hi => (y9 i hi).trans (x9 i hi), fun i hi => (y0 i hi).trans (x0 i hi), fun i hi => (y1 i hi).trans (x1 i hi)⟩
theorem Fr.sm {P : Nat → Bool} (x : Fr P h h') (p : ∀ b, 194 ≤ b → b < 202 → P b = false) (t : Nat) : SmM h h' t := ⟨fun _ _ => x.i (p _ (by decide) (by decide)) _, x.i (p _ (by decide) (by decide)) _, x.i (p _ (by decide) (by decide)) _, x.i (p _ (by decide) (by decide)) _, fun _ _ => x.i (p _ (by decide) (by decide)) _, fun _ _ => x.i (p _ (by decide) (by decide)) _, fun _ _ => x.i (p _ (by decide) (by decide)) _, fun _ _ => x.i (p _ (by decide) (by decide)) _⟩
end RC
theorem tkI {h : mH} (w : Wd h) {k : Nat} (hk : k < 3) : ToldK h (91 + 34 * k) := by
  have : k = 0 ∨ k = 1 ∨ k = 2 := by omega
  rcases this with rfl | rfl | rfl
  · exact tk91 w
  · exact tk125 w
  · exact tk159 w
theorem r35 {h : mH} (w : Wd h) {k : Nat} (hk : k < 3) : mR h 35 k = some (91 + 34 * k) := by
  have : k = 0 ∨ k = 1 ∨ k = 2 := by omega
  rcases this with rfl | rfl | rfl
  · exact r35_0 w
  · exact r35_1 w
  · exact r35_2 w
theorem nbq {a b : Nat} (h : a ≠ b) : Nat.beq a b = false := by
  cases e : Nat.beq a b with
  | false => rfl
  | true => exact absurd (Nat.eq_of_beq_eq_true e) h
theorem bN_inj {a b : Bool} (h : bN a = bN b) : a = b := by
  cases a <;> cases b <;> first | rfl | (exact absurd h (by decide))
theorem CpT.to {h g g' : mH} {S T : Nat} (C : CpT h g S T) (e : ∀ i, i < 34 → ∀ j, mI g' (T + i) j = mI g (T + i) j) : CpT h g' S T := by
  obtain ⟨⟨c5, c6, c7⟩, c1, c2, c3⟩ := C
  refine ⟨⟨(e 0 (by decide) 5).trans c5, (e 0 (by decide) 6).trans c6, (e 0 (by decide) 7).trans c7⟩, fun x hx => (e 1 (by decide) x).trans (c1 x hx), fun x hx => (e 2 (by decide) x).trans (c2 x hx), fun i hi => ?_⟩
  obtain ⟨p1, p2, p3⟩ := c3 i hi
  have q : ∀ m, 6 ≤ m → m < 34 → ∀ j, mI g' (T + m) j = mI g (T + m) j := fun m _ hm j => e m hm j
  refine ⟨⟨⟨?_, ?_, ?_⟩, fun k hk j hj => ?_⟩, ⟨?_, fun k hk j hj => ?_⟩, ⟨?_, fun k hk j hj => ?_⟩⟩
  · have z := e (6 + 14 * i) (by omega) 6
    rw [← Nat.add_assoc] at z
    exact z.trans p1.1.1
  · have z := e (6 + 14 * i) (by omega) 7
    rw [← Nat.add_assoc] at z
    exact z.trans p1.1.2.1
  · have z := e (6 + 14 * i) (by omega) 8
    rw [← Nat.add_assoc] at z
    exact z.trans p1.1.2.2
  · have z := e (6 + 14 * i + 1 + k) (by omega) j
    simp only [← Nat.add_assoc] at z
    exact z.trans (p1.2 k hk j hj)
  · have z := e (13 + 14 * i) (by omega) 3
    rw [← Nat.add_assoc] at z
    exact z.trans p2.1
  · have z := e (13 + 14 * i + 1 + k) (by omega) j
    simp only [← Nat.add_assoc] at z
    exact z.trans (p2.2 k hk j hj)
  · have z := e (17 + 14 * i) (by omega) 2
    rw [← Nat.add_assoc] at z
    exact z.trans p3.1
  · have z := e (17 + 14 * i + 1 + k) (by omega) j
    simp only [← Nat.add_assoc] at z
    exact z.trans (p3.2 k hk j hj)
theorem CpM.to {h g g' h' : mH} {s d : Nat} (C : CpM g g' s d) (e1 : ∀ c x, 194 ≤ c → c < 202 → mI g c x = mI h c x) (e2 : ∀ c x, 194 ≤ c → c < 202 → mI h' c x = mI g' c x) : CpM h h' s d := by
  obtain ⟨⟨m1, m1'⟩, m5, m6, m7, m8, m9, m0, m2⟩ := C
  have r2 : ∀ {c n}, 194 ≤ c → c < 202 → RwC g g' c n s d → RwC h h' c n s d := fun {c n} h1 h2 r => ⟨fun i hi => (e2 _ _ h1 h2).trans ((r.1 i hi).trans (e1 _ _ h1 h2)), fun i hi => (e2 _ _ h1 h2).trans ((r.2 i hi).trans (e1 _ _ h1 h2))⟩
  exact ⟨⟨fun i hi => (e2 _ _ (by decide) (by decide)).trans ((m1 i hi).trans (by rw [e1 _ _ (by decide) (by decide)])), fun i hi => (e2 _ _ (by decide) (by decide)).trans ((m1' i hi).trans (e1 _ _ (by decide) (by decide)))⟩, r2 (by decide) (by decide) m5, r2 (by decide) (by decide) m6, r2 (by decide) (by decide) m7, r2 (by decide) (by decide) m8, r2 (by decide) (by decide) m9, r2 (by decide) (by decide) m0, r2 (by decide) (by decide) m2⟩
theorem Rel.cpy {h h5 : mH} {T S s d : Nat} (R : Rel h) (w5 : Wd h5) (C : ∀ x, x < 193 → x ≠ 36 → (x < T ∨ T + 34 ≤ x) → ∀ j, mI h5 x j = mI h x j) (CT : CpT h h5 S T) (CM : CpM h h5 s d) (hS : RelT h S s) (hT : (T = 1 ∧ d = 0) ∨ ∃ k, k < 3 ∧ T = 91 + 34 * k ∧ d = k + 1) (fl : ∀ k, k < 3 → ∃ b : Bool, mI h5 36 k = bN b ∧ mI h5 217 k = bN b ∧ (b = true → mI h 36 k = bN true ∨ T = 91 + 34 * k)) : Rel h5 := by
  refine ⟨w5, ?_, fun k hk => ?_⟩
  · rcases hT with ⟨rfl, rfl⟩ | ⟨k, hk, rfl, rfl⟩
    · exact hS.cp (tk1 w5) CT CM
    · exact R.2.1.sm (tk1 w5) (fun i hi j => C _ (by omega) (by omega) (by omega) j) (CM.sm (by omega))
  · obtain ⟨b, b1, b2, b3⟩ := fl k hk
    refine ⟨b, b1, b2, fun hb => ?_⟩
    by_cases e : T = 91 + 34 * k
    · have ed : d = k + 1 := by
        rcases hT with ⟨rfl, rfl⟩ | ⟨k2, hk2, h1, rfl⟩
        · omega
        · omega
      subst e
      rw [ed] at CM
      exact hS.cp (tkI w5 hk) CT CM
    · obtain ⟨b', d1, d2, d3⟩ := R.2.2 k hk
      have e1 : b' = true := by
        rcases b3 hb with h1 | h1
        · exact bN_inj (d1.symm.trans h1)
        · exact absurd h1 e
      refine (d3 e1).sm (tkI w5 hk) (fun i hi j => C _ (by omega) (by omega) ?_ j) (CM.sm ?_)
      · rcases hT with ⟨rfl, rfl⟩ | ⟨k2, hk2, h1, rfl⟩ <;> omega
      · rcases hT with ⟨rfl, rfl⟩ | ⟨k2, hk2, h1, rfl⟩ <;> omega
/-- beyond the objects nothing changes -/
def Hi (h h' : mH) : Prop := h'.1 = h.1 ∧ ∀ x, 218 ≤ x → ∀ j, mI h' x j = mI h x j
theorem Hi.refl {h : mH} : Hi h h := ⟨Eq.refl _, fun _ _ _ => Eq.refl _⟩
theorem Hi.tr {h h' g : mH} (x : Hi h h') (y : Hi h' g) : Hi h g := ⟨y.1.trans x.1, fun a ha j => (y.2 a ha j).trans (x.2 a ha j)⟩
theorem Hi.fr {P : Nat → Bool} {h h' : mH} (x : Fr P h h') (p : ∀ a, 218 ≤ a → P a = false) : Hi h h' := ⟨x.1, fun a ha j => x.i (p a ha) j⟩
theorem Hi.si {h h' : mH} {a j : Nat} {v : Int32} (x : Hi h h') (ha : a < 218) : Hi h (mSI h' a j v) := ⟨x.1, fun b hb k => (si_ne _ _ _ _ _ _ (show b ≠ a by omega)).trans (x.2 b hb k)⟩
theorem Hi.k {h h' : mH} (x : Hi h h') (a : Nat) : mK h' a = mK h a := by unfold mK; rw [x.1]
section PB
variable {h : mH}
theorem c_image (R : Rel h) (x1 : Int32) : ∃ v h1 h2, f172 h 0 x1 = some (v, h1) ∧ f298 h1 193 x1 = some (v, h2) ∧ Rel h2 ∧ Hi h h1 ∧ Hi h1 h2 := by
  have w := R.1
  unfold f172
  simp (disch := omega) only [gT, nbeq, Option.isSome_some, Option.getD_some, Bool.and_true, Bool.true_and, Bool.and_self, mX_some, bS, bN_if, bN_01, i1_01, i0_01, if_true, if_false, Bool.false_eq_true, false_and, and_false, and_true, true_and, and_self, Bool.or_false, Bool.false_or, Bool.or_true, Bool.true_or, Bool.false_and, Bool.and_false, decide_true, decide_false, L0, L1, L2, L3, L4, L5, L6, L7, L8, L9, L10, L11, L12, L13, L14, L15, L16, L17, L18, L19, L20, L21, L22, L23, L24, L25, L27, L33, L39, L40, L45, L48, L57, L60, L72, L90, L97, L98, L99, L100, L121, L122, L242, L255, L256, L580, L600, L1000, L1584, L1000000, Ln1, iN_add, iN_and, iN_or, iN_nd, iN_shl, iN_shr, iN_cl, iN_in, iN_mul, t17r]
  cases hr : rg x1 (2 + 1) with
  | false =>
    simp only [gT, nbeq, Option.isSome_some, Option.getD_some, Bool.and_true, Bool.true_and, Bool.and_self, mX_some, bS, bN_if, bN_01, i1_01, i0_01, if_true, if_false, Bool.false_eq_true, false_and, and_false, and_true, true_and, and_self, Bool.or_false, Bool.false_or, Bool.or_true, Bool.true_or, Bool.false_and, Bool.and_false, decide_true, decide_false]
    refine ⟨_, _, mSI h 193 0 (iN 0), rfl, ?_, R.q FQ.c0, Hi.refl, Hi.refl.si (by decide)⟩
    unfold f298
    simp (disch := omega) only [gT, nbeq, Option.isSome_some, Option.getD_some, Bool.and_true, Bool.true_and, Bool.and_self, mX_some, bS, bN_if, bN_01, i1_01, i0_01, if_true, if_false, Bool.false_eq_true, false_and, and_false, and_true, true_and, and_self, Bool.or_false, Bool.false_or, Bool.or_true, Bool.true_or, Bool.false_and, Bool.and_false, decide_true, decide_false, L0, L1, L2, L3, L4, L5, L6, L7, L8, L9, L10, L11, L12, L13, L14, L15, L16, L17, L18, L19, L20, L21, L22, L23, L24, L25, L27, L33, L39, L40, L45, L48, L57, L60, L72, L90, L97, L98, L99, L100, L121, L122, L242, L255, L256, L580, L600, L1000, L1584, L1000000, Ln1, iN_add, iN_and, iN_or, iN_nd, iN_shl, iN_shr, iN_cl, iN_in, iN_mul, k193 w, r193_1 w, r193_2 w, r193_3 w, r193_4 w, r193_5 w, r193_6 w, r193_7 w, r193_8 w, r193_18 w, r193_19 w, r193_32 w, r193_33 w, r193_34 w, r193_36 w, r193_38 w, r193_39 w, r193_40 w, r193_42 w, r193_45 w, r193_46 w, r193_47 w, r193_48 w, r193_49 w, r193_50 w, t179r, hr]
  | true =>
    obtain ⟨k, hk, rfl, _⟩ := rg_t hr
    have hk3 : k < 3 := hk
    obtain ⟨g1, a1, a2, a3⟩ := t173 (tkI w hk3) (tk1 w) (by omega)
    have w1 := w.fr a2
    have kT : mK h (91 + 34 * k) = (1, 8) := (tkI w hk3).1.1
    have F2 : Fr (fun b => Nat.beq b 36) g1 (mSI g1 36 k (iN 1)) := Fr.rfl.si rfl
    have w2 := w1.fr F2
    have F3 : Fr (fun b => Nat.beq b 193) (mSI g1 36 k (iN 1)) (mSI (mSI g1 36 k (iN 1)) 193 0 (iN 0)) := Fr.rfl.si rfl
    have w3 := w2.fr F3
    obtain ⟨g4, b1, b2, b3⟩ := t299 (s := 0) (d := k + 1) w3 (by omega) (by omega) (by omega)
    have w4 := w3.fr b2
    have F5 : Fr (fun b => Nat.beq b 217) g4 (mSI g4 217 k (iN 1)) := Fr.rfl.si rfl
    have w5 := w4.fr F5
    have lo : ∀ x, x < 193 → x ≠ 36 → ∀ j, mI (mSI g4 217 k (iN 1)) x j = mI g1 x j := fun x h1 h2 j => by
      rw [F5.i (nbq (show x ≠ 217 by omega)), b2.i (pRg_f (show x < 194 ∨ 194 + 8 ≤ x by omega)), F3.i (nbq (show x ≠ 193 by omega)), F2.i (nbq h2)]
    refine ⟨iN 1, mSI g1 36 k (iN 1), mSI g4 217 k (iN 1), ?_, ?_, R.cpy (T := 91 + 34 * k) (S := 1) (s := 0) (d := k + 1) w5 (fun x h1 h2 h3 j => (lo x h1 h2 j).trans (a2.i (pRg_f h3) j)) (a3.to (fun i hi j => lo _ (by omega) (by omega) j)) (b3.to (fun c x h1 h2 => ?_) (fun c x h1 h2 => F5.i (nbq (show c ≠ 217 by omega)) x)) R.2.1 (Or.inr ⟨k, hk3, rfl, rfl⟩) (fun j hj => ?_), (Hi.fr a2 (fun a ha => pRg_f (by omega))).si (by decide), ((Hi.refl.si (by decide)).tr (Hi.fr b2 (fun a ha => pRg_f (by omega)))).si (by decide)⟩
    · simp (disch := omega) only [gT, nbeq, Option.isSome_some, Option.getD_some, Bool.and_true, Bool.true_and, Bool.and_self, mX_some, bS, bN_if, bN_01, i1_01, i0_01, if_true, if_false, Bool.false_eq_true, false_and, and_false, and_true, true_and, and_self, Bool.or_false, Bool.false_or, Bool.or_true, Bool.true_or, Bool.false_and, Bool.and_false, decide_true, decide_false, L0, L1, L2, L3, L4, L5, L6, L7, L8, L9, L10, L11, L12, L13, L14, L15, L16, L17, L18, L19, L20, L21, L22, L23, L24, L25, L27, L33, L39, L40, L45, L48, L57, L60, L72, L90, L97, L98, L99, L100, L121, L122, L242, L255, L256, L580, L600, L1000, L1584, L1000000, Ln1, iN_add, iN_and, iN_or, iN_nd, iN_shl, iN_shr, iN_cl, iN_in, iN_mul, k0 w, r0_0 w, r0_1 w, r0_2 w, r0_3 w, r0_4 w, r0_5 w, r0_6 w, r0_7 w, r0_8 w, k35 w, r35_0 w, r35_1 w, r35_2 w, r35 w hk3, kT, a1, k0 w1, r0_0 w1, r0_1 w1, r0_2 w1, r0_3 w1, r0_4 w1, r0_5 w1, r0_6 w1, r0_7 w1, r0_8 w1, k36 w1, iN_in, iN_cl]
    · unfold f298
      simp (disch := omega) only [gT, nbeq, Option.isSome_some, Option.getD_some, Bool.and_true, Bool.true_and, Bool.and_self, mX_some, bS, bN_if, bN_01, i1_01, i0_01, if_true, if_false, Bool.false_eq_true, false_and, and_false, and_true, true_and, and_self, Bool.or_false, Bool.false_or, Bool.or_true, Bool.true_or, Bool.false_and, Bool.and_false, decide_true, decide_false, L0, L1, L2, L3, L4, L5, L6, L7, L8, L9, L10, L11, L12, L13, L14, L15, L16, L17, L18, L19, L20, L21, L22, L23, L24, L25, L27, L33, L39, L40, L45, L48, L57, L60, L72, L90, L97, L98, L99, L100, L121, L122, L242, L255, L256, L580, L600, L1000, L1584, L1000000, Ln1, iN_add, iN_and, iN_or, iN_nd, iN_shl, iN_shr, iN_cl, iN_in, iN_mul, k193 w2, r193_1 w2, r193_2 w2, r193_3 w2, r193_4 w2, r193_5 w2, r193_6 w2, r193_7 w2, r193_8 w2, r193_18 w2, r193_19 w2, r193_32 w2, r193_33 w2, r193_34 w2, r193_36 w2, r193_38 w2, r193_39 w2, r193_40 w2, r193_42 w2, r193_45 w2, r193_46 w2, r193_47 w2, r193_48 w2, r193_49 w2, r193_50 w2, t179r, hr, b1, k193 w4, r193_1 w4, r193_2 w4, r193_3 w4, r193_4 w4, r193_5 w4, r193_6 w4, r193_7 w4, r193_8 w4, r193_18 w4, r193_19 w4, r193_32 w4, r193_33 w4, r193_34 w4, r193_36 w4, r193_38 w4, r193_39 w4, r193_40 w4, r193_42 w4, r193_45 w4, r193_46 w4, r193_47 w4, r193_48 w4, r193_49 w4, r193_50 w4, k217 w4, iN_in, iN_cl]
    · rw [F3.i (nbq (show c ≠ 193 by omega)), F2.i (nbq (show c ≠ 36 by omega)), a2.i (pRg_f (show c < 91 + 34 * k ∨ 91 + 34 * k + 34 ≤ c by omega))]
    · by_cases ej : j = k
      · subst ej
        refine ⟨true, ?_, ?_, fun _ => Or.inr rfl⟩
        · rw [F5.i rfl, b2.i rfl, F3.i rfl]; simp (disch := omega) only [si_ne, si_nk, si_eq, bN_t]
        · simp (disch := omega) only [si_ne, si_nk, si_eq, bN_t]
      · obtain ⟨b, d1, d2, d3⟩ := R.2.2 j hj
        refine ⟨b, ?_, ?_, fun hb => Or.inl (by rw [d1, hb])⟩
        · rw [F5.i rfl, b2.i rfl, F3.i rfl]
          simp (disch := omega) only [si_ne, si_nk, si_eq]
          rw [a2.i (pRg_f (by omega))]; exact d1
        · simp (disch := omega) only [si_ne, si_nk, si_eq]
          rw [b2.i rfl, F3.i rfl, F2.i rfl, a2.i (pRg_f (by omega))]; exact d2
theorem c_again (R : Rel h) (x1 : Int32) : ∃ v h1 h2, f174 h 0 x1 = some (v, h1) ∧ f301 h1 193 x1 = some (v, h2) ∧ Rel h2 ∧ Hi h h1 ∧ Hi h1 h2 := by
  have w := R.1
  unfold f174 f174_18
  simp (disch := omega) only [gT, nbeq, Option.isSome_some, Option.getD_some, Bool.and_true, Bool.true_and, Bool.and_self, mX_some, bS, bN_if, bN_01, i1_01, i0_01, if_true, if_false, Bool.false_eq_true, false_and, and_false, and_true, true_and, and_self, Bool.or_false, Bool.false_or, Bool.or_true, Bool.true_or, Bool.false_and, Bool.and_false, decide_true, decide_false, L0, L1, L2, L3, L4, L5, L6, L7, L8, L9, L10, L11, L12, L13, L14, L15, L16, L17, L18, L19, L20, L21, L22, L23, L24, L25, L27, L33, L39, L40, L45, L48, L57, L60, L72, L90, L97, L98, L99, L100, L121, L122, L242, L255, L256, L580, L600, L1000, L1584, L1000000, Ln1, iN_add, iN_and, iN_or, iN_nd, iN_shl, iN_shr, iN_cl, iN_in, iN_mul, t17r]
  cases hr : rg x1 (2 + 1) with
  | false =>
    simp only [gT, nbeq, Option.isSome_some, Option.getD_some, Bool.and_true, Bool.true_and, Bool.and_self, mX_some, bS, bN_if, bN_01, i1_01, i0_01, if_true, if_false, Bool.false_eq_true, false_and, and_false, and_true, true_and, and_self, Bool.or_false, Bool.false_or, Bool.or_true, Bool.true_or, Bool.false_and, Bool.and_false, decide_true, decide_false]
    refine ⟨_, _, mSI h 193 0 (iN 0), rfl, ?_, R.q FQ.c0, Hi.refl, Hi.refl.si (by decide)⟩
    unfold f301 f301_23
    simp (disch := omega) only [gT, nbeq, Option.isSome_some, Option.getD_some, Bool.and_true, Bool.true_and, Bool.and_self, mX_some, bS, bN_if, bN_01, i1_01, i0_01, if_true, if_false, Bool.false_eq_true, false_and, and_false, and_true, true_and, and_self, Bool.or_false, Bool.false_or, Bool.or_true, Bool.true_or, Bool.false_and, Bool.and_false, decide_true, decide_false, L0, L1, L2, L3, L4, L5, L6, L7, L8, L9, L10, L11, L12, L13, L14, L15, L16, L17, L18, L19, L20, L21, L22, L23, L24, L25, L27, L33, L39, L40, L45, L48, L57, L60, L72, L90, L97, L98, L99, L100, L121, L122, L242, L255, L256, L580, L600, L1000, L1584, L1000000, Ln1, iN_add, iN_and, iN_or, iN_nd, iN_shl, iN_shr, iN_cl, iN_in, iN_mul, k193 w, r193_1 w, r193_2 w, r193_3 w, r193_4 w, r193_5 w, r193_6 w, r193_7 w, r193_8 w, r193_18 w, r193_19 w, r193_32 w, r193_33 w, r193_34 w, r193_36 w, r193_38 w, r193_39 w, r193_40 w, r193_42 w, r193_45 w, r193_46 w, r193_47 w, r193_48 w, r193_49 w, r193_50 w, t179r, hr]
  | true =>
    obtain ⟨k, hk, rfl, hk9⟩ := rg_t hr
    have hk3 : k < 3 := hk
    obtain ⟨b, d1, d2, d3⟩ := R.2.2 k hk3
    simp (disch := omega) only [gT, nbeq, Option.isSome_some, Option.getD_some, Bool.and_true, Bool.true_and, Bool.and_self, mX_some, bS, bN_if, bN_01, i1_01, i0_01, if_true, if_false, Bool.false_eq_true, false_and, and_false, and_true, true_and, and_self, Bool.or_false, Bool.false_or, Bool.or_true, Bool.true_or, Bool.false_and, Bool.and_false, decide_true, decide_false, L0, L1, L2, L3, L4, L5, L6, L7, L8, L9, L10, L11, L12, L13, L14, L15, L16, L17, L18, L19, L20, L21, L22, L23, L24, L25, L27, L33, L39, L40, L45, L48, L57, L60, L72, L90, L97, L98, L99, L100, L121, L122, L242, L255, L256, L580, L600, L1000, L1584, L1000000, Ln1, iN_add, iN_and, iN_or, iN_nd, iN_shl, iN_shr, iN_cl, iN_in, iN_mul, k0 w, r0_0 w, r0_1 w, r0_2 w, r0_3 w, r0_4 w, r0_5 w, r0_6 w, r0_7 w, r0_8 w, k36 w, iN_in, iN_cl, d1]
    cases b with
    | false =>
      simp only [gT, nbeq, Option.isSome_some, Option.getD_some, Bool.and_true, Bool.true_and, Bool.and_self, mX_some, bS, bN_if, bN_01, i1_01, i0_01, if_true, if_false, Bool.false_eq_true, false_and, and_false, and_true, true_and, and_self, Bool.or_false, Bool.false_or, Bool.or_true, Bool.true_or, Bool.false_and, Bool.and_false, decide_true, decide_false]
      refine ⟨_, _, mSI h 193 0 (iN 0), rfl, ?_, R.q FQ.c0, Hi.refl, Hi.refl.si (by decide)⟩
      unfold f301 f301_23
      simp (disch := omega) only [gT, nbeq, Option.isSome_some, Option.getD_some, Bool.and_true, Bool.true_and, Bool.and_self, mX_some, bS, bN_if, bN_01, i1_01, i0_01, if_true, if_false, Bool.false_eq_true, false_and, and_false, and_true, true_and, and_self, Bool.or_false, Bool.false_or, Bool.or_true, Bool.true_or, Bool.false_and, Bool.and_false, decide_true, decide_false, L0, L1, L2, L3, L4, L5, L6, L7, L8, L9, L10, L11, L12, L13, L14, L15, L16, L17, L18, L19, L20, L21, L22, L23, L24, L25, L27, L33, L39, L40, L45, L48, L57, L60, L72, L90, L97, L98, L99, L100, L121, L122, L242, L255, L256, L580, L600, L1000, L1584, L1000000, Ln1, iN_add, iN_and, iN_or, iN_nd, iN_shl, iN_shr, iN_cl, iN_in, iN_mul, k193 w, r193_1 w, r193_2 w, r193_3 w, r193_4 w, r193_5 w, r193_6 w, r193_7 w, r193_8 w, r193_18 w, r193_19 w, r193_32 w, r193_33 w, r193_34 w, r193_36 w, r193_38 w, r193_39 w, r193_40 w, r193_42 w, r193_45 w, r193_46 w, r193_47 w, r193_48 w, r193_49 w, r193_50 w, k217 w, t179r, hr, iN_in, iN_cl, si_ne, si_nk, si_eq, d2]
    | true =>
      obtain ⟨g1, a1, a2, a3⟩ := t173 (tk1 w) (tkI w hk3) (by omega)
      have w1 := w.fr a2
      have kT : mK h 1 = (1, 8) := k1 w
      have F3 : Fr (fun b => Nat.beq b 193) g1 (mSI g1 193 0 (iN 0)) := Fr.rfl.si rfl
      have w3 := w1.fr F3
      obtain ⟨g4, b1, b2, b3⟩ := t299 (s := k + 1) (d := 0) w3 (by omega) (by omega) (by omega)
      have w4 := w3.fr b2
      have lo : ∀ x, x < 193 → ∀ j, mI g4 x j = mI g1 x j := fun x h1 j => by
        rw [b2.i (pRg_f (show x < 194 ∨ 194 + 8 ≤ x by omega)), F3.i (nbq (show x ≠ 193 by omega))]
      have e17 : mI g1 217 k = bN true := (a2.i (pRg_f (by omega)) k).trans d2
      refine ⟨iN 1, g1, g4, ?_, ?_, R.cpy (T := 1) (S := 91 + 34 * k) (s := k + 1) (d := 0) w4 (fun x h1 h2 h3 j => (lo x h1 j).trans (a2.i (pRg_f h3) j)) (a3.to (fun i hi j => lo _ (by omega) j)) (b3.to (fun c x h1 h2 => ?_) (fun c x h1 h2 => rfl)) (d3 rfl) (Or.inl ⟨rfl, rfl⟩) (fun j hj => ?_), Hi.fr a2 (fun a ha => pRg_f (by omega)), (Hi.refl.si (by decide)).tr (Hi.fr b2 (fun a ha => pRg_f (by omega)))⟩
      · simp (disch := omega) only [gT, nbeq, Option.isSome_some, Option.getD_some, Bool.and_true, Bool.true_and, Bool.and_self, mX_some, bS, bN_if, bN_01, i1_01, i0_01, if_true, if_false, Bool.false_eq_true, false_and, and_false, and_true, true_and, and_self, Bool.or_false, Bool.false_or, Bool.or_true, Bool.true_or, Bool.false_and, Bool.and_false, decide_true, decide_false, L0, L1, L2, L3, L4, L5, L6, L7, L8, L9, L10, L11, L12, L13, L14, L15, L16, L17, L18, L19, L20, L21, L22, L23, L24, L25, L27, L33, L39, L40, L45, L48, L57, L60, L72, L90, L97, L98, L99, L100, L121, L122, L242, L255, L256, L580, L600, L1000, L1584, L1000000, Ln1, iN_add, iN_and, iN_or, iN_nd, iN_shl, iN_shr, iN_cl, iN_in, iN_mul, k0 w, r0_0 w, r0_1 w, r0_2 w, r0_3 w, r0_4 w, r0_5 w, r0_6 w, r0_7 w, r0_8 w, k35 w, r35_0 w, r35_1 w, r35_2 w, r35 w hk3, kT, a1]
      · unfold f301
        simp (disch := omega) only [gT, nbeq, Option.isSome_some, Option.getD_some, Bool.and_true, Bool.true_and, Bool.and_self, mX_some, bS, bN_if, bN_01, i1_01, i0_01, if_true, if_false, Bool.false_eq_true, false_and, and_false, and_true, true_and, and_self, Bool.or_false, Bool.false_or, Bool.or_true, Bool.true_or, Bool.false_and, Bool.and_false, decide_true, decide_false, L0, L1, L2, L3, L4, L5, L6, L7, L8, L9, L10, L11, L12, L13, L14, L15, L16, L17, L18, L19, L20, L21, L22, L23, L24, L25, L27, L33, L39, L40, L45, L48, L57, L60, L72, L90, L97, L98, L99, L100, L121, L122, L242, L255, L256, L580, L600, L1000, L1584, L1000000, Ln1, iN_add, iN_and, iN_or, iN_nd, iN_shl, iN_shr, iN_cl, iN_in, iN_mul, k193 w1, r193_1 w1, r193_2 w1, r193_3 w1, r193_4 w1, r193_5 w1, r193_6 w1, r193_7 w1, r193_8 w1, r193_18 w1, r193_19 w1, r193_32 w1, r193_33 w1, r193_34 w1, r193_36 w1, r193_38 w1, r193_39 w1, r193_40 w1, r193_42 w1, r193_45 w1, r193_46 w1, r193_47 w1, r193_48 w1, r193_49 w1, r193_50 w1, k217 w1, t179r, hr, iN_in, iN_cl, si_ne, si_nk, si_eq, e17, b1]
      · rw [F3.i (nbq (show c ≠ 193 by omega)), a2.i (pRg_f (show c < 1 ∨ 1 + 34 ≤ c by omega))]
      · obtain ⟨b, d1, d2, d3⟩ := R.2.2 j hj
        refine ⟨b, ?_, ?_, fun hb => Or.inl (by rw [d1, hb])⟩
        · rw [lo 36 (by decide), a2.i (pRg_f (by omega))]; exact d1
        · rw [b2.i rfl, F3.i rfl, a2.i (pRg_f (by omega))]; exact d2
end PB
