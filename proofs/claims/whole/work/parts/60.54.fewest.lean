/-! SHELF, pure: the least of some; the class's days and the reference's -/
def mn (P : Nat → Bool) (g : Nat → Nat) (n a : Nat) : Nat := up (fun c x => if P c = true then min x (g c) else x) n a
theorem mn_s (P : Nat → Bool) (g : Nat → Nat) (n a : Nat) : mn P g (n + 1) a = if P n = true then min (mn P g n a) (g n) else mn P g n a := rfl
theorem mn_ch (P : Nat → Bool) (g : Nat → Nat) (a v : Nat) : ∀ n, v ≤ mn P g n a ↔ v ≤ a ∧ ∀ c, c < n → P c = true → v ≤ g c := by
  intro n
  induction n with
  | zero => exact ⟨fun h => ⟨h, fun c hc => by omega⟩, fun h => h.1⟩
  | succ n ih =>
    rw [mn_s]
    by_cases e : P n = true
    · rw [if_pos e, Nat.le_min, ih]
      constructor
      · rintro ⟨⟨h1, h2⟩, h3⟩
        refine ⟨h1, fun c hc hp => ?_⟩
        by_cases ec : c = n
        · rw [ec]; exact h3
        · exact h2 c (by omega) hp
      · rintro ⟨h1, h2⟩
        exact ⟨⟨h1, fun c hc hp => h2 c (by omega) hp⟩, h2 n (by omega) e⟩
    · rw [if_neg e, ih]
      constructor
      · rintro ⟨h1, h2⟩
        refine ⟨h1, fun c hc hp => ?_⟩
        by_cases ec : c = n
        · rw [ec] at hp; exact absurd hp e
        · exact h2 c (by omega) hp
      · rintro ⟨h1, h2⟩
        exact ⟨h1, fun c hc hp => h2 c (by omega) hp⟩
theorem le_all {x y : Nat} (h : ∀ v, v ≤ x ↔ v ≤ y) : x = y := Nat.le_antisymm ((h x).1 (Nat.le_refl _)) ((h y).2 (Nat.le_refl _))
theorem mn_le (P : Nat → Bool) (g : Nat → Nat) (n a : Nat) : mn P g n a ≤ a := ((mn_ch P g a _ n).1 (Nat.le_refl _)).1
theorem mn_leg {P : Nat → Bool} {g : Nat → Nat} {n a c : Nat} (hc : c < n) (hp : P c = true) : mn P g n a ≤ g c := ((mn_ch P g a _ n).1 (Nat.le_refl _)).2 c hc hp
theorem mn_congr {P P' : Nat → Bool} {g g' : Nat → Nat} {a : Nat} : ∀ n, (∀ c, c < n → P c = P' c ∧ (P c = true → g c = g' c)) → mn P g n a = mn P' g' n a := by
  intro n h
  refine le_all (fun v => ?_)
  rw [mn_ch, mn_ch]
  constructor
  · rintro ⟨h1, h2⟩
    refine ⟨h1, fun c hc hp => ?_⟩
    obtain ⟨e1, e2⟩ := h c hc
    rw [← e1] at hp
    rw [← e2 hp]
    exact h2 c hc hp
  · rintro ⟨h1, h2⟩
    refine ⟨h1, fun c hc hp => ?_⟩
    obtain ⟨e1, e2⟩ := h c hc
    rw [e2 hp]
    exact h2 c hc (by rw [← e1]; exact hp)
theorem mn_no {P : Nat → Bool} {g : Nat → Nat} {n a : Nat} (h : ∀ c, c < n → P c = false) : mn P g n a = a := by
  refine le_all (fun v => ?_)
  rw [mn_ch]
  exact ⟨fun x => x.1, fun x => ⟨x, fun c hc hp => by rw [h c hc] at hp; cases hp⟩⟩
theorem mn_ins {P P' : Nat → Bool} {g : Nat → Nat} {n a k : Nat} (hk : k < n) (h1 : ∀ c, c < n → c ≠ k → P' c = P c) (h2 : P k = false) (h3 : P' k = true) : mn P' g n a = min (mn P g n a) (g k) := by
  refine le_all (fun v => ?_)
  rw [Nat.le_min, mn_ch, mn_ch]
  constructor
  · rintro ⟨a1, a2⟩
    refine ⟨⟨a1, fun c hc hp => ?_⟩, a2 k hk h3⟩
    by_cases e : c = k
    · rw [e, h2] at hp; cases hp
    · exact a2 c hc (by rw [h1 c hc e]; exact hp)
  · rintro ⟨⟨a1, a2⟩, a3⟩
    refine ⟨a1, fun c hc hp => ?_⟩
    by_cases e : c = k
    · rw [e]; exact a3
    · exact a2 c hc (by rw [← h1 c hc e]; exact hp)
theorem mn_mem (P : Nat → Bool) (g : Nat → Nat) (a : Nat) : ∀ n, mn P g n a = a ∨ ∃ c, c < n ∧ P c = true ∧ mn P g n a = g c := by
  intro n
  induction n with
  | zero => exact Or.inl rfl
  | succ n ih =>
    rw [mn_s]
    by_cases e : P n = true
    · rw [if_pos e]
      by_cases e2 : mn P g n a ≤ g n
      · rw [Nat.min_eq_left e2]
        rcases ih with ih | ⟨c, h1, h2, h3⟩
        · exact Or.inl ih
        · exact Or.inr ⟨c, by omega, h2, h3⟩
      · rw [Nat.min_eq_right (by omega)]
        exact Or.inr ⟨n, by omega, e, rfl⟩
    · rw [if_neg e]
      rcases ih with ih | ⟨c, h1, h2, h3⟩
      · exact Or.inl ih
      · exact Or.inr ⟨c, by omega, h2, h3⟩
theorem mn_map {P : Nat → Bool} {g : Nat → Nat} {a : Nat} {u : Nat → Nat} (hu : ∀ x y, x ≤ y → u x ≤ u y) : ∀ n, u (mn P g n a) = mn P (fun c => u (g c)) n (u a) := by
  intro n
  induction n with
  | zero => rfl
  | succ n ih =>
    rw [mn_s, mn_s]
    by_cases e : P n = true
    · rw [if_pos e, if_pos e, ← ih]
      by_cases e2 : mn P g n a ≤ g n
      · rw [Nat.min_eq_left e2, Nat.min_eq_left (hu _ _ e2)]
      · rw [Nat.min_eq_right (by omega), Nat.min_eq_right (hu _ _ (by omega))]
    · rw [if_neg e, if_neg e, ih]
/-- one CHAPTER more -/
def nx (lamp w h : Nat) : Nat := if w % 16 + h ≤ lamp then w + h else w / 16 * 16 + 16 + h
def nxM (lamp w h : Nat) : Nat := if w % 100 + h ≤ lamp ∧ 0 < w then w + h else w / 100 * 100 + 100 + h
def bsP (q : LQ) (s c : Nat) : Bool := s.testBit c && decide (nd (q 3 c) (nd s (1 <<< c)) = 0)
def bsF (q : LQ) (lamp s : Nat) (B : Nat → Nat) : Nat := if s = 0 then lamp else mn (bsP q s) (fun c => nx lamp (B (nd s (1 <<< c))) (q 1 c)) (q 0 0) 1584
theorem bsP_t {q : LQ} {s c : Nat} (h : bsP q s c = true) : s.testBit c = true ∧ nd (q 3 c) (nd s (1 <<< c)) = 0 := by
  unfold bsP at h
  rw [Bool.and_eq_true, decide_eq_true_eq] at h
  exact h
theorem bs_ex (q : LQ) (lamp : Nat) : ∃ B : Nat → Nat, ∀ s, B s = bsF q lamp s B := by
  refine cov (bsF q lamp) 0 (fun s f g e => ?_)
  unfold bsF
  by_cases h0 : s = 0
  · rw [if_pos h0, if_pos h0]
  · rw [if_neg h0, if_neg h0]
    refine mn_congr _ (fun c _ => ⟨rfl, fun hp => ?_⟩)
    show nx lamp (f _) _ = nx lamp (g _) _
    rw [e _ (nd_less (bsP_t hp).1)]
def rsP (q : LQ) (lamp : Nat) (R : Nat → Nat) (t c : Nat) : Bool := t.testBit c && decide (nd (q 3 c) (nd t (1 <<< c)) = 0) && decide (q 1 c ≤ lamp) && decide (R (nd t (1 <<< c)) < 1000000)
theorem rsP_t {q : LQ} {lamp : Nat} {R : Nat → Nat} {t c : Nat} : rsP q lamp R t c = true ↔ t.testBit c = true ∧ nd (q 3 c) (nd t (1 <<< c)) = 0 ∧ q 1 c ≤ lamp ∧ R (nd t (1 <<< c)) < 1000000 := by
  unfold rsP
  simp only [Bool.and_eq_true, decide_eq_true_eq, and_assoc]
def rsG (q : LQ) (lamp : Nat) (R : Nat → Nat) (t c : Nat) : Nat := nxM lamp (R (nd t (1 <<< c))) (q 1 c)
def rsF (q : LQ) (lamp aw t : Nat) (R : Nat → Nat) : Nat := if t = aw then 0 else mn (rsP q lamp R t) (rsG q lamp R t) (q 0 0) 1000000
theorem rs_ex (q : LQ) (lamp aw : Nat) : ∃ R : Nat → Nat, ∀ t, R t = rsF q lamp aw t R := by
  refine cov (rsF q lamp aw) 0 (fun t f g e => ?_)
  unfold rsF
  by_cases h0 : t = aw
  · rw [if_pos h0, if_pos h0]
  · rw [if_neg h0, if_neg h0]
    refine mn_congr _ (fun c _ => ?_)
    by_cases h1 : t.testBit c = true
    · have h2 := e _ (nd_less h1)
      unfold rsP rsG
      rw [h2]
      exact ⟨rfl, fun _ => rfl⟩
    · have h3 : ∀ R, rsP q lamp R t c = false := fun R => by
        cases h4 : rsP q lamp R t c with
        | false => rfl
        | true => exact absurd (rsP_t.1 h4).1 h1
      rw [h3, h3]
      exact ⟨rfl, fun h => by cases h⟩
section RS
variable {q : LQ} {lamp aw : Nat} {R : Nat → Nat}
theorem rs_le (hR : ∀ t, R t = rsF q lamp aw t R) (t : Nat) : R t ≤ 1000000 := by
  rw [hR t]
  unfold rsF
  split
  · omega
  · exact mn_le _ _ _ _
theorem sub_le {a b : Nat} (h : sub a b) : a ≤ b := by
  have : a = a &&& b := by
    refine Nat.eq_of_testBit_eq (fun j => ?_)
    rw [Nat.testBit_and]
    cases e : a.testBit j with
    | false => rfl
    | true => rw [h j e]; rfl
  rw [this]
  exact Nat.and_le_right
/-- sets that lack one of those away are never come to -/
theorem rs_aw (hR : ∀ t, R t = rsF q lamp aw t R) : ∀ n t, t < n → ∀ j, aw.testBit j = true → t.testBit j = false → R t = 1000000 := by
  intro n
  induction n with
  | zero => intro t ht; omega
  | succ n ih =>
    intro t ht j h1 h2
    rw [hR t]
    unfold rsF
    rw [if_neg (fun e => by rw [e, h1] at h2; cases h2)]
    refine mn_no (fun c _ => ?_)
    cases e : rsP q lamp R t c with
    | false => rfl
    | true =>
      obtain ⟨a1, _, _, a4⟩ := rsP_t.1 e
      have a5 := ih (nd t (1 <<< c)) (by have := nd_less a1; omega) j h1 (by rw [nd_tb, h2]; rfl)
      omega
theorem rs_lo (hR : ∀ t, R t = rsF q lamp aw t R) {t : Nat} (h : t < aw) : R t = 1000000 := by
  by_cases e : sub aw t
  · have := sub_le e; omega
  · have : ∃ j, aw.testBit j = true ∧ t.testBit j = false := by
      refine Classical.byContradiction (fun hc => e (fun j hj => ?_))
      cases e2 : t.testBit j with
      | true => rfl
      | false => exact absurd ⟨j, hj, e2⟩ hc
    obtain ⟨j, h1, h2⟩ := this
    exact rs_aw hR (t + 1) t (by omega) j h1 h2
/-- one that takes too long is never read -/
theorem rs_long (hR : ∀ t, R t = rsF q lamp aw t R) {c0 : Nat} (h0 : aw.testBit c0 = false) (hl : lamp < q 1 c0) : ∀ n t, t < n → t.testBit c0 = true → R t = 1000000 := by
  intro n
  induction n with
  | zero => intro t ht; omega
  | succ n ih =>
    intro t ht h2
    rw [hR t]
    unfold rsF
    rw [if_neg (fun e => by rw [e, h0] at h2; cases h2)]
    refine mn_no (fun c _ => ?_)
    cases e : rsP q lamp R t c with
    | false => rfl
    | true =>
      obtain ⟨a1, _, a3, a4⟩ := rsP_t.1 e
      by_cases ec : c = c0
      · rw [ec] at a3; omega
      · have a5 := ih (nd t (1 <<< c)) (by have := nd_less a1; omega) (by rw [nd_tb, h2, tb_sh, decide_eq_false ec]; rfl)
        omega
end RS
