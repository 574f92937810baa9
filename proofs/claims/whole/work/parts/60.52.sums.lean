/-! recursion on all before; sums; rows from both ends -/
theorem cov {α : Type} (F : Nat → (Nat → α) → α) (a0 : α) (hF : ∀ s f g, (∀ j, j < s → f j = g j) → F s f = F s g) : ∃ B : Nat → α, ∀ s, B s = F s B := by
  obtain ⟨T, T0, Ts⟩ := up_ex (fun n f => ud f n (F n f)) (fun _ => a0)
  have st : ∀ s d, T (s + 1 + d) s = T (s + 1) s := by
    intro s d
    induction d with
    | zero => rfl
    | succ d ih =>
      show T (s + 1 + d + 1) s = _
      rw [Ts, ud_ne _ _ (by omega)]
      exact ih
  refine ⟨fun s => T (s + 1) s, fun s => ?_⟩
  show T (s + 1) s = F s (fun j => T (j + 1) j)
  rw [Ts, ud_eq]
  refine hF s _ _ (fun j hj => ?_)
  obtain ⟨d, hd⟩ : ∃ d, s = j + 1 + d := ⟨s - (j + 1), by omega⟩
  rw [hd]
  exact st j d
def zs (F : Nat → Nat) (n : Nat) : Nat := up (fun i x => x + F i) n 0
theorem zs_0 (F : Nat → Nat) : zs F 0 = 0 := rfl
theorem zs_s (F : Nat → Nat) (n : Nat) : zs F (n + 1) = zs F n + F n := rfl
theorem zs_congr {F G : Nat → Nat} : ∀ n, (∀ i, i < n → F i = G i) → zs F n = zs G n := by
  intro n
  induction n with
  | zero => intro _; rfl
  | succ n ih => intro h; rw [zs_s, zs_s, ih (fun i hi => h i (by omega)), h n (by omega)]
theorem zs_plus (F G : Nat → Nat) : ∀ n, zs (fun i => F i + G i) n = zs F n + zs G n := by
  intro n
  induction n with
  | zero => rfl
  | succ n ih => rw [zs_s, zs_s, zs_s, ih]; omega
theorem zs_mul (k : Nat) (F : Nat → Nat) : ∀ n, zs (fun i => k * F i) n = k * zs F n := by
  intro n
  induction n with
  | zero => rfl
  | succ n ih => rw [zs_s, zs_s, ih, Nat.mul_add]
theorem zs_zero : ∀ n, zs (fun _ => 0) n = 0 := by
  intro n
  induction n with
  | zero => rfl
  | succ n ih => rw [zs_s, ih]
theorem zs_swap (F : Nat → Nat → Nat) (m : Nat) : ∀ n, zs (fun i => zs (fun j => F i j) m) n = zs (fun j => zs (fun i => F i j) n) m := by
  intro n
  induction n with
  | zero => rw [zs_0]; exact (zs_zero m).symm
  | succ n ih =>
    rw [zs_s, ih, ← zs_plus]
    exact zs_congr m (fun j _ => (zs_s _ _).symm)
theorem zs_add (F : Nat → Nat) (m : Nat) : ∀ n, zs F (m + n) = zs F m + zs (fun i => F (m + i)) n := by
  intro n
  induction n with
  | zero => rw [zs_0]; rfl
  | succ n ih =>
    show zs F (m + n + 1) = _
    rw [zs_s, zs_s, ih]; omega
theorem zs_one (F : Nat → Nat) (k : Nat) : ∀ n, zs (fun i => if i = k then F i else 0) n = if k < n then F k else 0 := by
  intro n
  induction n with
  | zero => rfl
  | succ n ih =>
    rw [zs_s, ih]
    by_cases e : n = k
    · subst e; rw [if_neg (by omega), if_pos rfl, if_pos (by omega), Nat.zero_add]
    · rw [if_neg e]
      by_cases e2 : k < n
      · rw [if_pos e2, if_pos (by omega)]; rfl
      · rw [if_neg e2, if_neg (by omega)]
theorem nd_hi {n i c : Nat} (hi : i < 2 ^ n) (hc : c < n) : nd (2 ^ n + i) (1 <<< c) = 2 ^ n + nd i (1 <<< c) := by
  have h1 := nd_le i (1 <<< c)
  have h2 := nd_le (2 ^ n + i) (1 <<< c)
  refine Nat.eq_of_testBit_eq (fun j => ?_)
  rw [nd_tb, tb_sh]
  by_cases e : j < n
  · rw [Nat.testBit_two_pow_add_gt e, Nat.testBit_two_pow_add_gt e, nd_tb, tb_sh]
  · by_cases e2 : j = n
    · subst e2
      rw [Nat.testBit_two_pow_add_eq, Nat.testBit_two_pow_add_eq, nd_tb, tb_sh, tb_lt hi (Nat.le_refl _), decide_eq_false (by omega)]; rfl
    · rw [tb_lt (n := n + 1) (show 2 ^ n + i < 2 ^ (n + 1) by rw [Nat.pow_succ]; omega) (by omega), tb_lt (n := n + 1) (show 2 ^ n + nd i (1 <<< c) < 2 ^ (n + 1) by rw [Nat.pow_succ]; omega) (by omega)]; rfl
theorem nd_top {n i : Nat} (hi : i < 2 ^ n) : nd (2 ^ n + i) (1 <<< n) = i := by
  refine Nat.eq_of_testBit_eq (fun j => ?_)
  rw [nd_tb, tb_sh]
  by_cases e : j < n
  · rw [Nat.testBit_two_pow_add_gt e, decide_eq_false (by omega)]; simp
  · by_cases e2 : j = n
    · subst e2
      rw [decide_eq_true rfl, tb_lt hi (Nat.le_refl _)]; simp
    · rw [tb_lt (n := n + 1) (show 2 ^ n + i < 2 ^ (n + 1) by rw [Nat.pow_succ]; omega) (by omega), tb_lt hi (by omega)]; rfl
theorem zs_bit (c : Nat) : ∀ n, c < n → ∀ F : Nat → Nat, zs (fun s => if s.testBit c = true then 0 else F s) (2 ^ n) = zs (fun t => if t.testBit c = true then F (nd t (1 <<< c)) else 0) (2 ^ n) := by
  intro n
  induction n with
  | zero => intro h; omega
  | succ n ih =>
    intro hc F
    rw [show 2 ^ (n + 1) = 2 ^ n + 2 ^ n by rw [Nat.pow_succ]; omega, zs_add, zs_add]
    by_cases e : c = n
    · subst e
      rw [zs_congr (G := F) (2 ^ c) (fun i hi => by rw [tb_lt hi (Nat.le_refl _)]; rfl), zs_congr (F := fun i => if (2 ^ c + i).testBit c = true then 0 else F (2 ^ c + i)) (G := fun _ => 0) (2 ^ c) (fun i hi => by rw [Nat.testBit_two_pow_add_eq, tb_lt hi (Nat.le_refl _)]; rfl), zs_congr (F := fun t => if t.testBit c = true then F (nd t (1 <<< c)) else 0) (G := fun _ => 0) (2 ^ c) (fun i hi => by rw [tb_lt hi (Nat.le_refl _)]; rfl), zs_congr (F := fun i => if (2 ^ c + i).testBit c = true then F (nd (2 ^ c + i) (1 <<< c)) else 0) (G := F) (2 ^ c) (fun i hi => by rw [Nat.testBit_two_pow_add_eq, tb_lt hi (Nat.le_refl _), nd_top hi]; rfl), zs_zero]
      omega
    · have hc2 : c < n := by omega
      rw [ih hc2 F, zs_congr (F := fun i => if (2 ^ n + i).testBit c = true then 0 else F (2 ^ n + i)) (G := fun i => if i.testBit c = true then 0 else F (2 ^ n + i)) (2 ^ n) (fun i hi => by rw [Nat.testBit_two_pow_add_gt hc2]), ih hc2 (fun i => F (2 ^ n + i)), zs_congr (F := fun i => if (2 ^ n + i).testBit c = true then F (nd (2 ^ n + i) (1 <<< c)) else 0) (G := fun i => if i.testBit c = true then F (2 ^ n + nd i (1 <<< c)) else 0) (2 ^ n) (fun i hi => by rw [Nat.testBit_two_pow_add_gt hc2, nd_hi hi hc2])]
theorem nd_or {t c : Nat} (h : t.testBit c = true) : nd t (1 <<< c) ||| 1 <<< c = t := by
  refine Nat.eq_of_testBit_eq (fun j => ?_)
  rw [Nat.testBit_or, nd_tb, tb_sh]
  by_cases e : c = j
  · subst e; rw [h, decide_eq_true rfl]; rfl
  · rw [decide_eq_false e]; simp
theorem nd_self {t c : Nat} (h : t.testBit c = false) : nd t (1 <<< c) = t := by
  refine Nat.eq_of_testBit_eq (fun j => ?_)
  rw [nd_tb, tb_sh]
  by_cases e : c = j
  · subst e; rw [h]; rfl
  · rw [decide_eq_false e]; simp
theorem nd_less {t c : Nat} (h : t.testBit c = true) : nd t (1 <<< c) < t := by
  have h1 := nd_le t (1 <<< c)
  have h2 : nd t (1 <<< c) ≠ t := by
    intro e
    have := congrArg (fun z => z.testBit c) e
    simp only [nd_tb, tb_sh, h] at this
    simp at this
  omega
theorem nd_bt0 (t c : Nat) : (nd t (1 <<< c)).testBit c = false := by
  rw [nd_tb, tb_sh, decide_eq_true rfl]; simp
/-- the rows from the first on, and from the last on -/
def wyF (q : LQ) (s : Nat) (B : Nat → Nat) : Nat := if s = 0 then 1 else zs (fun c => if s.testBit c = true ∧ nd (q 3 c) (nd s (1 <<< c)) = 0 then B (nd s (1 <<< c)) else 0) (q 0 0)
def wzF (q : LQ) (s : Nat) (U : Nat → Nat) : Nat := (if s = 2 ^ q 0 0 - 1 then 1 else 0) + zs (fun c => if mayB q s c = true then U (s ||| 1 <<< c) else 0) (q 0 0)
theorem wy_ex (q : LQ) : ∃ B : Nat → Nat, ∀ s, B s = wyF q s B := by
  refine cov (wyF q) 0 (fun s f g e => ?_)
  unfold wyF
  by_cases h0 : s = 0
  · rw [if_pos h0, if_pos h0]
  · rw [if_neg h0, if_neg h0]
    refine zs_congr _ (fun c _ => ?_)
    by_cases h1 : s.testBit c = true
    · rw [e _ (nd_less h1)]
    · rw [if_neg (fun c => h1 c.1), if_neg (fun c => h1 c.1)]
theorem mayB_f {q : LQ} {s c : Nat} (h : mayB q s c = true) : s.testBit c = false := by
  unfold mayB at h
  rw [Bool.and_eq_true] at h
  simpa using h.1
theorem wz_ex (q : LQ) : ∃ U : Nat → Nat, ∀ s, s < 2 ^ q 0 0 → U s = wzF q s U := by
  have hp := pw_pos (q 0 0)
  obtain ⟨V, hV⟩ := cov (fun i V => wzF q (2 ^ q 0 0 - 1 - i) (fun s => V (2 ^ q 0 0 - 1 - s))) 0 (fun i f g e => by
    show wzF q (2 ^ q 0 0 - 1 - i) (fun s => f (2 ^ q 0 0 - 1 - s)) = wzF q (2 ^ q 0 0 - 1 - i) (fun s => g (2 ^ q 0 0 - 1 - s))
    unfold wzF
    congr 1
    refine zs_congr _ (fun c hc => ?_)
    by_cases h1 : mayB q (2 ^ q 0 0 - 1 - i) c = true
    · have h2 := or_gt (n := q 0 0) (s := 2 ^ q 0 0 - 1 - i) (by omega) hc (mayB_f h1)
      have h3 := e (2 ^ q 0 0 - 1 - ((2 ^ q 0 0 - 1 - i) ||| 1 <<< c)) (by omega)
      show (if _ then f (2 ^ q 0 0 - 1 - ((2 ^ q 0 0 - 1 - i) ||| 1 <<< c)) else 0) = if _ then g (2 ^ q 0 0 - 1 - ((2 ^ q 0 0 - 1 - i) ||| 1 <<< c)) else 0
      rw [h3]
    · rw [if_neg h1, if_neg h1])
  refine ⟨fun s => V (2 ^ q 0 0 - 1 - s), fun s hs => ?_⟩
  show V (2 ^ q 0 0 - 1 - s) = _
  rw [hV, show 2 ^ q 0 0 - 1 - (2 ^ q 0 0 - 1 - s) = s by omega]
theorem wyz {q : LQ} {B U : Nat → Nat} (hB : ∀ s, B s = wyF q s B) (hU : ∀ s, s < 2 ^ q 0 0 → U s = wzF q s U) : B (2 ^ q 0 0 - 1) = U 0 := by
  have hp := pw_pos (q 0 0)
  have e1 : zs (fun s => B s * U s) (2 ^ q 0 0) = B (2 ^ q 0 0 - 1) + zs (fun s => zs (fun c => if mayB q s c = true then B s * U (s ||| 1 <<< c) else 0) (q 0 0)) (2 ^ q 0 0) := by
    have h1 := zs_one B (2 ^ q 0 0 - 1) (2 ^ q 0 0)
    rw [if_pos (by omega)] at h1
    rw [← h1, ← zs_plus]
    refine zs_congr _ (fun s hs => ?_)
    show B s * U s = (if s = 2 ^ q 0 0 - 1 then B s else 0) + _
    conv => lhs; rw [hU s hs]
    unfold wzF
    rw [Nat.mul_add, ← zs_mul]
    congr 1
    · split <;> simp
    · refine zs_congr _ (fun c _ => ?_)
      show B s * _ = _
      split <;> simp
  have e2 : zs (fun s => B s * U s) (2 ^ q 0 0) = U 0 + zs (fun t => zs (fun c => if t.testBit c = true ∧ nd (q 3 c) (nd t (1 <<< c)) = 0 then B (nd t (1 <<< c)) * U t else 0) (q 0 0)) (2 ^ q 0 0) := by
    have h1 := zs_one U 0 (2 ^ q 0 0)
    rw [if_pos (by omega)] at h1
    rw [← h1, ← zs_plus]
    refine zs_congr _ (fun t ht => ?_)
    show B t * U t = (if t = 0 then U t else 0) + _
    conv => lhs; rw [hB t]
    unfold wyF
    by_cases h0 : t = 0
    · subst h0
      rw [if_pos rfl, if_pos rfl, Nat.one_mul, zs_congr (G := fun _ => 0) _ (fun c _ => by rw [if_neg (fun h => by rw [Nat.zero_testBit] at h; cases h.1)]), zs_zero]
      rfl
    · rw [if_neg h0, if_neg h0, Nat.zero_add, Nat.mul_comm, ← zs_mul]
      refine zs_congr _ (fun c _ => ?_)
      show U t * _ = _
      split
      · exact Nat.mul_comm _ _
      · rfl
  have e3 : zs (fun s => zs (fun c => if mayB q s c = true then B s * U (s ||| 1 <<< c) else 0) (q 0 0)) (2 ^ q 0 0) = zs (fun t => zs (fun c => if t.testBit c = true ∧ nd (q 3 c) (nd t (1 <<< c)) = 0 then B (nd t (1 <<< c)) * U t else 0) (q 0 0)) (2 ^ q 0 0) := by
    rw [zs_swap, zs_swap (fun t c => if t.testBit c = true ∧ nd (q 3 c) (nd t (1 <<< c)) = 0 then B (nd t (1 <<< c)) * U t else 0)]
    refine zs_congr _ (fun c hc => ?_)
    have h1 := zs_bit c (q 0 0) hc (fun s => if nd (q 3 c) s = 0 then B s * U (s ||| 1 <<< c) else 0)
    refine Eq.trans (zs_congr _ (fun s _ => ?_)) (h1.trans (zs_congr _ (fun t _ => ?_)))
    · show (if mayB q s c = true then B s * U (s ||| 1 <<< c) else 0) = if s.testBit c = true then 0 else if nd (q 3 c) s = 0 then B s * U (s ||| 1 <<< c) else 0
      unfold mayB
      cases s.testBit c with
      | true => rfl
      | false =>
        by_cases e : nd (q 3 c) s = 0
        · simp [e]
        · simp [e]
    · show (if t.testBit c = true then if nd (q 3 c) (nd t (1 <<< c)) = 0 then B (nd t (1 <<< c)) * U (nd t (1 <<< c) ||| 1 <<< c) else 0 else 0) = if t.testBit c = true ∧ nd (q 3 c) (nd t (1 <<< c)) = 0 then B (nd t (1 <<< c)) * U t else 0
      by_cases h2 : t.testBit c = true
      · rw [if_pos h2, nd_or h2]
        by_cases e : nd (q 3 c) (nd t (1 <<< c)) = 0
        · rw [if_pos e, if_pos ⟨h2, e⟩]
        · rw [if_neg e, if_neg (fun h => e h.2)]
      · rw [if_neg h2, if_neg (fun h => h2 h.1)]
  rw [e2, e3] at e1
  omega
