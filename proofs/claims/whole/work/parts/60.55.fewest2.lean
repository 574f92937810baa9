/-! SHELF: the class's days are the reference's -/
def phi (w : Nat) : Nat := if 1584 ≤ w then 1000000 else if w < 16 then 0 else 100 * (w / 16) + w % 16
theorem phi_mono : ∀ x y, x ≤ y → phi x ≤ phi y := by
  intro x y h
  unfold phi
  split
  · rw [if_pos (by omega)]; exact Nat.le_refl _
  · split
    · exact Nat.zero_le _
    · split
      · omega
      · rw [if_neg (by omega)]; omega
theorem hs_nd {q : LQ} {s c : Nat} (hc : c < q 0 0) (hb : s.testBit c = true) : hs q s = hs q (nd s (1 <<< c)) + q 1 c := by
  unfold hs
  have h1 := up_rel (f := hsf q s) (g := hsf q (nd s (1 <<< c))) (I := fun k x y => x = y + if c < k then q 1 c else 0) (n := q 0 0) (fun k x y hk e => by
    rw [e]
    unfold hsf
    rw [nd_tb, tb_sh]
    by_cases e1 : c = k
    · subst e1
      rw [hb, if_neg (Nat.lt_irrefl c), if_pos (show c < c + 1 by omega)]
      simp
    · rw [decide_eq_false e1, Bool.not_false, Bool.and_true]
      have e4 : (if c < k + 1 then q 1 c else 0) = if c < k then q 1 c else 0 := by
        by_cases e5 : c < k
        · rw [if_pos e5, if_pos (by omega)]
        · rw [if_neg e5, if_neg (by omega)]
      rw [e4]
      omega) (a := 0) (b := 0) (by simp) (q 0 0) (Nat.le_refl _)
  rw [if_pos hc] at h1
  exact h1
section FW
variable {q : LQ} {lamp K : Nat} {B R : Nat → Nat}
/-- what the class's numbers can be -/
def bsJ (q : LQ) (lamp s w : Nat) : Prop := w = 1584 ∨ (16 ≤ w ∧ 1 ≤ w % 16 ∧ w % 16 ≤ lamp ∧ w / 16 ≤ hs q s) ∨ (s = 0 ∧ w = lamp)
theorem bs_le (hl : lamp ≤ 12) (hB : ∀ s, B s = bsF q lamp s B) (s : Nat) : B s ≤ 1584 := by
  rw [hB s]
  unfold bsF
  split
  · omega
  · exact mn_le _ _ _ _
theorem nd_sub {s K : Nat} : nd s K = 0 ↔ sub s K := by
  constructor
  · intro h j hj
    have : (nd s K).testBit j = false := by rw [h]; exact Nat.zero_testBit j
    rw [nd_tb, hj] at this
    cases e : K.testBit j with
    | true => rfl
    | false => rw [e] at this; cases this
  · intro h
    refine Nat.eq_of_testBit_eq (fun j => ?_)
    rw [nd_tb, Nat.zero_testBit]
    cases e : s.testBit j with
    | false => rfl
    | true => rw [h j e]; rfl
theorem sub_nd {s c K : Nat} (h : sub s K) : sub (nd s (1 <<< c)) K := fun j hj => by
  rw [nd_tb, Bool.and_eq_true] at hj
  exact h j hj.1
theorem bs_J (W : QW q) (hl : lamp ≤ 12) (hl1 : 1 ≤ lamp) (hB : ∀ s, B s = bsF q lamp s B) (ok : ∀ c, K.testBit c = true → q 1 c ≤ lamp) (hK : K < 2 ^ q 0 0) : ∀ n s, s < n → sub s K → bsJ q lamp s (B s) := by
  intro n
  induction n with
  | zero => intro s hs; omega
  | succ n ih =>
    intro s hs hsK
    have hle := bs_le (q := q) hl hB s
    rw [hB s] at hle ⊢
    unfold bsF at hle ⊢
    by_cases h0 : s = 0
    · rw [if_pos h0]; exact Or.inr (Or.inr ⟨h0, rfl⟩)
    · rw [if_neg h0] at hle ⊢
      rcases mn_mem (bsP q s) (fun c => nx lamp (B (nd s (1 <<< c))) (q 1 c)) 1584 (q 0 0) with e | ⟨c, hc, hp, e⟩
      · exact Or.inl e
      · rw [e] at hle ⊢
        obtain ⟨b1, b2⟩ := bsP_t hp
        have h1 := ih (nd s (1 <<< c)) (by have := nd_less b1; omega) (sub_nd hsK)
        have h2 := hs_nd hc b1
        have h3 := W.2.1 c hc
        have h4 := ok c (hsK c b1)
        show bsJ q lamp s (nx lamp (B (nd s (1 <<< c))) (q 1 c))
        change nx lamp (B (nd s (1 <<< c))) (q 1 c) ≤ 1584 at hle
        generalize B (nd s (1 <<< c)) = w at h1 hle
        unfold nx at hle ⊢
        rcases h1 with h1 | ⟨g1, g2, g3, g4⟩ | ⟨g1, g2⟩
        · rw [h1] at hle
          split at hle <;> omega
        · refine Or.inr (Or.inl ?_)
          split
          · refine ⟨?_, ?_, ?_, ?_⟩ <;> omega
          · refine ⟨?_, ?_, ?_, ?_⟩ <;> omega
        · refine Or.inr (Or.inl ?_)
          rw [if_neg (by omega)]
          refine ⟨?_, ?_, ?_, ?_⟩ <;> omega
theorem bs_R (W : QW q) (hl : lamp ≤ 12) (hl1 : 1 ≤ lamp) (hB : ∀ s, B s = bsF q lamp s B) (hR : ∀ t, R t = rsF q lamp (nd (2 ^ q 0 0 - 1) K) t R) (ok : ∀ c, K.testBit c = true → q 1 c ≤ lamp) (hK : K < 2 ^ q 0 0) (cl : ∀ c, K.testBit c = true → sub (q 3 c) K) : ∀ n s, s < n → sub s K → R (nd (2 ^ q 0 0 - 1) K ||| s) = phi (B s) := by
  intro n
  induction n with
  | zero => intro s hs; omega
  | succ n ih =>
    intro s hs hsK
    by_cases h0 : s = 0
    · rw [h0, Nat.or_zero, hR, hB 0]
      unfold rsF bsF phi
      rw [if_pos rfl, if_pos rfl, if_neg (by omega), if_pos (by omega)]
    · have hne : nd (2 ^ q 0 0 - 1) K ||| s ≠ nd (2 ^ q 0 0 - 1) K := by
        intro e
        refine h0 (Nat.eq_of_testBit_eq (fun j => ?_))
        rw [Nat.zero_testBit]
        cases e1 : s.testBit j with
        | false => rfl
        | true =>
          have e2 := congrArg (fun z => z.testBit j) e
          simp only [Nat.testBit_or, e1, Bool.or_true, nd_tb, hsK j e1, Bool.not_true, Bool.and_false] at e2
          cases e2
      rw [hR, hB s]
      unfold rsF bsF
      rw [if_neg hne, if_neg h0, mn_map phi_mono]
      rw [show phi 1584 = 1000000 from rfl]
      refine le_all (fun v => ?_)
      rw [mn_ch, mn_ch]
      have key : ∀ c, c < q 0 0 → v ≤ 1000000 → ((rsP q lamp R (nd (2 ^ q 0 0 - 1) K ||| s) c = true → v ≤ rsG q lamp R (nd (2 ^ q 0 0 - 1) K ||| s) c) ↔ (bsP q s c = true → v ≤ phi (nx lamp (B (nd s (1 <<< c))) (q 1 c)))) := by
        intro c hc hv
        cases hb : s.testBit c with
        | true =>
          have hKc := hsK c hb
          have e1 : nd (nd (2 ^ q 0 0 - 1) K ||| s) (1 <<< c) = nd (2 ^ q 0 0 - 1) K ||| nd s (1 <<< c) := by
            refine Nat.eq_of_testBit_eq (fun j => ?_)
            simp only [nd_tb, Nat.testBit_or, tb_sh]
            by_cases e : c = j
            · subst e; simp [hKc]
            · simp [e]
          have e2 := ih (nd s (1 <<< c)) (by have := nd_less hb; omega) (sub_nd hsK)
          have e3 : (nd (q 3 c) (nd (2 ^ q 0 0 - 1) K ||| nd s (1 <<< c)) = 0) ↔ nd (q 3 c) (nd s (1 <<< c)) = 0 := by
            rw [nd_sub, nd_sub]
            constructor
            · intro h j hj
              have h1 := h j hj
              rw [Nat.testBit_or, nd_tb, cl c hKc j hj] at h1
              simpa using h1
            · intro h j hj
              rw [Nat.testBit_or, h j hj, Bool.or_true]
          have hJ := bs_J W hl hl1 hB ok hK (nd s (1 <<< c) + 1) (nd s (1 <<< c)) (by omega) (sub_nd hsK)
          have h3 := W.2.1 c hc
          have h4 := ok c hKc
          have h5 := hs_le W (b := nd s (1 <<< c))
          have hps : (bsP q s c = true) ↔ nd (q 3 c) (nd s (1 <<< c)) = 0 := by
            unfold bsP
            rw [hb, Bool.true_and, decide_eq_true_eq]
          rw [rsP_t, hps]
          unfold rsG
          rw [e1, e2, e3]
          have htb : (nd (2 ^ q 0 0 - 1) K ||| s).testBit c = true := by rw [Nat.testBit_or, hb, Bool.or_true]
          generalize B (nd s (1 <<< c)) = w at hJ
          rcases hJ with g | ⟨g1, g2, g3, g4⟩ | ⟨g1, g2⟩
          · have p1 : phi w = 1000000 := by rw [g]; rfl
            have p2 : phi (nx lamp w (q 1 c)) = 1000000 := by
              unfold phi
              rw [if_pos]
              unfold nx
              split <;> omega
            rw [p1, p2]
            exact ⟨fun _ _ => hv, fun _ h => by omega⟩
          · have p1 : phi w = 100 * (w / 16) + w % 16 := by
              unfold phi
              rw [if_neg (by omega), if_neg (by omega)]
            have p2 : nxM lamp (phi w) (q 1 c) = phi (nx lamp w (q 1 c)) := by
              rw [p1]
              unfold nxM nx
              have m1 : (100 * (w / 16) + w % 16) % 100 = w % 16 := by omega
              have m2 : (100 * (w / 16) + w % 16) / 100 = w / 16 := by omega
              rw [m1, m2]
              by_cases e : w % 16 + q 1 c ≤ lamp
              · rw [if_pos ⟨e, by omega⟩, if_pos e]
                unfold phi
                rw [if_neg (by omega), if_neg (by omega)]
                omega
              · rw [if_neg (fun h => e h.1), if_neg e]
                unfold phi
                rw [if_neg (by omega), if_neg (by omega)]
                omega
            rw [p2]
            exact ⟨fun h x => h ⟨htb, x, h4, by omega⟩, fun h x => h x.2.1⟩
          · have p1 : phi w = 0 := by
              unfold phi
              rw [if_neg (by omega), if_pos (by omega)]
            have p2 : nxM lamp (phi w) (q 1 c) = phi (nx lamp w (q 1 c)) := by
              rw [p1]
              have e4 : nx lamp w (q 1 c) = 16 + q 1 c := by
                unfold nx
                rw [if_neg (by omega)]
                omega
              rw [e4]
              unfold nxM phi
              rw [if_neg (fun h => by omega), if_neg (by omega), if_neg (by omega)]
              omega
            rw [p2]
            exact ⟨fun h x => h ⟨htb, x, h4, by omega⟩, fun h x => h x.2.1⟩
        | false =>
          have hps : ¬ (bsP q s c = true) := fun h => by rw [(bsP_t h).1] at hb; cases hb
          refine ⟨fun _ h => absurd h hps, fun _ h => ?_⟩
          obtain ⟨a1, a2, a3, a4⟩ := rsP_t.1 h
          rw [Nat.testBit_or, hb, Bool.or_false] at a1
          have a5 := rs_aw hR (nd (nd (2 ^ q 0 0 - 1) K ||| s) (1 <<< c) + 1) (nd (nd (2 ^ q 0 0 - 1) K ||| s) (1 <<< c)) (by omega) c a1 (nd_bt0 _ _)
          omega
      constructor
      · rintro ⟨h1, h2⟩
        exact ⟨h1, fun c hc => (key c hc h1).1 (h2 c hc)⟩
      · rintro ⟨h1, h2⟩
        exact ⟨h1, fun c hc => (key c hc h1).2 (h2 c hc)⟩
theorem bs_reach (W : QW q) (hl : lamp ≤ 12) (hl1 : 1 ≤ lamp) (hB : ∀ s, B s = bsF q lamp s B) (ok : ∀ c, K.testBit c = true → q 1 c ≤ lamp) (hK : K < 2 ^ q 0 0) (cl : ∀ c, K.testBit c = true → sub (q 3 c) K) : ∀ k, k ≤ q 0 0 → B (K &&& (2 ^ k - 1)) < 1584 := by
  have hn := W.1.1
  intro k
  induction k with
  | zero =>
    intro _
    rw [show K &&& (2 ^ 0 - 1) = 0 by simp, hB 0]
    unfold bsF
    rw [if_pos rfl]
    omega
  | succ k ih =>
    intro hk
    have h1 := ih (by omega)
    have hsb : ∀ k, sub (K &&& (2 ^ k - 1)) K := fun k j hj => by
      rw [Nat.testBit_and, Bool.and_eq_true] at hj
      exact hj.1
    cases hb : K.testBit k with
    | false =>
      have e : K &&& (2 ^ (k + 1) - 1) = K &&& (2 ^ k - 1) := by
        refine Nat.eq_of_testBit_eq (fun j => ?_)
        rw [Nat.testBit_and, Nat.testBit_and, tb_all, tb_all]
        by_cases ej : j = k
        · rw [ej, hb]; rfl
        · congr 1
          rw [decide_eq_decide]
          omega
      rw [e]
      exact h1
    | true =>
      have e : nd (K &&& (2 ^ (k + 1) - 1)) (1 <<< k) = K &&& (2 ^ k - 1) := by
        refine Nat.eq_of_testBit_eq (fun j => ?_)
        rw [nd_tb, Nat.testBit_and, Nat.testBit_and, tb_all, tb_all, tb_sh]
        by_cases ej : k = j
        · subst ej; simp
        · rw [decide_eq_false ej, Bool.not_false, Bool.and_true]
          congr 1
          rw [decide_eq_decide]
          omega
      have hbt : (K &&& (2 ^ (k + 1) - 1)).testBit k = true := by
        rw [Nat.testBit_and, hb, tb_all, decide_eq_true (by omega)]; rfl
      have hJ := bs_J W hl hl1 hB ok hK ((K &&& (2 ^ k - 1)) + 1) (K &&& (2 ^ k - 1)) (by omega) (hsb k)
      have h5 := hs_le W (b := K &&& (2 ^ k - 1))
      have h3 := W.2.1 k (by omega)
      have h4 := ok k hb
      have hq := W.2.2.2.2.1 k (by omega)
      have hP : bsP q (K &&& (2 ^ (k + 1) - 1)) k = true := by
        unfold bsP
        rw [hbt, e, Bool.true_and, decide_eq_true_eq, nd_sub]
        intro j hj
        rw [Nat.testBit_and, cl k hb j hj, tb_all, decide_eq_true (tbj_lt hq hj)]; rfl
      have h6 := mn_leg (g := fun c => nx lamp (B (nd (K &&& (2 ^ (k + 1) - 1)) (1 <<< c))) (q 1 c)) (a := 1584) (show k < q 0 0 by omega) hP
      rw [hB]
      unfold bsF
      have hne : ¬ K &&& (2 ^ (k + 1) - 1) = 0 := fun h => by rw [h, Nat.zero_testBit] at hbt; cases hbt
      rw [if_neg hne]
      refine Nat.lt_of_le_of_lt h6 ?_
      show nx lamp (B (nd (K &&& (2 ^ (k + 1) - 1)) (1 <<< k))) (q 1 k) < 1584
      rw [e]
      generalize B (K &&& (2 ^ k - 1)) = w at h1 hJ
      unfold nx
      rcases hJ with g | ⟨g1, g2, g3, g4⟩ | ⟨g1, g2⟩
      · omega
      · split <;> omega
      · split <;> omega
end FW
