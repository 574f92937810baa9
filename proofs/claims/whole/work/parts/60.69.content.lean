/-! what a text tells: pure -/
def u2 (q : LQ) (i j v : Nat) : LQ := fun a b => if a = i ∧ b = j then v else q a b
theorem u2_eq (q : LQ) (i j v : Nat) : u2 q i j v i j = v := if_pos ⟨rfl, rfl⟩
theorem u2_ne {q : LQ} {i j v a b : Nat} (h : a ≠ i ∨ b ≠ j) : u2 q i j v a b = q a b := if_neg (fun c => by rcases h with h | h; exact h c.1; exact h c.2)
theorem u2_n1 {q : LQ} {i j v a b : Nat} (h : a ≠ i) : u2 q i j v a b = q a b := u2_ne (Or.inl h)
theorem u2_n2 {q : LQ} {i j v a b : Nat} (h : b ≠ j) : u2 q i j v a b = q a b := u2_ne (Or.inr h)
abbrev CQ : Type := LQ × (Nat × Nat) × YQ × GQ
abbrev FT : Type := Option (Nat × Nat)
/-- the FAULT, another one being noted behind it unless the check holds -/
def nt (ok : Bool) (k pl : Nat) (f : FT) : FT := if ok = true then f else match f with
  | none => some (k, pl)
  | some x => some x
theorem nt_t (k pl : Nat) (f : FT) : nt true k pl f = f := rfl
theorem nt_s (ok : Bool) (k pl : Nat) (x : Nat × Nat) : nt ok k pl (some x) = some x := by cases ok <;> rfl
theorem nt_fn (k pl : Nat) : nt false k pl none = some (k, pl) := rfl
theorem nt_none {ok : Bool} {k pl : Nat} {f : FT} (h : nt ok k pl f = none) : ok = true ∧ f = none := by
  cases ok with
  | true => exact ⟨rfl, h⟩
  | false => cases f <;> cases h
def nbk (k : Nat) : Nat := if k = 3 then 1 else if k = 4 then 1 else if k < 6 then 2 else if k = 9 then 2 else if k = 10 then 0 else if k = 11 then 0 else 1
/-- the checks of a line, in the order of their places -/
def chk (k : Nat) (c : CQ) (s0 s1 s2 v1 v2 : Nat) (f : FT) : FT :=
  if k = 0 then nt (decide (v2 ≤ 5)) 2 s2 (nt (decide (1 ≤ v1 ∧ v1 ≤ 9)) 2 s1 (nt (decide (c.1 0 0 < 8)) 3 s0 f))
  else if k = 1 then nt (decide (v2 < v1)) 2 s2 (nt (decide (v1 ≤ 7)) 2 s1 f)
  else if k = 2 then nt (decide (v2 ≤ 9)) 2 s2 (nt (decide (v1 ≤ 5)) 2 s1 f)
  else if k = 3 then nt (decide (1 ≤ v1 ∧ v1 ≤ 12)) 2 s1 f
  else if k = 4 then nt (decide (1 ≤ v1 ∧ v1 ≤ 9)) 2 s1 (nt (decide (c.1 0 1 < 6)) 3 s0 f)
  else if k = 5 then nt (decide (v2 ≤ 5 ∧ v2 ≠ v1)) 2 s2 (nt (decide (v1 ≤ 5)) 2 s1 f)
  else if k ≤ 7 then nt (decide (v1 ≤ 7)) 2 s1 (nt (decide (c.2.2.1.1 < 40)) 3 s0 f)
  else if k = 8 then nt (decide (v1 ≤ 5)) 2 s1 (nt (decide (c.2.2.1.1 < 40)) 3 s0 f)
  else if k = 9 then nt (decide (v2 ≤ 5)) 2 s2 (nt (decide (v1 ≤ 7)) 2 s1 (nt (decide (c.2.2.1.1 < 40)) 3 s0 f))
  else if k ≤ 11 then nt (decide (c.2.2.1.1 < 40)) 3 s0 f
  else nt (decide (v1 ≤ 5)) 2 s1 (nt (decide (c.2.2.2.1 < 8)) 3 s0 f)
def adY (y : YQ) (k : Nat) (a b : Option Nat) : YQ := (y.1 + 1, ud y.2.1 y.1 k, ud y.2.2.1 y.1 a, ud y.2.2.2 y.1 b)
def adG (g : GQ) (k v : Nat) : GQ := (g.1 + 1, ud g.2.1 g.1 k, ud g.2.2 g.1 v)
/-- what a good line adds -/
def upc (k : Nat) (c : CQ) (v1 v2 : Nat) : CQ :=
  if k = 0 then (u2 (u2 (u2 c.1 1 (c.1 0 0) v1) 2 (c.1 0 0) v2) 0 0 (c.1 0 0 + 1), c.2)
  else if k = 1 then (u2 c.1 3 v1 (c.1 3 v1 ||| 1 <<< v2), (max c.2.1.1 (v1 + 1), c.2.1.2), c.2.2)
  else if k = 2 then (u2 c.1 4 v1 v2, c.2)
  else if k = 3 then (u2 c.1 0 2 v1, c.2)
  else if k = 4 then (u2 (u2 c.1 5 (c.1 0 1) v1) 0 1 (c.1 0 1 + 1), c.2)
  else if k = 5 then (u2 c.1 6 v1 (c.1 6 v1 ||| 1 <<< v2), (c.2.1.1, max c.2.1.2 (max v1 v2 + 1)), c.2.2)
  else if k ≤ 8 then (c.1, c.2.1, adY c.2.2.1 (k - 6) (some v1) none, c.2.2.2)
  else if k = 9 then (c.1, c.2.1, adY c.2.2.1 (k - 6) (some v1) (some v2), c.2.2.2)
  else if k ≤ 11 then (c.1, c.2.1, adY c.2.2.1 (k - 6) none none, c.2.2.2)
  else (c.1, c.2.1, c.2.2.1, adG c.2.2.2 (k - 12) v1)
def upf (k : Nat) (c : CQ) (v1 v2 : Nat) : FT → CQ
  | none => upc k c v1 v2
  | some _ => c
/-- a line from the token at p on: a break at a place, or what is behind it -/
def lnE (b : Nat → Nat) (len k e s0 s1 s2 v1 v2 : Nat) (c : CQ) (f : FT) : Nat ⊕ (Nat × CQ × FT) := if tkK b len e = 3 then .inr (tkE b len e, upf k c v1 v2 (chk k c s0 s1 s2 v1 v2 f), chk k c s0 s1 s2 v1 v2 f) else .inl (tkS b len e)
def ln1 (b : Nat → Nat) (len k p e0 : Nat) (c : CQ) (f : FT) : Nat ⊕ (Nat × CQ × FT) := if tkK b len e0 = 2 then
    if nbk k = 1 then lnE b len k (tkE b len e0) (tkS b len p) (tkS b len e0) 0 (tkV b len e0) 0 c f
    else if tkK b len (tkE b len e0) = 2 then lnE b len k (tkE b len (tkE b len e0)) (tkS b len p) (tkS b len e0) (tkS b len (tkE b len e0)) (tkV b len e0) (tkV b len (tkE b len e0)) c f
    else .inl (tkS b len (tkE b len e0))
  else .inl (tkS b len e0)
def lnS (b : Nat → Nat) (len sort p : Nat) (c : CQ) (f : FT) : Nat ⊕ (Nat × CQ × FT) := match wF b len p sort with
  | none => .inl (tkS b len p)
  | some k => if nbk k = 0 then lnE b len k (tkE b len p) (tkS b len p) 0 0 0 0 c f else ln1 b len k p (tkE b len p) c f
/-- contents that can be -/
def QB (q : LQ) (B : Nat) : Prop := (q 0 0 ≤ 8 ∧ q 0 1 ≤ 6 ∧ 1 ≤ q 0 2 ∧ q 0 2 ≤ 12) ∧ (∀ c, c < q 0 0 → 1 ≤ q 1 c) ∧ (∀ c, c < 8 → q 1 c ≤ 9) ∧ (∀ c, c < 8 → q 2 c ≤ 5) ∧ (∀ c, c < 8 → q 3 c < 2 ^ c) ∧ (∀ t, t < 6 → q 4 t ≤ 9) ∧ (∀ p, p < q 0 1 → 1 ≤ q 5 p) ∧ (∀ p, p < 6 → q 5 p ≤ 9) ∧ ∀ p, p < 6 → q 6 p < 2 ^ B
def CWF (c : CQ) : Prop := QB c.1 c.2.1.2 ∧ c.2.1.1 ≤ 8 ∧ c.2.1.2 ≤ 6 ∧ YW c.2.2.1 ∧ GW c.2.2.2
theorem QB.qw {q : LQ} {B : Nat} (h : QB q B) (hb : B ≤ q 0 1) : QW q := by
  obtain ⟨h1, h2, h3, h4, h5, h6, h7, h8, h9⟩ := h
  exact ⟨h1, h2, h3, h4, h5, h6, h7, h8, fun p hp => Nat.lt_of_lt_of_le (h9 p hp) (Nat.pow_le_pow_right (by omega) hb)⟩
theorem chk_0 {c : CQ} {s0 s1 s2 v1 v2 : Nat} {f : FT} (h : chk 0 c s0 s1 s2 v1 v2 f = none) : (c.1 0 0 < 8 ∧ (1 ≤ v1 ∧ v1 ≤ 9) ∧ v2 ≤ 5) ∧ f = none := by
  unfold chk at h; rw [if_pos rfl] at h
  obtain ⟨a1, h⟩ := nt_none h
  obtain ⟨a2, h⟩ := nt_none h
  obtain ⟨a3, h⟩ := nt_none h
  exact ⟨⟨of_decide_eq_true a3, of_decide_eq_true a2, of_decide_eq_true a1⟩, h⟩
theorem chk_1 {c : CQ} {s0 s1 s2 v1 v2 : Nat} {f : FT} (h : chk 1 c s0 s1 s2 v1 v2 f = none) : (v1 ≤ 7 ∧ v2 < v1) ∧ f = none := by
  have h : nt (decide (v2 < v1)) 2 s2 (nt (decide (v1 ≤ 7)) 2 s1 f) = none := h
  obtain ⟨a1, h⟩ := nt_none h
  obtain ⟨a2, h⟩ := nt_none h
  exact ⟨⟨of_decide_eq_true a2, of_decide_eq_true a1⟩, h⟩
theorem chk_2 {c : CQ} {s0 s1 s2 v1 v2 : Nat} {f : FT} (h : chk 2 c s0 s1 s2 v1 v2 f = none) : (v1 ≤ 5 ∧ v2 ≤ 9) ∧ f = none := by
  have h : nt (decide (v2 ≤ 9)) 2 s2 (nt (decide (v1 ≤ 5)) 2 s1 f) = none := h
  obtain ⟨a1, h⟩ := nt_none h
  obtain ⟨a2, h⟩ := nt_none h
  exact ⟨⟨of_decide_eq_true a2, of_decide_eq_true a1⟩, h⟩
theorem chk_3 {c : CQ} {s0 s1 s2 v1 v2 : Nat} {f : FT} (h : chk 3 c s0 s1 s2 v1 v2 f = none) : (1 ≤ v1 ∧ v1 ≤ 12) ∧ f = none := by
  have h : nt (decide (1 ≤ v1 ∧ v1 ≤ 12)) 2 s1 f = none := h
  obtain ⟨a1, h⟩ := nt_none h
  exact ⟨of_decide_eq_true a1, h⟩
theorem chk_4 {c : CQ} {s0 s1 s2 v1 v2 : Nat} {f : FT} (h : chk 4 c s0 s1 s2 v1 v2 f = none) : (c.1 0 1 < 6 ∧ 1 ≤ v1 ∧ v1 ≤ 9) ∧ f = none := by
  have h : nt (decide (1 ≤ v1 ∧ v1 ≤ 9)) 2 s1 (nt (decide (c.1 0 1 < 6)) 3 s0 f) = none := h
  obtain ⟨a1, h⟩ := nt_none h
  obtain ⟨a2, h⟩ := nt_none h
  exact ⟨⟨of_decide_eq_true a2, of_decide_eq_true a1⟩, h⟩
theorem chk_5 {c : CQ} {s0 s1 s2 v1 v2 : Nat} {f : FT} (h : chk 5 c s0 s1 s2 v1 v2 f = none) : (v1 ≤ 5 ∧ v2 ≤ 5 ∧ v2 ≠ v1) ∧ f = none := by
  have h : nt (decide (v2 ≤ 5 ∧ v2 ≠ v1)) 2 s2 (nt (decide (v1 ≤ 5)) 2 s1 f) = none := h
  obtain ⟨a1, h⟩ := nt_none h
  obtain ⟨a2, h⟩ := nt_none h
  exact ⟨⟨of_decide_eq_true a2, of_decide_eq_true a1⟩, h⟩
/-- of the deeds: which numbers are good -/
def dkO (k v1 v2 : Nat) : Prop := (k ≤ 7 → v1 ≤ 7) ∧ (k = 8 → v1 ≤ 5) ∧ (k = 9 → v1 ≤ 7 ∧ v2 ≤ 5)
theorem chk_y {k : Nat} {c : CQ} {s0 s1 s2 v1 v2 : Nat} {f : FT} (h6 : 6 ≤ k) (h12 : k < 12) (h : chk k c s0 s1 s2 v1 v2 f = none) : (c.2.2.1.1 < 40 ∧ dkO k v1 v2) ∧ f = none := by
  unfold chk at h
  rw [if_neg (by omega), if_neg (by omega), if_neg (by omega), if_neg (by omega), if_neg (by omega), if_neg (by omega)] at h
  by_cases e1 : k ≤ 7
  · rw [if_pos e1] at h
    obtain ⟨a1, h⟩ := nt_none h
    obtain ⟨a2, h⟩ := nt_none h
    exact ⟨⟨of_decide_eq_true a2, fun _ => of_decide_eq_true a1, fun e => by omega, fun e => by omega⟩, h⟩
  · rw [if_neg e1] at h
    by_cases e2 : k = 8
    · rw [if_pos e2] at h
      obtain ⟨a1, h⟩ := nt_none h
      obtain ⟨a2, h⟩ := nt_none h
      exact ⟨⟨of_decide_eq_true a2, fun e => by omega, fun _ => of_decide_eq_true a1, fun e => by omega⟩, h⟩
    · rw [if_neg e2] at h
      by_cases e3 : k = 9
      · rw [if_pos e3] at h
        obtain ⟨a1, h⟩ := nt_none h
        obtain ⟨a2, h⟩ := nt_none h
        obtain ⟨a3, h⟩ := nt_none h
        exact ⟨⟨of_decide_eq_true a3, fun e => by omega, fun e => by omega, fun _ => ⟨of_decide_eq_true a2, of_decide_eq_true a1⟩⟩, h⟩
      · rw [if_neg e3, if_pos (by omega)] at h
        obtain ⟨a1, h⟩ := nt_none h
        exact ⟨⟨of_decide_eq_true a1, fun e => by omega, fun e => by omega, fun e => by omega⟩, h⟩
theorem chk_g {k : Nat} {c : CQ} {s0 s1 s2 v1 v2 : Nat} {f : FT} (h12 : 12 ≤ k) (h : chk k c s0 s1 s2 v1 v2 f = none) : (c.2.2.2.1 < 8 ∧ v1 ≤ 5) ∧ f = none := by
  unfold chk at h
  rw [if_neg (by omega), if_neg (by omega), if_neg (by omega), if_neg (by omega), if_neg (by omega), if_neg (by omega), if_neg (by omega), if_neg (by omega), if_neg (by omega), if_neg (by omega)] at h
  obtain ⟨a1, h⟩ := nt_none h
  obtain ⟨a2, h⟩ := nt_none h
  exact ⟨⟨of_decide_eq_true a2, of_decide_eq_true a1⟩, h⟩
theorem upc_y {k : Nat} {c : CQ} {v1 v2 : Nat} (h6 : 6 ≤ k) (h12 : k < 12) : upc k c v1 v2 = (c.1, c.2.1, adY c.2.2.1 (k - 6) (if k ≤ 9 then some v1 else none) (if k = 9 then some v2 else none), c.2.2.2) := by
  unfold upc
  rw [if_neg (by omega), if_neg (by omega), if_neg (by omega), if_neg (by omega), if_neg (by omega), if_neg (by omega)]
  by_cases e1 : k ≤ 8
  · rw [if_pos e1, if_pos (by omega), if_neg (by omega)]
  · rw [if_neg e1]
    by_cases e2 : k = 9
    · rw [if_pos e2, if_pos (by omega), if_pos e2]
    · rw [if_neg e2, if_pos (by omega), if_neg (by omega), if_neg e2]
theorem upc_g {k : Nat} {c : CQ} {v1 v2 : Nat} (h12 : 12 ≤ k) : upc k c v1 v2 = (c.1, c.2.1, c.2.2.1, adG c.2.2.2 (k - 12) v1) := by
  unfold upc
  rw [if_neg (by omega), if_neg (by omega), if_neg (by omega), if_neg (by omega), if_neg (by omega), if_neg (by omega), if_neg (by omega), if_neg (by omega), if_neg (by omega)]
theorem YW_ad {y : YQ} {k : Nat} {v1 v2 : Nat} (V : YW y) (h40 : y.1 < 40) (h6 : 6 ≤ k) (h12 : k < 12) (D : dkO k v1 v2) : YW (adY y (k - 6) (if k ≤ 9 then some v1 else none) (if k = 9 then some v2 else none)) := by
  refine ⟨show y.1 + 1 ≤ 40 by omega, fun j hj => ?_⟩
  have hj : j < y.1 + 1 := hj
  by_cases e : j = y.1
  · subst e
    show (ud y.2.1 y.1 (k - 6) y.1 ≤ 5) ∧ (ud y.2.1 y.1 (k - 6) y.1 ≤ 1 ∨ ud y.2.1 y.1 (k - 6) y.1 = 3 → ∃ c, c < 8 ∧ ud y.2.2.1 y.1 (if k ≤ 9 then some v1 else none) y.1 = some c) ∧ (ud y.2.1 y.1 (k - 6) y.1 = 2 → ∃ t, t < 6 ∧ ud y.2.2.1 y.1 (if k ≤ 9 then some v1 else none) y.1 = some t) ∧ (ud y.2.1 y.1 (k - 6) y.1 = 3 → ∃ p, p < 6 ∧ ud y.2.2.2 y.1 (if k = 9 then some v2 else none) y.1 = some p) ∧ (4 ≤ ud y.2.1 y.1 (k - 6) y.1 → ud y.2.2.1 y.1 (if k ≤ 9 then some v1 else none) y.1 = none) ∧ (ud y.2.1 y.1 (k - 6) y.1 ≠ 3 → ud y.2.2.2 y.1 (if k = 9 then some v2 else none) y.1 = none)
    rw [ud_eq, ud_eq, ud_eq]
    obtain ⟨d1, d2, d3⟩ := D
    refine ⟨by omega, fun h => ?_, fun h => ?_, fun h => ?_, fun h => ?_, fun h => ?_⟩
    · rw [if_pos (by omega)]
      refine ⟨v1, ?_, rfl⟩
      rcases h with h | h
      · have := d1 (by omega); omega
      · have := (d3 (by omega)).1; omega
    · rw [if_pos (by omega)]
      have := d2 (by omega)
      exact ⟨v1, by omega, rfl⟩
    · rw [if_pos (by omega)]
      have := (d3 (by omega)).2
      exact ⟨v2, by omega, rfl⟩
    · rw [if_neg (by omega)]
    · rw [if_neg (by omega)]
  · have := V.2 j (by omega)
    show (ud y.2.1 y.1 (k - 6) j ≤ 5) ∧ (ud y.2.1 y.1 (k - 6) j ≤ 1 ∨ ud y.2.1 y.1 (k - 6) j = 3 → ∃ c, c < 8 ∧ ud y.2.2.1 y.1 (if k ≤ 9 then some v1 else none) j = some c) ∧ (ud y.2.1 y.1 (k - 6) j = 2 → ∃ t, t < 6 ∧ ud y.2.2.1 y.1 (if k ≤ 9 then some v1 else none) j = some t) ∧ (ud y.2.1 y.1 (k - 6) j = 3 → ∃ p, p < 6 ∧ ud y.2.2.2 y.1 (if k = 9 then some v2 else none) j = some p) ∧ (4 ≤ ud y.2.1 y.1 (k - 6) j → ud y.2.2.1 y.1 (if k ≤ 9 then some v1 else none) j = none) ∧ (ud y.2.1 y.1 (k - 6) j ≠ 3 → ud y.2.2.2 y.1 (if k = 9 then some v2 else none) j = none)
    rw [ud_ne _ _ e, ud_ne _ _ e, ud_ne _ _ e]
    exact this
theorem GW_ad {g : GQ} {k v : Nat} (V : GW g) (h8 : g.1 < 8) (hk : k ≤ 1) (hv : v ≤ 5) : GW (adG g k v) := by
  refine ⟨show g.1 + 1 ≤ 8 by omega, fun j hj => ?_⟩
  have hj : j < g.1 + 1 := hj
  show ud g.2.1 g.1 k j ≤ 1 ∧ ud g.2.2 g.1 v j < 6
  by_cases e : j = g.1
  · subst e; rw [ud_eq, ud_eq]; omega
  · rw [ud_ne _ _ e, ud_ne _ _ e]; exact V.2 j (by omega)
/-- a good line keeps the contents good -/
theorem CWF_up {k : Nat} {c : CQ} {s0 s1 s2 v1 v2 : Nat} {f : FT} (hk : k < 14) (C : CWF c) (h : chk k c s0 s1 s2 v1 v2 f = none) : CWF (upc k c v1 v2) := by
  obtain ⟨⟨⟨a1, a2, a3, a4⟩, b1, b2, b3, b4, b5, b6, b7, b8⟩, cA, cB, cY, cG⟩ := C
  by_cases k6 : 6 ≤ k
  · by_cases k12 : k < 12
    · obtain ⟨⟨h1, h2⟩, _⟩ := chk_y k6 k12 h
      rw [upc_y k6 k12]
      exact ⟨⟨⟨a1, a2, a3, a4⟩, b1, b2, b3, b4, b5, b6, b7, b8⟩, cA, cB, YW_ad cY h1 k6 k12 h2, cG⟩
    · obtain ⟨⟨h1, h2⟩, _⟩ := chk_g (by omega) h
      rw [upc_g (by omega)]
      exact ⟨⟨⟨a1, a2, a3, a4⟩, b1, b2, b3, b4, b5, b6, b7, b8⟩, cA, cB, cY, GW_ad cG h1 (by omega) h2⟩
  · have : k = 0 ∨ k = 1 ∨ k = 2 ∨ k = 3 ∨ k = 4 ∨ k = 5 := by omega
    rcases this with rfl | rfl | rfl | rfl | rfl | rfl
    · obtain ⟨⟨h1, h2, h3⟩, _⟩ := chk_0 h
      refine ⟨?_, cA, cB, cY, cG⟩
      show QB (u2 (u2 (u2 c.1 1 (c.1 0 0) v1) 2 (c.1 0 0) v2) 0 0 (c.1 0 0 + 1)) c.2.1.2
      refine ⟨?_, ?_, ?_, ?_, ?_, ?_, ?_, ?_, ?_⟩
      · rw [u2_eq, u2_n2 (by decide), u2_n1 (by decide), u2_n1 (by decide), u2_n2 (by decide), u2_n1 (by decide), u2_n1 (by decide)]
        exact ⟨by omega, a2, a3, a4⟩
      · rw [u2_eq]; intro j hj
        rw [u2_n1 (by decide), u2_n1 (by decide)]
        by_cases e : j = c.1 0 0
        · rw [e, u2_eq]; omega
        · rw [u2_n2 e]; exact b1 j (by omega)
      · intro j hj
        rw [u2_n1 (by decide), u2_n1 (by decide)]
        by_cases e : j = c.1 0 0
        · rw [e, u2_eq]; omega
        · rw [u2_n2 e]; exact b2 j hj
      · intro j hj
        rw [u2_n1 (by decide)]
        by_cases e : j = c.1 0 0
        · rw [e, u2_eq]; omega
        · rw [u2_n2 e, u2_n1 (by decide)]; exact b3 j hj
      · intro j hj
        rw [u2_n1 (by decide), u2_n1 (by decide), u2_n1 (by decide)]; exact b4 j hj
      · intro j hj
        rw [u2_n1 (by decide), u2_n1 (by decide), u2_n1 (by decide)]; exact b5 j hj
      · rw [u2_n2 (by decide), u2_n1 (by decide), u2_n1 (by decide)]; intro j hj
        rw [u2_n1 (by decide), u2_n1 (by decide), u2_n1 (by decide)]; exact b6 j hj
      · intro j hj
        rw [u2_n1 (by decide), u2_n1 (by decide), u2_n1 (by decide)]; exact b7 j hj
      · intro j hj
        rw [u2_n1 (by decide), u2_n1 (by decide), u2_n1 (by decide)]; exact b8 j hj
    · obtain ⟨⟨h1, h2⟩, _⟩ := chk_1 h
      refine ⟨?_, show max c.2.1.1 (v1 + 1) ≤ 8 by omega, cB, cY, cG⟩
      show QB (u2 c.1 3 v1 (c.1 3 v1 ||| 1 <<< v2)) c.2.1.2
      refine ⟨?_, ?_, ?_, ?_, ?_, ?_, ?_, ?_, ?_⟩
      · rw [u2_n1 (by decide), u2_n1 (by decide), u2_n1 (by decide)]; exact ⟨a1, a2, a3, a4⟩
      · rw [u2_n1 (by decide)]; intro j hj; rw [u2_n1 (by decide)]; exact b1 j hj
      · intro j hj; rw [u2_n1 (by decide)]; exact b2 j hj
      · intro j hj; rw [u2_n1 (by decide)]; exact b3 j hj
      · intro j hj
        by_cases e : j = v1
        · rw [e, u2_eq]; exact or_lt (b4 v1 (by omega)) (sh1_lt h2)
        · rw [u2_n2 e]; exact b4 j hj
      · intro j hj; rw [u2_n1 (by decide)]; exact b5 j hj
      · rw [u2_n1 (by decide)]; intro j hj; rw [u2_n1 (by decide)]; exact b6 j hj
      · intro j hj; rw [u2_n1 (by decide)]; exact b7 j hj
      · intro j hj; rw [u2_n1 (by decide)]; exact b8 j hj
    · obtain ⟨⟨h1, h2⟩, _⟩ := chk_2 h
      refine ⟨?_, cA, cB, cY, cG⟩
      show QB (u2 c.1 4 v1 v2) c.2.1.2
      refine ⟨?_, ?_, ?_, ?_, ?_, ?_, ?_, ?_, ?_⟩
      · rw [u2_n1 (by decide), u2_n1 (by decide), u2_n1 (by decide)]; exact ⟨a1, a2, a3, a4⟩
      · rw [u2_n1 (by decide)]; intro j hj; rw [u2_n1 (by decide)]; exact b1 j hj
      · intro j hj; rw [u2_n1 (by decide)]; exact b2 j hj
      · intro j hj; rw [u2_n1 (by decide)]; exact b3 j hj
      · intro j hj; rw [u2_n1 (by decide)]; exact b4 j hj
      · intro j hj
        by_cases e : j = v1
        · rw [e, u2_eq]; exact h2
        · rw [u2_n2 e]; exact b5 j hj
      · rw [u2_n1 (by decide)]; intro j hj; rw [u2_n1 (by decide)]; exact b6 j hj
      · intro j hj; rw [u2_n1 (by decide)]; exact b7 j hj
      · intro j hj; rw [u2_n1 (by decide)]; exact b8 j hj
    · obtain ⟨⟨h1, h2⟩, _⟩ := chk_3 h
      refine ⟨?_, cA, cB, cY, cG⟩
      show QB (u2 c.1 0 2 v1) c.2.1.2
      refine ⟨?_, ?_, ?_, ?_, ?_, ?_, ?_, ?_, ?_⟩
      · rw [u2_n2 (by decide), u2_n2 (by decide), u2_eq]; exact ⟨a1, a2, h1, h2⟩
      · rw [u2_n2 (by decide)]; intro j hj; rw [u2_n1 (by decide)]; exact b1 j hj
      · intro j hj; rw [u2_n1 (by decide)]; exact b2 j hj
      · intro j hj; rw [u2_n1 (by decide)]; exact b3 j hj
      · intro j hj; rw [u2_n1 (by decide)]; exact b4 j hj
      · intro j hj; rw [u2_n1 (by decide)]; exact b5 j hj
      · rw [u2_n2 (by decide)]; intro j hj; rw [u2_n1 (by decide)]; exact b6 j hj
      · intro j hj; rw [u2_n1 (by decide)]; exact b7 j hj
      · intro j hj; rw [u2_n1 (by decide)]; exact b8 j hj
    · obtain ⟨⟨h1, h2⟩, _⟩ := chk_4 h
      refine ⟨?_, cA, cB, cY, cG⟩
      show QB (u2 (u2 c.1 5 (c.1 0 1) v1) 0 1 (c.1 0 1 + 1)) c.2.1.2
      refine ⟨?_, ?_, ?_, ?_, ?_, ?_, ?_, ?_, ?_⟩
      · rw [u2_n2 (by decide), u2_n1 (by decide), u2_eq, u2_n2 (by decide), u2_n1 (by decide)]; exact ⟨a1, by omega, a3, a4⟩
      · rw [u2_n2 (by decide), u2_n1 (by decide)]; intro j hj; rw [u2_n1 (by decide), u2_n1 (by decide)]; exact b1 j hj
      · intro j hj; rw [u2_n1 (by decide), u2_n1 (by decide)]; exact b2 j hj
      · intro j hj; rw [u2_n1 (by decide), u2_n1 (by decide)]; exact b3 j hj
      · intro j hj; rw [u2_n1 (by decide), u2_n1 (by decide)]; exact b4 j hj
      · intro j hj; rw [u2_n1 (by decide), u2_n1 (by decide)]; exact b5 j hj
      · rw [u2_eq]; intro j hj; rw [u2_n1 (by decide)]
        by_cases e : j = c.1 0 1
        · rw [e, u2_eq]; omega
        · rw [u2_n2 e]; exact b6 j (by omega)
      · intro j hj; rw [u2_n1 (by decide)]
        by_cases e : j = c.1 0 1
        · rw [e, u2_eq]; omega
        · rw [u2_n2 e]; exact b7 j hj
      · intro j hj; rw [u2_n1 (by decide), u2_n1 (by decide)]; exact b8 j hj
    · obtain ⟨⟨h1, h2, h3⟩, _⟩ := chk_5 h
      have hm : ∀ x, x < 2 ^ c.2.1.2 → x < 2 ^ max c.2.1.2 (max v1 v2 + 1) := fun x hx => Nat.lt_of_lt_of_le hx (Nat.pow_le_pow_right (by omega) (by omega))
      refine ⟨?_, cA, show max c.2.1.2 (max v1 v2 + 1) ≤ 6 by omega, cY, cG⟩
      show QB (u2 c.1 6 v1 (c.1 6 v1 ||| 1 <<< v2)) (max c.2.1.2 (max v1 v2 + 1))
      refine ⟨?_, ?_, ?_, ?_, ?_, ?_, ?_, ?_, ?_⟩
      · rw [u2_n1 (by decide), u2_n1 (by decide), u2_n1 (by decide)]; exact ⟨a1, a2, a3, a4⟩
      · rw [u2_n1 (by decide)]; intro j hj; rw [u2_n1 (by decide)]; exact b1 j hj
      · intro j hj; rw [u2_n1 (by decide)]; exact b2 j hj
      · intro j hj; rw [u2_n1 (by decide)]; exact b3 j hj
      · intro j hj; rw [u2_n1 (by decide)]; exact b4 j hj
      · intro j hj; rw [u2_n1 (by decide)]; exact b5 j hj
      · rw [u2_n1 (by decide)]; intro j hj; rw [u2_n1 (by decide)]; exact b6 j hj
      · intro j hj; rw [u2_n1 (by decide)]; exact b7 j hj
      · intro j hj
        by_cases e : j = v1
        · rw [e, u2_eq]; exact or_lt (hm _ (b8 v1 (by omega))) (sh1_lt (by omega))
        · rw [u2_n2 e]; exact hm _ (b8 j hj)
