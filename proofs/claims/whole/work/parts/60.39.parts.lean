/-! LESSONS in rows: nextBegins, nextParts -/
/-- the rows of m parts of e CHAPTERS in their order, a row a number -/
def eT : Nat → Nat → List Nat
  | 1, 0 => [0]
  | 1, 1 => [0]
  | 1, 2 => [0]
  | 1, 3 => [0]
  | 1, 4 => [0]
  | 1, 5 => [0]
  | 1, 6 => [0]
  | 1, 7 => [0]
  | 1, 8 => [0]
  | 2, 0 => [0]
  | 2, 1 => [0, 10]
  | 2, 2 => [0, 10, 20]
  | 2, 3 => [0, 10, 20, 30]
  | 2, 4 => [0, 10, 20, 30, 40]
  | 2, 5 => [0, 10, 20, 30, 40, 50]
  | 2, 6 => [0, 10, 20, 30, 40, 50, 60]
  | 2, 7 => [0, 10, 20, 30, 40, 50, 60, 70]
  | 2, 8 => [0, 10, 20, 30, 40, 50, 60, 70, 80]
  | 3, 0 => [0]
  | 3, 1 => [0, 100, 110]
  | 3, 2 => [0, 100, 200, 110, 210, 220]
  | 3, 3 => [0, 100, 200, 300, 110, 210, 310, 220, 320, 330]
  | 3, 4 => [0, 100, 200, 300, 400, 110, 210, 310, 410, 220, 320, 420, 330, 430, 440]
  | 3, 5 => [0, 100, 200, 300, 400, 500, 110, 210, 310, 410, 510, 220, 320, 420, 520, 330, 430, 530, 440, 540, 550]
  | 3, 6 => [0, 100, 200, 300, 400, 500, 600, 110, 210, 310, 410, 510, 610, 220, 320, 420, 520, 620, 330, 430, 530, 630, 440, 540, 640, 550, 650, 660]
  | 3, 7 => [0, 100, 200, 300, 400, 500, 600, 700, 110, 210, 310, 410, 510, 610, 710, 220, 320, 420, 520, 620, 720, 330, 430, 530, 630, 730, 440, 540, 640, 740, 550, 650, 750, 660, 760, 770]
  | 3, 8 => [0, 100, 200, 300, 400, 500, 600, 700, 800, 110, 210, 310, 410, 510, 610, 710, 810, 220, 320, 420, 520, 620, 720, 820, 330, 430, 530, 630, 730, 830, 440, 540, 640, 740, 840, 550, 650, 750, 850, 660, 760, 860, 770, 870, 880]
  | 4, 0 => [0]
  | 4, 1 => [0, 1000, 1100, 1110]
  | 4, 2 => [0, 1000, 2000, 1100, 2100, 2200, 1110, 2110, 2210, 2220]
  | 4, 3 => [0, 1000, 2000, 3000, 1100, 2100, 3100, 2200, 3200, 3300, 1110, 2110, 3110, 2210, 3210, 3310, 2220, 3220, 3320, 3330]
  | 4, 4 => [0, 1000, 2000, 3000, 4000, 1100, 2100, 3100, 4100, 2200, 3200, 4200, 3300, 4300, 4400, 1110, 2110, 3110, 4110, 2210, 3210, 4210, 3310, 4310, 4410, 2220, 3220, 4220, 3320, 4320, 4420, 3330, 4330, 4430, 4440]
  | 4, 5 => [0, 1000, 2000, 3000, 4000, 5000, 1100, 2100, 3100, 4100, 5100, 2200, 3200, 4200, 5200, 3300, 4300, 5300, 4400, 5400, 5500, 1110, 2110, 3110, 4110, 5110, 2210, 3210, 4210, 5210, 3310, 4310, 5310, 4410, 5410, 5510, 2220, 3220, 4220, 5220, 3320, 4320, 5320, 4420, 5420, 5520, 3330, 4330, 5330, 4430, 5430, 5530, 4440, 5440, 5540, 5550]
  | 4, 6 => [0, 1000, 2000, 3000, 4000, 5000, 6000, 1100, 2100, 3100, 4100, 5100, 6100, 2200, 3200, 4200, 5200, 6200, 3300, 4300, 5300, 6300, 4400, 5400, 6400, 5500, 6500, 6600, 1110, 2110, 3110, 4110, 5110, 6110, 2210, 3210, 4210, 5210, 6210, 3310, 4310, 5310, 6310, 4410, 5410, 6410, 5510, 6510, 6610, 2220, 3220, 4220, 5220, 6220, 3320, 4320, 5320, 6320, 4420, 5420, 6420, 5520, 6520, 6620, 3330, 4330, 5330, 6330, 4430, 5430, 6430, 5530, 6530, 6630, 4440, 5440, 6440, 5540, 6540, 6640, 5550, 6550, 6650, 6660]
  | 4, 7 => [0, 1000, 2000, 3000, 4000, 5000, 6000, 7000, 1100, 2100, 3100, 4100, 5100, 6100, 7100, 2200, 3200, 4200, 5200, 6200, 7200, 3300, 4300, 5300, 6300, 7300, 4400, 5400, 6400, 7400, 5500, 6500, 7500, 6600, 7600, 7700, 1110, 2110, 3110, 4110, 5110, 6110, 7110, 2210, 3210, 4210, 5210, 6210, 7210, 3310, 4310, 5310, 6310, 7310, 4410, 5410, 6410, 7410, 5510, 6510, 7510, 6610, 7610, 7710, 2220, 3220, 4220, 5220, 6220, 7220, 3320, 4320, 5320, 6320, 7320, 4420, 5420, 6420, 7420, 5520, 6520, 7520, 6620, 7620, 7720, 3330, 4330, 5330, 6330, 7330, 4430, 5430, 6430, 7430, 5530, 6530, 7530, 6630, 7630, 7730, 4440, 5440, 6440, 7440, 5540, 6540, 7540, 6640, 7640, 7740, 5550, 6550, 7550, 6650, 7650, 7750, 6660, 7660, 7760, 7770]
  | 4, 8 => [0, 1000, 2000, 3000, 4000, 5000, 6000, 7000, 8000, 1100, 2100, 3100, 4100, 5100, 6100, 7100, 8100, 2200, 3200, 4200, 5200, 6200, 7200, 8200, 3300, 4300, 5300, 6300, 7300, 8300, 4400, 5400, 6400, 7400, 8400, 5500, 6500, 7500, 8500, 6600, 7600, 8600, 7700, 8700, 8800, 1110, 2110, 3110, 4110, 5110, 6110, 7110, 8110, 2210, 3210, 4210, 5210, 6210, 7210, 8210, 3310, 4310, 5310, 6310, 7310, 8310, 4410, 5410, 6410, 7410, 8410, 5510, 6510, 7510, 8510, 6610, 7610, 8610, 7710, 8710, 8810, 2220, 3220, 4220, 5220, 6220, 7220, 8220, 3320, 4320, 5320, 6320, 7320, 8320, 4420, 5420, 6420, 7420, 8420, 5520, 6520, 7520, 8520, 6620, 7620, 8620, 7720, 8720, 8820, 3330, 4330, 5330, 6330, 7330, 8330, 4430, 5430, 6430, 7430, 8430, 5530, 6530, 7530, 8530, 6630, 7630, 8630, 7730, 8730, 8830, 4440, 5440, 6440, 7440, 8440, 5540, 6540, 7540, 8540, 6640, 7640, 8640, 7740, 8740, 8840, 5550, 6550, 7550, 8550, 6650, 7650, 8650, 7750, 8750, 8850, 6660, 7660, 8660, 7760, 8760, 8860, 7770, 8770, 8870, 8880]
  | _, _ => []
def eR (m e : Nat) : Nat := (eT m e).length
def eP (m e k i : Nat) : Nat := (eT m e).getD k 0 / 10 ^ i % 10
/-- the last of 1 .. k that is not e -/
def atG (e : Nat) (P : Nat → Nat) : Nat → Option Nat
  | 0 => none
  | k + 1 => if P (k + 1) = e then atG e P k else some (k + 1)
def eOk (m e : Nat) : Bool := Nat.ble 1 (eR m e) && Nat.blt (eR m e) 200 && (List.range (eR m e)).all (fun k => (List.range m).all (fun i => Nat.ble (eP m e k i) e)) && (List.range m).all (fun i => Nat.beq (eP m e 0 i) 0) && (atG e (eP m e (eR m e - 1)) (m - 1)).isNone
def eC (m e k : Nat) : Option Nat → Bool
  | none => false
  | some a => (List.range m).all (fun i => Nat.beq (if a ≤ i ∧ i < m then eP m e k a + 1 else eP m e k i) (eP m e (k + 1) i))
theorem eOk_ : ∀ m, m < 4 → ∀ e, e < 9 → eOk (m + 1) e = true := by decide +kernel
theorem eC_ : ∀ m, m < 4 → ∀ e, e < 9 → ∀ k, k < eR (m + 1) e - 1 → eC (m + 1) e k (atG e (eP (m + 1) e k) m) = true := by decide +kernel
theorem e_ok {m e : Nat} (h1 : 1 ≤ m) (h2 : m ≤ 4) (he : e ≤ 8) : (1 ≤ eR m e ∧ eR m e < 200) ∧ (∀ k, k < eR m e → ∀ i, i < m → eP m e k i ≤ e) ∧ (∀ i, i < m → eP m e 0 i = 0) ∧ atG e (eP m e (eR m e - 1)) (m - 1) = none := by
  obtain ⟨m, rfl⟩ : ∃ a, m = a + 1 := ⟨m - 1, by omega⟩
  have t := eOk_ m (by omega) e (by omega)
  unfold eOk at t
  simp only [Bool.and_eq_true, List.all_eq_true, List.mem_range, Option.isNone_iff_eq_none] at t
  obtain ⟨⟨⟨⟨t1, t2⟩, t3⟩, t4⟩, t5⟩ := t
  exact ⟨⟨Nat.le_of_ble_eq_true t1, Nat.le_of_ble_eq_true t2⟩, fun k hk i hi => Nat.le_of_ble_eq_true (t3 k hk i hi), fun i hi => Nat.eq_of_beq_eq_true (t4 i hi), t5⟩
theorem e_s {m e k : Nat} (h1 : 1 ≤ m) (h2 : m ≤ 4) (he : e ≤ 8) (hk : k + 1 < eR m e) : ∃ a, atG e (eP m e k) (m - 1) = some a ∧ ∀ i, i < m → (if a ≤ i ∧ i < m then eP m e k a + 1 else eP m e k i) = eP m e (k + 1) i := by
  obtain ⟨m, rfl⟩ : ∃ a, m = a + 1 := ⟨m - 1, by omega⟩
  have t := eC_ m (by omega) e (by omega) k (by omega)
  rw [Nat.add_sub_cancel]
  generalize atG e (eP (m + 1) e k) m = o at t
  cases o with
  | none => cases t
  | some a =>
    refine ⟨a, rfl, fun i hi => ?_⟩
    unfold eC at t
    rw [List.all_eq_true] at t
    exact Nat.eq_of_beq_eq_true (t i (List.mem_range.2 hi))
section NB
variable {h : mH} {m e : Nat} {P : Nat → Nat}
theorem t140f (w : Wd h) (hm : m ≤ 4) {a : Nat} {x : Nat} (ha : a ≤ m) (hp : ∀ i, i < m → mI h 87 i = iN (P i)) : ∃ h', mLoop (f140_49 85 (iN m) (iN x)) mFuel (iN a, h) = some (bN true, h') ∧ Fr (fun b => Nat.beq b 87) h h' ∧ (∀ j, m ≤ j → mI h' 87 j = mI h 87 j) ∧ ∀ i, i < m → mI h' 87 i = iN (if a ≤ i ∧ i < m then x else P i) := by
  have := lp_inv (body := f140_49 85 (iN m) (iN x)) (P := fun i z => z.1 = iN (a + i) ∧ Fr (fun b => Nat.beq b 87) h z.2 ∧ (∀ j, m ≤ j → mI z.2 87 j = mI h 87 j) ∧ ∀ j, j < m → mI z.2 87 j = iN (if a ≤ j ∧ j < a + i then x else P j)) (Q := fun r => r.1 = bN true ∧ Fr (fun b => Nat.beq b 87) h r.2 ∧ (∀ j, m ≤ j → mI r.2 87 j = mI h 87 j) ∧ ∀ j, j < m → mI r.2 87 j = iN (if a ≤ j ∧ j < m then x else P j)) (m - a) (fun i z hi hP => by
    obtain ⟨u1, u3⟩ := z
    obtain ⟨z1, z2, z9, z3⟩ := hP
    have z1 : u1 = iN (a + i) := z1
    have z2 : Fr (fun b => Nat.beq b 87) h u3 := z2
    subst z1
    have w2 := w.fr z2
    left
    refine ⟨(iN (a + i + 1), mSI u3 87 (a + i) (iN x)), ?_, rfl, z2.si (by decide), fun j hj => (by simp (disch := omega) only [si_ne, si_nk, si_eq]; exact z9 j hj), fun j hj => ?_⟩
    · unfold f140_49
      simp (disch := omega) only [gT, nbeq, Option.isSome_some, Option.getD_some, Bool.and_true, Bool.true_and, Bool.and_self, mX_some, bS, bN_if, bN_01, i1_01, i0_01, if_true, if_false, Bool.false_eq_true, false_and, and_false, and_true, true_and, and_self, Bool.or_false, Bool.false_or, Bool.or_true, Bool.true_or, Bool.false_and, Bool.and_false, decide_true, decide_false, L0, L1, L2, L3, L4, L5, L6, L7, L8, L9, L10, L11, L12, L13, L14, L15, L16, L17, L18, L19, L20, L21, L22, L23, L24, L25, L27, L33, L39, L40, L45, L48, L57, L60, L72, L90, L97, L98, L99, L100, L121, L122, L242, L255, L256, L580, L600, L1000, L1584, L1000000, Ln1, iN_add, iN_and, iN_or, iN_nd, iN_shl, iN_shr, iN_cl, iN_in, iN_mul, k85 w2, r85_0 w2, r85_1 w2, k87 w2, ile_n]
    · by_cases e : j = a + i
      · subst e
        rw [if_pos (by omega)]
        simp (disch := omega) only [si_ne, si_nk, si_eq]
      · have := z3 j hj
        simp (disch := omega) only [si_ne, si_nk, si_eq]
        rw [this]
        by_cases e2 : a ≤ j ∧ j < a + i
        · rw [if_pos e2, if_pos (by omega)]
        · rw [if_neg e2, if_neg (by omega)]) (fun z hP => by
    obtain ⟨u1, u3⟩ := z
    obtain ⟨z1, z2, z9, z3⟩ := hP
    have z1 : u1 = iN (a + (m - a)) := z1
    rw [show a + (m - a) = m by omega] at z1 z3
    subst z1
    refine ⟨(bN true, u3), ?_, rfl, z2, z9, z3⟩
    unfold f140_49 f140_76
    simp (disch := omega) only [gT, nbeq, Option.isSome_some, Option.getD_some, Bool.and_true, Bool.true_and, Bool.and_self, mX_some, bS, bN_if, bN_01, i1_01, i0_01, if_true, if_false, Bool.false_eq_true, false_and, and_false, and_true, true_and, and_self, Bool.or_false, Bool.false_or, Bool.or_true, Bool.true_or, Bool.false_and, Bool.and_false, decide_true, decide_false, L0, L1, L2, L3, L4, L5, L6, L7, L8, L9, L10, L11, L12, L13, L14, L15, L16, L17, L18, L19, L20, L21, L22, L23, L24, L25, L27, L33, L39, L40, L45, L48, L57, L60, L72, L90, L97, L98, L99, L100, L121, L122, L242, L255, L256, L580, L600, L1000, L1584, L1000000, Ln1, iN_add, iN_and, iN_or, iN_nd, iN_shl, iN_shr, iN_cl, iN_in, iN_mul, ile_p, bN_t]) (by omega) (s := (iN a, h)) ⟨rfl, Fr.rfl, fun _ _ => rfl, fun j hj => by
      show _ = iN (if a ≤ j ∧ j < a + 0 then x else P j)
      rw [if_neg (by omega)]; exact hp j hj⟩
  obtain ⟨⟨r, h'⟩, r1, r2, r3, r4⟩ := this
  have r2' : r = bN true := r2
  rw [r2'] at r1
  exact ⟨h', r1, r3, r4⟩
theorem t140 (w : Wd h) (h1 : 1 ≤ m) (hm : m ≤ 4) (he : e ≤ 8) (hp : ∀ i, i < m → P i ≤ 8 ∧ mI h 87 i = iN (P i)) : (atG e P (m - 1) = none ∧ f140 h 85 (iN e) (iN m) = some (bN false, h)) ∨ ∃ a h', atG e P (m - 1) = some a ∧ f140 h 85 (iN e) (iN m) = some (bN true, h') ∧ Fr (fun b => Nat.beq b 87) h h' ∧ (∀ j, m ≤ j → mI h' 87 j = mI h 87 j) ∧ ∀ i, i < m → mI h' 87 i = iN (if a ≤ i ∧ i < m then P a + 1 else P i) := by
  have := lp_run2 (body := f140_8 h 85 (iN e) (iN m)) (R := fun k (_ : Unit) s => s = iN (m - 1 - k)) (Q := fun (o : Option Nat) r => (o = none ∧ r = (bN false, h)) ∨ ∃ a h', o = some a ∧ r = (bN true, h') ∧ Fr (fun b => Nat.beq b 87) h h' ∧ (∀ j, m ≤ j → mI h' 87 j = mI h 87 j) ∧ ∀ i, i < m → mI h' 87 i = iN (if a ≤ i ∧ i < m then P a + 1 else P i)) (go := fun n _ _ => atG e P n) (m - 1) (fun n k x s hk hR => by
    have ek : m - 1 - k = n + 1 := by omega
    rw [ek] at hR
    subst hR
    obtain ⟨p6, pe⟩ := hp (n + 1) (by omega)
    by_cases d : P (n + 1) = e
    · left
      refine ⟨iN n, (), ?_, by rw [show m - 1 - (k + 1) = n by omega], ?_⟩
      · unfold f140_8
        simp (disch := omega) only [gT, nbeq, Option.isSome_some, Option.getD_some, Bool.and_true, Bool.true_and, Bool.and_self, mX_some, bS, bN_if, bN_01, i1_01, i0_01, if_true, if_false, Bool.false_eq_true, false_and, and_false, and_true, true_and, and_self, Bool.or_false, Bool.false_or, Bool.or_true, Bool.true_or, Bool.false_and, Bool.and_false, decide_true, decide_false, L0, L1, L2, L3, L4, L5, L6, L7, L8, L9, L10, L11, L12, L13, L14, L15, L16, L17, L18, L19, L20, L21, L22, L23, L24, L25, L27, L33, L39, L40, L45, L48, L57, L60, L72, L90, L97, L98, L99, L100, L121, L122, L242, L255, L256, L580, L600, L1000, L1584, L1000000, Ln1, iN_add, iN_and, iN_or, iN_nd, iN_shl, iN_shr, iN_cl, iN_in, iN_mul, k85 w, r85_0 w, r85_1 w, k87 w, ilt_n, ile_n, pe, ieq_p, iN_pj, pN_s]
      · show (if P (n + 1) = e then atG e P n else some (n + 1)) = atG e P n
        rw [if_pos d]
    · right
      obtain ⟨h', b1, b2, b3⟩ := t140f (P := P) (a := n + 1) (x := P (n + 1) + 1) w hm (by omega) (fun i hi => (hp i hi).2)
      refine ⟨(bN true, h'), ?_, Or.inr ⟨n + 1, h', ?_, rfl, b2, b3⟩⟩
      · unfold f140_8 f140_29
        simp (disch := omega) only [gT, nbeq, Option.isSome_some, Option.getD_some, Bool.and_true, Bool.true_and, Bool.and_self, mX_some, bS, bN_if, bN_01, i1_01, i0_01, if_true, if_false, Bool.false_eq_true, false_and, and_false, and_true, true_and, and_self, Bool.or_false, Bool.false_or, Bool.or_true, Bool.true_or, Bool.false_and, Bool.and_false, decide_true, decide_false, L0, L1, L2, L3, L4, L5, L6, L7, L8, L9, L10, L11, L12, L13, L14, L15, L16, L17, L18, L19, L20, L21, L22, L23, L24, L25, L27, L33, L39, L40, L45, L48, L57, L60, L72, L90, L97, L98, L99, L100, L121, L122, L242, L255, L256, L580, L600, L1000, L1584, L1000000, Ln1, iN_add, iN_and, iN_or, iN_nd, iN_shl, iN_shr, iN_cl, iN_in, iN_mul, k85 w, r85_0 w, r85_1 w, k87 w, ilt_n, ile_n, pe, ieq_n, ile_p, b1]
      · show (if P (n + 1) = e then atG e P n else some (n + 1)) = some (n + 1)
        rw [if_neg d]) (fun x s hR => by
    rw [Nat.sub_self] at hR
    subst hR
    refine ⟨(bN false, h), ?_, Or.inl ⟨rfl, rfl⟩⟩
    unfold f140_8 f140_29
    simp (disch := omega) only [gT, nbeq, Option.isSome_some, Option.getD_some, Bool.and_true, Bool.true_and, Bool.and_self, mX_some, bS, bN_if, bN_01, i1_01, i0_01, if_true, if_false, Bool.false_eq_true, false_and, and_false, and_true, true_and, and_self, Bool.or_false, Bool.false_or, Bool.or_true, Bool.true_or, Bool.false_and, Bool.and_false, decide_true, decide_false, L0, L1, L2, L3, L4, L5, L6, L7, L8, L9, L10, L11, L12, L13, L14, L15, L16, L17, L18, L19, L20, L21, L22, L23, L24, L25, L27, L33, L39, L40, L45, L48, L57, L60, L72, L90, L97, L98, L99, L100, L121, L122, L242, L255, L256, L580, L600, L1000, L1584, L1000000, Ln1, iN_add, iN_and, iN_or, iN_nd, iN_shl, iN_shr, iN_cl, iN_in, iN_mul, ilt_p, ile_p, ile_n, bN_f]) (by omega) (x0 := ()) (s := iN (m - 1)) (by rw [Nat.sub_zero])
  obtain ⟨r, r1, r2⟩ := this
  have ef : f140 h 85 (iN e) (iN m) = mLoop (f140_8 h 85 (iN e) (iN m)) mFuel (iN (m - 1)) := by
    unfold f140
    simp (disch := omega) only [gT, nbeq, Option.isSome_some, Option.getD_some, Bool.and_true, Bool.true_and, Bool.and_self, mX_some, bS, bN_if, bN_01, i1_01, i0_01, if_true, if_false, Bool.false_eq_true, false_and, and_false, and_true, true_and, and_self, Bool.or_false, Bool.false_or, Bool.or_true, Bool.true_or, Bool.false_and, Bool.and_false, decide_true, decide_false, L0, L1, L2, L3, L4, L5, L6, L7, L8, L9, L10, L11, L12, L13, L14, L15, L16, L17, L18, L19, L20, L21, L22, L23, L24, L25, L27, L33, L39, L40, L45, L48, L57, L60, L72, L90, L97, L98, L99, L100, L121, L122, L242, L255, L256, L580, L600, L1000, L1584, L1000000, Ln1, iN_add, iN_and, iN_or, iN_nd, iN_shl, iN_shr, iN_cl, iN_in, iN_mul, ilt_n, iN_sub]
  rw [ef]
  rcases r2 with ⟨r3, rfl⟩ | ⟨a, h', r3, rfl, r4, r5⟩
  · exact Or.inl ⟨r3, r1⟩
  · exact Or.inr ⟨a, h', r3, r1, r4, r5⟩
theorem t279f (w : Wd h) (hm : m ≤ 4) {a : Nat} {x : Nat} (ha : a ≤ m) (hp : ∀ i, i < m → mI h 214 i = iN (P i)) : ∃ h', mLoop (f279_46 193 (iN m) (iN x)) mFuel (iN a, h) = some (bN true, h') ∧ Fr (fun b => Nat.beq b 214) h h' ∧ (∀ j, m ≤ j → mI h' 214 j = mI h 214 j) ∧ ∀ i, i < m → mI h' 214 i = iN (if a ≤ i ∧ i < m then x else P i) := by
  have := lp_inv (body := f279_46 193 (iN m) (iN x)) (P := fun i z => z.1 = iN (a + i) ∧ Fr (fun b => Nat.beq b 214) h z.2 ∧ (∀ j, m ≤ j → mI z.2 214 j = mI h 214 j) ∧ ∀ j, j < m → mI z.2 214 j = iN (if a ≤ j ∧ j < a + i then x else P j)) (Q := fun r => r.1 = bN true ∧ Fr (fun b => Nat.beq b 214) h r.2 ∧ (∀ j, m ≤ j → mI r.2 214 j = mI h 214 j) ∧ ∀ j, j < m → mI r.2 214 j = iN (if a ≤ j ∧ j < m then x else P j)) (m - a) (fun i z hi hP => by
    obtain ⟨u1, u3⟩ := z
    obtain ⟨z1, z2, z9, z3⟩ := hP
    have z1 : u1 = iN (a + i) := z1
    have z2 : Fr (fun b => Nat.beq b 214) h u3 := z2
    subst z1
    have w2 := w.fr z2
    left
    refine ⟨(iN (a + i + 1), mSI u3 214 (a + i) (iN x)), ?_, rfl, z2.si (by decide), fun j hj => (by simp (disch := omega) only [si_ne, si_nk, si_eq]; exact z9 j hj), fun j hj => ?_⟩
    · unfold f279_46
      simp (disch := omega) only [gT, nbeq, Option.isSome_some, Option.getD_some, Bool.and_true, Bool.true_and, Bool.and_self, mX_some, bS, bN_if, bN_01, i1_01, i0_01, if_true, if_false, Bool.false_eq_true, false_and, and_false, and_true, true_and, and_self, Bool.or_false, Bool.false_or, Bool.or_true, Bool.true_or, Bool.false_and, Bool.and_false, decide_true, decide_false, L0, L1, L2, L3, L4, L5, L6, L7, L8, L9, L10, L11, L12, L13, L14, L15, L16, L17, L18, L19, L20, L21, L22, L23, L24, L25, L27, L33, L39, L40, L45, L48, L57, L60, L72, L90, L97, L98, L99, L100, L121, L122, L242, L255, L256, L580, L600, L1000, L1584, L1000000, Ln1, iN_add, iN_and, iN_or, iN_nd, iN_shl, iN_shr, iN_cl, iN_in, iN_mul, k193 w2, r193_1 w2, r193_2 w2, r193_3 w2, r193_4 w2, r193_5 w2, r193_6 w2, r193_7 w2, r193_8 w2, r193_18 w2, r193_19 w2, r193_32 w2, r193_33 w2, r193_34 w2, r193_36 w2, r193_38 w2, r193_39 w2, r193_40 w2, r193_42 w2, r193_45 w2, r193_46 w2, r193_47 w2, r193_48 w2, r193_49 w2, r193_50 w2, k214 w2, ile_n]
    · by_cases e : j = a + i
      · subst e
        rw [if_pos (by omega)]
        simp (disch := omega) only [si_ne, si_nk, si_eq]
      · have := z3 j hj
        simp (disch := omega) only [si_ne, si_nk, si_eq]
        rw [this]
        by_cases e2 : a ≤ j ∧ j < a + i
        · rw [if_pos e2, if_pos (by omega)]
        · rw [if_neg e2, if_neg (by omega)]) (fun z hP => by
    obtain ⟨u1, u3⟩ := z
    obtain ⟨z1, z2, z9, z3⟩ := hP
    have z1 : u1 = iN (a + (m - a)) := z1
    rw [show a + (m - a) = m by omega] at z1 z3
    subst z1
    refine ⟨(bN true, u3), ?_, rfl, z2, z9, z3⟩
    unfold f279_46
    simp (disch := omega) only [gT, nbeq, Option.isSome_some, Option.getD_some, Bool.and_true, Bool.true_and, Bool.and_self, mX_some, bS, bN_if, bN_01, i1_01, i0_01, if_true, if_false, Bool.false_eq_true, false_and, and_false, and_true, true_and, and_self, Bool.or_false, Bool.false_or, Bool.or_true, Bool.true_or, Bool.false_and, Bool.and_false, decide_true, decide_false, L0, L1, L2, L3, L4, L5, L6, L7, L8, L9, L10, L11, L12, L13, L14, L15, L16, L17, L18, L19, L20, L21, L22, L23, L24, L25, L27, L33, L39, L40, L45, L48, L57, L60, L72, L90, L97, L98, L99, L100, L121, L122, L242, L255, L256, L580, L600, L1000, L1584, L1000000, Ln1, iN_add, iN_and, iN_or, iN_nd, iN_shl, iN_shr, iN_cl, iN_in, iN_mul, ile_p, bN_t]) (by omega) (s := (iN a, h)) ⟨rfl, Fr.rfl, fun _ _ => rfl, fun j hj => by
      show _ = iN (if a ≤ j ∧ j < a + 0 then x else P j)
      rw [if_neg (by omega)]; exact hp j hj⟩
  obtain ⟨⟨r, h'⟩, r1, r2, r3, r4⟩ := this
  have r2' : r = bN true := r2
  rw [r2'] at r1
  exact ⟨h', r1, r3, r4⟩
theorem t279 (w : Wd h) (e24 : mI h 193 24 = iN e) (h1 : 1 ≤ m) (hm : m ≤ 4) (he : e ≤ 8) (hp : ∀ i, i < m → P i ≤ 8 ∧ mI h 214 i = iN (P i)) : (atG e P (m - 1) = none ∧ f279 h 193 (iN m) = some (bN false, h)) ∨ ∃ a h', atG e P (m - 1) = some a ∧ f279 h 193 (iN m) = some (bN true, h') ∧ Fr (fun b => Nat.beq b 214) h h' ∧ (∀ j, m ≤ j → mI h' 214 j = mI h 214 j) ∧ ∀ i, i < m → mI h' 214 i = iN (if a ≤ i ∧ i < m then P a + 1 else P i) := by
  have := lp_run2 (body := f279_4 h 193 (iN m)) (R := fun k (_ : Unit) s => s = iN (m - 1 - k)) (Q := fun (o : Option Nat) r => (o = none ∧ r = (bN false, h)) ∨ ∃ a h', o = some a ∧ r = (bN true, h') ∧ Fr (fun b => Nat.beq b 214) h h' ∧ (∀ j, m ≤ j → mI h' 214 j = mI h 214 j) ∧ ∀ i, i < m → mI h' 214 i = iN (if a ≤ i ∧ i < m then P a + 1 else P i)) (go := fun n _ _ => atG e P n) (m - 1) (fun n k x s hk hR => by
    have ek : m - 1 - k = n + 1 := by omega
    rw [ek] at hR
    subst hR
    obtain ⟨p6, pe⟩ := hp (n + 1) (by omega)
    by_cases d : P (n + 1) = e
    · left
      refine ⟨iN n, (), ?_, by rw [show m - 1 - (k + 1) = n by omega], ?_⟩
      · unfold f279_4
        simp (disch := omega) only [gT, nbeq, Option.isSome_some, Option.getD_some, Bool.and_true, Bool.true_and, Bool.and_self, mX_some, bS, bN_if, bN_01, i1_01, i0_01, if_true, if_false, Bool.false_eq_true, false_and, and_false, and_true, true_and, and_self, Bool.or_false, Bool.false_or, Bool.or_true, Bool.true_or, Bool.false_and, Bool.and_false, decide_true, decide_false, L0, L1, L2, L3, L4, L5, L6, L7, L8, L9, L10, L11, L12, L13, L14, L15, L16, L17, L18, L19, L20, L21, L22, L23, L24, L25, L27, L33, L39, L40, L45, L48, L57, L60, L72, L90, L97, L98, L99, L100, L121, L122, L242, L255, L256, L580, L600, L1000, L1584, L1000000, Ln1, iN_add, iN_and, iN_or, iN_nd, iN_shl, iN_shr, iN_cl, iN_in, iN_mul, k193 w, r193_1 w, r193_2 w, r193_3 w, r193_4 w, r193_5 w, r193_6 w, r193_7 w, r193_8 w, r193_18 w, r193_19 w, r193_32 w, r193_33 w, r193_34 w, r193_36 w, r193_38 w, r193_39 w, r193_40 w, r193_42 w, r193_45 w, r193_46 w, r193_47 w, r193_48 w, r193_49 w, r193_50 w, k214 w, ilt_n, ile_n, pe, ieq_p, iN_pj, pN_s, e24]
      · show (if P (n + 1) = e then atG e P n else some (n + 1)) = atG e P n
        rw [if_pos d]
    · right
      obtain ⟨h', b1, b2, b3⟩ := t279f (P := P) (a := n + 1) (x := P (n + 1) + 1) w hm (by omega) (fun i hi => (hp i hi).2)
      refine ⟨(bN true, h'), ?_, Or.inr ⟨n + 1, h', ?_, rfl, b2, b3⟩⟩
      · unfold f279_4 f279_27
        simp (disch := omega) only [gT, nbeq, Option.isSome_some, Option.getD_some, Bool.and_true, Bool.true_and, Bool.and_self, mX_some, bS, bN_if, bN_01, i1_01, i0_01, if_true, if_false, Bool.false_eq_true, false_and, and_false, and_true, true_and, and_self, Bool.or_false, Bool.false_or, Bool.or_true, Bool.true_or, Bool.false_and, Bool.and_false, decide_true, decide_false, L0, L1, L2, L3, L4, L5, L6, L7, L8, L9, L10, L11, L12, L13, L14, L15, L16, L17, L18, L19, L20, L21, L22, L23, L24, L25, L27, L33, L39, L40, L45, L48, L57, L60, L72, L90, L97, L98, L99, L100, L121, L122, L242, L255, L256, L580, L600, L1000, L1584, L1000000, Ln1, iN_add, iN_and, iN_or, iN_nd, iN_shl, iN_shr, iN_cl, iN_in, iN_mul, k193 w, r193_1 w, r193_2 w, r193_3 w, r193_4 w, r193_5 w, r193_6 w, r193_7 w, r193_8 w, r193_18 w, r193_19 w, r193_32 w, r193_33 w, r193_34 w, r193_36 w, r193_38 w, r193_39 w, r193_40 w, r193_42 w, r193_45 w, r193_46 w, r193_47 w, r193_48 w, r193_49 w, r193_50 w, k214 w, ilt_n, ile_n, pe, ieq_n, ile_p, b1, e24]
      · show (if P (n + 1) = e then atG e P n else some (n + 1)) = some (n + 1)
        rw [if_neg d]) (fun x s hR => by
    rw [Nat.sub_self] at hR
    subst hR
    refine ⟨(bN false, h), ?_, Or.inl ⟨rfl, rfl⟩⟩
    unfold f279_4 f279_27
    simp (disch := omega) only [gT, nbeq, Option.isSome_some, Option.getD_some, Bool.and_true, Bool.true_and, Bool.and_self, mX_some, bS, bN_if, bN_01, i1_01, i0_01, if_true, if_false, Bool.false_eq_true, false_and, and_false, and_true, true_and, and_self, Bool.or_false, Bool.false_or, Bool.or_true, Bool.true_or, Bool.false_and, Bool.and_false, decide_true, decide_false, L0, L1, L2, L3, L4, L5, L6, L7, L8, L9, L10, L11, L12, L13, L14, L15, L16, L17, L18, L19, L20, L21, L22, L23, L24, L25, L27, L33, L39, L40, L45, L48, L57, L60, L72, L90, L97, L98, L99, L100, L121, L122, L242, L255, L256, L580, L600, L1000, L1584, L1000000, Ln1, iN_add, iN_and, iN_or, iN_nd, iN_shl, iN_shr, iN_cl, iN_in, iN_mul, ilt_p, ile_p, ile_n, bN_f]) (by omega) (x0 := ()) (s := iN (m - 1)) (by rw [Nat.sub_zero])
  obtain ⟨r, r1, r2⟩ := this
  have ef : f279 h 193 (iN m) = mLoop (f279_4 h 193 (iN m)) mFuel (iN (m - 1)) := by
    unfold f279
    simp (disch := omega) only [gT, nbeq, Option.isSome_some, Option.getD_some, Bool.and_true, Bool.true_and, Bool.and_self, mX_some, bS, bN_if, bN_01, i1_01, i0_01, if_true, if_false, Bool.false_eq_true, false_and, and_false, and_true, true_and, and_self, Bool.or_false, Bool.false_or, Bool.or_true, Bool.true_or, Bool.false_and, Bool.and_false, decide_true, decide_false, L0, L1, L2, L3, L4, L5, L6, L7, L8, L9, L10, L11, L12, L13, L14, L15, L16, L17, L18, L19, L20, L21, L22, L23, L24, L25, L27, L33, L39, L40, L45, L48, L57, L60, L72, L90, L97, L98, L99, L100, L121, L122, L242, L255, L256, L580, L600, L1000, L1584, L1000000, Ln1, iN_add, iN_and, iN_or, iN_nd, iN_shl, iN_shr, iN_cl, iN_in, iN_mul, ilt_n, iN_sub]
  rw [ef]
  rcases r2 with ⟨r3, rfl⟩ | ⟨a, h', r3, rfl, r4, r5⟩
  · exact Or.inl ⟨r3, r1⟩
  · exact Or.inr ⟨a, h', r3, r1, r4, r5⟩

end NB
