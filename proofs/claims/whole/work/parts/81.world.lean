/-! The small machine's cells in the real heap: cell a lies at ρ a; ρ a = B + a below a million; beyond: constant texts, the law's script. -/
def tv (ρ : Nat → Nat) : Value → Value
  | .ref k => .ref (ρ k)
  | v => v
def eV (ρ : Nat → Nat) (h : mH) (a j t : Nat) : Value := match t with
  | 2 => .long (mL h a j)
  | 3 => va_rf ((mR h a j).map ρ)
  | _ => .int (mI h a j)
def eCe (cA : Nat → ClassId) (ρ : Nat → Nat) (h : mH) (a : Nat) (k : Nat × Nat) : va_E :=
  if k.1 < 100 then .inr (k.1, (kt k.1).mapIdx (fun j t => eV ρ h a j t))
  else if k.1 < 200 then .inl (cA k.1, k.2, .inl (h.2.1 a))
  else .inl (cA k.1, k.2, .inr (.inr (.inr (.inr (fun j => (mR h a j).map ρ)))))
def eW (cA : Nat → ClassId) (ρ : Nat → Nat) (h : mH) : va_W := h.1.mapIdx (fun a k => (ρ a, eCe cA ρ h a k))
def tyL (cA : Nat → ClassId) : List (ClassId × FieldType) := [(cA 100, .int), (cA 101, .byte), (cA 102, .boolean), (cA 201, .object (kN 1)), (cA 202, .object (kN 2)), (cA 203, .object (kN 3)), (cA 204, .object (kN 4))]
section EW
variable {cA : Nat → ClassId} {ρ : Nat → Nat} {h h' : mH} {a : Nat} {k : Nat × Nat} {B : Nat}
theorem eW_at (hk : h.1[a]? = some k) : (eW cA ρ h)[a]? = some (ρ a, eCe cA ρ h a k) := by
  simp [eW, List.getElem?_mapIdx, hk]
theorem eW_of {q : Nat × va_E} (hq : (eW cA ρ h)[a]? = some q) : ∃ k, h.1[a]? = some k ∧ q = (ρ a, eCe cA ρ h a k) := by
  simp only [eW, List.getElem?_mapIdx, Option.map_eq_some_iff] at hq
  obtain ⟨k, h1, h2⟩ := hq
  exact ⟨k, h1, h2.symm⟩
theorem eC_congr (hI : ∀ j, h'.2.1 a j = h.2.1 a j) (hR : ∀ j, h'.2.2.1 a j = h.2.2.1 a j) (hL : ∀ j, h'.2.2.2 a j = h.2.2.2 a j) : eCe cA ρ h' a k = eCe cA ρ h a k := by
  have e1 : h'.2.1 a = h.2.1 a := funext hI
  have e2 : h'.2.2.1 a = h.2.2.1 a := funext hR
  have e3 : h'.2.2.2 a = h.2.2.2 a := funext hL
  have e4 : (fun j t => eV ρ h' a j t) = (fun j t => eV ρ h a j t) := by
    funext j t
    simp only [eV, mL, mR, mI, e1, e2, e3]
  simp only [eCe, e1, e4, mR, e2]
theorem eW_set (hK : h'.1 = h.1) (hk : h.1[a]? = some k) {ev : va_E} (hev : eCe cA ρ h' a k = ev) (hne : ∀ b, b ≠ a → ∀ k', eCe cA ρ h' b k' = eCe cA ρ h b k') : (eW cA ρ h).set a (ρ a, ev) = eW cA ρ h' := by
  have hl : a < (eW cA ρ h).length := by
    simp only [eW, List.length_mapIdx]
    exact (List.getElem?_eq_some_iff.mp hk).1
  apply List.ext_getElem?
  intro b
  by_cases hb : b = a
  · subst hb
    rw [List.getElem?_set_self hl, eW_at (h := h') (by rw [hK]; exact hk), hev]
  · rw [List.getElem?_set_ne (Ne.symm hb)]
    simp only [eW, List.getElem?_mapIdx, hK]
    congr 1
    funext k'
    rw [hne b hb k']
theorem eW_push (hρ : True) (n ty : Nat) : eW cA ρ (mNw h ty n) = eW cA ρ h ++ [(ρ h.1.length, eCe cA ρ (mNw h ty n) h.1.length (ty, n))] := by
  apply List.ext_getElem?
  intro b
  have hlen : (eW cA ρ h).length = h.1.length := by simp [eW]
  by_cases hb : b < h.1.length
  · rw [List.getElem?_append_left (by omega)]
    simp only [eW, List.getElem?_mapIdx]
    have e : (mNw h ty n).1[b]? = h.1[b]? := by simp only [mNw]; exact List.getElem?_append_left hb
    rw [e]
    congr 1
    funext k'
    rw [eC_congr (h' := mNw h ty n) (h := h)]
    · intro j; simp [mNw, Nat.ne_of_lt hb]
    · intro j; simp [mNw, Nat.ne_of_lt hb]
    · intro j; simp [mNw, Nat.ne_of_lt hb]
  · rw [List.getElem?_append_right (by omega), hlen]
    by_cases hb2 : b = h.1.length
    · subst hb2
      simp [eW, List.getElem?_mapIdx, mNw]
    · have e1 : b - h.1.length ≠ 0 := by omega
      have e2 : (eW cA ρ (mNw h ty n)).length ≤ b := by simp [eW, mNw]; omega
      rw [List.getElem?_eq_none e2, List.getElem?_eq_none (by simp; omega)]
theorem eW_D (hρ : ∀ k, k < 1000000 → ρ k = B + k) (hl : h.1.length ≤ 1000000) : va_D (fun q => B ≤ q) (eW cA ρ h) := by
  refine ⟨fun i j p q hi hj hpq => ?_, fun i q hi => ?_⟩
  · obtain ⟨k1, e1, rfl⟩ := eW_of hi
    obtain ⟨k2, e2, rfl⟩ := eW_of hj
    have l1 := (List.getElem?_eq_some_iff.mp e1).1
    have l2 := (List.getElem?_eq_some_iff.mp e2).1
    have : ρ i = ρ j := hpq
    rw [hρ i (by omega), hρ j (by omega)] at this
    omega
  · obtain ⟨k1, e1, rfl⟩ := eW_of hi
    have l1 := (List.getElem?_eq_some_iff.mp e1).1
    show B ≤ ρ i
    rw [hρ i (by omega)]
    omega
theorem mK_at {n : Nat} (hk : Nat.beq (mK h a).1 n = true) (hn : n ≠ 999) : h.1[a]? = some (n, (mK h a).2) := by
  have e : (mK h a).1 = n := Nat.eq_of_beq_eq_true hk
  unfold mK at e ⊢
  rw [List.getD_eq_getElem?_getD] at e ⊢
  cases hx : h.1[a]? with
  | none => rw [hx] at e; exact absurd e.symm hn
  | some q => rw [hx] at e; simp only [Option.getD_some] at e ⊢; rw [← e]
theorem kt_at {ci j t : Nat} (hj : j < (kF ci).length) (ht : (kFd ci j).2.2.2.1 = t) : (kt ci)[j]? = some t := by
  unfold kt
  rw [List.getElem?_map, List.getElem?_eq_getElem hj, Option.map_some]
  unfold kFd at ht
  rw [List.getD_eq_getElem?_getD, List.getElem?_eq_getElem hj] at ht
  exact congrArg some ht
theorem kt_len (ci : Nat) : (kt ci).length = (kF ci).length := by simp [kt]
theorem eF_at {ci j t : Nat} (ht : (kt ci)[j]? = some t) : ((kt ci).mapIdx (fun j t => eV ρ h a j t))[j]? = some (eV ρ h a j t) := by
  simp [List.getElem?_mapIdx, ht]
theorem eF_set {ci j t : Nat} {v : Value} (ht : (kt ci)[j]? = some t) (hv : eV ρ h' a j t = v) (hne : ∀ j', j' ≠ j → ∀ t', eV ρ h' a j' t' = eV ρ h a j' t') : ((kt ci).mapIdx (fun j t => eV ρ h a j t)).set j v = (kt ci).mapIdx (fun j t => eV ρ h' a j t) := by
  have hl : j < (kt ci).length := (List.getElem?_eq_some_iff.mp ht).1
  apply List.ext_getElem?
  intro b
  by_cases hb : b = j
  · subst hb
    rw [List.getElem?_set_self (by simpa using hl), eF_at ht, hv]
  · rw [List.getElem?_set_ne (Ne.symm hb)]
    simp only [List.getElem?_mapIdx]
    congr 1
    funext t'
    rw [hne b hb t']
end EW
/-- locals -/
def mUs : Value → Bool
  | .int _ => true
  | .long _ => true
  | .ref _ => true
  | .null => true
  | _ => false
def mLs (ρ : Nat → Nat) (as : Array Slot) (nL : Nat) (ls : List Value) : Prop := ls.length = nL ∧ as.size = nL ∧ lv_wf as ∧ ∀ (i : Nat) (v : Value), ls[i]? = some v → mUs v = true → as[i]? = some (.val (tv ρ v))
def mPairs (ρ : Nat → Nat) (ls : List Value) : List (Nat × Value) := (List.range ls.length).filterMap (fun i => match ls[i]? with
  | some v => if mUs v = true then some (i, tv ρ v) else none
  | none => none)
theorem mPairs_mem {ρ : Nat → Nat} {ls : List Value} {i : Nat} {w : Value} : (i, w) ∈ mPairs ρ ls ↔ ∃ v, ls[i]? = some v ∧ mUs v = true ∧ tv ρ v = w := by
  unfold mPairs
  rw [List.mem_filterMap]
  constructor
  · rintro ⟨j, -, hj⟩
    cases hv : ls[j]? with
    | none => rw [hv] at hj; cases hj
    | some v =>
      rw [hv] at hj
      simp only at hj
      by_cases hu : mUs v = true
      · rw [if_pos hu] at hj
        cases hj
        exact ⟨v, hv, hu, rfl⟩
      · rw [if_neg hu] at hj; cases hj
  · rintro ⟨v, hv, hu, rfl⟩
    refine ⟨i, List.mem_range.mpr (List.getElem?_eq_some_iff.mp hv).1, ?_⟩
    rw [hv]
    simp only
    rw [if_pos hu]
theorem mLs.has {ρ : Nat → Nat} {as : Array Slot} {nL : Nat} {ls : List Value} (hl : mLs ρ as nL ls) : lv_has as nL (mPairs ρ ls) := by
  refine ⟨hl.2.1, hl.2.2.1, fun q hq => ?_⟩
  obtain ⟨v, h1, h2, h3⟩ := mPairs_mem.mp hq
  rw [hl.2.2.2 q.1 v h1 h2, h3]
theorem mLs.at {ρ : Nat → Nat} {as : Array Slot} {nL : Nat} {ls : List Value} (hl : mLs ρ as nL ls) {k : Nat} {v : Value} (hv : ls.getD k (.retAddr 0) = v) (hu : mUs v = true) : as[k]? = some (.val (tv ρ v)) := by
  rw [List.getD_eq_getElem?_getD] at hv
  cases hx : ls[k]? with
  | none => rw [hx] at hv; simp only [Option.getD_none] at hv; subst hv; cases hu
  | some w => rw [hx] at hv; simp only [Option.getD_some] at hv; subst hv; exact hl.2.2.2 k w hx hu
theorem tv_cat (ρ : Nat → Nat) (v : Value) : (tv ρ v).category = v.category := by cases v <;> rfl
theorem mClob_len (ls : List Value) (k : Nat) : (mClob ls k).length = ls.length := by
  unfold mClob
  split
  · rw [List.length_set]
  · rfl
theorem mClob_of {ls : List Value} {k j : Nat} {v : Value} (hj : j ≠ k) (h : (mClob ls k)[j]? = some v) (hu : mUs v = true) : ls[j]? = some v ∧ ¬ (j + 1 = k ∧ v.category = 2) := by
  unfold mClob at h
  split at h
  next x hx =>
    by_cases hjk : j = k - 1
    · subst hjk
      by_cases hl : k - 1 < ls.length
      · rw [List.getElem?_set_self hl] at h
        cases h
        cases hu
      · rw [List.getElem?_eq_none (by rw [List.length_set]; omega)] at h
        cases h
    · rw [List.getElem?_set_ne (Ne.symm hjk)] at h
      exact ⟨h, fun q => hjk (by omega)⟩
  next hx =>
    refine ⟨h, fun q => ?_⟩
    have e : k - 1 = j := by omega
    rw [e, List.getD_eq_getElem?_getD, h, Option.getD_some] at hx
    cases v <;> simp [Value.category] at q
    exact hx _ rfl
    cases hu
theorem mLs.st1 {ρ : Nat → Nat} {as as' : Array Slot} {nL : Nat} {ls : List Value} {k : Nat} {v : Value} (hl : mLs ρ as nL ls) (hk : k < nL) (h : lv_has as' nL ((k, tv ρ v) :: (mPairs ρ ls).filter (fun q => !(q.1 == k) && !(q.1 + 1 == k && q.2.category == 2)))) : mLs ρ as' nL (mSt1 ls k v) := by
  refine ⟨by rw [mSt1, List.length_set, mClob_len]; exact hl.1, h.1, h.2.1, fun i w hi hu => ?_⟩
  unfold mSt1 at hi
  by_cases hik : i = k
  · subst hik
    rw [List.getElem?_set_self (by rw [mClob_len, hl.1]; exact hk)] at hi
    cases hi
    exact h.2.2 (i, tv ρ v) List.mem_cons_self
  · rw [List.getElem?_set_ne (Ne.symm hik)] at hi
    obtain ⟨h1, h2⟩ := mClob_of hik hi hu
    refine h.2.2 (i, tv ρ w) (List.mem_cons_of_mem _ (List.mem_filter.mpr ⟨mPairs_mem.mpr ⟨w, h1, hu, rfl⟩, ?_⟩))
    simp only [tv_cat, Bool.and_eq_true, Bool.not_eq_true', beq_eq_false_iff_ne, ne_eq, Bool.and_eq_false_iff]
    refine ⟨hik, ?_⟩
    by_cases q : i + 1 = k
    · exact Or.inr (fun z => h2 ⟨q, z⟩)
    · exact Or.inl q
theorem mLs.st2 {ρ : Nat → Nat} {as as' : Array Slot} {nL : Nat} {ls : List Value} {k : Nat} {v : Value} (hl : mLs ρ as nL ls) (hk : k + 1 < nL) (h : lv_has as' nL ((k, tv ρ v) :: (mPairs ρ ls).filter (fun q => !(q.1 == k) && (!(q.1 == k + 1) && !(q.1 + 1 == k && q.2.category == 2))))) : mLs ρ as' nL (mSt2 ls k v) := by
  refine ⟨by rw [mSt2, List.length_set, List.length_set, mClob_len]; exact hl.1, h.1, h.2.1, fun i w hi hu => ?_⟩
  unfold mSt2 at hi
  by_cases hik1 : i = k + 1
  · subst hik1
    rw [List.getElem?_set_self (by rw [List.length_set, mClob_len, hl.1]; exact hk)] at hi
    cases hi
    cases hu
  · rw [List.getElem?_set_ne (Ne.symm hik1)] at hi
    by_cases hik : i = k
    · subst hik
      rw [List.getElem?_set_self (by rw [mClob_len, hl.1]; omega)] at hi
      cases hi
      exact h.2.2 (i, tv ρ v) List.mem_cons_self
    · rw [List.getElem?_set_ne (Ne.symm hik)] at hi
      obtain ⟨h1, h2⟩ := mClob_of hik hi hu
      refine h.2.2 (i, tv ρ w) (List.mem_cons_of_mem _ (List.mem_filter.mpr ⟨mPairs_mem.mpr ⟨w, h1, hu, rfl⟩, ?_⟩))
      simp only [tv_cat, Bool.and_eq_true, Bool.not_eq_true', beq_eq_false_iff_ne, ne_eq, Bool.and_eq_false_iff]
      refine ⟨hik, hik1, ?_⟩
      by_cases q : i + 1 = k
      · exact Or.inr (fun z => h2 ⟨q, z⟩)
      · exact Or.inl q
