/-! Stores, rows, new cells. -/
def mXok (X : mH → Prop) : Prop := ∀ h h' : mH, (∀ a j, 1000000 ≤ a → h'.2.1 a j = h.2.1 a j) → X h → X h'
theorem is01w {v : Int32} (h : mIs01 v = true) : v = 0 ∨ v = 1 := by
  unfold mIs01 at h
  rcases Bool.or_eq_true_iff.mp h with h | h
  · exact Or.inl (by simpa using h)
  · exact Or.inr (by simpa using h)
theorem fit_int {ty : FieldType} (h : tOK 0 ty = true) (v : Int32) : narrow ty (.int v) = .int v ∧ fits ty (.int v) = true := by
  cases ty <;> first | exact ⟨rfl, rfl⟩ | cases h
theorem fit_bool {ty : FieldType} (h : tOK 1 ty = true) {v : Int32} (hv : mIs01 v = true) : narrow ty (.int v) = .int v ∧ fits ty (.int v) = true := by
  cases ty <;> first | cases h | skip
  rcases is01w hv with rfl | rfl <;> exact ⟨rfl, rfl⟩
theorem fit_long {ty : FieldType} (h : tOK 2 ty = true) (v : Int64) : narrow ty (.long v) = .long v ∧ fits ty (.long v) = true := by
  cases ty <;> first | exact ⟨rfl, rfl⟩ | cases h
theorem fit_ref {ty : FieldType} (h : tOK 3 ty = true) (v : Nat) : narrow ty (.ref v) = .ref v ∧ fits ty (.ref v) = true := by
  cases ty <;> first | exact ⟨rfl, rfl⟩ | cases h
theorem mIn_of {i : Int32} {n : Nat} (h : mIn i n = true) : vp_in i n := by
  unfold mIn at h
  unfold vp_in
  exact of_decide_eq_true h
section HP
variable {p : Program} {l : Launch} {e : Env} {R : Room} {s : State} {m : MethodId} {args : Array Value} {below : List Frame} {meth : Method} {c : Code} {Q : State → Prop} {D : va_G} {cA : Nat → ClassId} {ρ : Nat → Nat} {B : Nat} {adV : Nat → Nat} {c0 s0 y : Nat} {X : mH → Prop} {en : mE} {f f' : mF} {h h' : mH} {ok : Bool}
theorem ms_put {idx : Nat} (C : mCx p R s m args meth c D cA ρ B adV c0 y) (hXo : mXok X) (hd : decode (yBy y) f.1 = .ok (.putfield idx, 3)) (hn : en.2.1 = 3) (hlk : fL.any (fun q => Nat.beq q.1 (yO y) && Nat.beq q.2.1 idx && Nat.beq q.2.2.1 en.2.2.1.1 && Nat.beq q.2.2.2.1 en.2.2.1.2.1) = true) (hty : Nat.beq (kFd en.2.2.1.1 en.2.2.1.2.1).2.2.2.1 en.2.2.1.2.2 = true) (hfn : (!(kFd en.2.2.1.1 en.2.2.1.2.1).2.2.1 || (Nat.beq (yKd y) 2 && Nat.beq (yO y) en.2.2.1.1)) = true) (hon : ∀ ci, ci < 13 → oN ci = kN ci) (hs : mPut en f h = (f', h', true)) (K : Wm p l e R s m args below meth c Q D cA ρ B c0 s0 y X f' h') : Wm p l e R s m args below meth c Q D cA ρ B c0 s0 y X f h := by
  obtain ⟨hx, hb, hml, hown, hts, hK, hρ, hB, hini, hfr, hlo, hex⟩ := C
  obtain ⟨i, n, ⟨ci, j, t⟩, v⟩ := en
  obtain ⟨pc, ls, st⟩ := f
  simp only at hlk hty hn hd hfn
  subst hn
  obtain ⟨hw, hj, hci⟩ := fL_of hlk
  have ht := kt_at hj (Nat.eq_of_beq_eq_true hty)
  have hok := (k_all hci hj).2.2
  rw [Nat.eq_of_beq_eq_true hty] at hok
  have key : ∀ (a : Nat) (w : Value) (h1 : mH) (H : Heap) (locs : List Loc) (as : Array Slot) (rest : List Value), h1.1 = h.1 → eV ρ h1 a j t = w → (∀ j', j' ≠ j → ∀ t', eV ρ h1 a j' t' = eV ρ h a j' t') → (∀ b, b ≠ a → ∀ k', eCe cA ρ h1 b k' = eCe cA ρ h b k') → Nat.beq (mK h a).1 ci = true → narrow (kY ci j) w = w ∧ fits (kY ci j) w = true → mRel D cA ρ B s.heap h H locs →
      (∀ (H1 : Heap) (locs1 : List Loc), mRel D cA ρ B s.heap h1 H1 locs1 → W p l e R s m args below meth c H1 locs1 (h.1.length - c0) (mS h - s0) Q (F0 m (pc + 3) as rest)) → W p l e R s m args below meth c H locs (h.1.length - c0) (mS h - s0) Q (F0 m pc as (w :: .ref (ρ a) :: rest)) := by
    intro a w h1 H locs as rest hK1 hev hnj hnb hk2 hnf hr kk
    have hk := mK_at hk2 (by omega)
    have he := eW_at (cA := cA) (ρ := ρ) hk
    rw [eC_obj (by omega)] at he
    have hD : va_D (fun q => B ≤ q) (eW cA ρ h) := eW_D hρ hr.2.2
    have hl : j < ((kt ci).mapIdx (fun j t => eV ρ h a j t)).length := by rw [List.length_mapIdx, kt_len]; exact hj
    have hset : (eW cA ρ h).set a (ρ a, .inr (ci, ((kt ci).mapIdx (fun j t => eV ρ h a j t)).set j w)) = eW cA ρ h1 := by
      refine eW_set hK1 hk ?_ hnb
      rw [eC_obj (by omega), eF_set ht hev hnj]
    have kk2 : ∀ (H1 : Heap) (locs1 : List Loc), va_P D classes ((eW cA ρ h).set a (ρ a, .inr (ci, ((kt ci).mapIdx (fun j t => eV ρ h a j t)).set j w))) H1 → va_D (fun q => B ≤ q) ((eW cA ρ h).set a (ρ a, .inr (ci, ((kt ci).mapIdx (fun j t => eV ρ h a j t)).set j w))) → va_S (fun q => B ≤ q) s.heap H1 locs1 → W p l e R s m args below meth c H1 locs1 (h.1.length - c0) (mS h - s0) Q (F0 m (pc + 3) as rest) := by
      intro H1 locs1 hP1 _ hS1
      rw [hset] at hP1
      exact kk H1 locs1 ⟨hP1, hS1, by rw [hK1]; exact hr.2.2⟩
    by_cases hfin : (kFd ci j).2.2.1 = true
    · rw [hfin] at hfn
      simp only [Bool.not_true, Bool.false_or, Bool.and_eq_true] at hfn
      have ho : yO y = ci := Nat.eq_of_beq_eq_true hfn.2
      exact va_putF (C := kN ci) (T := kT ci) (N := (kF ci).length) (ref := kN ci) (own := oN (yO y)) (index := idx) hx hb hts (k_in hci) (kY ci) (k_ty hci) (kNm_all ci hci) hown hK hr.1 hD hr.2.1 a he (cl_at hci) j hj (hts _ hw) (fun _ q => q) hfin (hini (Nat.eq_of_beq_eq_true hfn.1)) (by rw [ho, hon ci hci]; rfl) (k_ty hci j hj) hnf.1 hnf.2 hl hd kk2
    · exact va_put (C := kN ci) (T := kT ci) (N := (kF ci).length) (ref := kN ci) (own := oN (yO y)) (index := idx) hx hb hts (k_in hci) (kY ci) (k_ty hci) (kNm_all ci hci) hown hK hr.1 hD hr.2.1 a he (cl_at hci) j hj (hts _ hw) (fun _ q => q) (show (kFd ci j).2.2.1 = false by simpa using hfin) (k_ty hci j hj) hnf.1 hnf.2 hl hd kk2
  have small : ∀ a, Nat.beq (mK h a).1 ci = true → h.1.length ≤ 1000000 → ∀ (b : Nat), 1000000 ≤ b → b ≠ a := by
    intro a hk2 hl b hb
    have := (List.getElem?_eq_some_iff.mp (mK_at hk2 (by omega))).1
    omega
  unfold mPut at hs
  simp only at hs
  split at hs
  next _ v a st =>
    rcases t with _ | _ | t
    · obtain ⟨rfl, rfl, hb2⟩ := tri hs
      intro H locs as hl hr hX
      refine key a (.int v) (mSI h a j v) H locs as _ rfl ?_ ?_ ?_ hb2 (fit_int hok v) hr ?_
      · simp only [eV, mI, mSI, mU_eq]
      · intro j' hj' t'
        simp only [eV, mI, mR, mL, mSI, mU_nj hj']
      · intro b hb' k'
        exact eC_congr (fun i => mU_ne hb') (fun i => rfl) (fun i => rfl)
      · intro H1 locs1 hr1
        exact K H1 locs1 as hl hr1 (hXo h _ (fun b i hbb => mU_ne (small a hb2 hr.2.2 b hbb)) hX)
    · obtain ⟨rfl, rfl, hb2⟩ := tri hs
      rw [Bool.and_eq_true] at hb2
      intro H locs as hl hr hX
      refine key a (.int v) (mSI h a j v) H locs as _ rfl ?_ ?_ ?_ hb2.1 (fit_bool hok hb2.2) hr ?_
      · simp only [eV, mI, mSI, mU_eq]
      · intro j' hj' t'
        simp only [eV, mI, mR, mL, mSI, mU_nj hj']
      · intro b hb' k'
        exact eC_congr (fun i => mU_ne hb') (fun i => rfl) (fun i => rfl)
      · intro H1 locs1 hr1
        exact K H1 locs1 as hl hr1 (hXo h _ (fun b i hbb => mU_ne (small a hb2.1 hr.2.2 b hbb)) hX)
    · exact absurd (tri hs).2.2 (by decide)
  next _ v a st =>
    rcases t with _ | _ | _ | t
    · exact absurd (tri hs).2.2 (by decide)
    · exact absurd (tri hs).2.2 (by decide)
    · obtain ⟨rfl, rfl, hb2⟩ := tri hs
      intro H locs as hl hr hX
      refine key a (.long v) (mSL h a j v) H locs as _ rfl ?_ ?_ ?_ hb2 (fit_long hok v) hr ?_
      · simp only [eV, mL, mSL, mU_eq]
      · intro j' hj' t'
        simp only [eV, mI, mR, mL, mSL, mU_nj hj']
      · intro b hb' k'
        exact eC_congr (fun i => rfl) (fun i => rfl) (fun i => mU_ne hb')
      · intro H1 locs1 hr1
        exact K H1 locs1 as hl hr1 (hXo h _ (fun b i hbb => rfl) hX)
    · exact absurd (tri hs).2.2 (by decide)
  next _ v a st =>
    rcases t with _ | _ | _ | _ | t
    · exact absurd (tri hs).2.2 (by decide)
    · exact absurd (tri hs).2.2 (by decide)
    · exact absurd (tri hs).2.2 (by decide)
    · obtain ⟨rfl, rfl, hb2⟩ := tri hs
      intro H locs as hl hr hX
      refine key a (.ref (ρ v)) (mSR h a j (some v)) H locs as _ rfl ?_ ?_ ?_ hb2 (fit_ref hok (ρ v)) hr ?_
      · simp only [eV, mR, mSR, mU_eq]; rfl
      · intro j' hj' t'
        simp only [eV, mI, mR, mL, mSR, mU_nj hj']
      · intro b hb' k'
        exact eC_congr (fun i => rfl) (fun i => mU_ne hb') (fun i => rfl)
      · intro H1 locs1 hr1
        exact K H1 locs1 as hl hr1 (hXo h _ (fun b i hbb => rfl) hX)
    · exact absurd (tri hs).2.2 (by decide)
  next => exact absurd (tri hs).2.2 (by decide)
end HP
