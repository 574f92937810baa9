/-! Rows of ints, bytes, booleans, references. -/
theorem tyR_at {cA : Nat → ClassId} {ci : Nat} (h1 : 1 ≤ ci) (h2 : ci ≤ 4) : ∃ t0 : Nat, (tyL cA)[t0]? = some (cA (200 + ci), FieldType.object (kN ci)) := by
  rcases (by omega : ci = 1 ∨ ci = 2 ∨ ci = 3 ∨ ci = 4) with rfl | rfl | rfl | rfl
  · exact ⟨3, rfl⟩
  · exact ⟨4, rfl⟩
  · exact ⟨5, rfl⟩
  · exact ⟨6, rfl⟩
section AR
variable {p : Program} {l : Launch} {e : Env} {R : Room} {s : State} {m : MethodId} {args : Array Value} {below : List Frame} {meth : Method} {c : Code} {Q : State → Prop} {D : va_G} {cA : Nat → ClassId} {ρ : Nat → Nat} {B : Nat} {adV : Nat → Nat} {c0 s0 y : Nat} {X : mH → Prop} {en : mE} {f f' : mF} {h h' : mH} {ok : Bool}
/-- what the law's frame knows of its script -/
def mScr (s : State) (B y : Nat) (ρ : Nat → Nat) (X : mH → Prop) : Prop := y = 302 → ∃ (L : Nat) (xs : Nat → Int32), L < 2 ^ 31 ∧ va_X (ρ 2000000) L xs s s.heap ∧ ρ 2000000 < s.heap.size ∧ ρ 2000000 < B ∧ ∀ h, X h → (∀ j, h.2.1 2000000 j = xs j) ∧ h.2.1 2000001 0 = nI L
theorem ms_al {i0 : Instr} (hi0 : (i0 = .iaload ∧ (Nat.beq en.2.2.1.1 100 || (Nat.beq en.2.2.1.1 7 && Nat.beq y 302)) = true) ∨ (i0 = .baload ∧ (Nat.beq en.2.2.1.1 101 || Nat.beq en.2.2.1.1 102) = true)) (C : mCx p R s m args meth c D cA ρ B adV c0 y) (hZ : mScr s B y ρ X) (hd : decode (yBy y) f.1 = .ok (i0, 1)) (hn : en.2.1 = 1) (hs : mAl en f h = (f', h', true)) (K : Wm p l e R s m args below meth c Q D cA ρ B c0 s0 y X f' h') : Wm p l e R s m args below meth c Q D cA ρ B c0 s0 y X f h := by
  obtain ⟨hx, hb, hml, hown, hts, hK, hρ, hB, hini, hfr, hlo, hex⟩ := C
  obtain ⟨i, n, ⟨k, j, t⟩, v⟩ := en
  obtain ⟨pc, ls, st⟩ := f
  simp only at hn hd hi0
  subst hn
  unfold mAl at hs
  simp only at hs
  split at hs
  next _ i a st =>
    by_cases hk7 : k = 7
    · subst hk7
      obtain ⟨rfl, rfl, hb2⟩ := tri hs
      rw [Bool.and_eq_true] at hb2
      have ha := Nat.eq_of_beq_eq_true hb2.1
      subst ha
      have hy : y = 302 := by
        rcases hi0 with ⟨-, q⟩ | ⟨-, q⟩
        · simp at q; exact q
        · simp at q
      have hi1 : i0 = .iaload := by
        rcases hi0 with ⟨q, -⟩ | ⟨-, q⟩
        · exact q
        · simp at q
      subst hi1
      obtain ⟨L, xs, hL, hVX, hlt, hltB, hXX⟩ := hZ hy
      intro H locs as hl hr hX
      obtain ⟨e1, e2⟩ := hXX h hX
      have hin := mIn_of hb2.2
      simp only [mI] at hin
      rw [e2, nI_clamp hL] at hin
      have K2 := K H locs as hl hr hX
      simp only [mI, e1] at K2
      exact va_sld hx hb hVX hlt (Nat.not_le.mpr hltB) hr.2.1 hin hd K2
    · have hs2 : ((pc + 1, ls, Value.int (mI h a i.toNatClampNeg) :: st), h, Nat.beq (mK h a).1 k && mIn i (mK h a).2) = (f', h', true) := by
        rw [← hs]
        split
        · exact absurd rfl hk7
        · rfl
      obtain ⟨rfl, rfl, hb2⟩ := tri hs2
      rw [Bool.and_eq_true] at hb2
      have hkk : k = 100 ∨ k = 101 ∨ k = 102 := by
        rcases hi0 with ⟨-, q⟩ | ⟨-, q⟩
        · simp at q; rcases q with q | q
          · exact Or.inl q
          · exact absurd q.1 hk7
        · simp at q; exact Or.inr q
      have hk := mK_at hb2.1 (by omega)
      have he := eW_at (cA := cA) (ρ := ρ) hk
      rw [eC_int (by omega) (by omega)] at he
      have hin := mIn_of hb2.2
      intro H locs as hl hr hX
      rcases hi0 with ⟨rfl, q⟩ | ⟨rfl, q⟩
      · have h100 : k = 100 := by simp at q; rcases q with q | q; exact q; exact absurd q.1 hk7
        subst h100
        exact va_iald hx hb hK hr.1 a 0 he rfl hin hd (K H locs as hl hr hX)
      · simp at q
        rcases q with rfl | rfl
        · exact va_bald hx hb hK hr.1 a 1 he rfl hin hd (K H locs as hl hr hX)
        · exact va_zald hx hb hK hr.1 a 2 he rfl hin hd (K H locs as hl hr hX)
  next => exact absurd (tri hs).2.2 (by decide)
theorem eW_setI {a j k n : Nat} {v : Int32} (hk : h.1[a]? = some (k, n)) (h1 : 100 ≤ k) (h2 : k < 200) : (eW cA ρ h).set a (ρ a, .inl (cA k, n, .inl (upd (h.2.1 a) j v))) = eW cA ρ (mSI h a j v) := by
  refine eW_set (h := h) (h' := mSI h a j v) rfl hk ?_ (fun b hb k' => eC_congr (fun i => mU_ne hb) (fun i => rfl) (fun i => rfl))
  rw [eC_int h1 h2]
  congr 4
  funext q
  simp only [mSI, mU, upd]
  by_cases hq : q = j <;> simp [hq]
theorem small_of {a k : Nat} (hk2 : Nat.beq (mK h a).1 k = true) (hk9 : k ≠ 999) (hl : h.1.length ≤ 1000000) : ∀ (b : Nat), 1000000 ≤ b → b ≠ a := by
  intro b hb
  have := (List.getElem?_eq_some_iff.mp (mK_at hk2 hk9)).1
  omega
theorem ms_as (C : mCx p R s m args meth c D cA ρ B adV c0 y) (hXo : mXok X) (hk : Nat.beq en.2.2.1.1 100 = true) (hd : decode (yBy y) f.1 = .ok (.iastore, 1)) (hn : en.2.1 = 1) (hs : mAs (fun v => v) en f h = (f', h', true)) (K : Wm p l e R s m args below meth c Q D cA ρ B c0 s0 y X f' h') : Wm p l e R s m args below meth c Q D cA ρ B c0 s0 y X f h := by
  obtain ⟨hx, hb, hml, hown, hts, hK, hρ, hB, hini, hfr, hlo, hex⟩ := C
  obtain ⟨i, n, ⟨k, j, t⟩, v⟩ := en
  obtain ⟨pc, ls, st⟩ := f
  simp only at hn hd hk
  have hk := Nat.eq_of_beq_eq_true hk
  subst hn hk
  unfold mAs at hs
  simp only at hs
  split at hs
  next _ v i a st =>
    obtain ⟨rfl, rfl, hb2⟩ := tri hs
    rw [Bool.and_eq_true] at hb2
    have hk := mK_at hb2.1 (by omega)
    have he := eW_at (cA := cA) (ρ := ρ) hk
    rw [eC_int (by omega) (by omega)] at he
    intro H locs as hl hr hX
    refine va_iast hx hb hK hr.1 (eW_D hρ hr.2.2) hr.2.1 a 0 he rfl (mIn_of hb2.2) hd (fun H1 locs1 hP1 _ hS1 => ?_)
    rw [eW_setI hk (by omega) (by omega)] at hP1
    exact K H1 locs1 as hl ⟨hP1, hS1, hr.2.2⟩ (hXo h _ (fun b i hbb => mU_ne (small_of hb2.1 (by omega) hr.2.2 b hbb)) hX)
  next => exact absurd (tri hs).2.2 (by decide)
theorem ms_bas (C : mCx p R s m args meth c D cA ρ B adV c0 y) (hXo : mXok X) (hd : decode (yBy y) f.1 = .ok (.bastore, 1)) (hn : en.2.1 = 1) (hk : (Nat.beq en.2.2.1.1 101 || Nat.beq en.2.2.1.1 102) = true) (hi : en.1 = .bastore) (hs : mstep en f h = (f', h', true)) (K : Wm p l e R s m args below meth c Q D cA ρ B c0 s0 y X f' h') : Wm p l e R s m args below meth c Q D cA ρ B c0 s0 y X f h := by
  obtain ⟨hx, hb, hml, hown, hts, hK, hρ, hB, hini, hfr, hlo, hex⟩ := C
  obtain ⟨i, n, ⟨k, j, t⟩, v⟩ := en
  obtain ⟨pc, ls, st⟩ := f
  simp only at hn hd hi hk
  subst hn hi
  rcases Bool.or_eq_true_iff.mp hk with hk | hk <;> (have hk := Nat.eq_of_beq_eq_true hk; subst hk)
  · change mAs (fun v => v.toInt8.toInt32) (Instr.bastore, 1, (101, j, t), v) (pc, ls, st) h = (f', h', true) at hs
    unfold mAs at hs
    simp only at hs
    split at hs
    next _ v i a st =>
      obtain ⟨rfl, rfl, hb2⟩ := tri hs
      rw [Bool.and_eq_true] at hb2
      have hk := mK_at hb2.1 (by omega)
      have he := eW_at (cA := cA) (ρ := ρ) hk
      rw [eC_int (by omega) (by omega)] at he
      intro H locs as hl hr hX
      refine va_bast hx hb hK hr.1 (eW_D hρ hr.2.2) hr.2.1 a 1 he rfl (mIn_of hb2.2) hd (fun H1 locs1 hP1 _ hS1 => ?_)
      rw [vp_nar_byte, eW_setI hk (by omega) (by omega)] at hP1
      exact K H1 locs1 as hl ⟨hP1, hS1, hr.2.2⟩ (hXo h _ (fun b i hbb => mU_ne (small_of hb2.1 (by omega) hr.2.2 b hbb)) hX)
    next => exact absurd (tri hs).2.2 (by decide)
  · simp only [mstep] at hs
    split at hs
    next _ v i a st =>
      obtain ⟨rfl, rfl, hb2⟩ := tri hs
      rw [Bool.and_eq_true, Bool.and_eq_true] at hb2
      have hk := mK_at hb2.1.1 (by omega)
      have he := eW_at (cA := cA) (ρ := ρ) hk
      rw [eC_int (by omega) (by omega)] at he
      have hv : vp_nar .boolean v = v := by rcases is01w hb2.2 with rfl | rfl <;> rfl
      intro H locs as hl hr hX
      refine va_zast hx hb hK hr.1 (eW_D hρ hr.2.2) hr.2.1 a 2 he rfl (mIn_of hb2.1.2) hd (fun H1 locs1 hP1 _ hS1 => ?_)
      rw [hv, eW_setI hk (by omega) (by omega)] at hP1
      exact K H1 locs1 as hl ⟨hP1, hS1, hr.2.2⟩ (hXo h _ (fun b i hbb => mU_ne (small_of hb2.1.1 (by omega) hr.2.2 b hbb)) hX)
    next => exact absurd (tri hs).2.2 (by decide)
theorem ms_len (C : mCx p R s m args meth c D cA ρ B adV c0 y) (hZ : mScr s B y ρ X) (hd : decode (yBy y) f.1 = .ok (.arraylength, 1)) (hn : en.2.1 = 1) (hi : en.1 = .arraylength) (hk : ((Nat.ble 100 en.2.2.1.1 && Nat.ble en.2.2.1.1 102) || (Nat.beq en.2.2.1.1 7 && Nat.beq y 302)) = true) (hs : mstep en f h = (f', h', true)) (K : Wm p l e R s m args below meth c Q D cA ρ B c0 s0 y X f' h') : Wm p l e R s m args below meth c Q D cA ρ B c0 s0 y X f h := by
  obtain ⟨hx, hb, hml, hown, hts, hK, hρ, hB, hini, hfr, hlo, hex⟩ := C
  obtain ⟨i, n, ⟨k, j, t⟩, v⟩ := en
  obtain ⟨pc, ls, st⟩ := f
  simp only at hn hd hi hk
  subst hn hi
  simp only [mstep] at hs
  split at hs
  next _ a st =>
    by_cases hk7 : k = 7
    · subst hk7
      obtain ⟨rfl, rfl, hb2⟩ := tri hs
      have ha := Nat.eq_of_beq_eq_true hb2
      subst ha
      have hy : y = 302 := by simp at hk; exact hk
      obtain ⟨L, xs, hL, hVX, hlt, hltB, hXX⟩ := hZ hy
      intro H locs as hl hr hX
      obtain ⟨e1, e2⟩ := hXX h hX
      have K2 := K H locs as hl hr hX
      simp only [mI, e2] at K2
      exact va_slen hx hb hVX hlt (Nat.not_le.mpr hltB) hr.2.1 hd K2
    · have hs2 : ((pc + 1, ls, Value.int (Int32.ofNat (mK h a).2) :: st), h, Nat.beq (mK h a).1 k) = (f', h', true) := by
        rw [← hs]
        split
        · exact absurd rfl hk7
        · rfl
      obtain ⟨rfl, rfl, hb2⟩ := tri hs2
      have hkk : k = 100 ∨ k = 101 ∨ k = 102 := by
        simp at hk
        rcases hk with hk | hk
        · omega
        · exact absurd hk.1 hk7
      have hk := mK_at hb2 (by omega)
      have he := eW_at (cA := cA) (ρ := ρ) hk
      rw [eC_int (by omega) (by omega)] at he
      intro H locs as hl hr hX
      rcases hkk with rfl | rfl | rfl
      · exact va_alen hx hb hK hr.1 a 0 he rfl rfl hd (K H locs as hl hr hX)
      · exact va_alen hx hb hK hr.1 a 1 he rfl rfl hd (K H locs as hl hr hX)
      · exact va_alen hx hb hK hr.1 a 2 he rfl rfl hd (K H locs as hl hr hX)
  next => exact absurd (tri hs).2.2 (by decide)
theorem ms_aal (C : mCx p R s m args meth c D cA ρ B adV c0 y) (hd : decode (yBy y) f.1 = .ok (.aaload, 1)) (hn : en.2.1 = 1) (hi : en.1 = .aaload) (hk : (Nat.ble 201 en.2.2.1.1 && Nat.ble en.2.2.1.1 204) = true) (hs : mstep en f h = (f', h', true)) (K : Wm p l e R s m args below meth c Q D cA ρ B c0 s0 y X f' h') : Wm p l e R s m args below meth c Q D cA ρ B c0 s0 y X f h := by
  obtain ⟨hx, hb, hml, hown, hts, hK, hρ, hB, hini, hfr, hlo, hex⟩ := C
  obtain ⟨i, n, ⟨k, j, t⟩, v⟩ := en
  obtain ⟨pc, ls, st⟩ := f
  simp only at hn hd hi hk
  subst hn hi
  simp only [mstep] at hs
  split at hs
  next _ i a st =>
    obtain ⟨rfl, rfl, hb2⟩ := tri hs
    rw [Bool.and_eq_true, Bool.and_eq_true] at hb2
    simp at hk
    have hk2 := mK_at hb2.1.1 (by omega)
    have he := eW_at (cA := cA) (ρ := ρ) hk2
    rw [eC_ref (by omega)] at he
    obtain ⟨ci, rfl⟩ : ∃ ci, k = 200 + ci := ⟨k - 200, by omega⟩
    obtain ⟨t0, ht0⟩ := tyR_at (cA := cA) (ci := ci) (by omega) (by omega)
    obtain ⟨q, hq⟩ := Option.isSome_iff_exists.mp hb2.2
    intro H locs as hl hr hX
    have K2 := K H locs as hl hr hX
    rw [hq] at K2
    refine va_aldq hx hb hK hr.1 a t0 he ht0 (mIn_of hb2.1.2) hd ?_
    rw [hq]
    exact K2
  next => exact absurd (tri hs).2.2 (by decide)
theorem ms_aas (C : mCx p R s m args meth c D cA ρ B adV c0 y) (hXo : mXok X) (hd : decode (yBy y) f.1 = .ok (.aastore, 1)) (hn : en.2.1 = 1) (hi : en.1 = .aastore) (hk : (Nat.ble 201 en.2.2.1.1 && Nat.ble en.2.2.1.1 204) = true) (hs : mstep en f h = (f', h', true)) (K : Wm p l e R s m args below meth c Q D cA ρ B c0 s0 y X f' h') : Wm p l e R s m args below meth c Q D cA ρ B c0 s0 y X f h := by
  obtain ⟨hx, hb, hml, hown, hts, hK, hρ, hB, hini, hfr, hlo, hex⟩ := C
  obtain ⟨i, n, ⟨k, j, t⟩, v⟩ := en
  obtain ⟨pc, ls, st⟩ := f
  simp only at hn hd hi hk
  subst hn hi
  simp only [mstep] at hs
  split at hs
  next _ v i a st =>
    obtain ⟨rfl, rfl, hb2⟩ := tri hs
    rw [Bool.and_eq_true, Bool.and_eq_true] at hb2
    simp at hk
    have hk2 := mK_at hb2.1.1 (by omega)
    have he := eW_at (cA := cA) (ρ := ρ) hk2
    rw [eC_ref (by omega)] at he
    obtain ⟨ci, rfl⟩ : ∃ ci, k = 200 + ci := ⟨k - 200, by omega⟩
    have hvk : 200 + (mK h v).1 = 200 + ci := Nat.eq_of_beq_eq_true hb2.1.2
    have hv1 : Nat.beq (mK h v).1 ci = true := by
      have : (mK h v).1 = ci := by omega
      rw [this]; exact Nat.beq_refl _
    have hv2 := mK_at hv1 (by omega)
    have hev := eW_at (cA := cA) (ρ := ρ) hv2
    rw [eC_obj (by omega)] at hev
    obtain ⟨t0, ht0⟩ := tyR_at (cA := cA) (ci := ci) (by omega) (by omega)
    intro H locs as hl hr hX
    refine va_astq (r := (kN ci, kT ci, (kF ci).length)) hx hb hK hr.1 (eW_D hρ hr.2.2) hr.2.1 a t0 v ci he ht0 hev (cl_at (ci := ci) (by omega)) (mIn_of hb2.2) hd (fun H1 locs1 hP1 _ hS1 => ?_)
    have e9 : (eW cA ρ h).set a (ρ a, .inl (cA (200 + ci), (mK h a).2, .inr (.inr (.inr (.inr (va_up (fun j => (mR h a j).map ρ) i.toNatClampNeg (some (ρ v)))))))) = eW cA ρ (mSR h a i.toNatClampNeg (some v)) := by
      refine eW_set (h := h) (h' := mSR h a i.toNatClampNeg (some v)) rfl hk2 ?_ (fun b hb k' => eC_congr (fun i => rfl) (fun i => mU_ne hb) (fun i => rfl))
      rw [eC_ref (by omega)]
      congr 7
      funext q
      simp only [mR, mSR, mU, va_up]
      by_cases hq : q = i.toNatClampNeg <;> simp [hq]
    rw [e9] at hP1
    exact K H1 locs1 as hl ⟨hP1, hS1, hr.2.2⟩ (hXo h _ (fun b i hbb => rfl) hX)
  next => exact absurd (tri hs).2.2 (by decide)
end AR
