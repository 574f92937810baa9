/-! New rows; max, min, abs, arraycopy, Object.<init>; switches. -/
theorem over_in {ci : Nat} (h1 : 1 ≤ ci) (h2 : ci ≤ 4) : Cond.arrayOver (.object (kN ci)) ∈ lw_tbl := by
  have h := w_over
  simp only [Bool.and_eq_true, decide_eq_true_eq] at h
  rcases (by omega : ci = 1 ∨ ci = 2 ∨ ci = 3 ∨ ci = 4) with rfl | rfl | rfl | rfl
  · exact wAt_in h.2
  · exact wAt_in h.1.1.1
  · exact wAt_in h.1.1.2
  · exact wAt_in h.1.2
section ME
variable {p : Program} {l : Launch} {e : Env} {R : Room} {s : State} {m : MethodId} {args : Array Value} {below : List Frame} {meth : Method} {c : Code} {Q : State → Prop} {D : va_G} {cA : Nat → ClassId} {ρ : Nat → Nat} {B : Nat} {adV : Nat → Nat} {c0 s0 y : Nat} {X : mH → Prop} {en : mE} {f f' : mF} {h h' : mH} {ok : Bool}
theorem ms_newa {at0 : ArrayType} (C : mCx p R s m args meth c D cA ρ B adV c0 y) (hXo : mXok X) (hd : decode (yBy y) f.1 = .ok (.newarray at0, 2)) (hn : en.2.1 = 2) (hi : en.1 = .newarray at0) (hk : eLk y f.1 en = true) (hg : mGr R c0 s0 h h') (hs : mstep en f h = (f', h', true)) (K : Wm p l e R s m args below meth c Q D cA ρ B c0 s0 y X f' h') : Wm p l e R s m args below meth c Q D cA ρ B c0 s0 y X f h := by
  obtain ⟨hx, hb, hml, hown, hts, hK, hρ, hB, hini, hfr, hlo, hex⟩ := C
  obtain ⟨i, n, ⟨k, j, t⟩, v⟩ := en
  obtain ⟨pc, ls, st⟩ := f
  simp only at hn hd hi
  subst hn hi
  simp only [mstep] at hs
  split at hs
  next _ i st =>
    obtain ⟨rfl, rfl, hb2⟩ := tri hs
    simp only [Bool.and_eq_true] at hb2
    have hlt : h.1.length < 1000000 := Nat.blt_eq.mp hb2.1.1
    have hi0 : ¬ i < 0 := of_decide_eq_true hb2.1.2
    have hsm : i.toNatClampNeg ≤ 100000 := Nat.le_of_ble_eq_true hb2.2
    obtain ⟨g1, g2, g3, g4⟩ := hg
    rw [len_nw] at g3
    rw [mS_nw] at g4
    have hρl := hρ h.1.length hlt
    have hw := w_arr
    simp only [Bool.and_eq_true, decide_eq_true_eq] at hw
    intro H locs as hl hr hX
    refine W.sz (fun hsz => ?_)
    have hsz := sz_eq hρ hr hB g1 hsz
    have fin : ∀ (H1 : Heap) (ck : ClassId), cA k = ck → 100 ≤ k → k < 200 → H1[B + h.1.length]? = some (arrV ck i.toNatClampNeg (fun _ => .int 0)) → H1.size = B + h.1.length + 1 → (∀ q, q < B + h.1.length → H1[q]? = H[q]?) → W p l e R s m args below meth c H1 locs (h.1.length - c0 + 1) (mS h - s0 + i.toNatClampNeg) Q (F0 m (pc + 2) as (.ref (B + h.1.length) :: st.map (tv ρ))) := by
      intro H1 ck hck hk1 hk2 e1 z1 o1
      have hrel : mRel D cA ρ B s.heap (mNw h k i.toNatClampNeg) H1 locs := by
        refine nw_rel hρ hr hlt hsz (by omega) (fun q hq => o1 q (by omega)) ?_
        rw [eC_int hk1 hk2, hρl]
        show H1[B + h.1.length]? = some (vp_cell _ _)
        rw [e1, vp_cell_i, hck]
        simp [mNw]
      have K2 := K H1 locs as hl hrel (nw_keep hlt hXo hX)
      refine W.cs2 ?_ ?_ (W.eq ?_ K2)
      · rw [len_nw]; omega
      · rw [mS_nw]; omega
      · show F0 m (pc + 2) as _ = F0 m (pc + 2) as _
        simp only [List.map_cons, tv, hρl]
    cases at0 <;> simp only [eLk, Bool.false_eq_true] at hk
    · have hk := Nat.eq_of_beq_eq_true hk
      refine va_newaK (atype := .boolean) hx hb (hts _ (mT_in (wAt_in hw.1.2) rfl)) rfl hd rfl hi0 rfl (by show _ * 1 ≤ _; omega) (by omega) (by omega) hsz (fun H1 ck e1 z1 o1 hA hf => fin H1 ck ?_ (by omega) (by omega) e1 z1 o1)
      have h2 := (hK.2 2 (cA 102, .boolean) rfl).2
      subst hk
      exact Option.some.inj (h2.symm.trans hf)
    · have hk := Nat.eq_of_beq_eq_true hk
      refine va_newaK (atype := .byte) hx hb (hts _ (mT_in (wAt_in hw.2) rfl)) rfl hd rfl hi0 rfl (by show _ * 1 ≤ _; omega) (by omega) (by omega) hsz (fun H1 ck e1 z1 o1 hA hf => fin H1 ck ?_ (by omega) (by omega) e1 z1 o1)
      have h2 := (hK.2 1 (cA 101, .byte) rfl).2
      subst hk
      exact Option.some.inj (h2.symm.trans hf)
    · have hk := Nat.eq_of_beq_eq_true hk
      refine va_newaK (atype := .int) hx hb (hts _ (mT_in (wAt_in hw.1.1) rfl)) rfl hd rfl hi0 rfl (by show _ * 4 ≤ _; omega) (by omega) (by omega) hsz (fun H1 ck e1 z1 o1 hA hf => fin H1 ck ?_ (by omega) (by omega) e1 z1 o1)
      have h2 := (hK.2 0 (cA 100, .int) rfl).2
      subst hk
      exact Option.some.inj (h2.symm.trans hf)
  next => exact absurd (tri hs).2.2 (by decide)
theorem ms_anew {idx : Nat} (C : mCx p R s m args meth c D cA ρ B adV c0 y) (hXo : mXok X) (hd : decode (yBy y) f.1 = .ok (.anewarray idx, 3)) (hn : en.2.1 = 3) (hi : en.1 = .anewarray idx) (hk : (Nat.ble 201 en.2.2.1.1 && Nat.ble en.2.2.1.1 204 && eLn cLn (yO y) idx (en.2.2.1.1 - 200)) = true) (hg : mGr R c0 s0 h h') (hs : mstep en f h = (f', h', true)) (K : Wm p l e R s m args below meth c Q D cA ρ B c0 s0 y X f' h') : Wm p l e R s m args below meth c Q D cA ρ B c0 s0 y X f h := by
  obtain ⟨hx, hb, hml, hown, hts, hK, hρ, hB, hini, hfr, hlo, hex⟩ := C
  obtain ⟨i, n, ⟨k, j, t⟩, v⟩ := en
  obtain ⟨pc, ls, st⟩ := f
  simp only [Bool.and_eq_true] at hn hd hi hk
  subst hn hi
  have k1 := Nat.le_of_ble_eq_true hk.1.1
  have k2 := Nat.le_of_ble_eq_true hk.1.2
  obtain ⟨ci, rfl⟩ : ∃ ci, k = 200 + ci := ⟨k - 200, by omega⟩
  have hk3 := hk.2
  rw [show 200 + ci - 200 = ci by omega] at hk3
  obtain ⟨hw, hci⟩ := cLn_of hk3
  simp only [mstep] at hs
  split at hs
  next _ i st =>
    obtain ⟨rfl, rfl, hb2⟩ := tri hs
    simp only [Bool.and_eq_true] at hb2
    have hlt : h.1.length < 1000000 := Nat.blt_eq.mp hb2.1.1
    have hi0 : ¬ i < 0 := of_decide_eq_true hb2.1.2
    have hsm : i.toNatClampNeg ≤ 100000 := Nat.le_of_ble_eq_true hb2.2
    obtain ⟨g1, g2, g3, g4⟩ := hg
    rw [len_nw] at g3
    rw [mS_nw] at g4
    have hρl := hρ h.1.length hlt
    intro H locs as hl hr hX
    refine W.sz (fun hsz => ?_)
    have hsz := sz_eq hρ hr hB g1 hsz
    refine W.anew hx hb hown (hts _ hw) (va_AO.use (hex.2.1 ci (by omega) (by omega))) rfl hd rfl hi0 (by omega) (by omega) (by omega) (fun ck kA comp f1 f2 f3 f4 => ?_)
    obtain ⟨t0, ht0⟩ := tyR_at (cA := cA) (ci := ci) (by omega) (by omega)
    obtain ⟨kA', comp', q1, q2, q3, q4⟩ := (hK.2 t0 _ ht0).2
    have hck : cA (200 + ci) = ck := Option.some.inj (q4.symm.trans f1)
    generalize hH1 : H.push ({ cls := ck, slots := Array.replicate i.toNatClampNeg .null, vm := .none } : Cell) = H1
    have z1 : H1.size = H.size + 1 := by rw [← hH1, Array.size_push]
    have e1 : H1[H.size]? = some (arrV ck i.toNatClampNeg (fun _ => .null)) := by rw [← hH1, Array.getElem?_push_size, ← arrV_new]
    have o1 : ∀ q, q < H.size → H1[q]? = H[q]? := by
      intro q hq
      rw [← hH1, Array.getElem?_push, if_neg (by omega)]
    have hrel : mRel D cA ρ B s.heap (mNw h (200 + ci) i.toNatClampNeg) H1 locs := by
      refine nw_rel hρ hr hlt hsz z1 o1 ?_
      rw [eC_ref (by omega), hρl, ← hsz]
      show H1[H.size]? = some (vp_cell _ _)
      rw [e1, vp_cell_q, hck]
      simp [mR, mNw, va_rf]
    have K2 := K H1 locs as hl hrel (nw_keep hlt hXo hX)
    refine W.cs2 ?_ ?_ (W.eq ?_ K2)
    · rw [len_nw]; omega
    · rw [mS_nw]; omega
    · show F0 m (pc + 3) as _ = F0 m (pc + 3) as _
      simp only [List.map_cons, tv, hρl, hsz]
  next => exact absurd (tri hs).2.2 (by decide)
theorem cat_map (st : List Value) : ((st.map (tv ρ)).map fun v => v.category).sum = (st.map fun v => v.category).sum := by
  rw [List.map_map]
  congr 1
  apply List.map_congr_left
  intro v _
  exact tv_cat ρ v
theorem ms_obj {idx : Nat} (C : mCx p R s m args meth c D cA ρ B adV c0 y) (hd : decode (yBy y) f.1 = .ok (.invokespecial idx, 3)) (hn : en.2.1 = 3) (hk : (Nat.beq en.2.2.1.1 1 && eLn pLn (yO y) idx en.2.2.1.1 && Nat.ble 1 (yFr y) && Nat.ble 26 (yLo y)) = true) (hs : mPr en f h = (f', h', true)) (K : Wm p l e R s m args below meth c Q D cA ρ B c0 s0 y X f' h') : Wm p l e R s m args below meth c Q D cA ρ B c0 s0 y X f h := by
  obtain ⟨hx, hb, hml, hown, hts, hK, hρ, hB, hini, hfr, hlo, hex⟩ := C
  obtain ⟨i, n, ⟨k, j, t⟩, v⟩ := en
  obtain ⟨pc, ls, st⟩ := f
  simp only [Bool.and_eq_true] at hn hd hk
  obtain ⟨⟨⟨k1, k2⟩, k3⟩, k4⟩ := hk
  have hk1 := Nat.eq_of_beq_eq_true k1
  subst hn hk1
  have hw := pLn_of k2
  have k3 := Nat.le_of_ble_eq_true k3
  have k4 := Nat.le_of_ble_eq_true k4
  have ho := w_obj
  simp only [Bool.and_eq_true, decide_eq_true_eq] at ho
  simp only [mPr] at hs
  split at hs
  next _ a st heq =>
    obtain ⟨rfl, rfl, hb2⟩ := tri hs
    have hb2 := Nat.le_of_ble_eq_true hb2
    intro H locs as hl hr hX
    exact W.objInit hx hb hown (hts _ hw) (hts _ (mT_in (wAt_in ho.1) rfl)) (hts _ (mT_in (wAt_in ho.2) rfl)) rfl (by rw [hml]; exact hl.2.1) rfl hd (by omega) (by show 2 * 0 + _ + 12 ≤ _; rw [cat_map]; omega) (K H locs as hl hr hX)
  all_goals first | (next heq => exact absurd heq (by decide)) | (next => exact absurd (tri hs).2.2 (by decide)) | skip
theorem ms_mth {idx : Nat} (C : mCx p R s m args meth c D cA ρ B adV c0 y) (hXo : mXok X) (hd : decode (yBy y) f.1 = .ok (.invokestatic idx, 3)) (hn : en.2.1 = 3) (hk : (Nat.ble 2 en.2.2.1.1 && Nat.ble en.2.2.1.1 5 && eLn pLn (yO y) idx en.2.2.1.1 && Nat.ble 1 (yFr y) && Nat.ble 26 (yLo y)) = true) (hg : mGr R c0 s0 h h') (hs : mPr en f h = (f', h', true)) (K : Wm p l e R s m args below meth c Q D cA ρ B c0 s0 y X f' h') : Wm p l e R s m args below meth c Q D cA ρ B c0 s0 y X f h := by
  obtain ⟨hx, hb, hml, hown, hts, hK, hρ, hB, hini, hfr, hlo, hex⟩ := C
  obtain ⟨i, n, ⟨k, j, t⟩, v⟩ := en
  obtain ⟨pc, ls, st⟩ := f
  simp only [Bool.and_eq_true] at hn hd hk
  obtain ⟨⟨⟨⟨k0, k1⟩, k2⟩, k3⟩, k4⟩ := hk
  subst hn
  have hw := pLn_of k2
  have k0 := Nat.le_of_ble_eq_true k0
  have k1 := Nat.le_of_ble_eq_true k1
  have k3 := Nat.le_of_ble_eq_true k3
  have k4 := Nat.le_of_ble_eq_true k4
  have hmath := hts _ (mT_in (wAt_in w_math) rfl)
  have hmax := w_max
  have hmin := w_min
  have habs := w_abs
  have hacp := w_acp
  simp only [Bool.and_eq_true, decide_eq_true_eq] at hmax hmin habs hacp
  obtain ⟨g1, g2, g3, g4⟩ := hg
  simp only [mPr] at hs
  rcases (by omega : k = 2 ∨ k = 3 ∨ k = 4 ∨ k = 5) with rfl | rfl | rfl | rfl
  · match st, hs with
    | .int y0 :: .int x0 :: st, hs =>
      obtain ⟨rfl, rfl, hb2⟩ := tri hs
      have hb2 := Nat.le_of_ble_eq_true hb2
      intro H locs as hl hr hX
      exact va_mmax hx hb (by rw [hml]; exact hl.2.1.symm) hown (hts _ hw) (hts _ (mT_in (wAt_in hmax.2) rfl)) hmath (hts _ (mT_in (wAt_in hmax.1) rfl)) (by omega) (by rw [cat_map]; omega) g3 g4 hd (K H locs as hl hr hX)
  · match st, hs with
    | .int y0 :: .int x0 :: st, hs =>
      obtain ⟨rfl, rfl, hb2⟩ := tri hs
      have hb2 := Nat.le_of_ble_eq_true hb2
      intro H locs as hl hr hX
      exact va_mmin hx hb (by rw [hml]; exact hl.2.1.symm) hown (hts _ hw) (hts _ (mT_in (wAt_in hmin.2) rfl)) hmath (hts _ (mT_in (wAt_in hmin.1) rfl)) (by omega) (by rw [cat_map]; omega) g3 g4 hd (K H locs as hl hr hX)
  · match st, hs with
    | .int x0 :: st, hs =>
      obtain ⟨rfl, rfl, hb2⟩ := tri hs
      have hb2 := Nat.le_of_ble_eq_true hb2
      intro H locs as hl hr hX
      exact va_mabs hx hb (by rw [hml]; exact hl.2.1.symm) hown (hts _ hw) (hts _ (mT_in (wAt_in habs.2) rfl)) hmath (hts _ (mT_in (wAt_in habs.1) rfl)) (by omega) (by rw [cat_map]; omega) g3 g4 hd (K H locs as hl hr hX)
  · match st, hs with
    | .int n0 :: .int dp :: .ref d :: .int sp :: .ref sr :: st, hs =>
      obtain ⟨rfl, rfl, hb2⟩ := tri hs
      simp only [Bool.and_eq_true] at hb2
      obtain ⟨⟨⟨⟨⟨⟨⟨b1, b2⟩, b3⟩, b4⟩, b5⟩, b6⟩, b7⟩, b8⟩ := hb2
      have b3 := of_decide_eq_true b3
      have b4 := of_decide_eq_true b4
      have b5 := of_decide_eq_true b5
      have b6 := Nat.le_of_ble_eq_true b6
      have b7 := Nat.le_of_ble_eq_true b7
      have b8 := Nat.le_of_ble_eq_true b8
      have hs1 := mK_at b1 (by omega)
      have hd1 := mK_at b2 (by omega)
      have he0 := eW_at (cA := cA) (ρ := ρ) hs1
      have he1 := eW_at (cA := cA) (ρ := ρ) hd1
      rw [eC_int (by omega) (by omega)] at he0 he1
      intro H locs as hl hr hX
      refine va_copyi (ty := .int) hx hb (by rw [hml]; exact hl.2.1.symm) hown (hts _ hw) (hts _ (mT_in (wAt_in hacp.1.1) rfl)) (hts _ (mT_in (wAt_in hacp.1.2) rfl)) (hts _ (mT_in (wAt_in hacp.2) rfl)) hK hr.1 (eW_D hρ hr.2.2) hr.2.1 sr d 0 0 he0 he1 rfl rfl rfl b3 b4 b5 b6 b7 (fun _ _ => rfl) (by omega) (by rw [cat_map, hlo]; show _ + (7 + 11) ≤ _; omega) hd (fun H1 locs1 hP1 _ hS1 => ?_)
      have e9 : (eW cA ρ h).set d (ρ d, .inl (cA 100, (mK h d).2, .inl (va_cpy (h.2.1 sr) (h.2.1 d) sp.toNatClampNeg dp.toNatClampNeg n0.toNatClampNeg))) = eW cA ρ (mCp h sr sp.toNatClampNeg d dp.toNatClampNeg n0.toNatClampNeg) := by
        refine eW_set (h := h) (h' := mCp h sr sp.toNatClampNeg d dp.toNatClampNeg n0.toNatClampNeg) rfl hd1 ?_ (fun b hb' k' => eC_congr (fun i => by simp [mCp, hb']) (fun i => rfl) (fun i => rfl))
        rw [eC_int (by omega) (by omega)]
        congr 4
        funext q
        simp [mCp, va_cpy]
      rw [e9] at hP1
      exact K H1 locs1 as hl ⟨hP1, hS1, hr.2.2⟩ (hXo h _ (fun b i hbb => by simp [mCp, small_of b2 (by omega) hr.2.2 b hbb]) hX)
theorem mSw_tb {x : Int32} {pc : Nat} {d : Nat} : ∀ (offs : List Int) (lo : Int), -100000 ≤ lo → lo + offs.length ≤ 100000 → (∀ o ∈ offs, 0 ≤ (pc : Int) + o) →
    ((x.toInt < lo ∨ lo + offs.length ≤ x.toInt) → mSw x d (mTb pc lo offs) = d) ∧ (∀ k : Nat, x.toInt = lo + k → ∀ o, offs[k]? = some o → ((mSw x d (mTb pc lo offs) : Nat) : Int) = (pc : Int) + o) := by
  intro offs
  induction offs with
  | nil =>
    intro lo _ _ _
    exact ⟨fun _ => rfl, fun k _ o ho => by simp at ho⟩
  | cons o r ih =>
    intro lo h1 h2 h3
    simp only [List.length_cons] at h2
    have hlo : (Int32.ofInt lo).toInt = lo := by
      rw [Int32.toInt_ofInt_of_le (by omega) (by omega)]
    have hiff : x = Int32.ofInt lo ↔ x.toInt = lo := by
      constructor
      · intro q; rw [q, hlo]
      · intro q; rw [← Int32.toInt_inj, hlo, q]
    obtain ⟨i1, i2⟩ := ih (lo + 1) (by omega) (by push_cast at h2 ⊢; omega) (fun o' ho' => h3 o' (List.mem_cons_of_mem _ ho'))
    refine ⟨fun hx => ?_, fun k hk o' ho' => ?_⟩
    · simp only [mTb, mSw]
      simp only [List.length_cons] at hx
      rw [if_neg (fun q => by have := hiff.mp q; push_cast at hx; omega)]
      exact i1 (by push_cast at hx; omega)
    · simp only [mTb, mSw]
      cases k with
      | zero =>
        rw [if_pos (hiff.mpr (by simpa using hk))]
        simp only [List.getElem?_cons_zero, Option.some.injEq] at ho'
        subst ho'
        exact Int.toNat_of_nonneg (h3 _ List.mem_cons_self)
      | succ k =>
        rw [if_neg (fun q => by have := hiff.mp q; push_cast at hk; omega)]
        exact i2 k (by push_cast at hk; omega) o' (by simpa using ho')
end ME
