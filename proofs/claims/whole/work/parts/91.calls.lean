/-! Calls, and the contract of any method out of the small machine's run. -/
def mPc (D : va_G) (cA : Nat → ClassId) (ρ : Nat → Nat) (B : Nat) (adV : Nat → Nat) (as : List Value) (h : mH) : Array Value → State → Prop := fun v U => v = (as.map (tv ρ)).toArray ∧ va_P D classes (eW cA ρ h) U.heap ∧ va_K D classes (tyL cA) U ∧ U.heap.size = B + h.1.length ∧ h.1.length ≤ 1000000 ∧ mEx ρ B adV U
def mQc (D : va_G) (cA : Nat → ClassId) (ρ : Nat → Nat) (B : Nat) (r : Option Value) (h' : mH) : Array Value → State → Outcome → State → Prop := fun _ st oc t => oc = .returned (r.map (tv ρ)) ∧ va_P D classes (eW cA ρ h') t.heap ∧ va_F (fun q => B ≤ q) st t
def mRm (y mc ms : Nat) : Room := { frames := yFr y, cells := mc, slots := ms, locals := yLo y }
def mWs (y : Nat) : List Cond := Cond.code (yNm y) (yBy y) (yML y) (yRt y) :: mT
theorem mEx.same {ρ : Nat → Nat} {B : Nat} {adV : Nat → Nat} {u U : State} (hv : U.vm = u.vm) (hh : U.heap = u.heap) (h : mEx ρ B adV u) : mEx ρ B adV U := by
  obtain ⟨h1, h2, h3, h4⟩ := h
  have ha : u.vm.Alike U.vm := by rw [hv]; exact Vm.Alike.refl _
  exact ⟨fun q hq => va_Nw.same rfl hv.symm (h1 q hq), fun ci a b => (h2 ci a b).moved ha, fun i q hq => (h3 i q hq).same hv, h4.at ha (fun q _ _ => by rw [hh])⟩
theorem mEx.warm {ρ : Nat → Nat} {B : Nat} {adV : Nat → Nat} {s U : State} (hW : s.WarmedH U.vm) (hk : ∀ q : Nat, q < s.heap.size → ¬ B ≤ q → U.heap[q]? = s.heap[q]?) (h : mEx ρ B adV s) : mEx ρ B adV U := by
  obtain ⟨h1, h2, h3, h4⟩ := h
  exact ⟨fun q hq => va_Nw.warmM hW (h1 q hq), fun ci a b => (h2 ci a b).moved hW.alike, fun i q hq => (h3 i q hq).warm hW, h4.at hW.alike hk⟩
theorem mPc_blind {D : va_G} {cA : Nat → ClassId} {ρ : Nat → Nat} {B : Nat} {adV : Nat → Nat} {as : List Value} {h : mH} : FrameBlind (mPc D cA ρ B adV as h) := by
  intro a U g mk q
  obtain ⟨q0, q1, q2, q3, q4, q5⟩ := q
  exact ⟨q0, q1, va_K.moved (u := U) (U := U.calling g mk a) (Vm.Alike.refl U.vm) q2, q3, q4, mEx.same (u := U) (U := U.calling g mk a) rfl rfl q5⟩
theorem yAll_of {y : Nat} (h : y < 302) : Cond.initialized (yNm y).cls ∈ mT ∧ plainName (yNm y).cls = true ∧ (parseMethodDescriptor (yNm y).desc).map (fun d => d.parameters.length) = some (yNa y) ∧ (yNm y).cls = oN (yO y) ∧ (yNm y).cls ≠ "java/lang/invoke/MethodHandle" ∧ (yNm y).cls ≠ "java/lang/invoke/VarHandle" ∧ (yKd y = 0 → Cond.static (yNm y) ∈ mT) ∧ (yKd y = 1 → Cond.instanceMethod (yNm y) ∈ mT ∧ Cond.selects (yNm y).cls (yNm y) (yNm y) ∈ mT ∧ yO y < 13) ∧ (yKd y = 2 → Cond.instanceMethod (yNm y) ∈ mT ∧ (yNm y).name = "<init>" ∧ yRt y = none) := by
  have h1 := yOK_of h
  unfold yOK at h1
  simp only [Bool.and_eq_true] at h1
  obtain ⟨⟨⟨⟨⟨⟨a1, a2⟩, a3⟩, a4⟩, a5⟩, a6⟩, a7⟩ := h1
  refine ⟨mT_in (wAt_in a1) rfl, a2, of_decide_eq_true a3, of_decide_eq_true a4, of_decide_eq_true a5, of_decide_eq_true a6, fun k => ?_, fun k => ?_, fun k => ?_⟩
  · rw [k] at a7
    exact mT_in (wAt_in a7) rfl
  · rw [k] at a7
    simp only [Bool.and_eq_true] at a7
    exact ⟨mT_in (wAt_in a7.1.1) rfl, mT_in (wAt_in a7.1.2) rfl, Nat.blt_eq.mp a7.2⟩
  · rw [k] at a7
    simp only [Bool.and_eq_true] at a7
    exact ⟨mT_in (wAt_in a7.1.1) rfl, of_decide_eq_true a7.1.2, of_decide_eq_true a7.2⟩
theorem mWs_good {y : Nat} (h : y < 302) : GoodIn mT (mWs y) := by
  intro w hw
  rcases List.mem_cons.mp hw with rfl | hw
  · exact ⟨mT_in (yCd_of h) rfl, Or.inl rfl⟩
  · exact mT_good w hw
theorem mLn_of {o idx y' : Nat} (h : eLn mLn o idx y' = true) : Cond.methodLink (oN o) idx (yNm y') ∈ mT ∧ y' < 302 := by
  obtain ⟨pl, hq⟩ := eLn_of h
  have h2 := List.all_eq_true.mp mLn_ok _ hq
  simp only [Bool.and_eq_true] at h2
  exact ⟨mT_in (wAt_in h2.1) rfl, Nat.blt_eq.mp h2.2⟩
theorem nLn_of {o idx y' : Nat} (h : eLn nLn o idx y' = true) : (∃ pl, (o, idx, y', pl) ∈ nLn) ∧ y' < 302 := by
  obtain ⟨pl, hq⟩ := eLn_of h
  have h2 := List.all_eq_true.mp nLn_ok _ hq
  simp only [Bool.and_eq_true] at h2
  exact ⟨⟨pl, hq⟩, Nat.blt_eq.mp h2.2⟩
section CL
variable {p : Program} {l : Launch} {e : Env} {R : Room} {s : State} {m : MethodId} {args : Array Value} {below : List Frame} {meth : Method} {c : Code} {Q : State → Prop} {D : va_G} {cA : Nat → ClassId} {ρ : Nat → Nat} {B : Nat} {adV : Nat → Nat} {c0 s0 y : Nat} {X : mH → Prop} {en : mE} {f f' : mF} {h h' : mH} {ok : Bool}
theorem st_split {st as rest : List Value} {n : Nat} (hn : n ≤ st.length) (ha : (st.take n).reverse = as) (hr : st.drop n = rest) : st = as.reverse ++ rest ∧ as.length = n := by
  subst ha hr
  refine ⟨by rw [List.reverse_reverse, List.take_append_drop], by rw [List.length_reverse, List.length_take]; omega⟩
set_option maxHeartbeats 4000000 in
theorem ms_call {y' : Nat} {as rest : List Value} {r1 : Option Value} {h2 : mH} (C : mCx p R s m args meth c D cA ρ B adV c0 y) (hXo : mXok X) (hM : Met l (yNm y') (mWs y') (mRm y' (h2.1.length - h.1.length) (mS h2 - mS h)) (mPc D cA ρ B adV as h) (mQc D cA ρ B r1 h2) (h2.1.length - h.1.length) (mS h2 - mS h) (fun q => B ≤ q)) (ht : tmOK y f.1 en = true) (hnr : mIsRet en.1 = false) (hc : mCall y en f h = (y', as, rest, true)) (hmono : mMono h h2) (hg : mGr R c0 s0 h h2) (K : Wm p l e R s m args below meth c Q D cA ρ B c0 s0 y X (f.1 + 3, f.2.1, r1.toList ++ rest) h2) : Wm p l e R s m args below meth c Q D cA ρ B c0 s0 y X f h := by
  obtain ⟨hx, hb, hml, hown, hts, hK, hρ, hB, hini, hfr, hlo, hex⟩ := C
  obtain ⟨pc, ls, st⟩ := f
  obtain ⟨g1, g2, g3, g4⟩ := hg
  obtain ⟨m1, m2, m3⟩ := hmono
  obtain ⟨hdd, htm⟩ := w_and ht
  have hd := of_decide_eq_true hdd
  intro H locs ar hl hr hX
  refine W.sz (fun hsz => ?_)
  have hsz := sz_eq hρ hr hB g1 hsz
  have preU : ∀ U : State, U.heap = H → s.WarmedH U.vm → mPc D cA ρ B adV as h (as.map (tv ρ)).toArray U := by
    intro U hU hW
    refine ⟨rfl, by rw [hU]; exact hr.1, va_K.moved hW.alike hK, by rw [hU]; exact hsz, hr.2.2, mEx.warm hW (fun q q1 q2 => by rw [hU]; exact hr.2.1.2.1 q q1 q2) hex⟩
  have hQ : ∀ (a0 : Array Value) (st : State) (oc : Outcome) (t : State), st.heap = H → mQc D cA ρ B r1 h2 a0 st oc t → oc = .returned (r1.map (tv ρ)) ∧ va_P D classes (eW cA ρ h2) t.heap ∧ va_F (fun q => B ≤ q) st t := fun a0 st oc t _ q => q
  have kk : ∀ (H1 : Heap) (locs1 : List Loc), va_P D classes (eW cA ρ h2) H1 → va_S (fun q => B ≤ q) s.heap H1 locs1 → W p l e R s m args below meth c H1 locs1 (h.1.length - c0 + (h2.1.length - h.1.length)) (mS h - s0 + (mS h2 - mS h)) Q (F0 m (pc + 3) ar ((r1.map (tv ρ)).toList ++ rest.map (tv ρ))) := by
    intro H1 locs1 hP1 hS1
    have K2 := K H1 locs1 ar hl ⟨hP1, hS1, (m3 hr.2.2).1⟩ (hXo h h2 (m3 hr.2.2).2 hX)
    refine W.cs2 (by omega) (by omega) (W.eq ?_ K2)
    show F0 m (pc + 3) ar _ = F0 m (pc + 3) ar _
    rw [List.map_append]
    cases r1 <;> rfl
  have hf : (h.1.length - c0) + (h2.1.length - h.1.length) ≤ R.cells ∧ (mS h - s0) + (mS h2 - mS h) ≤ R.slots := by omega
  have S : CallFix p m c (yBy y) (yML y) s args mT (oN (yO y)) := ⟨hx, hb, hml, hown, hts⟩
  obtain ⟨i, n, ⟨x1, x2, x3⟩, v⟩ := en
  cases i
  case invokevirtual idx =>
    simp only [Bool.and_eq_true] at htm
    obtain ⟨⟨⟨t1, t2⟩, t3⟩, t4⟩ := htm
    have hn := Nat.eq_of_beq_eq_true t1
    have t3 := Nat.eq_of_beq_eq_true t3
    have t4 := Nat.eq_of_beq_eq_true t4
    subst hn
    simp only [mCall] at hc
    obtain ⟨rfl, rfl, hc2⟩ := tri hc
    obtain ⟨rfl, hok⟩ := Prod.mk.inj hc2
    simp only [Bool.and_eq_true] at hok
    obtain ⟨⟨⟨⟨⟨o1, o2⟩, o3⟩, o4⟩, o5⟩, o6⟩ := hok
    have o1 := Nat.le_of_ble_eq_true o1
    have o2 := Nat.blt_eq.mp o2
    have o3 := Nat.le_of_ble_eq_true o3
    have o4 := Nat.le_of_ble_eq_true o4
    obtain ⟨hw, hy'⟩ := mLn_of t2
    obtain ⟨i1, i2, i3, i4, i5, i6, -, i8, -⟩ := yAll_of hy'
    obtain ⟨j1, j2, j3⟩ := i8 t3
    split at o6
    next a0 tl hdr =>
      have o6 := Nat.eq_of_beq_eq_true o6
      have hk := mK_at (h := h) (a := a0) (n := yO x1) (by rw [o6]; exact Nat.beq_refl _) (by omega)
      have he := eW_at (cA := cA) (ρ := ρ) hk
      rw [eC_obj (by omega)] at he
      have hx2 : x2 < st.length := o1
      have e1 : st.take (x2 + 1) = st.take x2 ++ [.ref a0] := by
        rw [List.take_add_one]
        congr 1
        have : st[x2]? = some (.ref a0) := by
          have := congrArg (fun q => q[0]?) hdr
          simpa using this
        rw [this]; rfl
      have e2 : st.drop (x2 + 1) = tl := by
        have := congrArg List.tail hdr
        simpa [List.tail_drop] using this
      have e3 : (st.take (x2 + 1)).reverse = .ref a0 :: (st.take x2).reverse := by rw [e1, List.reverse_append]; rfl
      have e4 : st = (st.take x2).reverse.reverse ++ .ref a0 :: tl := by
        rw [List.reverse_reverse, ← hdr, List.take_append_drop]
      rw [e3] at hM preU
      rw [e2] at kk o4
      have cw : CallW R s args (oN (yO y)) (oN (yO x1)) idx (yNm x1) (yBy x1) (yML x1) (yRt x1) (mWs x1) (mRm x1 (h2.1.length - h.1.length) (mS h2 - mS h)) (h2.1.length - h.1.length) (mS h2 - mS h) (yNa x1) :=
        ⟨callB_of (yNa x1) hts (mWs_good hy') rfl rfl rfl (hts _ i1) (hts _ hw) ⟨i5, i6, i3⟩ ⟨by rw [hfr]; exact o2, by rw [hlo]; exact o3⟩, hts _ j1, by rw [← i4]; exact hts _ j2⟩
      have hrecv := va_recv hK hr.1 (cl_at j3) he
      rw [← oN_kN _ j3] at hrecv
      refine mm_call (st0 := st.map (tv ρ)) (rest := tl.map (tv ρ)) (r := r1.map (tv ρ)) (PP := fun H => va_P D classes (eW cA ρ h2) H) (va_runV (As := ((st.take x2).reverse).map (tv ρ)) (b := ρ a0) S hM cw ⟨mPc_blind, hrecv, preU⟩ rfl ?_ hl.2.1 ?_ ?_ hd hf) hr.2.1 (hQ _) (fun q h => h) kk
      · rw [List.length_map, List.length_reverse, List.length_take]; omega
      · show st.map (tv ρ) = _
        conv => lhs; rw [e4]
        rw [List.map_append, List.map_reverse, List.map_cons]
        rfl
      · show 2 * 0 + _ ≤ 8
        rw [cat_map]; omega
    next => cases o6
  case invokestatic idx =>
    simp only [Bool.and_eq_true] at htm
    obtain ⟨⟨⟨t1, t2⟩, t3⟩, t4⟩ := htm
    have hn := Nat.eq_of_beq_eq_true t1
    have t3 := Nat.eq_of_beq_eq_true t3
    have t4 := Nat.eq_of_beq_eq_true t4
    subst hn
    simp only [mCall] at hc
    obtain ⟨rfl, rfl, hc2⟩ := tri hc
    obtain ⟨rfl, hok⟩ := Prod.mk.inj hc2
    simp only [Bool.and_eq_true] at hok
    obtain ⟨⟨⟨⟨o1, o2⟩, o3⟩, o4⟩, o5⟩ := hok
    have o1 := Nat.le_of_ble_eq_true o1
    have o2 := Nat.blt_eq.mp o2
    have o3 := Nat.le_of_ble_eq_true o3
    have o4 := Nat.le_of_ble_eq_true o4
    have hst : st.map (tv ρ) = ((st.take x2).reverse.map (tv ρ)).reverse ++ (st.drop x2).map (tv ρ) := by
      rw [← List.map_reverse, List.reverse_reverse, ← List.map_append, List.take_append_drop]
    have hle : ((st.take x2).reverse.map (tv ρ)).length = yNa x1 := by
      rw [List.length_map, List.length_reverse, List.length_take]; omega
    rcases Bool.or_eq_true_iff.mp t2 with t2 | t2
    · obtain ⟨hw, hy'⟩ := mLn_of t2
      obtain ⟨i1, i2, i3, i4, i5, i6, i7, -, -⟩ := yAll_of hy'
      have cw := callB_of (R := R) (s := s) (args := args) (rm := mRm x1 (h2.1.length - h.1.length) (mS h2 - mS h)) (yNa x1) hts (mWs_good hy') rfl rfl rfl (hts _ i1) (hts _ hw) ⟨i5, i6, i3⟩ ⟨by rw [hfr]; exact o2, by rw [hlo]; exact o3⟩
      refine mm_call (st0 := st.map (tv ρ)) (rest := (st.drop x2).map (tv ρ)) (r := r1.map (tv ρ)) (PP := fun H => va_P D classes (eW cA ρ h2) H) (va_runS (As := ((st.take x2).reverse).map (tv ρ)) S hM ⟨cw, hts _ (i7 t3)⟩ ⟨mPc_blind, preU⟩ rfl hle hl.2.1 hst ?_ hd hf) hr.2.1 (hQ _) (fun q h => h) kk
      show 2 * 0 + _ ≤ 8
      rw [cat_map]; omega
    · obtain ⟨⟨pl, hq⟩, hy'⟩ := nLn_of t2
      obtain ⟨i1, i2, i3, i4, i5, i6, i7, -, -⟩ := yAll_of hy'
      have cw := va_cnB (R := R) (s := s) (args := args) (rm := mRm x1 (h2.1.length - h.1.length) (mS h2 - mS h)) (yNa x1) hts (mWs_good hy') rfl rfl rfl (hex.1 _ hq) (hts _ i1) ⟨i5, i6, i3⟩ ⟨by rw [hfr]; exact o2, by rw [hlo]; exact o3⟩
      refine mm_call (st0 := st.map (tv ρ)) (rest := (st.drop x2).map (tv ρ)) (r := r1.map (tv ρ)) (PP := fun H => va_P D classes (eW cA ρ h2) H) (va_runSN (As := ((st.take x2).reverse).map (tv ρ)) S hM ⟨cw, hts _ (i7 t3), trivial⟩ ⟨mPc_blind, preU⟩ rfl hle hl.2.1 hst ?_ hd hf) hr.2.1 (hQ _) (fun q h => h) kk
      show 2 * 0 + _ ≤ 8
      rw [cat_map]; omega
  case invokespecial idx =>
    simp only [Bool.and_eq_true] at htm
    obtain ⟨⟨⟨t1, t2⟩, t3⟩, t4⟩ := htm
    have hn := Nat.eq_of_beq_eq_true t1
    have t3 := Nat.eq_of_beq_eq_true t3
    have t4 := Nat.eq_of_beq_eq_true t4
    subst hn
    simp only [mCall] at hc
    obtain ⟨rfl, rfl, hc2⟩ := tri hc
    obtain ⟨rfl, hok⟩ := Prod.mk.inj hc2
    simp only [Bool.and_eq_true] at hok
    obtain ⟨⟨⟨⟨⟨o1, o2⟩, o3⟩, o4⟩, o5⟩, o6⟩ := hok
    have o1 := Nat.le_of_ble_eq_true o1
    have o2 := Nat.blt_eq.mp o2
    have o3 := Nat.le_of_ble_eq_true o3
    have o4 := Nat.le_of_ble_eq_true o4
    obtain ⟨hw, hy'⟩ := mLn_of t2
    obtain ⟨i1, i2, i3, i4, i5, i6, -, -, i9⟩ := yAll_of hy'
    obtain ⟨j1, j2, j3⟩ := i9 t3
    split at o6
    next a0 tl hdr =>
      have hx2 : x2 < st.length := o1
      have e1 : st.take (x2 + 1) = st.take x2 ++ [.ref a0] := by
        rw [List.take_add_one]
        congr 1
        have : st[x2]? = some (.ref a0) := by
          have := congrArg (fun q => q[0]?) hdr
          simpa using this
        rw [this]; rfl
      have e2 : st.drop (x2 + 1) = tl := by
        have := congrArg List.tail hdr
        simpa [List.tail_drop] using this
      have e3 : (st.take (x2 + 1)).reverse = .ref a0 :: (st.take x2).reverse := by rw [e1, List.reverse_append]; rfl
      have e4 : st = (st.take x2).reverse.reverse ++ .ref a0 :: tl := by
        rw [List.reverse_reverse, ← hdr, List.take_append_drop]
      rw [e3] at hM preU
      rw [e2] at kk o4
      have hws : mWs x1 = Cond.code (yNm x1) (yBy x1) (yML x1) none :: mT := by rw [← j3]; rfl
      have cw := callB_of (R := R) (s := s) (args := args) (rm := mRm x1 (h2.1.length - h.1.length) (mS h2 - mS h)) (yNa x1) hts (mWs_good hy') hws rfl rfl (hts _ i1) (hts _ hw) ⟨i5, i6, i3⟩ ⟨by rw [hfr]; exact o2, by rw [hlo]; exact o3⟩
      refine mm_call (st0 := st.map (tv ρ)) (rest := tl.map (tv ρ)) (r := r1.map (tv ρ)) (PP := fun H => va_P D classes (eW cA ρ h2) H) (va_runI (As := ((st.take x2).reverse).map (tv ρ)) (b := ρ a0) S hM ⟨cw, j2, hts _ j1⟩ ⟨mPc_blind, preU⟩ rfl ?_ hl.2.1 ?_ ?_ hd hf) hr.2.1 (hQ _) (fun q h => h) kk
      · rw [List.length_map, List.length_reverse, List.length_take]; omega
      · show st.map (tv ρ) = _
        conv => lhs; rw [e4]
        rw [List.map_append, List.map_reverse, List.map_cons]
        rfl
      · show 2 * 0 + _ ≤ 8
        rw [cat_map]; omega
    next => cases o6
  all_goals first | exact absurd (show true = false from hnr) (by decide) | exact absurd (show false = true from htm) (by decide)
end CL
