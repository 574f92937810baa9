/-! Whatever the small machine runs to, the real one does. -/
theorem ent_at {ρ : Nat → Nat} : ∀ (as : List Value) (i : Nat) (v : Value), (as.flatMap (fun v => if v.category = 2 then [v, .retAddr 0] else [v]))[i]? = some v → mUs v = true → (lg_sl (as.map (tv ρ)))[i]? = some (.val (tv ρ v))
  | [], i, v, h, _ => by simp at h
  | w :: ws, i, v, h, hu => by
    have ih := ent_at (ρ := ρ) ws
    rw [List.flatMap_cons] at h
    have e : lg_sl ((w :: ws).map (tv ρ)) = (if w.category = 2 then [Slot.val (tv ρ w), .second] else [.val (tv ρ w)]) ++ lg_sl (ws.map (tv ρ)) := by
      simp only [List.map_cons, lg_sl, List.flatMap_cons, tv_cat]
    rw [e]
    by_cases hc : w.category = 2
    · rw [if_pos hc] at h ⊢
      match i, h with
      | 0, h => simp at h; subst h; rfl
      | 1, h => simp at h; subst h; cases hu
      | i + 2, h => exact ih i v (by simpa using h) hu
    · rw [if_neg hc] at h ⊢
      match i, h with
      | 0, h => simp at h; subst h; rfl
      | i + 1, h => exact ih i v (by simpa using h) hu
theorem ent_len {ρ : Nat → Nat} : ∀ (as : List Value), (lg_sl (as.map (tv ρ))).length = (as.flatMap (fun v => if v.category = 2 then [v, Value.retAddr 0] else [v])).length
  | [] => rfl
  | w :: ws => by
    have ih := ent_len (ρ := ρ) ws
    have e : lg_sl ((w :: ws).map (tv ρ)) = (if w.category = 2 then [Slot.val (tv ρ w), .second] else [.val (tv ρ w)]) ++ lg_sl (ws.map (tv ρ)) := by
      simp only [List.map_cons, lg_sl, List.flatMap_cons, tv_cat]
    rw [e, List.flatMap_cons, List.length_append, List.length_append, ih]
    by_cases hc : w.category = 2
    · rw [if_pos hc, if_pos hc]; rfl
    · rw [if_neg hc, if_neg hc]; rfl
theorem ent_Ls {ρ : Nat → Nat} {as : List Value} {nL : Nat} (hn : (as.flatMap (fun v => if v.category = 2 then [v, Value.retAddr 0] else [v])).length ≤ nL) : mLs ρ ((lg_sl (as.map (tv ρ)) ++ List.replicate (nL - (lg_sl (as.map (tv ρ))).length) Slot.unset).toArray) nL (mEnt nL as) := by
  have hl := lv_entry (as.map (tv ρ)) (n := nL) (by rw [ent_len]; exact hn)
  refine ⟨?_, hl.1, hl.2.1, fun i v hi hu => ?_⟩
  · unfold mEnt
    rw [List.length_append, List.length_replicate]
    omega
  · unfold mEnt at hi
    rw [List.getElem?_toArray]
    by_cases hlt : i < (as.flatMap (fun v => if v.category = 2 then [v, Value.retAddr 0] else [v])).length
    · rw [List.getElem?_append_left hlt] at hi
      rw [List.getElem?_append_left (by rw [ent_len]; exact hlt)]
      exact ent_at as i v hi hu
    · rw [List.getElem?_append_right (by omega)] at hi
      have := List.eq_of_mem_replicate (List.mem_of_getElem? hi)
      subst this
      cases hu
/-- the run of n blocks, for every method and frame -/
def exS (l : Launch) (D : va_G) (cA : Nat → ClassId) (ρ : Nat → Nat) (B : Nat) (adV : Nat → Nat) (n : Nat) : Prop :=
  ∀ (y : Nat) (f : mF) (h : mH) (r : Option Value) (h' : mH), (bk y).all (blkOK y) = true → mexec n y f h = some (r, h') → mMono h h' ∧ ∀ (p : Program) (e : Env) (R : Room) (s : State) (m : MethodId) (args : Array Value) (below : List Frame) (meth : Method) (c : Code) (Q : State → Prop) (c0 s0 : Nat) (X : mH → Prop), mCx p R s m args meth c D cA ρ B adV c0 y → mXok X → mScr s B y ρ X → mGr R c0 s0 h h' →
    (∀ (pc : Nat) (ls st : List Value) (en : mE), tmOK y pc en = true → mIsRet en.1 = true → mRet y en st = (r, true) → Wm p l e R s m args below meth c Q D cA ρ B c0 s0 y X (pc, ls, st) h') → Wm p l e R s m args below meth c Q D cA ρ B c0 s0 y X f h
theorem met_of {l : Launch} {D : va_G} {cA : Nat → ClassId} {ρ : Nat → Nat} {B : Nat} {adV : Nat → Nat} {n : Nat} (hρ : ∀ k, k < 1000000 → ρ k = B + k) (H : exS l D cA ρ B adV n) {y : Nat} (hy : y < 302) {as : List Value} {h h' : mH} {r : Option Value} (hn : (as.flatMap (fun v => if v.category = 2 then [v, Value.retAddr 0] else [v])).length ≤ yML y) (hx : mexec n y (0, mEnt (yML y) as, []) h = some (r, h')) :
    Met l (yNm y) (mWs y) (mRm y (h'.1.length - h.1.length) (mS h' - mS h)) (mPc D cA ρ B adV as h) (mQc D cA ρ B r h') (h'.1.length - h.1.length) (mS h' - mS h) (fun q => B ≤ q) := by
  obtain ⟨i1, i2, i3, i4, i5, i6, i7, i8, i9⟩ := yAll_of hy
  refine Met.ofW (cc := yBy y) (maxL := yML y) (ret := yRt y) (ws' := mT) i2 rfl ?_
  intro p e s m args below meth c s₁ Bd hml hv
  obtain ⟨rfl, hP, hK, hsz, hlen, hex⟩ := hv
  have hts0 := atoms_spec (ws := mWs y) Bd.pre
  have hown : s.vm.findClass (oN (yO y)) = some m.cls := by rw [← i4]; exact findClass_of_methodNamed Bd.named
  have hlocks := Bd.notSynchronized
  have hr := Bd.returns
  obtain ⟨hmono, hW⟩ := H y _ h r h' (bo_of hy) hx
  have C : mCx p (mRm y (h'.1.length - h.1.length) (mS h' - mS h)) s m (as.map (tv ρ)).toArray meth c D cA ρ B adV h.1.length y :=
    ⟨Bd.exec, Bd.bytes, hml, hown, fun w hw => hts0 w (List.mem_cons_of_mem _ hw), hK, hρ, hsz, fun hk => by rw [← (i9 hk).2.1]; exact (name_of_methodNamed Bd.named Bd.method).1, rfl, rfl, hex⟩
  rw [lg_entry_eq]
  have K := hW p e _ s m _ below meth c (MQ below (mQc D cA ρ B r h') (as.map (tv ρ)).toArray s (h'.1.length - h.1.length) (mS h' - mS h) (fun q => B ≤ q)) h.1.length (mS h) (fun _ => True) C (fun _ _ _ _ => trivial) (fun q => absurd hy (by omega)) ⟨Nat.le_refl _, Nat.le_refl _, Nat.le_refl _, Nat.le_refl _⟩ ?_ s.heap [] _ (ent_Ls hn) ⟨hP, va_S.rf, hlen⟩ trivial
  · exact W.cs2 (Nat.sub_self _).symm (Nat.sub_self _).symm K
  · intro pc ls st en ht hret hre H1 locs1 ar hl1 hr1 _
    obtain ⟨hdd, htm⟩ := w_and ht
    have hd := of_decide_eq_true hdd
    obtain ⟨i, n1, ⟨x1, x2, x3⟩, v⟩ := en
    have fin : ∀ (t : State), t.heap = H1 → mQc D cA ρ B r h' (as.map (tv ρ)).toArray s (.returned (r.map (tv ρ))) t := fun t ht2 => ⟨rfl, by rw [ht2]; exact hr1.1, hr1.2.1.F ht2⟩
    cases i <;> (try (exact absurd (show false = true from hret) (by decide)))
    case ireturn =>
      simp only [Bool.and_eq_true] at htm
      have hn1 := Nat.eq_of_beq_eq_true htm.1
      subst hn1
      simp only [mRet] at hre
      match st, hre with
      | [.int w], hre =>
        obtain ⟨rfl, hok⟩ := Prod.mk.inj hre
        rcases Bool.or_eq_true_iff.mp htm.2 with q | q
        · have q := of_decide_eq_true q
          exact W.iret Bd.exec Bd.bytes (by rw [hr, q]) (fun t ht2 _ => fin t ht2) hr1.2.1.2.2 hd
        · have q := of_decide_eq_true q
          have hw : mIs01 w = true := by
            rcases Bool.or_eq_true_iff.mp hok with q2 | q2
            · have q2 := of_decide_eq_true q2; rw [q] at q2; cases q2
            · exact q2
          exact W.zret (ty := .boolean) Bd.exec Bd.bytes (by rw [hr, q]) (by rcases is01w hw with rfl | rfl <;> rfl) (fun t ht2 _ => fin t ht2) hr1.2.1.2.2 hd
    case lreturn =>
      simp only [Bool.and_eq_true] at htm
      have hn1 := Nat.eq_of_beq_eq_true htm.1
      subst hn1
      simp only [mRet] at hre
      match st, hre with
      | [.long w], hre =>
        obtain ⟨rfl, hok⟩ := Prod.mk.inj hre
        have q := of_decide_eq_true htm.2
        exact W.lret Bd.exec Bd.bytes (by rw [hr, q]) (fun t ht2 _ => fin t ht2) hr1.2.1.2.2 hd
    case areturn =>
      simp only [Bool.and_eq_true] at htm
      have hn1 := Nat.eq_of_beq_eq_true htm.1
      subst hn1
      have hq := htm.2
      split at hq
      next nm hnm =>
        simp only [mRet] at hre
        match st, hre with
        | [.ref w], hre =>
          obtain ⟨rfl, hok⟩ := Prod.mk.inj hre
          exact W.aret (rt := .object nm) Bd.exec Bd.bytes (by rw [hr, hnm]) (Or.inl ⟨nm, rfl⟩) (Or.inr ⟨_, rfl⟩) (fun t ht2 _ => fin t ht2) hr1.2.1.2.2 hd
        | [.null], hre =>
          obtain ⟨rfl, hok⟩ := Prod.mk.inj hre
          exact W.aret (rt := .object nm) Bd.exec Bd.bytes (by rw [hr, hnm]) (Or.inl ⟨nm, rfl⟩) (Or.inl rfl) (fun t ht2 _ => fin t ht2) hr1.2.1.2.2 hd
      next => cases hq
    case return_ =>
      simp only [Bool.and_eq_true] at htm
      have hn1 := Nat.eq_of_beq_eq_true htm.1
      subst hn1
      simp only [mRet] at hre
      match st, hre with
      | [], hre =>
        obtain ⟨rfl, hok⟩ := Prod.mk.inj hre
        have q := of_decide_eq_true htm.2
        exact W.vret Bd.exec Bd.bytes (by rw [hr, q]) (fun t ht2 _ => fin t ht2) hr1.2.1.2.2 hd
theorem call_lt {y pc : Nat} {en : mE} {f : mF} {h : mH} {y' : Nat} {as rest : List Value} (ht : tmOK y pc en = true) (hnr : mIsRet en.1 = false) (hc : mCall y en f h = (y', as, rest, true)) : y' < 302 ∧ (as.flatMap (fun v => if v.category = 2 then [v, Value.retAddr 0] else [v])).length ≤ yML y' := by
  obtain ⟨hdd, htm⟩ := w_and ht
  obtain ⟨i, n, ⟨x1, x2, x3⟩, v⟩ := en
  cases i
  case invokevirtual idx =>
    simp only [Bool.and_eq_true] at htm
    simp only [mCall] at hc
    obtain ⟨rfl, rfl, hc2⟩ := tri hc
    obtain ⟨rfl, hok⟩ := Prod.mk.inj hc2
    simp only [Bool.and_eq_true] at hok
    exact ⟨(mLn_of htm.1.1.2).2, Nat.le_of_ble_eq_true hok.1.2⟩
  case invokestatic idx =>
    simp only [Bool.and_eq_true] at htm
    simp only [mCall] at hc
    obtain ⟨rfl, rfl, hc2⟩ := tri hc
    obtain ⟨rfl, hok⟩ := Prod.mk.inj hc2
    simp only [Bool.and_eq_true] at hok
    refine ⟨?_, Nat.le_of_ble_eq_true hok.2⟩
    rcases Bool.or_eq_true_iff.mp htm.1.1.2 with q | q
    · exact (mLn_of q).2
    · exact (nLn_of q).2
  case invokespecial idx =>
    simp only [Bool.and_eq_true] at htm
    simp only [mCall] at hc
    obtain ⟨rfl, rfl, hc2⟩ := tri hc
    obtain ⟨rfl, hok⟩ := Prod.mk.inj hc2
    simp only [Bool.and_eq_true] at hok
    exact ⟨(mLn_of htm.1.1.2).2, Nat.le_of_ble_eq_true hok.1.2⟩
  all_goals first | exact absurd (show true = false from hnr) (by decide) | exact absurd (show false = true from htm) (by decide)
set_option maxHeartbeats 4000000 in
theorem ex_all {l : Launch} {D : va_G} {cA : Nat → ClassId} {ρ : Nat → Nat} {B : Nat} {adV : Nat → Nat} (hρ : ∀ k, k < 1000000 → ρ k = B + k) : ∀ n, exS l D cA ρ B adV n := by
  intro n
  induction n with
  | zero => intro y f h r h' _ hx; cases hx
  | succ n ih =>
    intro y f h r h' hbo hx
    simp only [mexec] at hx
    generalize hb : (bk y).find? (fun b => Nat.beq b.1 f.1) = ob at hx
    cases ob with
    | none => cases hx
    | some b =>
      have hbm : b ∈ bk y := List.mem_of_find?_eq_some hb
      have hbk := List.all_eq_true.mp hbo b hbm
      have hpc : b.1 = f.1 := by
        have := List.find?_some hb
        exact Nat.eq_of_beq_eq_true this
      obtain ⟨bpc, l0, tm⟩ := b
      simp only at hpc
      subst hpc
      simp only [blkOK] at hbk
      obtain ⟨hl0, htm⟩ := w_and hbk
      simp only at hx
      generalize hrun : mrun l0 f h = q at hx
      obtain ⟨f1, h1, ok⟩ := q
      simp only at hx
      cases ok with
      | false => simp at hx
      | true =>
        rw [if_pos rfl] at hx
        have mo1 := mono_run l0 f h hl0 hrun
        cases tm with
        | none =>
          obtain ⟨mo2, K⟩ := ih y f1 h1 r h' hbo hx
          refine ⟨mo1.tr mo2, ?_⟩
          intro p e R s m args below meth c Q c0 s0 X C hXo hZ hg hret
          obtain ⟨g1, g2, g3, g4⟩ := hg
          have q1 := mo1.1
          have q2 := mo1.2.1
          have q3 := mo2.1
          have q4 := mo2.2.1
          exact ms_run C hXo hZ l0 f h hl0 ⟨g1, g2, by omega, by omega⟩ hrun (K p e R s m args below meth c Q c0 s0 X C hXo hZ ⟨by omega, by omega, g3, g4⟩ hret)
        | some en =>
          simp only at htm hx
          obtain ⟨hnb, htk⟩ := w_and htm
          have hend := end_run l0 f h (fun q hq => by have := List.all_eq_true.mp hnb q hq; simpa using this) hrun
          rw [← hend] at htk
          by_cases hir : mIsRet en.1 = true
          · rw [if_pos hir] at hx
            generalize hmr : mRet y en f1.2.2 = q at hx
            obtain ⟨r0, ok2⟩ := q
            simp only at hx
            cases ok2 with
            | false => simp at hx
            | true =>
              rw [if_pos rfl] at hx
              have hx := Option.some.inj hx
              obtain ⟨rfl, rfl⟩ := Prod.mk.inj hx
              refine ⟨mo1, ?_⟩
              intro p e R s m args below meth c Q c0 s0 X C hXo hZ hg hret
              exact ms_run C hXo hZ l0 f h hl0 hg hrun (hret f1.1 f1.2.1 f1.2.2 en htk hir hmr)
          · rw [if_neg hir] at hx
            have hnr : mIsRet en.1 = false := by simpa using hir
            generalize hmc : mCall y en f1 h1 = q at hx
            obtain ⟨y', as, rest, ok2⟩ := q
            simp only at hx
            cases ok2 with
            | false => simp at hx
            | true =>
              rw [if_pos rfl] at hx
              generalize hcal : mexec n y' (0, mEnt (yML y') as, []) h1 = oc at hx
              cases oc with
              | none => cases hx
              | some rr =>
                obtain ⟨r1, h2⟩ := rr
                simp only [Option.bind_some] at hx
                obtain ⟨hy', hent⟩ := call_lt htk hnr hmc
                obtain ⟨mo2, -⟩ := ih y' _ h1 r1 h2 (bo_of hy') hcal
                obtain ⟨mo3, K⟩ := ih y _ h2 r h' hbo hx
                refine ⟨(mo1.tr mo2).tr mo3, ?_⟩
                intro p e R s m args below meth c Q c0 s0 X C hXo hZ hg hret
                obtain ⟨g1, g2, g3, g4⟩ := hg
                have q1 := mo1.1
                have q2 := mo1.2.1
                have q3 := mo2.1
                have q4 := mo2.2.1
                have q5 := mo3.1
                have q6 := mo3.2.1
                refine ms_run C hXo hZ l0 f h hl0 ⟨g1, g2, by omega, by omega⟩ hrun ?_
                exact ms_call C hXo (met_of hρ ih hy' hent hcal) htk hnr hmc mo2 ⟨by omega, by omega, by omega, by omega⟩ (K p e R s m args below meth c Q c0 s0 X C hXo hZ ⟨by omega, by omega, g3, g4⟩ hret)
