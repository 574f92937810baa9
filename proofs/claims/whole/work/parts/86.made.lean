/-! New cells, and the calls that are as one instruction. -/
theorem mS_nw (h : mH) (k n : Nat) : mS (mNw h k n) = mS h + n := by simp [mS, mNw]
theorem len_nw (h : mH) (k n : Nat) : (mNw h k n).1.length = h.1.length + 1 := by simp [mNw]
theorem eLn_of {ln : List (Nat × Nat × Nat × Nat)} {o idx t : Nat} (h : eLn ln o idx t = true) : ∃ pl, (o, idx, t, pl) ∈ ln := by
  obtain ⟨q, hq, hb⟩ := List.any_eq_true.mp h
  simp only [Bool.and_eq_true] at hb
  obtain ⟨⟨b1, b2⟩, b3⟩ := hb
  have e1 := Nat.eq_of_beq_eq_true b1
  have e2 := Nat.eq_of_beq_eq_true b2
  have e3 := Nat.eq_of_beq_eq_true b3
  subst e1 e2 e3
  exact ⟨q.2.2.2, hq⟩
theorem cLn_of {o idx ci : Nat} (h : eLn cLn o idx ci = true) : Cond.classLink (oN o) idx (kN ci) ∈ mT ∧ ci < 13 := by
  obtain ⟨pl, hq⟩ := eLn_of h
  have h2 := List.all_eq_true.mp cLn_ok _ hq
  simp only [Bool.and_eq_true] at h2
  exact ⟨mT_in (wAt_in h2.1) rfl, Nat.blt_eq.mp h2.2⟩
theorem pLn_of {o idx t : Nat} (h : eLn pLn o idx t = true) : Cond.methodLink (oN o) idx (pNm t) ∈ mT := by
  obtain ⟨pl, hq⟩ := eLn_of h
  have h2 := List.all_eq_true.mp pLn_ok _ hq
  exact mT_in (wAt_in h2) rfl
theorem W.cs2 {p : Program} {l : Launch} {e : Env} {R : Room} {s : State} {m : MethodId} {args : Array Value} {below : List Frame} {meth : Method} {c : Code} {H : Heap} {locs : List Loc} {Q : State → Prop} {cells slots cells' slots' : Nat} {g : JFrame} (hc : cells = cells') (hs : slots = slots') (k : W p l e R s m args below meth c H locs cells' slots' Q g) : W p l e R s m args below meth c H locs cells slots Q g := by
  subst hc hs
  exact k
section MD
variable {p : Program} {l : Launch} {e : Env} {R : Room} {s : State} {m : MethodId} {args : Array Value} {below : List Frame} {meth : Method} {c : Code} {Q : State → Prop} {D : va_G} {cA : Nat → ClassId} {ρ : Nat → Nat} {B : Nat} {adV : Nat → Nat} {c0 s0 y : Nat} {X : mH → Prop} {en : mE} {f f' : mF} {h h' : mH} {ok : Bool}
theorem sz_eq {H : Heap} {locs : List Loc} (hρ : ∀ k, k < 1000000 → ρ k = B + k) (hr : mRel D cA ρ B s.heap h H locs) (hB : s.heap.size = B + c0) (hc : c0 ≤ h.1.length) (hsz : H.size ≤ s.heap.size + (h.1.length - c0)) : H.size = B + h.1.length := by
  have hlow : B + h.1.length ≤ H.size := by
    by_cases h0 : h.1.length = 0
    · have := hr.2.1.1
      omega
    · have hlt : h.1.length - 1 < h.1.length := by omega
      have he := eW_at (cA := cA) (ρ := ρ) (List.getElem?_eq_getElem hlt)
      have := (hr.1 _ _ he).lt
      have hl := hr.2.2
      simp only [hρ (h.1.length - 1) (by omega)] at this
      omega
  omega
/-- how far the counts go -/
def mGr (R : Room) (c0 s0 : Nat) (h h' : mH) : Prop := c0 ≤ h.1.length ∧ s0 ≤ mS h ∧ h'.1.length - c0 ≤ R.cells ∧ mS h' - s0 ≤ R.slots
theorem nw_keep {k n : Nat} (hl : h.1.length < 1000000) (hXo : mXok X) (hX : X h) : X (mNw h k n) := hXo h _ (fun a j ha => by simp only [mNw]; rw [if_neg (by omega)]) hX
theorem nw_rel {k n : Nat} {H H1 : Heap} {locs : List Loc} (hρ : ∀ k, k < 1000000 → ρ k = B + k) (hr : mRel D cA ρ B s.heap h H locs) (hl : h.1.length < 1000000) (hsz : H.size = B + h.1.length) (z1 : H1.size = H.size + 1) (o1 : ∀ q, q < H.size → H1[q]? = H[q]?) (hat : va_at D classes (ρ h.1.length, eCe cA ρ (mNw h k n) h.1.length (k, n)) H1) : mRel D cA ρ B s.heap (mNw h k n) H1 locs := by
  refine ⟨?_, ⟨Nat.le_trans hr.2.1.1 (by omega), fun x h1 h2 => (o1 x (Nat.lt_of_lt_of_le h1 hr.2.1.1)).trans (hr.2.1.2.1 x h1 h2), hr.2.1.2.2⟩, by rw [len_nw]; omega⟩
  rw [eW_push trivial]
  refine va_P.app (hr.1.kept (fun k x hx => o1 x.1 (hr.1 k x hx).lt)) (fun i q hq => ?_)
  have hz : i < 1 := (List.getElem?_eq_some_iff.mp hq).1
  rw [show i = 0 by omega] at hq
  cases hq
  exact hat
theorem ms_new {idx : Nat} (C : mCx p R s m args meth c D cA ρ B adV c0 y) (hXo : mXok X) (hd : decode (yBy y) f.1 = .ok (.new idx, 3)) (hn : en.2.1 = 3) (hi : en.1 = .new idx) (hk : (eLn cLn (yO y) idx en.2.2.1.1 && Nat.beq en.2.2.1.2.1 (kF en.2.2.1.1).length) = true) (hg : mGr R c0 s0 h h') (hs : mstep en f h = (f', h', true)) (K : Wm p l e R s m args below meth c Q D cA ρ B c0 s0 y X f' h') : Wm p l e R s m args below meth c Q D cA ρ B c0 s0 y X f h := by
  obtain ⟨hx, hb, hml, hown, hts, hK, hρ, hB, hini, hfr, hlo, hex⟩ := C
  obtain ⟨i, n, ⟨ci, N, t⟩, v⟩ := en
  obtain ⟨pc, ls, st⟩ := f
  simp only [Bool.and_eq_true] at hn hd hi hk
  have hN := Nat.eq_of_beq_eq_true hk.2
  subst hn hi hN
  obtain ⟨hw, hci⟩ := cLn_of hk.1
  simp only [mstep] at hs
  obtain ⟨rfl, rfl, hb2⟩ := tri hs
  have hlt : h.1.length < 1000000 := Nat.blt_eq.mp hb2
  obtain ⟨g1, g2, g3, g4⟩ := hg
  rw [len_nw] at g3
  rw [mS_nw] at g4
  intro H locs as hl hr hX
  refine W.sz (fun hsz => ?_)
  have hsz := sz_eq hρ hr hB g1 hsz
  have hKn := hK.1 ci _ (cl_at hci)
  refine W.newcK hx hb hown (hts _ hw) (hts _ (k_inst hci)) (hts _ (k_init hci)) rfl hd (by omega) (by omega) hKn.2.1 hsz (fun H1 kC hkC e1 z1 o1 => ?_)
  have hρl := hρ h.1.length hlt
  have hrel : mRel D cA ρ B s.heap (mNw h ci (kF ci).length) H1 locs := by
    refine nw_rel hρ hr hlt hsz (by omega) (fun q hq => o1 q (by omega)) ?_
    rw [eC_obj (by omega), hρl]
    refine ⟨_, cl_at hci, (u_born (kY ci) hts (k_in hci) hKn hkC e1 (k_ty hci)).to (fun j hj => ?_)⟩
    have hk3 := (k_all hci hj).2.2
    have hF := eF_at (ρ := ρ) (h := mNw h ci (kF ci).length) (a := h.1.length) (kt_at hj rfl)
    unfold vp_V
    rw [List.getD_eq_getElem?_getD, hF, Option.getD_some]
    generalize (kFd ci j).2.2.2.1 = t at hk3
    generalize kY ci j = ty at hk3
    cases ty <;> first | cases hk3 | skip
    all_goals (have ht := Nat.eq_of_beq_eq_true hk3; subst ht; simp [eV, mI, mR, mL, mNw, defaultValue, va_rf])
  have K2 := K H1 locs as hl hrel (nw_keep hlt hXo hX)
  refine W.cs2 ?_ ?_ (W.eq ?_ K2)
  · rw [len_nw]; omega
  · rw [mS_nw]; omega
  · show F0 m (pc + 3) as _ = F0 m (pc + 3) as _
    simp only [List.map_cons, tv, hρl]
end MD
