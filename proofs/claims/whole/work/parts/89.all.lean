/-! Any instruction of a block. -/
section MA
variable {p : Program} {l : Launch} {e : Env} {R : Room} {s : State} {m : MethodId} {args : Array Value} {below : List Frame} {meth : Method} {c : Code} {Q : State → Prop} {D : va_G} {cA : Nat → ClassId} {ρ : Nat → Nat} {B : Nat} {adV : Nat → Nat} {c0 s0 y : Nat} {X : mH → Prop} {en : mE} {f f' : mF} {h h' : mH} {ok : Bool}
theorem oN_kN : ∀ ci, ci < 13 → oN ci = kN ci := by decide +kernel
theorem kIn_of {o idx : Nat} {v : Int32} (h : kIn.any (fun q => Nat.beq q.1 o && Nat.beq q.2.1 idx && decide (q.2.2.1 = v)) = true) : Cond.constant (oN o) idx v ∈ mT := by
  obtain ⟨q, hq, hb⟩ := List.any_eq_true.mp h
  simp only [Bool.and_eq_true, decide_eq_true_eq] at hb
  have e1 := Nat.eq_of_beq_eq_true hb.1.1
  have e2 := Nat.eq_of_beq_eq_true hb.1.2
  have h2 := List.all_eq_true.mp kIn_ok _ hq
  rw [e1, e2, hb.2] at h2
  exact mT_in (wAt_in h2) rfl
theorem kLn_of {o idx : Nat} {v : Int64} (h : kLn.any (fun q => Nat.beq q.1 o && Nat.beq q.2.1 idx && decide (q.2.2.1 = v)) = true) : Cond.constantLong (oN o) idx v ∈ mT := by
  obtain ⟨q, hq, hb⟩ := List.any_eq_true.mp h
  simp only [Bool.and_eq_true, decide_eq_true_eq] at hb
  have e1 := Nat.eq_of_beq_eq_true hb.1.1
  have e2 := Nat.eq_of_beq_eq_true hb.1.2
  have h2 := List.all_eq_true.mp kLn_ok _ hq
  rw [e1, e2, hb.2] at h2
  exact mT_in (wAt_in h2) rfl
theorem mSw_lk {x : Int32} {pc : Nat} {d : Nat} {dflt : Int} (hd : (d : Int) = (pc : Int) + dflt) : ∀ (ps : List (Int × Int)), (∀ q ∈ ps, 0 ≤ (pc : Int) + q.2 ∧ -1000000 ≤ q.1 ∧ q.1 ≤ 1000000) → ((mSw x d (mLk pc ps) : Nat) : Int) = (pc : Int) + Op.lookupswitch.offset ps dflt x.toInt := by
  intro ps
  induction ps with
  | nil => intro _; exact hd
  | cons q r ih =>
    intro h
    obtain ⟨a, o⟩ := q
    obtain ⟨h1, h2, h3⟩ := h (a, o) List.mem_cons_self
    have hlo : (Int32.ofInt a).toInt = a := by
      rw [Int32.toInt_ofInt_of_le (by simp only at h2; omega) (by simp only at h3; omega)]
    have hiff : x = Int32.ofInt a ↔ a = x.toInt := by
      constructor
      · intro q; rw [q, hlo]
      · intro q; rw [← Int32.toInt_inj, hlo, q]
    simp only [mLk, mSw, Op.lookupswitch.offset]
    by_cases hc : a = x.toInt
    · rw [if_pos (hiff.mpr hc), if_pos hc]
      exact Int.toNat_of_nonneg h1
    · rw [if_neg (fun q => hc (hiff.mp q)), if_neg hc]
      exact ih (fun q hq => h q (List.mem_cons_of_mem _ hq))
set_option maxHeartbeats 4000000 in
theorem ms_all (C : mCx p R s m args meth c D cA ρ B adV c0 y) (hXo : mXok X) (hZ : mScr s B y ρ X) (he : eOK y f.1 en = true) (hg : mGr R c0 s0 h h') (hs : mstep en f h = (f', h', true)) (K : Wm p l e R s m args below meth c Q D cA ρ B c0 s0 y X f' h') : Wm p l e R s m args below meth c Q D cA ρ B c0 s0 y X f h := by
  have hx := C.1
  have hb := C.2.1
  have hown := C.2.2.2.1
  have hts := C.2.2.2.2.1
  unfold eOK at he
  simp only [Bool.and_eq_true, decide_eq_true_eq] at he
  obtain ⟨⟨hd, hlen⟩, hk⟩ := he
  obtain ⟨i, n, x, v⟩ := en
  simp only at hd hlen
  cases i <;> (try (exact absurd (tri hs).2.2 (by decide)))
  case aaload =>
    have hn : n = 1 := Nat.eq_of_beq_eq_true hlen
    subst hn
    exact ms_aal C hd rfl rfl hk hs K
  case aastore =>
    have hn : n = 1 := Nat.eq_of_beq_eq_true hlen
    subst hn
    exact ms_aas C hXo hd rfl rfl hk hs K
  case aconst_null =>
    have hn : n = 1 := Nat.eq_of_beq_eq_true hlen
    subst hn
    exact ms_push (v := .null) (fun _ _ _ _ _ _ k => lv_null hx hb hd k) hs K
  case aload k =>
    have hn : n = 2 := Nat.eq_of_beq_eq_true hlen
    subst hn
    exact ms_ldR (fun _ _ _ _ _ _ _ h k => lv_aload hx hb hd h k) (fun _ _ _ _ _ _ h k => lv_aloadN hx hb hd h k) rfl hs K
  case aload_n k =>
    have hn : n = 1 := Nat.eq_of_beq_eq_true hlen
    subst hn
    exact ms_ldR (fun _ _ _ _ _ _ _ h k => lv_aload_n hx hb hd rfl h k) (fun _ _ _ _ _ _ h k => lv_aload_nN hx hb hd rfl h k) rfl hs K
  case anewarray idx =>
    have hn : n = 3 := Nat.eq_of_beq_eq_true hlen
    subst hn
    exact ms_anew C hXo hd rfl rfl hk hg hs K
  case arraylength =>
    have hn : n = 1 := Nat.eq_of_beq_eq_true hlen
    subst hn
    exact ms_len C hZ hd rfl rfl hk hs K
  case astore k =>
    have hn : n = 2 := Nat.eq_of_beq_eq_true hlen
    subst hn
    exact ms_stR (fun _ _ _ _ _ _ _ _ h hk k => lv_astore hx hb hd h hk rfl k) (fun _ _ _ _ _ _ _ h hk k => lv_astoreN hx hb hd h hk rfl k) rfl hs K
  case astore_n k =>
    have hn : n = 1 := Nat.eq_of_beq_eq_true hlen
    subst hn
    exact ms_stR (fun _ _ _ _ _ _ _ _ h hk k => lv_astore_n hx hb hd rfl h hk rfl k) (fun _ _ _ _ _ _ _ h hk k => lv_astore_nN hx hb hd rfl h hk rfl k) rfl hs K
  case baload =>
    have hn : n = 1 := Nat.eq_of_beq_eq_true hlen
    subst hn
    exact ms_al (i0 := .baload) (Or.inr ⟨rfl, hk⟩) C hZ hd rfl hs K
  case bastore =>
    have hn : n = 1 := Nat.eq_of_beq_eq_true hlen
    subst hn
    exact ms_bas C hXo hd rfl hk rfl hs K
  case bipush k =>
    have hn : n = 2 := Nat.eq_of_beq_eq_true hlen
    have hv : v = .int (Int8.ofInt k).toInt32 := of_decide_eq_true hk
    subst hn hv
    exact ms_push (v := .int (Int8.ofInt k).toInt32) (fun _ _ _ _ _ _ k => lv_bipush hx hb hd rfl k) hs K
  case dup =>
    have hn : n = 1 := Nat.eq_of_beq_eq_true hlen
    subst hn
    obtain ⟨pc, ls, st⟩ := f
    simp only [mstep] at hs
    match st, hs with
    | v :: st, hs =>
      obtain ⟨rfl, rfl, hb2⟩ := tri hs
      intro H locs as hl hr hX
      exact lv_dup hx hb hd ((tv_cat ρ v).trans (Nat.eq_of_beq_eq_true hb2)) (K H locs as hl hr hX)
    | [], hs => exact absurd (tri hs).2.2 (by decide)
  case dup2 =>
    have hn : n = 1 := Nat.eq_of_beq_eq_true hlen
    subst hn
    obtain ⟨pc, ls, st⟩ := f
    simp only [mstep] at hs
    match st, hs with
    | v :: w :: st, hs =>
      obtain ⟨rfl, rfl, hb2⟩ := tri hs
      rw [Bool.and_eq_true] at hb2
      intro H locs as hl hr hX
      exact lv_dup2_11 hx hb hd ((tv_cat ρ v).trans (Nat.eq_of_beq_eq_true hb2.1)) ((tv_cat ρ w).trans (Nat.eq_of_beq_eq_true hb2.2)) (K H locs as hl hr hX)
    | [], hs => exact absurd (tri hs).2.2 (by decide)
    | [_], hs => exact absurd (tri hs).2.2 (by decide)
  case getfield idx =>
    have hn : n = 3 := Nat.eq_of_beq_eq_true hlen
    subst hn
    simp only [eLk, Bool.and_eq_true] at hk
    exact ms_get C hd rfl hk.1 hk.2 hs K
  case goto off =>
    have hn : n = 3 := Nat.eq_of_beq_eq_true hlen
    subst hn
    obtain ⟨pc, ls, st⟩ := f
    simp only [mstep] at hs
    obtain ⟨rfl, rfl, -⟩ := tri hs
    intro H locs as hl hr hX
    exact lv_goto hx hb hd (eJmp_of hk) (K H locs as hl hr hX)
  case i2b =>
    have hn : n = 1 := Nat.eq_of_beq_eq_true hlen
    subst hn
    obtain ⟨pc, ls, st⟩ := f
    simp only [mstep] at hs
    split at hs
    next _ a st =>
      obtain ⟨rfl, rfl, -⟩ := tri hs
      intro H locs as hl hr hX
      exact lv_i2b hx hb hd rfl (K H locs as hl hr hX)
    next => exact absurd (tri hs).2.2 (by decide)
  case i2l =>
    have hn : n = 1 := Nat.eq_of_beq_eq_true hlen
    subst hn
    obtain ⟨pc, ls, st⟩ := f
    simp only [mstep] at hs
    split at hs
    next _ a st =>
      obtain ⟨rfl, rfl, -⟩ := tri hs
      intro H locs as hl hr hX
      exact lv_i2l hx hb hd rfl (K H locs as hl hr hX)
    next => exact absurd (tri hs).2.2 (by decide)
  case iadd =>
    have hn : n = 1 := Nat.eq_of_beq_eq_true hlen
    subst hn
    exact ms_b2 (n := 1) (fun _ _ _ _ _ _ _ _ _ k => lv_iadd hx hb hd k) rfl hs K
  case iaload =>
    have hn : n = 1 := Nat.eq_of_beq_eq_true hlen
    subst hn
    exact ms_al (i0 := .iaload) (Or.inl ⟨rfl, hk⟩) C hZ hd rfl hs K
  case iand =>
    have hn : n = 1 := Nat.eq_of_beq_eq_true hlen
    subst hn
    exact ms_b2 (n := 1) (fun _ _ _ _ _ _ _ _ _ k => lv_iand hx hb hd k) rfl hs K
  case iastore =>
    have hn : n = 1 := Nat.eq_of_beq_eq_true hlen
    subst hn
    exact ms_as C hXo hk hd rfl hs K
  case iconst k =>
    have hn : n = 1 := Nat.eq_of_beq_eq_true hlen
    have hv : v = .int (Int32.ofInt k) := of_decide_eq_true hk
    subst hn hv
    exact ms_push (v := .int (Int32.ofInt k)) (fun _ _ _ _ _ _ k => lv_iconst hx hb hd rfl k) hs K
  case idiv =>
    have hn : n = 1 := Nat.eq_of_beq_eq_true hlen
    subst hn
    exact ms_b2 (n := 1) (fun _ _ _ _ _ _ _ _ o k => lv_idiv hx hb hd (by simpa using o) k) rfl hs K
  case if_icmp cd off =>
    have hn : n = 3 := Nat.eq_of_beq_eq_true hlen
    subst hn
    exact ms_ic hx hb hd hk rfl hs K
  case ifCond cd off =>
    have hn : n = 3 := Nat.eq_of_beq_eq_true hlen
    subst hn
    exact ms_if hx hb hd hk rfl hs K
  case ifnonnull off =>
    have hn : n = 3 := Nat.eq_of_beq_eq_true hlen
    subst hn
    obtain ⟨pc, ls, st⟩ := f
    simp only [mstep] at hs
    split at hs
    next _ st =>
      obtain ⟨rfl, rfl, -⟩ := tri hs
      intro H locs as hl hr hX
      exact lv_ifnonnullN hx hb hd (K H locs as hl hr hX)
    next _ a st =>
      obtain ⟨rfl, rfl, -⟩ := tri hs
      intro H locs as hl hr hX
      exact lv_ifnonnull hx hb hd (eJmp_of hk) (K H locs as hl hr hX)
    next => exact absurd (tri hs).2.2 (by decide)
  case ifnull off =>
    have hn : n = 3 := Nat.eq_of_beq_eq_true hlen
    subst hn
    obtain ⟨pc, ls, st⟩ := f
    simp only [mstep] at hs
    split at hs
    next _ st =>
      obtain ⟨rfl, rfl, -⟩ := tri hs
      intro H locs as hl hr hX
      exact lv_ifnullN hx hb hd (eJmp_of hk) (K H locs as hl hr hX)
    next _ a st =>
      obtain ⟨rfl, rfl, -⟩ := tri hs
      intro H locs as hl hr hX
      exact lv_ifnull hx hb hd (K H locs as hl hr hX)
    next => exact absurd (tri hs).2.2 (by decide)
  case iinc k cc =>
    have hn : n = 3 := Nat.eq_of_beq_eq_true hlen
    have hv : v = .int (Int32.ofInt cc) := of_decide_eq_true hk
    subst hn hv
    obtain ⟨pc, ls, st⟩ := f
    simp only [mstep] at hs
    split at hs
    next x0 c1 hx0 hc1 =>
      cases hc1
      obtain ⟨rfl, rfl, hb2⟩ := tri hs
      intro H locs as hl hr hX
      have hkl : k < yML y := by rw [← hl.1]; exact Nat.blt_eq.mp hb2
      have hm : (k, Value.int x0) ∈ mPairs ρ ls := by
        refine mPairs_mem.mpr ⟨.int x0, ?_, rfl, rfl⟩
        rw [List.getD_eq_getElem?_getD] at hx0
        cases hq : ls[k]? with
        | none => rw [hq] at hx0; cases hx0
        | some w => rw [hq] at hx0; simp only [Option.getD_some] at hx0; rw [hx0]
      obtain ⟨kk, hkk⟩ := List.getElem?_of_mem hm
      exact lv_iinc hx hb hd hl.has hkk rfl hkl rfl (fun as' h' => K H locs as' (hl.st1 hkl h') hr hX)
    next => exact absurd (tri hs).2.2 (by decide)
  case iload k =>
    have hn : n = 2 := Nat.eq_of_beq_eq_true hlen
    subst hn
    exact ms_ldI (fun _ _ _ _ _ _ _ h k => lv_iload hx hb hd h k) rfl hs K
  case iload_n k =>
    have hn : n = 1 := Nat.eq_of_beq_eq_true hlen
    subst hn
    exact ms_ldI (fun _ _ _ _ _ _ _ h k => lv_iload_n hx hb hd rfl h k) rfl hs K
  case imul =>
    have hn : n = 1 := Nat.eq_of_beq_eq_true hlen
    subst hn
    exact ms_b2 (n := 1) (fun _ _ _ _ _ _ _ _ _ k => lv_imul hx hb hd k) rfl hs K
  case ineg =>
    have hn : n = 1 := Nat.eq_of_beq_eq_true hlen
    subst hn
    obtain ⟨pc, ls, st⟩ := f
    simp only [mstep] at hs
    split at hs
    next _ a st =>
      obtain ⟨rfl, rfl, -⟩ := tri hs
      intro H locs as hl hr hX
      exact lv_ineg hx hb hd (K H locs as hl hr hX)
    next => exact absurd (tri hs).2.2 (by decide)
  case invokespecial idx =>
    have hn : n = 3 := Nat.eq_of_beq_eq_true hlen
    subst hn
    exact ms_obj C hd rfl hk hs K
  case invokestatic idx =>
    have hn : n = 3 := Nat.eq_of_beq_eq_true hlen
    subst hn
    exact ms_mth C hXo hd rfl hk hg hs K
  case invokevirtual idx =>
    have hn : n = 3 := Nat.eq_of_beq_eq_true hlen
    subst hn
    exact ms_str C hd rfl hk hg hs K
  case ior =>
    have hn : n = 1 := Nat.eq_of_beq_eq_true hlen
    subst hn
    exact ms_b2 (n := 1) (fun _ _ _ _ _ _ _ _ _ k => lv_ior hx hb hd k) rfl hs K
  case irem =>
    have hn : n = 1 := Nat.eq_of_beq_eq_true hlen
    subst hn
    exact ms_b2 (n := 1) (fun _ _ _ _ _ _ _ _ o k => lv_irem hx hb hd (by simpa using o) k) rfl hs K
  case ishl =>
    have hn : n = 1 := Nat.eq_of_beq_eq_true hlen
    subst hn
    exact ms_b2 (n := 1) (fun _ _ _ _ _ _ _ _ _ k => lv_ishl hx hb hd k) rfl hs K
  case ishr =>
    have hn : n = 1 := Nat.eq_of_beq_eq_true hlen
    subst hn
    exact ms_b2 (n := 1) (fun _ _ _ _ _ _ _ _ _ k => lv_ishr hx hb hd k) rfl hs K
  case istore k =>
    have hn : n = 2 := Nat.eq_of_beq_eq_true hlen
    subst hn
    exact ms_stI (fun _ _ _ _ _ _ _ _ h hk k => lv_istore hx hb hd h hk rfl k) rfl hs K
  case istore_n k =>
    have hn : n = 1 := Nat.eq_of_beq_eq_true hlen
    subst hn
    exact ms_stI (fun _ _ _ _ _ _ _ _ h hk k => lv_istore_n hx hb hd rfl h hk rfl k) rfl hs K
  case isub =>
    have hn : n = 1 := Nat.eq_of_beq_eq_true hlen
    subst hn
    exact ms_b2 (n := 1) (fun _ _ _ _ _ _ _ _ _ k => lv_isub hx hb hd k) rfl hs K
  case iushr =>
    have hn : n = 1 := Nat.eq_of_beq_eq_true hlen
    subst hn
    exact ms_b2 (n := 1) (fun _ _ _ _ _ _ _ _ _ k => lv_iushr hx hb hd rfl k) rfl hs K
  case ixor =>
    have hn : n = 1 := Nat.eq_of_beq_eq_true hlen
    subst hn
    exact ms_b2 (n := 1) (fun _ _ _ _ _ _ _ _ _ k => lv_ixor hx hb hd k) rfl hs K
  case ladd =>
    have hn : n = 1 := Nat.eq_of_beq_eq_true hlen
    subst hn
    exact ms_b2l (n := 1) (fun _ _ _ _ _ _ _ _ _ k => lv_ladd hx hb hd k) rfl hs K
  case lcmp =>
    have hn : n = 1 := Nat.eq_of_beq_eq_true hlen
    subst hn
    obtain ⟨pc, ls, st⟩ := f
    simp only [mstep] at hs
    split at hs
    next _ b a st =>
      obtain ⟨rfl, rfl, -⟩ := tri hs
      intro H locs as hl hr hX
      exact W.lcmp hx hb hd (K H locs as hl hr hX)
    next => exact absurd (tri hs).2.2 (by decide)
  case lconst k =>
    have hn : n = 1 := Nat.eq_of_beq_eq_true hlen
    have hv : v = .long (Int64.ofNat (k : Nat)) := of_decide_eq_true hk
    subst hn hv
    exact ms_push (v := .long (Int64.ofNat (k : Nat))) (fun _ _ _ _ _ _ k => lv_lconst hx hb hd rfl k) hs K
  case ldc idx =>
    have hn : n = 2 := Nat.eq_of_beq_eq_true hlen
    subst hn
    simp only [eLk] at hk
    split at hk
    next w => exact ms_push (v := .int w) (fun _ _ _ _ _ _ k => lv_ldc hx hb hown (hts _ (kIn_of hk)) hd k) hs K
    next a =>
      simp only [Bool.and_eq_true] at hk
      have ha := Nat.le_of_ble_eq_true hk.1.1
      have hk2 := hk.2
      split at hk2
      next q hq =>
        simp only [Bool.and_eq_true] at hk2
        have e1 := Nat.eq_of_beq_eq_true hk2.1
        have e2 := Nat.eq_of_beq_eq_true hk2.2
        have hR := C.2.2.2.2.2.2.2.2.2.2.2.2.2.1 (a - 1000000) q hq
        rw [e1, e2, Nat.add_sub_of_le ha] at hR
        exact ms_push (v := .ref a) (fun _ _ _ _ _ _ k => va_ldcS hx hb hown hR hd k) hs K
      next => cases hk2
    next => cases hk
  case ldc_w idx =>
    have hn : n = 3 := Nat.eq_of_beq_eq_true hlen
    subst hn
    simp only [eLk] at hk
    split at hk
    next w => exact ms_push (v := .int w) (fun _ _ _ _ _ _ k => lv_ldcw hx hb hown (hts _ (kIn_of hk)) hd k) hs K
    next => cases hk
  case ldc2_w idx =>
    have hn : n = 3 := Nat.eq_of_beq_eq_true hlen
    subst hn
    simp only [eLk] at hk
    split at hk
    next w => exact ms_push (v := .long w) (fun _ _ _ _ _ _ k => lv_ldc2 hx hb hown (hts _ (kLn_of hk)) hd k) hs K
    next => cases hk
  case ldiv =>
    have hn : n = 1 := Nat.eq_of_beq_eq_true hlen
    subst hn
    exact ms_b2l (n := 1) (fun _ _ _ _ _ _ _ _ o k => lv_ldiv hx hb hd (by simpa using o) k) rfl hs K
  case lload k =>
    have hn : n = 2 := Nat.eq_of_beq_eq_true hlen
    subst hn
    exact ms_ldL (fun _ _ _ _ _ _ _ h k => lv_lload hx hb hd h k) rfl hs K
  case lload_n k =>
    have hn : n = 1 := Nat.eq_of_beq_eq_true hlen
    subst hn
    exact ms_ldL (fun _ _ _ _ _ _ _ h k => lv_lload_n hx hb hd rfl h k) rfl hs K
  case lmul =>
    have hn : n = 1 := Nat.eq_of_beq_eq_true hlen
    subst hn
    exact ms_b2l (n := 1) (fun _ _ _ _ _ _ _ _ _ k => lv_lmul hx hb hd k) rfl hs K
  case lookupswitch d ps =>
    obtain ⟨pc, ls, st⟩ := f
    simp only [mstep] at hs
    simp only [eLk, Bool.and_eq_true] at hk
    obtain ⟨⟨k1', k2⟩, k3⟩ := hk
    have k1 : 0 ≤ (pc : Int) + d := of_decide_eq_true k1'
    split at hs
    next _ x0 st =>
      obtain ⟨rfl, rfl, -⟩ := tri hs
      intro H locs as hl hr hX
      have hp : ∀ q ∈ ps.toList, 0 ≤ (pc : Int) + q.2 ∧ -1000000 ≤ q.1 ∧ q.1 ≤ 1000000 := by
        intro q hq
        have := List.all_eq_true.mp k2 q hq
        simp only [Bool.and_eq_true, decide_eq_true_eq] at this
        exact ⟨this.1.1, this.1.2, this.2⟩
      exact lv_lookup hx hb hd k3 rfl (mSw_lk (dflt := d) (Int.toNat_of_nonneg k1) ps.toList hp).symm (K H locs as hl hr hX)
    next => exact absurd (tri hs).2.2 (by decide)
  case lor =>
    have hn : n = 1 := Nat.eq_of_beq_eq_true hlen
    subst hn
    exact ms_b2l (n := 1) (fun _ _ _ _ _ _ _ _ _ k => lv_lor hx hb hd k) rfl hs K
  case lrem =>
    have hn : n = 1 := Nat.eq_of_beq_eq_true hlen
    subst hn
    exact ms_b2l (n := 1) (fun _ _ _ _ _ _ _ _ o k => lv_lrem hx hb hd (by simpa using o) k) rfl hs K
  case lshl =>
    have hn : n = 1 := Nat.eq_of_beq_eq_true hlen
    subst hn
    obtain ⟨pc, ls, st⟩ := f
    simp only [mstep] at hs
    split at hs
    next _ b a st =>
      obtain ⟨rfl, rfl, -⟩ := tri hs
      intro H locs as hl hr hX
      exact lv_lshl hx hb hd rfl (K H locs as hl hr hX)
    next => exact absurd (tri hs).2.2 (by decide)
  case lstore k =>
    have hn : n = 2 := Nat.eq_of_beq_eq_true hlen
    subst hn
    exact ms_stL (fun _ _ _ _ _ _ _ _ h hk k => lv_lstore hx hb hd h hk rfl k) rfl hs K
  case lstore_n k =>
    have hn : n = 1 := Nat.eq_of_beq_eq_true hlen
    subst hn
    exact ms_stL (fun _ _ _ _ _ _ _ _ h hk k => lv_lstore_n hx hb hd rfl h hk rfl k) rfl hs K
  case lsub =>
    have hn : n = 1 := Nat.eq_of_beq_eq_true hlen
    subst hn
    exact ms_b2l (n := 1) (fun _ _ _ _ _ _ _ _ _ k => lv_lsub hx hb hd k) rfl hs K
  case new idx =>
    have hn : n = 3 := Nat.eq_of_beq_eq_true hlen
    subst hn
    exact ms_new C hXo hd rfl rfl hk hg hs K
  case newarray t =>
    have hn : n = 2 := Nat.eq_of_beq_eq_true hlen
    subst hn
    exact ms_newa C hXo hd rfl rfl hk hg hs K
  case pop =>
    have hn : n = 1 := Nat.eq_of_beq_eq_true hlen
    subst hn
    obtain ⟨pc, ls, st⟩ := f
    simp only [mstep] at hs
    match st, hs with
    | v :: st, hs =>
      obtain ⟨rfl, rfl, hb2⟩ := tri hs
      intro H locs as hl hr hX
      exact lv_pop hx hb hd ((tv_cat ρ v).trans (Nat.eq_of_beq_eq_true hb2)) (K H locs as hl hr hX)
    | [], hs => exact absurd (tri hs).2.2 (by decide)
  case putfield idx =>
    have hn : n = 3 := Nat.eq_of_beq_eq_true hlen
    subst hn
    simp only [eLk] at hk
    have hk2 := w_and hk
    have hk1 := w_and hk2.1
    exact ms_put C hXo hd rfl hk1.1 hk1.2 hk2.2 oN_kN hs K
  case sipush k =>
    have hn : n = 3 := Nat.eq_of_beq_eq_true hlen
    have hv : v = .int (Int16.ofInt k).toInt32 := of_decide_eq_true hk
    subst hn hv
    exact ms_push (v := .int (Int16.ofInt k).toInt32) (fun _ _ _ _ _ _ k => lv_sipush hx hb hd rfl k) hs K
  case tableswitch d lo hi offs =>
    obtain ⟨pc, ls, st⟩ := f
    simp only [mstep] at hs
    simp only [eLk, Bool.and_eq_true] at hk
    obtain ⟨⟨⟨⟨k1', k2'⟩, k3⟩, k4'⟩, k5'⟩ := hk
    have k1 : hi = lo + (offs.size : Int) - 1 := of_decide_eq_true k1'
    have k2 : 0 ≤ (pc : Int) + d := of_decide_eq_true k2'
    have k4 : -1000 ≤ lo := of_decide_eq_true k4'
    have k5 : hi ≤ 1000 := of_decide_eq_true k5'
    have hlen2 : offs.toList.length = offs.size := Array.length_toList
    split at hs
    next _ x0 st =>
      obtain ⟨rfl, rfl, -⟩ := tri hs
      intro H locs as hl hr hX
      obtain ⟨i1, i2⟩ := mSw_tb (x := x0) (pc := pc) (d := ((pc : Int) + d).toNat) offs.toList lo (by omega) (by rw [hlen2]; omega) (fun o ho => of_decide_eq_true (List.all_eq_true.mp k3 o ho))
      by_cases hout : x0.toInt < lo ∨ hi < x0.toInt
      · have K2 := K H locs as hl hr hX
        simp only [i1 (by rw [hlen2]; omega)] at K2
        exact lv_tableOut hx hb hd hout (Int.toNat_of_nonneg k2).symm K2
      · have hlo : ¬ x0.toInt < lo := fun q => hout (Or.inl q)
        have hhi : ¬ hi < x0.toInt := fun q => hout (Or.inr q)
        have hlt : (x0.toInt - lo).toNat < offs.size := by omega
        have ho : offs[(x0.toInt - lo).toNat]? = some offs[(x0.toInt - lo).toNat] := Array.getElem?_eq_getElem hlt
        have ho2 : offs.toList[(x0.toInt - lo).toNat]? = some offs[(x0.toInt - lo).toNat] := by rw [Array.getElem?_toList]; exact ho
        exact lv_tableIn hx hb hd hlo hhi ho (i2 (x0.toInt - lo).toNat (by omega) _ ho2).symm (K H locs as hl hr hX)
    next => exact absurd (tri hs).2.2 (by decide)
end MA
