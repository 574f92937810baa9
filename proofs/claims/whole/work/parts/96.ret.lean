/-! the law's end -/
theorem law_ret {p : Program} {l : Launch} {e : Env} {s : State} {m : MethodId} {below : List Frame} {meth : Method} {c : Code} {b : Nat} {D : va_G} {cA : Nat → ClassId} {ρ : Nat → Nat} {X : mH → Prop} {h' : mH} (hx : p.tables.exec = Jvm.exec) (hb : c.code = code) (hr : meth.sig.returnType = ret) (hlocks : meth.locks = false) (hl1 : h'.1.length ≤ 600000) (hl2 : mS h' ≤ 7302249) (pc : Nat) (ls st : List Value) (en : mE) (ht : tmOK 302 pc en = true) (hret : mIsRet en.1 = true) (hre : mRet 302 en st = (some (.int 1), true)) : Wm p l e room_1 s m #[Value.ref b] below meth c (lw_Z below #[Value.ref b] s) D cA ρ s.heap.size 0 0 302 X (pc, ls, st) h' := by
  intro H locs ar hl hr1 _
  obtain ⟨hdd, htm⟩ := w_and ht
  have hd := of_decide_eq_true hdd
  obtain ⟨i, n1, ⟨x1, x2, x3⟩, v⟩ := en
  cases i <;> (try (exact absurd (show false = true from hret) (by decide)))
  case ireturn =>
    simp only [Bool.and_eq_true] at htm
    have hn1 := Nat.eq_of_beq_eq_true htm.1
    subst hn1
    simp only [mRet] at hre
    match st, hre with
    | [.int w], hre =>
      obtain ⟨h1, -⟩ := Prod.mk.inj hre
      have hw : w = 1 := Value.int.inj (Option.some.inj h1)
      subst hw
      exact va_forget (fun q hq => hr1.2.1.2.2 q hq) (W.widen (k := 600000) (n := 7302249) (Nat.le_trans (Nat.sub_le _ _) hl1) (Nat.le_trans (Nat.sub_le _ _) hl2) (lw_ret hx hb hr hlocks hd))
  case lreturn =>
    simp only [mRet] at hre
    match st, hre with
    | [.long w], hre => exact absurd (Option.some.inj (Prod.mk.inj hre).1) (fun h => by cases h)
  case areturn =>
    simp only [mRet] at hre
    match st, hre with
    | [.ref w], hre => exact absurd (Option.some.inj (Prod.mk.inj hre).1) (fun h => by cases h)
    | [.null], hre => exact absurd (Option.some.inj (Prod.mk.inj hre).1) (fun h => by cases h)
  case return_ =>
    simp only [mRet] at hre
    match st, hre with
    | [], hre => exact absurd (Prod.mk.inj hre).1 (fun h => by cases h)
theorem scT_1 (xs : Nat → Int32) (L j : Nat) : scT xs L 2000000 j = xs j := if_pos rfl
theorem scT_2 (xs : Nat → Int32) (L : Nat) : scT xs L 2000001 0 = iN L := if_neg (by decide)
theorem scX_0 (xs : Nat → Int32) (L : Nat) : scX xs L (oV (scT xs L) hC) := ⟨fun j => (oV_hi (T := scT xs L) (h := hC) (a := 2000000) (j := j) (by decide)).trans (scT_1 xs L j), (oV_hi (T := scT xs L) (h := hC) (a := 2000001) (j := 0) (by decide)).trans (scT_2 xs L)⟩
theorem H0_len : H0.length ≤ 600000 := by decide +kernel
theorem H0_sum : (H0.map (·.2)).sum ≤ 7302249 := by decide +kernel
