/-! What the small machine runs to, as programs: a block, a branch, a call, a loop at a time. -/
def Ev (y : Nat) (f : mF) (h : mH) (res : Option Value × mH) : Prop := ∃ n, mexec n y f h = some res
/-- checked: goes on where the check holds -/
def mGd {α : Type} (b : Bool) (m : Option α) : Option α := match b with
  | true => m
  | false => none
theorem mGd_t {α : Type} (m : Option α) : mGd true m = m := rfl
theorem mGd_some {α : Type} {b : Bool} {m : Option α} {t : α} (h : mGd b m = some t) : b = true ∧ m = some t := by
  cases b with
  | true => exact ⟨rfl, h⟩
  | false => cases h
/-- a loop: its body goes on with a new state, or ends -/
def mLoop {σ ρ : Type} (body : σ → Option (σ ⊕ ρ)) : Nat → σ → Option ρ
  | 0, _ => none
  | n + 1, s => match body s with
    | some (.inl s') => mLoop body n s'
    | some (.inr r) => some r
    | none => none
def mX {σ ρ : Type} (m : Option ρ) : Option (σ ⊕ ρ) := m.map .inr
def mFuel : Nat := 5000
theorem ex_mono : ∀ (n : Nat) (y : Nat) (f : mF) (h : mH) (x : Option Value × mH), mexec n y f h = some x → ∀ k, mexec (n + k) y f h = some x := by
  intro n
  induction n with
  | zero => intro y f h x hx; cases hx
  | succ n ih =>
    intro y f h x hx k
    rw [show n + 1 + k = (n + k) + 1 by omega]
    simp only [mexec] at hx ⊢
    generalize (bk y).find? (fun b => Nat.beq b.1 f.1) = ob at hx ⊢
    cases ob with
    | none => cases hx
    | some b =>
      simp only at hx ⊢
      generalize mrun b.2.1 f h = q at hx ⊢
      obtain ⟨f1, h1, ok⟩ := q
      simp only at hx ⊢
      cases ok with
      | false => simp at hx
      | true =>
        rw [if_pos rfl] at hx ⊢
        generalize b.2.2 = tm at hx ⊢
        cases tm with
        | none => exact ih _ _ _ _ hx k
        | some en =>
          simp only at hx ⊢
          by_cases hir : mIsRet en.1 = true
          · rw [if_pos hir] at hx ⊢
            exact hx
          · rw [if_neg hir] at hx ⊢
            generalize mCall y en f1 h1 = q at hx ⊢
            obtain ⟨y', as, rest, ok2⟩ := q
            simp only at hx ⊢
            cases ok2 with
            | false => simp at hx
            | true =>
              rw [if_pos rfl] at hx ⊢
              generalize hcal : mexec n y' (0, mEnt (yML y') as, []) h1 = oc at hx
              cases oc with
              | none => cases hx
              | some rr =>
                rw [ih _ _ _ _ hcal k]
                simp only [Option.bind_some] at hx ⊢
                exact ih _ _ _ _ hx k
/-- the program m from the frame f: each of its ends t answers all that E t answers -/
def Seg {τ : Type} (y : Nat) (f : mF) (h : mH) (m : Option τ) (E : τ → Option Value × mH → Prop) : Prop := ∀ t, m = some t → ∀ res, E t res → Ev y f h res
section SG
variable {τ : Type} {y : Nat} {f f' : mF} {h h' : mH} {m : Option τ} {E : τ → Option Value × mH → Prop} {ok : Bool} {l : List mE} {pc : Nat}
theorem Seg.blk (hb : (bk y).find? (fun b => Nat.beq b.1 f.1) = some (pc, l, none)) (hr : mrun l f h = (f', h', ok)) (k : Seg y f' h' m E) : Seg y f h (mGd ok m) E := by
  intro t ht res hE
  obtain ⟨rfl, ht⟩ := mGd_some ht
  obtain ⟨n, hn⟩ := k t ht res hE
  refine ⟨n + 1, ?_⟩
  simp only [mexec, hb, hr]
  exact hn
theorem Seg.blk0 (hb : (bk y).find? (fun b => Nat.beq b.1 f.1) = some (pc, l, none)) (hr : mrun l f h = (f', h', true)) (k : Seg y f' h' m E) : Seg y f h m E := Seg.blk (ok := true) hb hr k
theorem Seg.ite {c : Prop} [Decidable c] {t1 t2 : Nat} {ls st : List Value} {m1 m2 : Option τ} (k1 : c → Seg y (t1, ls, st) h m1 E) (k2 : ¬ c → Seg y (t2, ls, st) h m2 E) : Seg y (if c then t1 else t2, ls, st) h (if c then m1 else m2) E := by
  by_cases hc : c
  · rw [if_pos hc, if_pos hc]; exact k1 hc
  · rw [if_neg hc, if_neg hc]; exact k2 hc
theorem Seg.call {α : Type} {e : mE} {f1 : mF} {h1 : mH} {ok2 : Bool} {y' : Nat} {as rest : List Value} {g : Option (α × mH)} {cv : α → Option Value} {m2 : α × mH → Option τ} (hb : (bk y).find? (fun b => Nat.beq b.1 f.1) = some (pc, l, some e)) (hr : mrun l f h = (f1, h1, ok)) (hir : mIsRet e.1 = false) (hc : mCall y e f1 h1 = (y', as, rest, ok2)) (hcal : Seg y' (0, mEnt (yML y') as, []) h1 g (fun q res => res = (cv q.1, q.2))) (k : ∀ q : α × mH, Seg y (f1.1 + 3, f1.2.1, (cv q.1).toList ++ rest) q.2 (m2 q) E) : Seg y f h (mGd (ok && ok2) (g.bind m2)) E := by
  intro t ht res hE
  obtain ⟨hok, ht⟩ := mGd_some ht
  obtain ⟨rfl, rfl⟩ := w_and hok
  cases g with
  | none => cases ht
  | some q =>
    simp only [Option.bind_some] at ht
    obtain ⟨n1, hn1⟩ := hcal q rfl _ rfl
    obtain ⟨n2, hn2⟩ := k q t ht res hE
    refine ⟨(n1 + n2) + 1, ?_⟩
    simp only [mexec, hb, hr, hir, hc, if_true, Bool.false_eq_true, if_false]
    rw [ex_mono _ _ _ _ _ hn1 n2]
    simp only [Option.bind_some]
    rw [Nat.add_comm]
    exact ex_mono _ _ _ _ _ hn2 n1
theorem Seg.callP {α : Type} {e : mE} {f1 : mF} {h1 : mH} {ok2 : Bool} {y' : Nat} {as rest : List Value} {g : Option α} {cv : α → Option Value} {m2 : α → Option τ} (hb : (bk y).find? (fun b => Nat.beq b.1 f.1) = some (pc, l, some e)) (hr : mrun l f h = (f1, h1, ok)) (hir : mIsRet e.1 = false) (hc : mCall y e f1 h1 = (y', as, rest, ok2)) (hcal : Seg y' (0, mEnt (yML y') as, []) h1 g (fun q res => res = (cv q, h1))) (k : ∀ q : α, Seg y (f1.1 + 3, f1.2.1, (cv q).toList ++ rest) h1 (m2 q) E) : Seg y f h (mGd (ok && ok2) (g.bind m2)) E := by
  intro t ht res hE
  obtain ⟨hok, ht⟩ := mGd_some ht
  obtain ⟨rfl, rfl⟩ := w_and hok
  cases g with
  | none => cases ht
  | some q =>
    simp only [Option.bind_some] at ht
    obtain ⟨n1, hn1⟩ := hcal q rfl _ rfl
    obtain ⟨n2, hn2⟩ := k q t ht res hE
    refine ⟨(n1 + n2) + 1, ?_⟩
    simp only [mexec, hb, hr, hir, hc, if_true, Bool.false_eq_true, if_false]
    rw [ex_mono _ _ _ _ _ hn1 n2]
    simp only [Option.bind_some]
    rw [Nat.add_comm]
    exact ex_mono _ _ _ _ _ hn2 n1
theorem Seg.ret {e : mE} {f1 : mF} {h1 : mH} {ok2 : Bool} {r : Option Value} {t : τ} (hb : (bk y).find? (fun b => Nat.beq b.1 f.1) = some (pc, l, some e)) (hr : mrun l f h = (f1, h1, ok)) (hir : mIsRet e.1 = true) (hc : mRet y e f1.2.2 = (r, ok2)) (hE : ∀ res, E t res → res = (r, h1)) : Seg y f h (mGd (ok && ok2) (some t)) E := by
  intro t' ht res hE'
  obtain ⟨hok, ht⟩ := mGd_some ht
  obtain ⟨rfl, rfl⟩ := w_and hok
  cases ht
  rw [hE res hE']
  refine ⟨1, ?_⟩
  simp only [mexec, hb, hr, hir, hc, if_true]
theorem Seg.x {σ : Type} {G : σ → Option Value × mH → Prop} (k : Seg y f h m E) : Seg y f h (mX (σ := σ) m) (Sum.elim G E) := by
  intro t ht res hE
  cases m with
  | none => cases ht
  | some u =>
    cases ht
    exact k u rfl res hE
theorem Seg.cont {σ : Type} {F : σ → mF} {H : σ → mH} {s : σ} (k : ∀ res, Ev y (F s) (H s) res → Ev y f h res) : Seg y f h (some (Sum.inl s)) (Sum.elim (fun s => Ev y (F s) (H s)) E) := by
  intro t ht res hE
  cases ht
  exact k res hE
theorem Seg.loop {σ : Type} {F : σ → mF} {H : σ → mH} {body : σ → Option (σ ⊕ τ)} (hb : ∀ s, Seg y (F s) (H s) (body s) (Sum.elim (fun s => Ev y (F s) (H s)) E)) : ∀ (n : Nat) (s : σ), Seg y (F s) (H s) (mLoop body n s) E := by
  intro n
  induction n with
  | zero => intro s t ht; cases ht
  | succ n ih =>
    intro s t ht res hE
    simp only [mLoop] at ht
    generalize hbs : body s = q at ht
    cases q with
    | none => cases ht
    | some u =>
      cases u with
      | inl s' => exact hb s (.inl s') hbs res (ih s' t ht res hE)
      | inr r =>
        have e : r = t := Option.some.inj ht
        subst e
        exact hb s (.inr r) hbs res hE
theorem Seg.opt {α : Type} {o : Option α} {mn : Option τ} {ms : α → Option τ} (kn : o = none → Seg y f h mn E) (ks : ∀ a, o = some a → Seg y f h (ms a) E) : Seg y f h (match o with
  | none => mn
  | some a => ms a) E := by
  cases o with
  | none => exact kn rfl
  | some a => exact ks a rfl
end SG
