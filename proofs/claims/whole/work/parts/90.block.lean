/-! A block; how the cells grow. -/
def mMono (h h' : mH) : Prop := h.1.length ≤ h'.1.length ∧ mS h ≤ mS h' ∧ (h.1.length ≤ 1000000 → h'.1.length ≤ 1000000 ∧ ∀ a j, 1000000 ≤ a → h'.2.1 a j = h.2.1 a j)
theorem mMono.rf (h : mH) : mMono h h := ⟨Nat.le_refl _, Nat.le_refl _, fun q => ⟨q, fun _ _ _ => rfl⟩⟩
theorem mMono.tr {a b c : mH} (h1 : mMono a b) (h2 : mMono b c) : mMono a c := ⟨Nat.le_trans h1.1 h2.1, Nat.le_trans h1.2.1 h2.2.1, fun q => ⟨(h2.2.2 (h1.2.2 q).1).1, fun x j hx => ((h2.2.2 (h1.2.2 q).1).2 x j hx).trans ((h1.2.2 q).2 x j hx)⟩⟩
theorem mono_SI {h : mH} {a j k : Nat} {v : Int32} (hk : Nat.beq (mK h a).1 k = true) (hk9 : k ≠ 999) : mMono h (mSI h a j v) := ⟨Nat.le_refl _, Nat.le_refl _, fun q => ⟨q, fun b i hb => mU_ne (small_of hk hk9 q b hb)⟩⟩
theorem mono_SR {h : mH} {a j : Nat} {v : Option Nat} : mMono h (mSR h a j v) := ⟨Nat.le_refl _, Nat.le_refl _, fun q => ⟨q, fun _ _ _ => rfl⟩⟩
theorem mono_SL {h : mH} {a j : Nat} {v : Int64} : mMono h (mSL h a j v) := ⟨Nat.le_refl _, Nat.le_refl _, fun q => ⟨q, fun _ _ _ => rfl⟩⟩
theorem mono_Nw {h : mH} {k n : Nat} (hl : h.1.length < 1000000) : mMono h (mNw h k n) := ⟨by rw [len_nw]; omega, by rw [mS_nw]; omega, fun q => ⟨by rw [len_nw]; omega, fun a j ha => by simp only [mNw]; rw [if_neg (by omega)]⟩⟩
theorem mono_Cp {h : mH} {s sp d dp n : Nat} (hk : Nat.beq (mK h d).1 100 = true) : mMono h (mCp h s sp d dp n) := ⟨Nat.le_refl _, Nat.le_refl _, fun q => ⟨q, fun b i hb => by simp [mCp, small_of hk (by omega) q b hb]⟩⟩
section BL
variable {p : Program} {l : Launch} {e : Env} {R : Room} {s : State} {m : MethodId} {args : Array Value} {below : List Frame} {meth : Method} {c : Code} {Q : State → Prop} {D : va_G} {cA : Nat → ClassId} {ρ : Nat → Nat} {B : Nat} {adV : Nat → Nat} {c0 s0 y : Nat} {X : mH → Prop} {en : mE} {f f' : mF} {h h' : mH} {ok : Bool}
set_option maxHeartbeats 4000000 in
theorem mono_step (he : eLk y f.1 en = true) (hs : mstep en f h = (f', h', true)) : mMono h h' := by
  obtain ⟨i, n, ⟨k, j, t⟩, v⟩ := en
  obtain ⟨pc, ls, st⟩ := f
  cases i <;> (try (exact absurd (tri hs).2.2 (by decide))) <;> (try (obtain ⟨-, rfl, -⟩ := tri hs; exact mMono.rf _))
  case putfield idx =>
    simp only [eLk] at he
    obtain ⟨-, -, hci⟩ := fL_of (w_and (w_and he).1).1
    simp only [mstep, mPut] at hs
    split at hs
    · rcases t with _ | _ | t
      · obtain ⟨-, rfl, hb⟩ := tri hs; exact mono_SI hb (by omega)
      · obtain ⟨-, rfl, hb⟩ := tri hs; exact mono_SI (w_and hb).1 (by omega)
      · exact absurd (tri hs).2.2 (by decide)
    · rcases t with _ | _ | _ | t
      · exact absurd (tri hs).2.2 (by decide)
      · exact absurd (tri hs).2.2 (by decide)
      · obtain ⟨-, rfl, hb⟩ := tri hs; exact mono_SL
      · exact absurd (tri hs).2.2 (by decide)
    · rcases t with _ | _ | _ | _ | t
      · exact absurd (tri hs).2.2 (by decide)
      · exact absurd (tri hs).2.2 (by decide)
      · exact absurd (tri hs).2.2 (by decide)
      · obtain ⟨-, rfl, hb⟩ := tri hs; exact mono_SR
      · exact absurd (tri hs).2.2 (by decide)
    · exact absurd (tri hs).2.2 (by decide)
  case iastore =>
    have hk := Nat.eq_of_beq_eq_true he
    simp only at hk
    simp only [mstep, mAs] at hs
    split at hs
    · obtain ⟨-, rfl, hb⟩ := tri hs; exact mono_SI (w_and hb).1 (by omega)
    · exact absurd (tri hs).2.2 (by decide)
  case bastore =>
    simp only [eLk] at he
    rcases Bool.or_eq_true_iff.mp he with he | he <;> (have hk := Nat.eq_of_beq_eq_true he; subst hk)
    · change mAs (fun v => v.toInt8.toInt32) (Instr.bastore, n, (101, j, t), v) (pc, ls, st) h = (f', h', true) at hs
      simp only [mAs] at hs
      split at hs
      · obtain ⟨-, rfl, hb⟩ := tri hs; exact mono_SI (w_and hb).1 (by omega)
      · exact absurd (tri hs).2.2 (by decide)
    · simp only [mstep] at hs
      split at hs
      · obtain ⟨-, rfl, hb⟩ := tri hs; exact mono_SI (w_and (w_and hb).1).1 (by omega)
      · exact absurd (tri hs).2.2 (by decide)
  case aastore =>
    simp only [mstep] at hs
    split at hs
    · obtain ⟨-, rfl, hb⟩ := tri hs; exact mono_SR
    · exact absurd (tri hs).2.2 (by decide)
  case new idx =>
    obtain ⟨-, rfl, hb⟩ := tri hs
    exact mono_Nw (Nat.blt_eq.mp hb)
  case newarray t =>
    simp only [mstep] at hs
    split at hs
    · obtain ⟨-, rfl, hb⟩ := tri hs; exact mono_Nw (Nat.blt_eq.mp (w_and (w_and hb).1).1)
    · exact absurd (tri hs).2.2 (by decide)
  case anewarray idx =>
    simp only [mstep] at hs
    split at hs
    · obtain ⟨-, rfl, hb⟩ := tri hs; exact mono_Nw (Nat.blt_eq.mp (w_and (w_and hb).1).1)
    · exact absurd (tri hs).2.2 (by decide)
  case invokestatic idx =>
    simp only [mstep, mPr] at hs
    split at hs <;> (obtain ⟨-, rfl, hb⟩ := tri hs) <;> first | exact mMono.rf _ | skip
    simp only [Bool.and_eq_true] at hb
    exact mono_Cp hb.1.1.1.1.1.1.2
  case invokespecial idx =>
    simp only [mstep, mPr] at hs
    split at hs <;> (obtain ⟨-, rfl, hb⟩ := tri hs) <;> first | exact mMono.rf _ | skip
    simp only [Bool.and_eq_true] at hb
    exact mono_Cp hb.1.1.1.1.1.1.2
  case invokevirtual idx =>
    simp only [mstep, mPr] at hs
    split at hs <;> (obtain ⟨-, rfl, hb⟩ := tri hs) <;> first | exact mMono.rf _ | skip
    simp only [Bool.and_eq_true] at hb
    exact mono_Cp hb.1.1.1.1.1.1.2
  all_goals (simp only [mstep, mSto, mSto2, mB2, mB2L, mIf, mIc, mGet, mAl, mBad] at hs)
  all_goals (repeat' split at hs)
  all_goals first | (obtain ⟨-, rfl, -⟩ := tri hs; exact mMono.rf _) | exact absurd (tri hs).2.2 (by decide)
set_option maxHeartbeats 4000000 in
theorem pc_step (hbr : mBr en.1 = false) (hs : mstep en f h = (f', h', true)) : f'.1 = f.1 + en.2.1 := by
  obtain ⟨i, n, ⟨k, j, t⟩, v⟩ := en
  obtain ⟨pc, ls, st⟩ := f
  cases i <;> (try (exact absurd (tri hs).2.2 (by decide))) <;> (try (exact absurd (show true = false from hbr) (by decide))) <;> (try (obtain ⟨rfl, -, -⟩ := tri hs; rfl))
  all_goals (simp only [mstep, mSto, mSto2, mB2, mB2L, mGet, mPut, mAl, mAs, mPr, mBad] at hs)
  all_goals (repeat' split at hs)
  all_goals first | (obtain ⟨rfl, -, -⟩ := tri hs; rfl) | exact absurd (tri hs).2.2 (by decide)
theorem bOK_cons {e0 : mE} {r : List mE} {pc : Nat} (hb : bOKl y pc (e0 :: r) = true) : eOK y pc e0 = true ∧ (r = [] ∨ mBr e0.1 = false) ∧ bOKl y (pc + e0.2.1) r = true := by
  simp only [bOKl] at hb
  obtain ⟨h1, h2⟩ := w_and hb
  obtain ⟨h3, h4⟩ := w_and h1
  refine ⟨h3, ?_, h2⟩
  rcases Bool.or_eq_true_iff.mp h4 with q | q
  · exact Or.inl (List.isEmpty_iff.mp q)
  · exact Or.inr (by simpa using q)
theorem eOK_lk {pc : Nat} (h : eOK y pc en = true) : eLk y pc en = true := (w_and h).2
theorem mono_run : ∀ (l : List mE) (f : mF) (h : mH), bOKl y f.1 l = true → mrun l f h = (f', h', true) → mMono h h' := by
  intro l
  induction l with
  | nil => intro f h _ hs; simp only [mrun] at hs; obtain ⟨-, rfl, -⟩ := tri hs; exact mMono.rf _
  | cons e0 r ih =>
    intro f h hb hs
    obtain ⟨f1, h1, hs1, hs2⟩ := run_cons hs
    obtain ⟨b1, b2, b3⟩ := bOK_cons hb
    have m1 := mono_step (eOK_lk b1) hs1
    rcases b2 with rfl | b2
    · simp only [mrun] at hs2
      obtain ⟨-, rfl, -⟩ := tri hs2
      exact m1
    · rw [← pc_step b2 hs1] at b3
      exact m1.tr (ih f1 h1 b3 hs2)
theorem end_run : ∀ (l : List mE) (f : mF) (h : mH), (∀ q ∈ l, mBr q.1 = false) → mrun l f h = (f', h', true) → f'.1 = bEnd f.1 l := by
  intro l
  induction l with
  | nil => intro f h _ hs; simp only [mrun] at hs; obtain ⟨rfl, -, -⟩ := tri hs; rfl
  | cons e0 r ih =>
    intro f h hb hs
    obtain ⟨f1, h1, hs1, hs2⟩ := run_cons hs
    rw [ih f1 h1 (fun q hq => hb q (List.mem_cons_of_mem _ hq)) hs2, pc_step (hb e0 List.mem_cons_self) hs1]
    rfl
theorem ms_run (C : mCx p R s m args meth c D cA ρ B adV c0 y) (hXo : mXok X) (hZ : mScr s B y ρ X) : ∀ (l0 : List mE) (f : mF) (h : mH), bOKl y f.1 l0 = true → mGr R c0 s0 h h' → mrun l0 f h = (f', h', true) → Wm p l e R s m args below meth c Q D cA ρ B c0 s0 y X f' h' → Wm p l e R s m args below meth c Q D cA ρ B c0 s0 y X f h := by
  intro l0
  induction l0 with
  | nil =>
    intro f h _ _ hs K
    simp only [mrun] at hs
    obtain ⟨rfl, rfl, -⟩ := tri hs
    exact K
  | cons e0 r ih =>
    intro f h hb hg hs K
    obtain ⟨f1, h1, hs1, hs2⟩ := run_cons hs
    obtain ⟨b1, b2, b3⟩ := bOK_cons hb
    have m1 := mono_step (eOK_lk b1) hs1
    obtain ⟨g1, g2, g3, g4⟩ := hg
    rcases b2 with rfl | b2
    · simp only [mrun] at hs2
      obtain ⟨rfl, rfl, -⟩ := tri hs2
      exact ms_all C hXo hZ b1 ⟨g1, g2, g3, g4⟩ hs1 K
    · rw [← pc_step b2 hs1] at b3
      have m2 := mono_run r f1 h1 b3 hs2
      have q1 := m1.1
      have q2 := m1.2.1
      have q3 := m2.1
      have q4 := m2.2.1
      exact ms_all C hXo hZ b1 ⟨g1, g2, by omega, by omega⟩ hs1 (ih f1 h1 b3 ⟨by omega, by omega, g3, g4⟩ hs2 K)
end BL
