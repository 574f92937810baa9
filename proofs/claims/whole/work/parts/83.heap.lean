/-! Fields and rows: the small machine's are the real ones. -/
theorem kOK_of {ci : Nat} (h : ci < 13) : kOK ci = true := List.all_eq_true.mp kOK_all ci (List.mem_range.mpr h)
theorem cl_at {ci : Nat} (h : ci < 13) : classes[ci]? = some (kN ci, kT ci, (kF ci).length) := by
  simp [classes, h]
theorem lay_good (C : String) (T : u_T) (k : Nat) : goodWord (u_lay C T k) = true := by
  unfold u_lay
  split <;> rfl
theorem k_all {ci k : Nat} (h : ci < 13) (hk : k < (kF ci).length) : u_lay (kN ci) (kT ci) k ∈ lw_tbl ∧ parseFieldDescriptor (kFd ci k).2.1 = some (kY ci k) ∧ tOK (kFd ci k).2.2.2.1 (kY ci k) = true := by
  have h1 := kOK_of h
  unfold kOK at h1
  simp only [Bool.and_eq_true] at h1
  have h2 := List.all_eq_true.mp h1.1.1 k (List.mem_range.mpr hk)
  simp only [Bool.and_eq_true] at h2
  refine ⟨wAt_in h2.1.1, ?_, h2.2⟩
  obtain ⟨ty, hty⟩ := Option.isSome_iff_exists.mp h2.1.2
  simp only [kY, hty, Option.getD_some]
theorem k_in {ci : Nat} (h : ci < 13) : ∀ w ∈ u_ws (kN ci) (kT ci) (kF ci).length, w ∈ mT := by
  intro w hw
  obtain ⟨k, hk, rfl⟩ := List.mem_map.mp hw
  exact mT_in (k_all h (List.mem_range.mp hk)).1 (lay_good _ _ _)
theorem k_ty {ci : Nat} (h : ci < 13) : ∀ k, k < (kF ci).length → parseFieldDescriptor (kT ci k).2.2.1 = some (kY ci k) := fun k hk => (k_all h hk).2.1
theorem k_inst {ci : Nat} (h : ci < 13) : Cond.instantiable (kN ci) (kF ci).length ∈ mT := by
  have h1 := kOK_of h
  unfold kOK at h1
  simp only [Bool.and_eq_true] at h1
  exact mT_in (wAt_in h1.1.2) rfl
theorem k_init {ci : Nat} (h : ci < 13) : Cond.initialized (kN ci) ∈ mT := by
  have h1 := kOK_of h
  unfold kOK at h1
  simp only [Bool.and_eq_true] at h1
  exact mT_in (wAt_in h1.2) rfl
theorem fL_of {o idx ci j : Nat} (h : fL.any (fun q => Nat.beq q.1 o && Nat.beq q.2.1 idx && Nat.beq q.2.2.1 ci && Nat.beq q.2.2.2.1 j) = true) : Cond.fieldLink (oN o) idx (kN ci) (kFd ci j).1 (kFd ci j).2.1 ∈ mT ∧ j < (kF ci).length ∧ ci < 13 := by
  obtain ⟨q, hq, hb⟩ := List.any_eq_true.mp h
  simp only [Bool.and_eq_true] at hb
  obtain ⟨⟨⟨b1, b2⟩, b3⟩, b4⟩ := hb
  have e1 := Nat.eq_of_beq_eq_true b1
  have e2 := Nat.eq_of_beq_eq_true b2
  have e3 := Nat.eq_of_beq_eq_true b3
  have e4 := Nat.eq_of_beq_eq_true b4
  have h2 := List.all_eq_true.mp fL_ok q hq
  simp only [Bool.and_eq_true] at h2
  rw [e1, e2, e3, e4] at h2
  exact ⟨mT_in (wAt_in h2.1.1) rfl, Nat.blt_eq.mp h2.1.2, Nat.blt_eq.mp h2.2⟩
section EC
variable {cA : Nat → ClassId} {ρ : Nat → Nat} {h : mH} {a n ci : Nat}
theorem eC_obj (hc : ci < 100) : eCe cA ρ h a (ci, n) = .inr (ci, (kt ci).mapIdx (fun j t => eV ρ h a j t)) := by
  simp [eCe, hc]
theorem eC_int (h1 : 100 ≤ ci) (h2 : ci < 200) : eCe cA ρ h a (ci, n) = .inl (cA ci, n, .inl (h.2.1 a)) := by
  simp [eCe, h2, Nat.not_lt.mpr h1]
theorem eC_ref (h2 : 200 ≤ ci) : eCe cA ρ h a (ci, n) = .inl (cA ci, n, .inr (.inr (.inr (.inr (fun j => (mR h a j).map ρ))))) := by
  have h1 : ¬ ci < 100 := by omega
  have h3 : ¬ ci < 200 := by omega
  simp [eCe, h1, h3]
end EC
section UU
variable {h : mH} {a b j i : Nat}
theorem mU_ne {α : Type} {f : Nat → Nat → α} {v : α} (hb : b ≠ a) : mU f a j v b i = f b i := by simp [mU, hb]
theorem mU_nj {α : Type} {f : Nat → Nat → α} {v : α} (hi : i ≠ j) : mU f a j v b i = f b i := by simp [mU, hi]
theorem mU_eq {α : Type} {f : Nat → Nat → α} {v : α} : mU f a j v a j = v := by simp [mU]
end UU
section HP
variable {p : Program} {l : Launch} {e : Env} {R : Room} {s : State} {m : MethodId} {args : Array Value} {below : List Frame} {meth : Method} {c : Code} {Q : State → Prop} {D : va_G} {cA : Nat → ClassId} {ρ : Nat → Nat} {B : Nat} {adV : Nat → Nat} {c0 s0 y : Nat} {X : mH → Prop} {en : mE} {f f' : mF} {h h' : mH} {ok : Bool}
theorem W.sz {H : Heap} {locs : List Loc} {cells slots : Nat} {g : JFrame} (k : H.size ≤ s.heap.size + cells → W p l e R s m args below meth c H locs cells slots Q g) : W p l e R s m args below meth c H locs cells slots Q g := fun T hT X => k (by have q := X.same.2.2.1; rw [← hT]; exact q) T hT X
theorem ms_get {idx : Nat} (C : mCx p R s m args meth c D cA ρ B adV c0 y) (hd : decode (yBy y) f.1 = .ok (.getfield idx, 3)) (hn : en.2.1 = 3) (hlk : fL.any (fun q => Nat.beq q.1 (yO y) && Nat.beq q.2.1 idx && Nat.beq q.2.2.1 en.2.2.1.1 && Nat.beq q.2.2.2.1 en.2.2.1.2.1) = true) (hty : Nat.beq (kFd en.2.2.1.1 en.2.2.1.2.1).2.2.2.1 en.2.2.1.2.2 = true) (hs : mGet en f h = (f', h', true)) (K : Wm p l e R s m args below meth c Q D cA ρ B c0 s0 y X f' h') : Wm p l e R s m args below meth c Q D cA ρ B c0 s0 y X f h := by
  obtain ⟨hx, hb, hml, hown, hts, hK, hρ, hB, hini, hfr, hlo, hex⟩ := C
  obtain ⟨i, n, ⟨ci, j, t⟩, v⟩ := en
  obtain ⟨pc, ls, st⟩ := f
  simp only at hlk hty hn hd
  subst hn
  obtain ⟨hw, hj, hci⟩ := fL_of hlk
  have ht := kt_at hj (Nat.eq_of_beq_eq_true hty)
  have hok := (k_all hci hj).2.2
  rw [Nat.eq_of_beq_eq_true hty] at hok
  unfold mGet at hs
  simp only at hs
  split at hs
  next _ a st =>
    intro H locs as hl hr hX
    have key : ∀ (w : Value), eV ρ h a j t = w → Nat.beq (mK h a).1 ci = true → W p l e R s m args below meth c H locs (h.1.length - c0) (mS h - s0) Q (F0 m (pc + 3) as (w :: st.map (tv ρ))) → W p l e R s m args below meth c H locs (h.1.length - c0) (mS h - s0) Q (F0 m pc as ((Value.ref a :: st).map (tv ρ))) := by
      intro w hw2 hk2 kk
      have hk := mK_at hk2 (by omega)
      have he := eW_at (cA := cA) (ρ := ρ) hk
      rw [eC_obj (by omega)] at he
      exact va_get (C := kN ci) (T := kT ci) (N := (kF ci).length) (ref := kN ci) (own := oN (yO y)) (index := idx) hx hb hts (k_in hci) hown hK hr.1 a he (cl_at hci) j hj (hts _ hw) (fun _ q => q) (v := w) (by rw [← hw2]; exact eF_at ht) hd kk
    rcases t with _ | _ | _ | t
    · obtain ⟨rfl, rfl, hb2⟩ := tri hs
      exact key _ rfl hb2 (K H locs as hl hr hX)
    · obtain ⟨rfl, rfl, hb2⟩ := tri hs
      exact key _ rfl hb2 (K H locs as hl hr hX)
    · obtain ⟨rfl, rfl, hb2⟩ := tri hs
      exact key _ rfl hb2 (K H locs as hl hr hX)
    · obtain ⟨rfl, rfl, hb2⟩ := tri hs
      rw [Bool.and_eq_true] at hb2
      have h3 : t = 0 := by
        unfold tOK at hok
        split at hok
        · exact absurd (Nat.eq_of_beq_eq_true hok) (by omega)
        · exact absurd (Nat.eq_of_beq_eq_true hok) (by omega)
        · exact absurd (Nat.eq_of_beq_eq_true hok) (by omega)
        · have := Nat.eq_of_beq_eq_true hok; omega
        · have := Nat.eq_of_beq_eq_true hok; omega
        · cases hok
      subst h3
      obtain ⟨k, hk⟩ := Option.isSome_iff_exists.mp hb2.2
      have K2 := K H locs as hl hr hX
      rw [hk] at K2
      exact key _ (by simp only [eV, hk]; rfl) hb2.1 K2
  next => exact absurd (tri hs).2.2 (by decide)
end HP
