/-! finish, neverRead: what holds of the days -/
section FI
variable {q : LQ} {P : Nat → Nat} {m : Nat} {D : Nat → AZ}
theorem SW.rdd {s : LSt} {c : Nat} (S : SW q s) (hc : c < q 0 0) : SW q (sRead q s c) := by
  refine ⟨fun t ht => ?_, S.2.1, or_lt S.2.2.1 (sh1_lt hc), S.2.2.2.1, ?_⟩
  · show ud (sLk s) (q 2 c) (sLk s (q 2 c) - 1) t ≤ 9
    have := S.1 t ht
    unfold ud
    split
    next e => rw [← e]; omega
    next => exact this
  · show sLf s - q 1 c ≤ 12
    have := S.2.2.2.2
    omega
theorem SW.pie {s : LSt} {t : Nat} (S : SW q s) : SW q (sPie s t) := by
  refine ⟨fun j hj => ?_, S.2.1, S.2.2.1, S.2.2.2.1, S.2.2.2.2⟩
  show ud (sLk s) t (min 9 (sLk s t + 2)) j ≤ 9
  unfold ud; split
  · omega
  · exact S.1 j hj
theorem dgo_st : ∀ n (x y : AZ), x.1 = y.1 → (dgo q n x).1 = (dgo q n y).1 := by
  intro n
  induction n with
  | zero => intro x y e; exact e
  | succ n ih =>
    intro x y e
    cases ef : fav q x.1 with
    | none =>
      rw [dgo_n ef, dgo_n (by rw [← e]; exact ef)]
      exact e
    | some c =>
      rw [dgo_s ef, dgo_s (x := y) (c := c) (by rw [← e]; exact ef)]
      refine ih _ _ ?_
      show sRead q x.1 c = sRead q y.1 c
      rw [e]
theorem dgo_pc (W : QW q) : ∀ n (x : AZ), SW q x.1 → x.2.1 = pc (sRd x.1) → SW q (dgo q n x).1 ∧ (dgo q n x).2.1 = pc (sRd (dgo q n x).1) := by
  intro n
  induction n with
  | zero => intro x S e; exact ⟨S, e⟩
  | succ n ih =>
    intro x S e
    cases ef : fav q x.1 with
    | none => rw [dgo_n ef]; exact ⟨S, e⟩
    | some c =>
      rw [dgo_s ef]
      refine ih _ (S.rdd (fav_ok ef).1) ?_
      show x.2.1 + 1 = pc (sRd (sRead q x.1 c))
      rw [(fav_pc W S ef).1, e]
theorem sPs_SW (W : QW q) : SW q (sPs q P m) := by
  unfold sPs
  exact up_inv (f := fun i s => sPie s (P i)) (I := fun _ s => SW q s) (n := m) (fun k s _ hs => SW.pie hs) (SW0 W) m (Nat.le_refl _)
theorem D_pc (W : QW q) (A : aD q P m D) : ∀ i, SW q (D i).1 ∧ (D i).2.1 = pc (sRd (D i).1) := by
  obtain ⟨D0, Ds⟩ := A
  intro i
  induction i with
  | zero =>
    rw [D0]
    refine ⟨sPs_SW W, ?_⟩
    show 0 = pc (sRd (sPs q P m))
    rw [(sPs_f q P m).2.2.2]
    decide +kernel
  | succ i ih =>
    rw [Ds]
    exact dgo_pc W 8 _ ⟨ih.1.1, ih.1.2.1, ih.1.2.2.1, ih.1.2.2.2.1, W.1.2.2.2⟩ ih.2
end FI
