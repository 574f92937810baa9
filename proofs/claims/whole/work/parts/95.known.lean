/-! What the statement gives of the start, as the small machine wants it. -/
def fW : List Cond := flatC (Jvm.Cond.and given_1 narrow_1)
def fAt (i : Nat) (w : Cond) : Bool := decide (fW[i]? = some w)
theorem fAt_in {i : Nat} {w : Cond} (h : fAt i w = true) : w ∈ fW := List.mem_of_getElem? (of_decide_eq_true h)
def sT (i : Nat) : Term := .string (oN (sLn.getD i (0, 0, "", 0)).1) (sLn.getD i (0, 0, "", 0)).2.1
def sV (i : Nat) : Term := .field (sT i) "java/lang/String" "value" "[B"
def sPl (i : Nat) : Nat := [61, 72, 82, 93, 104, 118, 132, 146, 161, 176, 193, 211, 229, 250].getD i 0
def sLe (i : Nat) : Nat := (mStr.map List.length).getD i 0
def fOK (i : Nat) : Bool := fAt (sPl i) (.exactly (sT i) "java/lang/String") && fAt (sPl i + 1) (.eq (.field (sT i) "java/lang/String" "coder" "B") (.int 0)) && fAt (sPl i + 2) (.arrayOf (sV i) .byte) && fAt (sPl i + 3) (.eq (.length (sV i)) (.int (Int32.ofNat (sLe i)))) && (List.range (sLe i)).all (fun j => fAt (sPl i + 4 + j) (.eq (.elem (sV i) (.int (Int32.ofNat j))) (.int ((mStr.getD i []).getD j 0)))) && (List.range i).all (fun a => fAt (sPl i + 4 + sLe i + a) (.not (.eq (sT a) (sT i))))
theorem fOK_all : (List.range 14).all fOK = true := by decide +kernel
theorem fSt : (fAt 4 (.eq (.static "java/lang/String" "COMPACT_STRINGS" "Z") (.int 1)) && fAt 5 (.isRef (.static "jdk/internal/util/Preconditions" "SIOOBE_FORMATTER" "Ljava/util/function/BiFunction;"))) = true := by decide +kernel
theorem w_z : (wAt 642 (.laysStatic "java/lang/String" "COMPACT_STRINGS" "Z") && wAt 658 (.laysStatic "jdk/internal/util/Preconditions" "SIOOBE_FORMATTER" "Ljava/util/function/BiFunction;") && wAt 138 (.initialized "java/lang/String") && wAt 140 (.initialized "jdk/internal/util/Preconditions")) = true := by decide +kernel
theorem y_302 : yBy 302 = code ∧ yML 302 = 4 ∧ oN (yO 302) = "OneReaderLaw" ∧ yFr 302 = 13 ∧ yLo 302 = 488 ∧ yKd 302 = 0 := ⟨rfl, rfl, rfl, rfl, rfl, rfl⟩
theorem fOK_of {i : Nat} (hi : i < 14) : Cond.exactly (sT i) "java/lang/String" ∈ fW ∧ Cond.eq (.field (sT i) "java/lang/String" "coder" "B") (.int 0) ∈ fW ∧ Cond.arrayOf (sV i) .byte ∈ fW ∧ Cond.eq (.length (sV i)) (.int (Int32.ofNat (sLe i))) ∈ fW ∧ (∀ j, j < sLe i → Cond.eq (.elem (sV i) (.int (Int32.ofNat j))) (.int ((mStr.getD i []).getD j 0)) ∈ fW) ∧ ∀ a, a < i → Cond.not (.eq (sT a) (sT i)) ∈ fW := by
  have q := List.all_eq_true.mp fOK_all i (List.mem_range.mpr hi)
  unfold fOK at q
  obtain ⟨q, q6⟩ := w_and q
  obtain ⟨q, q5⟩ := w_and q
  obtain ⟨q, q4⟩ := w_and q
  obtain ⟨q, q3⟩ := w_and q
  obtain ⟨q1, q2⟩ := w_and q
  exact ⟨fAt_in q1, fAt_in q2, fAt_in q3, fAt_in q4, fun j hj => fAt_in (List.all_eq_true.mp q5 j (List.mem_range.mpr hj)), fun a ha => fAt_in (List.all_eq_true.mp q6 a (List.mem_range.mpr ha))⟩
theorem sLe_31 : ∀ i : Nat, i < 14 → (mStr.map List.length).getD i 0 < 2 ^ 31 := by decide +kernel
theorem txt_of {args : Array Value} {s : State} (hg : (Jvm.Cond.and given_1 narrow_1).before args s = true) : ∃ adK adV : Nat → Nat, vk_S 14 (mStr.map List.length) mStr adK adV (fun q => s.heap.size ≤ q) s s.heap ∧ ∀ i : Nat, i < 14 → (sT i).eval args s none [] s = some (.ref (adK i)) := by
  have hs : ∀ c ∈ fW, c.before args s = true := flat_of_before _ hg
  refine vk_Sof (tm := sT) sLe_31 (fun i hi => hs _ (fOK_of hi).1) (fun i hi => hs _ (fOK_of hi).2.1) (fun i hi => hs _ (fOK_of hi).2.2.1) (fun i hi => hs _ (fOK_of hi).2.2.2.1) (fun i hi j hj => hs _ ((fOK_of hi).2.2.2.2.1 j hj)) (fun i j hi hj hne => ?_) (fun a ha => Nat.not_le.mpr ha)
  rcases Nat.lt_or_gt_of_ne hne with h | h
  · exact Or.inl (hs _ ((fOK_of hj).2.2.2.2.2 i h))
  · exact Or.inr (hs _ ((fOK_of hi).2.2.2.2.2 j h))
theorem vk_S_ad {N : Nat} {len : List Nat} {byt : List (List Int32)} {adK adK' adV : Nat → Nat} {A : Nat → Prop} {U : State} {H : Heap} (h : vk_S N len byt adK adV A U H) (he : ∀ i, i < N → adK' i = adK i) : vk_S N len byt adK' adV A U H :=
  ⟨fun i hi => by rw [he i hi]; exact h.1 i hi, fun i j hi hj e => h.2 i j hi hj (by rw [← he i hi, ← he j hj]; exact e)⟩
/-- where the small machine's cells lie: new ones, the script, the constant texts -/
def roO (B b : Nat) (ad : Nat → Nat) : Nat → Nat := fun k => if k < 1000000 then B + k else if k = 2000000 then b else ad (k - 1000000)
theorem ro_lo {B b : Nat} {ad : Nat → Nat} {k : Nat} (h : k < 1000000) : roO B b ad k = B + k := if_pos h
theorem ro_tx {B b : Nat} {ad : Nat → Nat} {i : Nat} (h : i < 14) : roO B b ad (1000000 + i) = ad i := by
  unfold roO
  rw [if_neg (by omega), if_neg (by omega), Nat.add_sub_cancel_left]
theorem ro_sc {B b : Nat} {ad : Nat → Nat} : roO B b ad 2000000 = b := by
  unfold roO
  rw [if_neg (by omega), if_pos rfl]
theorem known_of {args : Array Value} {s : State} (hts : ∀ w ∈ lw_tbl, w.before args s = true) : ∃ D : va_G, ∀ (c : Nat) (q : vw_C), classes[c]? = some q → u_Kn s q.1 q.2.1 q.2.2 (D.1 c) (D.2 c) := by
  have h0 : ∀ ci : Nat, ∃ d : ClassId × (Nat → Nat), ci < 13 → u_Kn s (kN ci) (kT ci) (kF ci).length d.1 d.2 := by
    intro ci
    by_cases hi : ci < 13
    · have q := kOK_of hi
      unfold kOK at q
      obtain ⟨q, -⟩ := w_and q
      obtain ⟨q1, q2⟩ := w_and q
      have hin : ∀ w ∈ u_ws (kN ci) (kT ci) (kF ci).length, w ∈ lw_tbl := by
        intro w hw
        obtain ⟨k, hk, rfl⟩ := List.mem_map.mp hw
        exact wAt_in (w_and (w_and (List.all_eq_true.mp q1 k hk)).1).1
      obtain ⟨c, iS, h⟩ := u_known hts hin (hts _ (wAt_in q2))
      exact ⟨(c, iS), fun _ => h⟩
    · exact ⟨(0, fun _ => 0), fun h => absurd h hi⟩
  obtain ⟨d, hd⟩ := Classical.axiomOfChoice h0
  refine ⟨(fun c => (d c).1, fun c => (d c).2), fun c q hq => ?_⟩
  have hc : c < 13 := by
    have h1 := (List.getElem?_eq_some_iff.mp hq).1
    simpa [classes] using h1
  rw [cl_at hc] at hq
  have e := Option.some.inj hq
  subst e
  exact hd c hc
theorem arr_prim {args : Array Value} {s : State} {t : FieldType} (h : (Cond.arrayClass t).before args s = true) (ht : ∀ C, t ≠ .object C) : ∃ c : ClassId, ArrOfT s c t ∧ va_RA s c t := by
  obtain ⟨c, k, comp, h1, h2, h3⟩ := Cond.arrayClass_spec (args := args) (first := s) (o := none) (s := s) (idx := []) h
  refine ⟨c, fun n z => ⟨fun k h => (by cases h), k, h2, comp, h3⟩, ?_⟩
  cases t with
  | object C => exact absurd rfl (ht C)
  | _ => exact h1
theorem arr_obj {args : Array Value} {s : State} {C : String} (h : (Cond.arrayOver (.object C)).before args s = true) : ∃ c : ClassId, ArrOfT s c (.object C) ∧ va_RA s c (.object C) := by
  obtain ⟨comp, c, k, g1, g2, g3, g4, g5⟩ := Cond.arrayOver_spec (args := args) (first := s) (o := none) (s := s) (idx := []) h
  exact ⟨c, fun n z => ⟨fun k h => (by cases h), k, g3, comp, g4⟩, k, comp, g3, g4, g1, g5⟩
theorem arr_of {args : Array Value} {s : State} (hts : ∀ w ∈ lw_tbl, w.before args s = true) : ∃ cA : Nat → ClassId, ∀ (k : Nat) (q : ClassId × FieldType), (tyL cA)[k]? = some q → ArrOfT s q.1 q.2 ∧ va_RA s q.1 q.2 := by
  obtain ⟨a, a3⟩ := w_and w_arr
  obtain ⟨a1, a2⟩ := w_and a
  obtain ⟨o, o4⟩ := w_and w_over
  obtain ⟨o, o3⟩ := w_and o
  obtain ⟨o1, o2⟩ := w_and o
  obtain ⟨c1, h1⟩ := arr_prim (hts _ (wAt_in a1)) (fun C h => by cases h)
  obtain ⟨c2, h2⟩ := arr_prim (hts _ (wAt_in (of_decide_eq_true a3))) (fun C h => by cases h)
  obtain ⟨c3, h3⟩ := arr_prim (hts _ (wAt_in a2)) (fun C h => by cases h)
  obtain ⟨c4, h4⟩ := arr_obj (hts _ (wAt_in (of_decide_eq_true o4)))
  obtain ⟨c5, h5⟩ := arr_obj (hts _ (wAt_in o1))
  obtain ⟨c6, h6⟩ := arr_obj (hts _ (wAt_in o2))
  obtain ⟨c7, h7⟩ := arr_obj (hts _ (wAt_in o3))
  refine ⟨fun k => if k = 100 then c1 else if k = 101 then c2 else if k = 102 then c3 else if k = 201 then c4 else if k = 202 then c5 else if k = 203 then c6 else c7, fun k q hq => ?_⟩
  match k, hq with
  | 0, hq => have e := Option.some.inj (show some ((c1 : ClassId), FieldType.int) = some q from hq); subst e; exact h1
  | 1, hq => have e := Option.some.inj (show some ((c2 : ClassId), FieldType.byte) = some q from hq); subst e; exact h2
  | 2, hq => have e := Option.some.inj (show some ((c3 : ClassId), FieldType.boolean) = some q from hq); subst e; exact h3
  | 3, hq => have e := Option.some.inj (show some ((c4 : ClassId), FieldType.object (kN 1)) = some q from hq); subst e; exact h4
  | 4, hq => have e := Option.some.inj (show some ((c5 : ClassId), FieldType.object (kN 2)) = some q from hq); subst e; exact h5
  | 5, hq => have e := Option.some.inj (show some ((c6 : ClassId), FieldType.object (kN 3)) = some q from hq); subst e; exact h6
  | 6, hq => have e := Option.some.inj (show some ((c7 : ClassId), FieldType.object (kN 4)) = some q from hq); subst e; exact h7
  | k + 7, hq => simp [tyL] at hq
theorem mEx_of {args : Array Value} {s : State} {b : Nat} (hts : ∀ w ∈ lw_tbl, w.before args s = true) (hg : (Jvm.Cond.and given_1 narrow_1).before args s = true) : ∃ adK adV : Nat → Nat, mEx (roO s.heap.size b adK) s.heap.size adV s := by
  obtain ⟨adK, adV, hS, hE⟩ := txt_of hg
  have hs : ∀ c ∈ fW, c.before args s = true := flat_of_before _ hg
  obtain ⟨z, z4⟩ := w_and w_z
  obtain ⟨z, z3⟩ := w_and z
  obtain ⟨z1, z2⟩ := w_and z
  obtain ⟨f1, f2⟩ := w_and fSt
  obtain ⟨o, o4⟩ := w_and w_over
  obtain ⟨o, o3⟩ := w_and o
  obtain ⟨o1, o2⟩ := w_and o
  have hA : ∀ a : Nat, a < s.heap.size → ¬ (fun q : Nat => s.heap.size ≤ q) a := fun a h => Nat.not_le.mpr h
  refine ⟨adK, adV, fun q hq => ?_, fun ci h1 h2 => ?_, fun i q hq => ?_, vk_S_ad hS (fun i hi => ro_tx hi), va_Zof (hts _ (wAt_in z1)) (hts _ (wAt_in z3)) (va_eqi (hs _ (fAt_in f1))) hA, va_Zqof (hts _ (wAt_in z2)) (hts _ (wAt_in z4)) (hs _ (fAt_in f2)) hA⟩
  · exact va_Nw.of rfl (hts _ (wAt_in (w_and (List.all_eq_true.mp nLn_ok q hq)).1))
  · have : ci = 1 ∨ ci = 2 ∨ ci = 3 ∨ ci = 4 := by omega
    rcases this with rfl | rfl | rfl | rfl
    · exact va_AO.of (hts _ (wAt_in (of_decide_eq_true o4)))
    · exact va_AO.of (hts _ (wAt_in o1))
    · exact va_AO.of (hts _ (wAt_in o2))
    · exact va_AO.of (hts _ (wAt_in o3))
  · have hi : i < 14 := (List.getElem?_eq_some_iff.mp hq).1
    rw [ro_tx hi]
    refine vk_R.of (hts _ (wAt_in (List.all_eq_true.mp sLn_ok q (List.mem_of_getElem? hq)))) ?_
    have e := hE i hi
    have e2 : sLn.getD i (0, 0, "", 0) = q := by rw [List.getD_eq_getElem?_getD, hq]; rfl
    unfold sT at e
    rw [e2] at e
    exact e
/-- the script, beyond the cells -/
def scT (xs : Nat → Int32) (L : Nat) : Nat → Nat → Int32 := fun a j => if a = 2000000 then xs j else Int32.ofNat L
def scX (xs : Nat → Int32) (L : Nat) (h : mH) : Prop := (∀ j, h.2.1 2000000 j = xs j) ∧ h.2.1 2000001 0 = nI L
theorem scX_ok {xs : Nat → Int32} {L : Nat} : mXok (scX xs L) := fun h h' e q => ⟨fun j => (e 2000000 j (by decide)).trans (q.1 j), (e 2000001 0 (by decide)).trans q.2⟩
