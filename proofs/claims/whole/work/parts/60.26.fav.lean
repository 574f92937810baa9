/-! HIMSELF: which CHAPTER he reads next -/
def pref (q : LQ) (s : LSt) (c x : Nat) : Bool := decide (sLk s (q 2 x) < sLk s (q 2 c)) || (decide (sLk s (q 2 c) = sLk s (q 2 x)) && decide (q 1 c < q 1 x))
def fvf (q : LQ) (s : LSt) : Nat → Option Nat → Option Nat := fun c b => if cR q s c = true then (match b with
  | none => some c
  | some x => if pref q s c x = true then some c else some x) else b
def fav (q : LQ) (s : LSt) : Option Nat := up (fvf q s) (q 0 0) none
theorem fav_inv (q : LQ) (s : LSt) : ∀ k, k ≤ q 0 0 → ∀ c, up (fvf q s) k none = some c → c < q 0 0 ∧ cR q s c = true :=
  up_inv (f := fvf q s) (I := fun _ b => ∀ c, b = some c → c < q 0 0 ∧ cR q s c = true) (n := q 0 0) (fun k b hk hb c hc => by
    unfold fvf at hc
    split at hc
    next hr =>
      cases b with
      | none => simp only at hc; cases hc; exact ⟨hk, hr⟩
      | some x =>
        simp only at hc
        split at hc
        · cases hc; exact ⟨hk, hr⟩
        · exact hb c hc
    next => exact hb c hc) (fun c hc => by cases hc)
theorem fav_ok {q : LQ} {s : LSt} {c : Nat} (h : fav q s = some c) : c < q 0 0 ∧ cR q s c = true := fav_inv q s (q 0 0) (Nat.le_refl _) c h
section LF
variable {h : mH} {la : Nat} {q : LQ} {s : LSt}
theorem t87 (w : Wd h) (H : LibS h la q) (W : QW q) (C : CLS h 70 s) (S : SW q s) {c x : Nat} (hc : c < 8) (hx : x < 8) : f87 h 66 la (iN c) (iN x) = some (bN (pref q s c x)) := by
  have h5 := W.2.2.2.1 c hc
  have h5' := W.2.2.2.1 x hx
  have h9 := W.2.2.1 c hc
  have h9' := W.2.2.1 x hx
  have l1 := S.1 (q 2 c) (by omega)
  have l2 := S.1 (q 2 x) (by omega)
  have e1 : mI h 71 (q 2 c) = iN (sLk s (q 2 c)) := C.1 (q 2 c) (by omega)
  have e2 : mI h 71 (q 2 x) = iN (sLk s (q 2 x)) := C.1 (q 2 x) (by omega)
  unfold f87 f87_16 f87_32 f87_61 f87_65 f87_66 pref
  simp (disch := omega) only [gT, nbeq, Option.isSome_some, Option.getD_some, Bool.and_true, Bool.true_and, Bool.and_self, mX_some, bS, bN_if, bN_01, i1_01, i0_01, if_true, if_false, Bool.false_eq_true, false_and, and_false, and_true, true_and, and_self, Bool.or_false, Bool.false_or, Bool.or_true, Bool.true_or, Bool.false_and, Bool.and_false, decide_true, decide_false, L0, L1, L2, L3, L4, L5, L6, L7, L8, L9, L10, L11, L12, L13, L14, L15, L16, L17, L18, L19, L20, L21, L22, L23, L24, L25, L27, L33, L39, L40, L45, L48, L57, L60, L72, L90, L97, L98, L99, L100, L121, L122, L242, L255, L256, L580, L600, L1000, L1584, L1000000, Ln1, iN_add, iN_and, iN_or, iN_nd, iN_shl, iN_shr, iN_cl, iN_in, iN_mul, k66 w, r66_0 w, r66_1 w, r66_2 w, r66_4 w, k70 w, r70_0 w, r70_2 w, k71 w, H.k, H.r0, H.r1, H.r2, H.r3, H.r4, H.r5, H.k1, H.k2, H.k3, H.k4, H.k5, H.k6, H.n, H.m, H.lp, H.hr, H.tp, H.ln, H.lk, H.me, H.he, e1, e2]
  by_cases d1 : sLk s (q 2 x) < sLk s (q 2 c)
  · rw [ilt_p (by omega) (by omega) d1, decide_eq_true d1]; rfl
  · rw [ilt_n (by omega) (by omega) (by omega), decide_eq_false d1]
    by_cases d2 : sLk s (q 2 c) = sLk s (q 2 x)
    · rw [ieq_p d2, decide_eq_true d2]
      by_cases d3 : q 1 c < q 1 x
      · rw [ile_n (by omega) (by omega) d3, decide_eq_true d3]; rfl
      · rw [ile_p (by omega) (by omega) (by omega), decide_eq_false d3]; rfl
    · rw [ieq_n (by omega) (by omega) d2, decide_eq_false d2]; rfl
theorem t86 (w : Wd h) (L : LfS h 70 la) (H : LibS h la q) (W : QW q) (C : CLS h 70 s) (S : SW q s) : f86 h 66 la = some (zN (fav q s)) := by
  have hn := W.1.1
  have h8 := pw_8 hn
  have hu := ups_lt (cR q s) (q 0 0)
  unfold f86 fav
  simp only [gT, nbeq, Option.isSome_some, Option.getD_some, Bool.and_true, Bool.true_and, Bool.and_self, mX_some, bS, bN_if, bN_01, i1_01, i0_01, if_true, if_false, Bool.false_eq_true, false_and, and_false, and_true, true_and, and_self, Bool.or_false, Bool.false_or, Bool.or_true, Bool.true_or, Bool.false_and, Bool.and_false, decide_true, decide_false, L0, L1, L2, L3, L4, L5, L6, L7, L8, L9, L10, L11, L12, L13, L14, L15, L16, L17, L18, L19, L20, L21, L22, L23, L24, L25, L27, L33, L39, L40, L45, L48, L57, L60, L72, L90, L97, L98, L99, L100, L121, L122, L242, L255, L256, L580, L600, L1000, L1584, L1000000, Ln1, iN_add, iN_and, iN_or, iN_nd, iN_shl, iN_shr, iN_cl, iN_in, iN_mul, k66 w, r66_0 w, r66_1 w, r66_2 w, r66_4 w, k70 w, r70_0 w, r70_2 w, t69 L H W C S]
  refine lp_up (fun k (b : Option Nat) => (zN b, iN k)) (fvf q s) zN (fun k b => ∀ c, b = some c → c < 8) (q 0 0) (a0 := none) (fun c hc => by cases hc) (fun k b hk hb c hc => by
    unfold fvf at hc
    split at hc
    · cases b with
      | none => simp only at hc; cases hc; omega
      | some x =>
        simp only at hc
        split at hc
        · cases hc; omega
        · exact hb c hc
    · exact hb c hc) ?_ ?_ (by omega)
  · intro k b hk hb
    have tb : (ups (cR q s) (q 0 0)).testBit k = cR q s k := by rw [ups_tb]; simp [hk]
    unfold f86_13 f86_47 f86_50 fvf
    simp (disch := omega) only [gT, nbeq, Option.isSome_some, Option.getD_some, Bool.and_true, Bool.true_and, Bool.and_self, mX_some, bS, bN_if, bN_01, i1_01, i0_01, if_true, if_false, Bool.false_eq_true, false_and, and_false, and_true, true_and, and_self, Bool.or_false, Bool.false_or, Bool.or_true, Bool.true_or, Bool.false_and, Bool.and_false, decide_true, decide_false, L0, L1, L2, L3, L4, L5, L6, L7, L8, L9, L10, L11, L12, L13, L14, L15, L16, L17, L18, L19, L20, L21, L22, L23, L24, L25, L27, L33, L39, L40, L45, L48, L57, L60, L72, L90, L97, L98, L99, L100, L121, L122, L242, L255, L256, L580, L600, L1000, L1584, L1000000, Ln1, iN_add, iN_and, iN_or, iN_nd, iN_shl, iN_shr, iN_cl, iN_in, iN_mul, k66 w, r66_0 w, r66_1 w, r66_2 w, r66_4 w, H.k, H.n, ile_n, t71, tb]
    cases cR q s k with
    | false => simp only [gT, nbeq, Option.isSome_some, Option.getD_some, Bool.and_true, Bool.true_and, Bool.and_self, mX_some, bS, bN_if, bN_01, i1_01, i0_01, if_true, if_false, Bool.false_eq_true, false_and, and_false, and_true, true_and, and_self, Bool.or_false, Bool.false_or, Bool.or_true, Bool.true_or, Bool.false_and, Bool.and_false, decide_true, decide_false]
    | true =>
      simp only [gT, nbeq, Option.isSome_some, Option.getD_some, Bool.and_true, Bool.true_and, Bool.and_self, mX_some, bS, bN_if, bN_01, i1_01, i0_01, if_true, if_false, Bool.false_eq_true, false_and, and_false, and_true, true_and, and_self, Bool.or_false, Bool.false_or, Bool.or_true, Bool.true_or, Bool.false_and, Bool.and_false, decide_true, decide_false]
      cases b with
      | none => simp only [zN_none, jj_p]; rfl
      | some x =>
        have hx := hb x rfl
        simp (disch := omega) only [zN_some, ij_n, t87 w H W C S, gT, nbeq, Option.isSome_some, Option.getD_some, Bool.and_true, Bool.true_and, Bool.and_self, mX_some, bS, bN_if, bN_01, i1_01, i0_01, if_true, if_false, Bool.false_eq_true, false_and, and_false, and_true, true_and, and_self, Bool.or_false, Bool.false_or, Bool.or_true, Bool.true_or, Bool.false_and, Bool.and_false, decide_true, decide_false]
        cases pref q s k x <;> simp only [gT, nbeq, Option.isSome_some, Option.getD_some, Bool.and_true, Bool.true_and, Bool.and_self, mX_some, bS, bN_if, bN_01, i1_01, i0_01, if_true, if_false, Bool.false_eq_true, false_and, and_false, and_true, true_and, and_self, Bool.or_false, Bool.false_or, Bool.or_true, Bool.true_or, Bool.false_and, Bool.and_false, decide_true, decide_false] <;> rfl
  · intro b _
    unfold f86_13
    simp (disch := omega) only [gT, nbeq, Option.isSome_some, Option.getD_some, Bool.and_true, Bool.true_and, Bool.and_self, mX_some, bS, bN_if, bN_01, i1_01, i0_01, if_true, if_false, Bool.false_eq_true, false_and, and_false, and_true, true_and, and_self, Bool.or_false, Bool.false_or, Bool.or_true, Bool.true_or, Bool.false_and, Bool.and_false, decide_true, decide_false, L0, L1, L2, L3, L4, L5, L6, L7, L8, L9, L10, L11, L12, L13, L14, L15, L16, L17, L18, L19, L20, L21, L22, L23, L24, L25, L27, L33, L39, L40, L45, L48, L57, L60, L72, L90, L97, L98, L99, L100, L121, L122, L242, L255, L256, L580, L600, L1000, L1584, L1000000, Ln1, iN_add, iN_and, iN_or, iN_nd, iN_shl, iN_shr, iN_cl, iN_in, iN_mul, H.k, H.n, ile_p]
end LF
section ML
variable {h : mH} {q : LQ} {s : LSt}
theorem t235 (H : MoS h q) (W : QW q) (C : MLS h s) (S : SW q s) : f235 h 193 = some (zN (fav q s)) := by
  have hn := W.1.1
  have w := H.1
  unfold f235 fav
  refine lp_up (fun k (b : Option Nat) => (zN b, iN k)) (fvf q s) zN (fun k b => ∀ c, b = some c → c < 8) (q 0 0) (a0 := none) (fun c hc => by cases hc) (fun k b hk hb c hc => by
    unfold fvf at hc
    split at hc
    · cases b with
      | none => simp only at hc; cases hc; omega
      | some x =>
        simp only at hc
        split at hc
        · cases hc; omega
        · exact hb c hc
    · exact hb c hc) ?_ ?_ (by omega)
  · intro k b hk hb
    have h5 := W.2.2.2.1 k (by omega)
    have h9 := W.2.2.1 k (by omega)
    have l1 := S.1 (q 2 k) (by omega)
    have e1 : mI h 204 (q 2 k) = iN (sLk s (q 2 k)) := C.1 (q 2 k) (by omega)
    have r88 : ∀ x, f235_88 h 193 x (iN k) = some (.inl (x, iN (k + 1))) := fun x => by
      unfold f235_88
      simp only [L0, L1, L2, L3, L4, L5, L6, L7, L8, L9, L10, L11, L12, L13, L14, L15, L16, L17, L18, L19, L20, L21, L22, L23, L24, L25, L27, L33, L39, L40, L45, L48, L57, L60, L72, L90, L97, L98, L99, L100, L121, L122, L242, L255, L256, L580, L600, L1000, L1584, L1000000, Ln1, iN_add, iN_and, iN_or, iN_nd, iN_shl, iN_shr, iN_cl, iN_in, iN_mul]
    unfold f235_4 fvf
    simp (disch := omega) only [gT, nbeq, Option.isSome_some, Option.getD_some, Bool.and_true, Bool.true_and, Bool.and_self, mX_some, bS, bN_if, bN_01, i1_01, i0_01, if_true, if_false, Bool.false_eq_true, false_and, and_false, and_true, true_and, and_self, Bool.or_false, Bool.false_or, Bool.or_true, Bool.true_or, Bool.false_and, Bool.and_false, decide_true, decide_false, L0, L1, L2, L3, L4, L5, L6, L7, L8, L9, L10, L11, L12, L13, L14, L15, L16, L17, L18, L19, L20, L21, L22, L23, L24, L25, L27, L33, L39, L40, L45, L48, L57, L60, L72, L90, L97, L98, L99, L100, L121, L122, L242, L255, L256, L580, L600, L1000, L1584, L1000000, Ln1, iN_add, iN_and, iN_or, iN_nd, iN_shl, iN_shr, iN_cl, iN_in, iN_mul, k193 w, r193_1 w, r193_2 w, r193_3 w, r193_4 w, r193_5 w, r193_6 w, r193_7 w, r193_8 w, r193_18 w, r193_19 w, r193_32 w, r193_33 w, r193_34 w, r193_36 w, r193_38 w, r193_39 w, r193_40 w, r193_42 w, r193_45 w, r193_46 w, r193_47 w, r193_48 w, r193_49 w, r193_50 w, H.n, ile_n, t219 H W C S]
    cases cR q s k with
    | false => simp only [gT, nbeq, Option.isSome_some, Option.getD_some, Bool.and_true, Bool.true_and, Bool.and_self, mX_some, bS, bN_if, bN_01, i1_01, i0_01, if_true, if_false, Bool.false_eq_true, false_and, and_false, and_true, true_and, and_self, Bool.or_false, Bool.false_or, Bool.or_true, Bool.true_or, Bool.false_and, Bool.and_false, decide_true, decide_false, r88]
    | true =>
      simp only [gT, nbeq, Option.isSome_some, Option.getD_some, Bool.and_true, Bool.true_and, Bool.and_self, mX_some, bS, bN_if, bN_01, i1_01, i0_01, if_true, if_false, Bool.false_eq_true, false_and, and_false, and_true, true_and, and_self, Bool.or_false, Bool.false_or, Bool.or_true, Bool.true_or, Bool.false_and, Bool.and_false, decide_true, decide_false]
      cases b with
      | none =>
        simp only [zN_none, jj_p]
        unfold f235_56 f235_82 f235_87
        simp (disch := omega) only [L0, ilt_p, r88]; rfl
      | some x =>
        have hx := hb x rfl
        have h5' := W.2.2.2.1 x hx
        have h9' := W.2.2.1 x hx
        have l2 := S.1 (q 2 x) (by omega)
        have e2 : mI h 204 (q 2 x) = iN (sLk s (q 2 x)) := C.1 (q 2 x) (by omega)
        simp (disch := omega) only [zN_some, ij_n, gT, nbeq, Option.isSome_some, Option.getD_some, Bool.and_true, Bool.true_and, Bool.and_self, mX_some, bS, bN_if, bN_01, i1_01, i0_01, if_true, if_false, Bool.false_eq_true, false_and, and_false, and_true, true_and, and_self, Bool.or_false, Bool.false_or, Bool.or_true, Bool.true_or, Bool.false_and, Bool.and_false, decide_true, decide_false, t206 H, fl2, L0, L1, L2, L3, L4, L5, L6, L7, L8, L9, L10, L11, L12, L13, L14, L15, L16, L17, L18, L19, L20, L21, L22, L23, L24, L25, L27, L33, L39, L40, L45, L48, L57, L60, L72, L90, L97, L98, L99, L100, L121, L122, L242, L255, L256, L580, L600, L1000, L1584, L1000000, Ln1, iN_add, iN_and, iN_or, iN_nd, iN_shl, iN_shr, iN_cl, iN_in, iN_mul, k193 w, r193_1 w, r193_2 w, r193_3 w, r193_4 w, r193_5 w, r193_6 w, r193_7 w, r193_8 w, r193_18 w, r193_19 w, r193_32 w, r193_33 w, r193_34 w, r193_36 w, r193_38 w, r193_39 w, r193_40 w, r193_42 w, r193_45 w, r193_46 w, r193_47 w, r193_48 w, r193_49 w, r193_50 w, k204 w, e1, e2]
        unfold f235_56 f235_82 f235_86 f235_87 pref
        have ti := iN_subI (a := sLk s (q 2 k)) (b := sLk s (q 2 x)) (by omega) (by omega)
        by_cases d1 : sLk s (q 2 x) < sLk s (q 2 k)
        · have : (0 : Int32) < iN (sLk s (q 2 k)) - iN (sLk s (q 2 x)) := by rw [Int32.lt_iff_toInt_lt, ti, z_toInt]; omega
          rw [if_pos this, decide_eq_true d1, r88]; rfl
        · have : ¬ (0 : Int32) < iN (sLk s (q 2 k)) - iN (sLk s (q 2 x)) := by rw [Int32.lt_iff_toInt_lt, ti, z_toInt]; omega
          rw [if_neg this, decide_eq_false d1]
          by_cases d2 : sLk s (q 2 k) = sLk s (q 2 x)
          · have : iN (sLk s (q 2 k)) - iN (sLk s (q 2 x)) = 0 := by rw [← Int32.toInt_inj, ti, z_toInt]; omega
            rw [if_pos this, decide_eq_true d2]
            simp (disch := omega) only [gT, nbeq, Option.isSome_some, Option.getD_some, Bool.and_true, Bool.true_and, Bool.and_self, mX_some, bS, bN_if, bN_01, i1_01, i0_01, if_true, if_false, Bool.false_eq_true, false_and, and_false, and_true, true_and, and_self, Bool.or_false, Bool.false_or, Bool.or_true, Bool.true_or, Bool.false_and, Bool.and_false, decide_true, decide_false, L0, L1, L2, L3, L4, L5, L6, L7, L8, L9, L10, L11, L12, L13, L14, L15, L16, L17, L18, L19, L20, L21, L22, L23, L24, L25, L27, L33, L39, L40, L45, L48, L57, L60, L72, L90, L97, L98, L99, L100, L121, L122, L242, L255, L256, L580, L600, L1000, L1584, L1000000, Ln1, iN_add, iN_and, iN_or, iN_nd, iN_shl, iN_shr, iN_cl, iN_in, iN_mul, k193 w, r193_1 w, r193_2 w, r193_3 w, r193_4 w, r193_5 w, r193_6 w, r193_7 w, r193_8 w, r193_18 w, r193_19 w, r193_32 w, r193_33 w, r193_34 w, r193_36 w, r193_38 w, r193_39 w, r193_40 w, r193_42 w, r193_45 w, r193_46 w, r193_47 w, r193_48 w, r193_49 w, r193_50 w, t206 H, fl1]
            by_cases d3 : q 1 k < q 1 x
            · rw [ile_n (by omega) (by omega) d3, decide_eq_true d3, r88]; rfl
            · rw [ile_p (by omega) (by omega) (by omega), decide_eq_false d3, r88]; rfl
          · have : ¬ iN (sLk s (q 2 k)) - iN (sLk s (q 2 x)) = 0 := by rw [← Int32.toInt_inj, ti, z_toInt]; omega
            rw [if_neg this, decide_eq_false d2, r88]; rfl
  · intro b _
    unfold f235_4
    simp (disch := omega) only [gT, nbeq, Option.isSome_some, Option.getD_some, Bool.and_true, Bool.true_and, Bool.and_self, mX_some, bS, bN_if, bN_01, i1_01, i0_01, if_true, if_false, Bool.false_eq_true, false_and, and_false, and_true, true_and, and_self, Bool.or_false, Bool.false_or, Bool.or_true, Bool.true_or, Bool.false_and, Bool.and_false, decide_true, decide_false, L0, L1, L2, L3, L4, L5, L6, L7, L8, L9, L10, L11, L12, L13, L14, L15, L16, L17, L18, L19, L20, L21, L22, L23, L24, L25, L27, L33, L39, L40, L45, L48, L57, L60, L72, L90, L97, L98, L99, L100, L121, L122, L242, L255, L256, L580, L600, L1000, L1584, L1000000, Ln1, iN_add, iN_and, iN_or, iN_nd, iN_shl, iN_shr, iN_cl, iN_in, iN_mul, k193 w, r193_1 w, r193_2 w, r193_3 w, r193_4 w, r193_5 w, r193_6 w, r193_7 w, r193_8 w, r193_18 w, r193_19 w, r193_32 w, r193_33 w, r193_34 w, r193_36 w, r193_38 w, r193_39 w, r193_40 w, r193_42 w, r193_45 w, r193_46 w, r193_47 w, r193_48 w, r193_49 w, r193_50 w, H.n, ile_p]
end ML
/-- what counts of a STATE when he reads HIMSELF -/
def co (s : LSt) : (Nat → Nat) × Nat × Nat × Nat × Bool := (sLk s, sRd s, sSk s, sLf s, sCd s)
theorem co_cR {q : LQ} {s t : LSt} (h : co s = co t) : cR q s = cR q t := by
  have h1 : sLk s = sLk t := congrArg (fun z => z.1) h
  have h2 : sRd s = sRd t := congrArg (fun z => z.2.1) h
  have h3 : sSk s = sSk t := congrArg (fun z => z.2.2.1) h
  have h4 : sLf s = sLf t := congrArg (fun z => z.2.2.2.1) h
  have h5 : sCd s = sCd t := congrArg (fun z => z.2.2.2.2) h
  funext c
  unfold cR
  rw [h1, h2, h3, h4, h5]
theorem co_fav {q : LQ} {s t : LSt} (h : co s = co t) : fav q s = fav q t := by
  have h1 : sLk s = sLk t := congrArg (fun z => z.1) h
  have e : fvf q s = fvf q t := by
    funext c b
    unfold fvf pref
    rw [co_cR h, h1]
  unfold fav
  rw [e]
theorem co_read {q : LQ} {s t : LSt} (h : co s = co t) (c : Nat) : co (sRead q s c) = co (sRead q t c) := by
  have h1 : sLk s = sLk t := congrArg (fun z => z.1) h
  have h2 : sRd s = sRd t := congrArg (fun z => z.2.1) h
  have h3 : sSk s = sSk t := congrArg (fun z => z.2.2.1) h
  have h4 : sLf s = sLf t := congrArg (fun z => z.2.2.2.1) h
  have h5 : sCd s = sCd t := congrArg (fun z => z.2.2.2.2) h
  show (ud (sLk s) (q 2 c) (sLk s (q 2 c) - 1), sRd s ||| 1 <<< c, sSk s, sLf s - q 1 c, sCd s) = (ud (sLk t) (q 2 c) (sLk t (q 2 c) - 1), sRd t ||| 1 <<< c, sSk t, sLf t - q 1 c, sCd t)
  rw [h1, h2, h3, h4, h5]
