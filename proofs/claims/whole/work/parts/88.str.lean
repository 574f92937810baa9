/-! length and charAt of constant texts: the JDK's own code. -/
theorem mSx.at {ρ : Nat → Nat} {B : Nat} {adV : Nat → Nat} {s U : State} (hvm : s.vm.Alike U.vm) (hk : ∀ q : Nat, q < s.heap.size → ¬ B ≤ q → U.heap[q]? = s.heap[q]?) (h : mSx ρ B adV s) : mSx ρ B adV U :=
  ⟨(h.1.moved hvm).kept hk, (h.2.1.moved hvm).kept hk, (h.2.2.moved hvm).kept hk⟩
def sPc (ρ : Nat → Nat) (B : Nat) (adV : Nat → Nat) (as : List Value) : Array Value → State → Prop := fun v U => v = as.toArray ∧ mSx ρ B adV U
theorem sPc_blind {ρ : Nat → Nat} {B : Nat} {adV : Nat → Nat} {as : List Value} : FrameBlind (sPc ρ B adV as) := by
  intro a U g mk q
  exact ⟨q.1, mSx.at (s := U) (U := U.calling g mk a) (Vm.Alike.refl U.vm) (fun q _ _ => rfl) q.2⟩
def sQc (r : Option Value) : Array Value → State → Outcome → State → Prop := fun _ st oc t => oc = .returned r ∧ t.heap = st.heap
def sRm (f n : Nat) : Room := { frames := f, cells := 0, slots := 0, locals := n }
def sLen : MethodName := ⟨"java/lang/String", "length", "()I"⟩
def sCod : MethodName := ⟨"java/lang/String", "coder", "()B"⟩
def sLat : MethodName := ⟨"java/lang/String", "isLatin1", "()Z"⟩
def sChr : MethodName := ⟨"java/lang/String", "charAt", "(I)C"⟩
def sLch : MethodName := ⟨"java/lang/StringLatin1", "charAt", "([BI)C"⟩
def sChk : MethodName := ⟨"java/lang/String", "checkIndex", "(II)V"⟩
def sPre : MethodName := ⟨"jdk/internal/util/Preconditions", "checkIndex", "(IILjava/util/function/BiFunction;)I"⟩
theorem w_s1 : (wAt 640 (.code sCod prog_17_method_152_code 1 (some .byte)) && (wAt 641 (.fieldLink "java/lang/String" 38 "java/lang/String" "COMPACT_STRINGS" "Z") && (wAt 2018 (.fieldLink "java/lang/String" 15 "java/lang/String" "coder" "B") && (wAt 2017 (.fieldLink "java/lang/String" 9 "java/lang/String" "value" "[B") && (wAt 138 (.initialized "java/lang/String") && (wAt 139 (.initialized "java/lang/StringLatin1") && wAt 140 (.initialized "jdk/internal/util/Preconditions"))))))) = true := by decide +kernel
theorem w_s2 : (wAt 637 (.methodLink "java/lang/String" 335 sCod) && (wAt 638 (.instanceMethod sCod) && (wAt 639 (.selects "java/lang/String" sCod sCod) && (wAt 636 (.code sLen prog_17_method_54_code 1 (some .int)) && (wAt 634 (.instanceMethod sLen) && wAt 635 (.selects "java/lang/String" sLen sLen)))))) = true := by decide +kernel
theorem w_s3 : (wAt 647 (.methodLink "java/lang/String" 492 sLat) && (wAt 648 (.instanceMethod sLat) && (wAt 649 (.selects "java/lang/String" sLat sLat) && (wAt 650 (.code sLat prog_17_method_154_code 1 (some .boolean)) && (wAt 644 (.instanceMethod sChr) && (wAt 645 (.selects "java/lang/String" sChr sChr) && wAt 646 (.code sChr prog_17_method_56_code 2 (some .char)))))))) = true := by decide +kernel
theorem w_s4 : (wAt 651 (.methodLink "java/lang/String" 495 sLch) && (wAt 652 (.static sLch) && (wAt 653 (.code sLch prog_18_method_2_code 2 (some .char)) && (wAt 654 (.methodLink "java/lang/StringLatin1" 9 sChk) && (wAt 655 (.static sChk) && wAt 656 (.code sChk prog_17_method_155_code 2 none)))))) = true := by decide +kernel
theorem w_s5 : (wAt 657 (.fieldLink "java/lang/String" 1053 "jdk/internal/util/Preconditions" "SIOOBE_FORMATTER" "Ljava/util/function/BiFunction;") && (wAt 659 (.methodLink "java/lang/String" 1059 sPre) && (wAt 660 (.static sPre) && wAt 661 (.code sPre prog_22_method_11_code 3 (some .int))))) = true := by decide +kernel
theorem mT_code {y : MethodName} {b : ByteArray} {n : Nat} {r : Option FieldType} (h : Cond.code y b n r ∈ mT) : GoodIn mT (Cond.code y b n r :: mT) := by
  intro w hw
  rcases List.mem_cons.mp hw with rfl | hw
  · exact ⟨h, Or.inl rfl⟩
  · exact mT_good w hw
theorem mT_w {i : Nat} {w : Cond} (h : wAt i w = true) (hg : goodWord w = true) : w ∈ mT := mT_in (wAt_in h) hg
section CL0
variable {p : Program} {l : Launch} {e : Env} {R : Room} {s : State} {m : MethodId} {args : Array Value} {below : List Frame} {meth : Method} {c : Code} {Q : State → Prop} {D : va_G} {cA : Nat → ClassId} {ρ : Nat → Nat} {B : Nat} {adV : Nat → Nat} {c0 s0 y : Nat} {X : mH → Prop} {en : mE} {f f' : mF} {h h' : mH} {ok : Bool}
theorem mm_call {H : Heap} {locs : List Loc} {cells slots mc ms pc : Nat} {ls : Array Slot} {st0 rest : List Value} {Qa : State → Outcome → State → Prop} {free : Addr → Prop} {A : Nat → Prop} {H0 : Heap} {r : Option Value} {PP : Heap → Prop} (hr : va_Run p l e R s m args below meth c H locs cells slots mc ms (F0 m pc ls st0) rest Qa free) (hS : va_S A H0 H locs) (hQ : ∀ (st : State) (oc : Outcome) (t : State), st.heap = H → Qa st oc t → oc = .returned r ∧ PP t.heap ∧ va_F A st t) (hf : ∀ q, free q → A q)
    (kk : ∀ (H1 : Heap) (locs1 : List Loc), PP H1 → va_S A H0 H1 locs1 → W p l e R s m args below meth c H1 locs1 (cells + mc) (slots + ms) Q (F0 m (pc + 3) ls (r.toList ++ rest))) : W p l e R s m args below meth c H locs cells slots Q (F0 m pc ls st0) := by
  intro T hT X
  obtain ⟨v, st₀, t, T', L, h0, X', hL, e1, e2, hq, st⟩ := hr T hT X
  obtain ⟨hv, hP, hz, hk⟩ := hQ _ _ _ h0 hq
  cases hv
  rw [h0] at hz hk
  rw [← e1] at hP hz hk
  obtain ⟨t2, a1, b1⟩ := kk T'.heap (locs ++ L) hP ⟨Nat.le_trans hS.1 hz, fun q h1 h2 => by rw [hk q (Nat.lt_of_lt_of_le h1 hS.1) h2]; exact hS.2.1 q h1 h2, fun q hq => by
      rcases List.mem_append.mp hq with h | h
      · exact hS.2.2 q h
      · exact hf _ (hL q h)⟩ T' rfl X'
  exact ⟨t2, st t2 a1, b1⟩
end CL0
theorem dc0 : decode prog_17_method_152_code 0 = .ok (.getstatic 38, 3) := by decide +kernel
theorem dc3 : decode prog_17_method_152_code 3 = .ok (.ifCond .eq 10, 3) := by decide +kernel
theorem dc6 : decode prog_17_method_152_code 6 = .ok (.aload_n 0, 1) := by decide +kernel
theorem dc7 : decode prog_17_method_152_code 7 = .ok (.getfield 15, 3) := by decide +kernel
theorem dc10 : decode prog_17_method_152_code 10 = .ok (.goto 4, 3) := by decide +kernel
theorem dc14 : decode prog_17_method_152_code 14 = .ok (.ireturn, 1) := by decide +kernel
set_option maxHeartbeats 1000000 in
theorem c_cod (l : Launch) {ρ : Nat → Nat} {B : Nat} {adV : Nat → Nat} {i : Nat} (hi : i < 14) : Met l sCod (Cond.code sCod prog_17_method_152_code 1 (some .byte) :: mT) (sRm 0 0) (sPc ρ B adV [.ref (ρ (1000000 + i))]) (sQc (some (.int 0))) 0 0 (fun q => B ≤ q) := by
  refine Met.ofW (cc := prog_17_method_152_code) (maxL := 1) (ret := (some .byte)) (by decide) rfl ?_
  intro p e s m args below meth c s₁ Bd hml hv
  obtain ⟨rfl, hX⟩ := hv
  have hx := Bd.exec
  have hb := Bd.bytes
  have hts := atoms_spec (ws := Cond.code sCod prog_17_method_152_code 1 (some .byte) :: mT) Bd.pre
  have ht : ∀ w ∈ mT, w.before #[Value.ref (ρ (1000000 + i))] s = true := fun w hw => hts w (List.mem_cons_of_mem _ hw)
  have hown : s.vm.findClass "java/lang/String" = some m.cls := findClass_of_methodNamed Bd.named
  have hlocks := Bd.notSynchronized
  have hw := w_s1
  simp only [Bool.and_eq_true] at hw
  have hl := lv_entry ([.ref (ρ (1000000 + i))]) (n := 1) (Nat.le_of_ble_eq_true rfl)
  have e0 := lg_entry_eq m [.ref (ρ (1000000 + i))] 1
  refine W.eq e0 ?_
  generalize (lg_sl ([.ref (ρ (1000000 + i))]) ++ List.replicate (1 - (lg_sl ([.ref (ρ (1000000 + i))])).length) Slot.unset).toArray = ls at hl ⊢
  have hl : lv_has ls 1 [(0, .ref (ρ (1000000 + i)))] := hl
  have hS : va_S (fun q => B ≤ q) s.heap s.heap [] := va_S.rf
  refine va_gets hx hb hX.2.1 hS hown (ht _ (mT_w hw.2.1 rfl)) (fun _ q => q) dc0 ?_
  refine lv_if_eq (tgt := 13) hx hb dc3 (by decide) (fun q => absurd q (by decide)) (fun _ => ?_)
  refine lv_aload_n hx hb dc6 rfl (lv_at hl 0 rfl) ?_
  refine vk_getf hx hb (hX.1.1 i hi).2.1 hS hown (ht _ (mT_w hw.2.2.1 rfl)) (fun _ q => q) dc7 ?_
  refine lv_goto (tgt := 14) hx hb dc10 (by decide) ?_
  exact W.zret (ty := .byte) hx hb Bd.returns rfl (fun t ht2 _ => ⟨rfl, ht2⟩) hS.2.2 dc14
theorem dl0 : decode prog_17_method_54_code 0 = .ok (.aload_n 0, 1) := by decide +kernel
theorem dl1 : decode prog_17_method_54_code 1 = .ok (.getfield 9, 3) := by decide +kernel
theorem dl4 : decode prog_17_method_54_code 4 = .ok (.arraylength, 1) := by decide +kernel
theorem dl5 : decode prog_17_method_54_code 5 = .ok (.aload_n 0, 1) := by decide +kernel
theorem dl6 : decode prog_17_method_54_code 6 = .ok (.invokevirtual 335, 3) := by decide +kernel
theorem dl9 : decode prog_17_method_54_code 9 = .ok (.ishr, 1) := by decide +kernel
theorem dl10 : decode prog_17_method_54_code 10 = .ok (.ireturn, 1) := by decide +kernel
theorem sl_len : ∀ i, i < 14 → (mStr.map List.length).getD i 0 = (mStr.getD i []).length ∧ (mStr.getD i []).length < 100 := by decide +kernel
theorem sl_shr : ∀ n : Nat, n < 100 → Int32.ofNat n >>> ((0 : Int32) &&& 31) = Int32.ofNat n := by decide +kernel
set_option maxHeartbeats 1000000 in
theorem c_len (l : Launch) {ρ : Nat → Nat} {B : Nat} {adV : Nat → Nat} {i : Nat} (hi : i < 14) : Met l sLen (Cond.code sLen prog_17_method_54_code 1 (some .int) :: mT) (sRm 1 20) (sPc ρ B adV [.ref (ρ (1000000 + i))]) (sQc (some (.int (Int32.ofNat (mStr.getD i []).length)))) 0 0 (fun q => B ≤ q) := by
  refine Met.ofW (cc := prog_17_method_54_code) (maxL := 1) (ret := (some .int)) (by decide) rfl ?_
  intro p e s m args below meth c s₁ Bd hml hv
  obtain ⟨rfl, hX⟩ := hv
  have hx := Bd.exec
  have hb := Bd.bytes
  have hts := atoms_spec (ws := Cond.code sLen prog_17_method_54_code 1 (some .int) :: mT) Bd.pre
  have ht : ∀ w ∈ mT, w.before #[Value.ref (ρ (1000000 + i))] s = true := fun w hw => hts w (List.mem_cons_of_mem _ hw)
  have hown : s.vm.findClass "java/lang/String" = some m.cls := findClass_of_methodNamed Bd.named
  have hlocks := Bd.notSynchronized
  have hw := w_s1
  have hw2 := w_s2
  simp only [Bool.and_eq_true] at hw hw2
  have hl := lv_entry ([.ref (ρ (1000000 + i))]) (n := 1) (Nat.le_of_ble_eq_true rfl)
  have e0 := lg_entry_eq m [.ref (ρ (1000000 + i))] 1
  refine W.eq e0 ?_
  generalize (lg_sl ([.ref (ρ (1000000 + i))]) ++ List.replicate (1 - (lg_sl ([.ref (ρ (1000000 + i))])).length) Slot.unset).toArray = ls at hl ⊢
  have hl : lv_has ls 1 [(0, .ref (ρ (1000000 + i)))] := hl
  have hS : va_S (fun q => B ≤ q) s.heap s.heap [] := va_S.rf
  refine lv_aload_n hx hb dl0 rfl (lv_at hl 0 rfl) ?_
  refine vk_getf hx hb (hX.1.1 i hi).2.2.1 hS hown (ht _ (mT_w hw.2.2.2.1 rfl)) (fun _ q => q) dl1 ?_
  refine va_tlen hx hb (hX.1.1 i hi).2.2.2 hS (v := Int32.ofNat (mStr.getD i []).length) (by rw [(sl_len i hi).1]) dl4 ?_
  refine lv_aload_n hx hb dl5 rfl (lv_at hl 0 rfl) ?_
  have cw : CallW (headSpec (Cond.code sLen prog_17_method_54_code 1 (some .int) :: mT) (sRm 1 20)).room s #[Value.ref (ρ (1000000 + i))] "java/lang/String" "java/lang/String" 335 sCod prog_17_method_152_code 1 (some .byte) (Cond.code sCod prog_17_method_152_code 1 (some .byte) :: mT) (sRm 0 0) 0 0 0 :=
    ⟨callB_of 0 ht (mT_code (mT_w hw.1 rfl)) rfl rfl rfl (ht _ (mT_w hw.2.2.2.2.1 rfl)) (ht _ (mT_w hw2.1 rfl)) ⟨by decide, by decide, by decide +kernel⟩ ⟨Nat.le_of_ble_eq_true rfl, Nat.le_of_ble_eq_true rfl⟩, ht _ (mT_w hw2.2.1 rfl), ht _ (mT_w hw2.2.2.1 rfl)⟩
  refine mm_call (rest := [.int (Int32.ofNat (mStr.getD i []).length)]) (r := some (.int 0)) (PP := fun H => H = s.heap) (va_runV (As := []) (b := ρ (1000000 + i)) ⟨hx, hb, hml, hown, ht⟩ (c_cod l hi) cw ⟨sPc_blind, vk_recv (adK := fun i => ρ (1000000 + i)) (i := i) hX.1 hi hS, fun U hU hW => ⟨rfl, hX.at hW.alike (fun q _ _ => by rw [hU])⟩⟩ rfl rfl hl.1 rfl (by show 2 * 0 + _ ≤ 8; exact Nat.le_of_ble_eq_true rfl) dl6 ⟨Nat.le_refl _, Nat.le_refl _⟩) hS (fun st oc t h0 q => ⟨q.1, q.2.trans h0, by rw [q.2]; exact Nat.le_refl _, fun q1 _ _ => by rw [q.2]⟩) (fun q h => h) (fun H1 locs1 hH hS1 => ?_)
  refine lv_ishr hx hb dl9 ?_
  rw [sl_shr _ (sl_len i hi).2]
  exact W.iret hx hb Bd.returns (fun t ht2 _ => ⟨rfl, ht2.trans hH⟩) hS1.2.2 dl10
theorem da0 : decode prog_17_method_154_code 0 = .ok (.getstatic 38, 3) := by decide +kernel
theorem da3 : decode prog_17_method_154_code 3 = .ok (.ifCond .eq 14, 3) := by decide +kernel
theorem da6 : decode prog_17_method_154_code 6 = .ok (.aload_n 0, 1) := by decide +kernel
theorem da7 : decode prog_17_method_154_code 7 = .ok (.getfield 15, 3) := by decide +kernel
theorem da10 : decode prog_17_method_154_code 10 = .ok (.ifCond .ne 7, 3) := by decide +kernel
theorem da13 : decode prog_17_method_154_code 13 = .ok (.iconst 1, 1) := by decide +kernel
theorem da14 : decode prog_17_method_154_code 14 = .ok (.goto 4, 3) := by decide +kernel
theorem da18 : decode prog_17_method_154_code 18 = .ok (.ireturn, 1) := by decide +kernel
set_option maxHeartbeats 1000000 in
theorem c_lat (l : Launch) {ρ : Nat → Nat} {B : Nat} {adV : Nat → Nat} {i : Nat} (hi : i < 14) : Met l sLat (Cond.code sLat prog_17_method_154_code 1 (some .boolean) :: mT) (sRm 0 0) (sPc ρ B adV [.ref (ρ (1000000 + i))]) (sQc (some (.int 1))) 0 0 (fun q => B ≤ q) := by
  refine Met.ofW (cc := prog_17_method_154_code) (maxL := 1) (ret := (some .boolean)) (by decide) rfl ?_
  intro p e s m args below meth c s₁ Bd hml hv
  obtain ⟨rfl, hX⟩ := hv
  have hx := Bd.exec
  have hb := Bd.bytes
  have hts := atoms_spec (ws := Cond.code sLat prog_17_method_154_code 1 (some .boolean) :: mT) Bd.pre
  have ht : ∀ w ∈ mT, w.before ([.ref (ρ (1000000 + i))] : List Value).toArray s = true := fun w hw => hts w (List.mem_cons_of_mem _ hw)
  have hown : s.vm.findClass "java/lang/String" = some m.cls := findClass_of_methodNamed Bd.named
  have hlocks := Bd.notSynchronized
  have hw := w_s1
  have hw2 := w_s2
  have hw3 := w_s3
  have hw4 := w_s4
  have hw5 := w_s5
  simp only [Bool.and_eq_true] at hw hw2 hw3 hw4 hw5
  have hl := lv_entry ([.ref (ρ (1000000 + i))]) (n := 1) (Nat.le_of_ble_eq_true rfl)
  have e0 := lg_entry_eq m [.ref (ρ (1000000 + i))] 1
  refine W.eq e0 ?_
  generalize (lg_sl ([.ref (ρ (1000000 + i))]) ++ List.replicate (1 - (lg_sl ([.ref (ρ (1000000 + i))])).length) Slot.unset).toArray = ls at hl ⊢
  have hl : lv_has ls 1 [(0, .ref (ρ (1000000 + i)))] := hl
  have hS : va_S (fun q => B ≤ q) s.heap s.heap [] := va_S.rf
  refine va_gets hx hb hX.2.1 hS hown (ht _ (mT_w hw.2.1 rfl)) (fun _ q => q) da0 ?_
  refine lv_if_eq (tgt := 17) hx hb da3 (by decide) (fun q => absurd q (by decide)) (fun _ => ?_)
  refine lv_aload_n hx hb da6 rfl (lv_at hl 0 rfl) ?_
  refine vk_getf hx hb (hX.1.1 i hi).2.1 hS hown (ht _ (mT_w hw.2.2.1 rfl)) (fun _ q => q) da7 ?_
  refine lv_if_ne (tgt := 17) hx hb da10 (by decide) (fun q => absurd rfl q) (fun _ => ?_)
  refine lv_iconst (v := 1) hx hb da13 (by decide) ?_
  refine lv_goto (tgt := 18) hx hb da14 (by decide) ?_
  exact W.zret (ty := .boolean) hx hb Bd.returns rfl (fun t ht2 _ => ⟨rfl, ht2⟩) hS.2.2 da18
theorem dp0 : decode prog_22_method_11_code 0 = .ok (.iload_n 0, 1) := by decide +kernel
theorem dp1 : decode prog_22_method_11_code 1 = .ok (.ifCond .lt 8, 3) := by decide +kernel
theorem dp4 : decode prog_22_method_11_code 4 = .ok (.iload_n 0, 1) := by decide +kernel
theorem dp5 : decode prog_22_method_11_code 5 = .ok (.iload_n 1, 1) := by decide +kernel
theorem dp6 : decode prog_22_method_11_code 6 = .ok (.if_icmp .lt 10, 3) := by decide +kernel
theorem dp16 : decode prog_22_method_11_code 16 = .ok (.iload_n 0, 1) := by decide +kernel
theorem dp17 : decode prog_22_method_11_code 17 = .ok (.ireturn, 1) := by decide +kernel
set_option maxHeartbeats 1000000 in
theorem c_pre (l : Launch) {ρ : Nat → Nat} {B : Nat} {adV : Nat → Nat} {k n : Int32} {vf : Value} (hv : vf = .null ∨ ∃ t, vf = .ref t) (h1 : ¬ k < 0) (h2 : k < n) : Met l sPre (Cond.code sPre prog_22_method_11_code 3 (some .int) :: mT) (sRm 0 0) (sPc ρ B adV [.int k, .int n, vf]) (sQc (some (.int k))) 0 0 (fun q => B ≤ q) := by
  have hcat : (lg_sl ([.int k, .int n, vf])).length ≤ 3 := by rcases hv with rfl | ⟨t, rfl⟩ <;> exact Nat.le_of_ble_eq_true rfl
  have harg : lv_args 0 [.int k, .int n, vf] = [(0, .int k), (1, .int n), (2, vf)] := by rcases hv with rfl | ⟨t, rfl⟩ <;> rfl
  refine Met.ofW (cc := prog_22_method_11_code) (maxL := 3) (ret := (some .int)) (by decide) rfl ?_
  intro p e s m args below meth c s₁ Bd hml hv
  obtain ⟨rfl, hX⟩ := hv
  have hx := Bd.exec
  have hb := Bd.bytes
  have hts := atoms_spec (ws := Cond.code sPre prog_22_method_11_code 3 (some .int) :: mT) Bd.pre
  have ht : ∀ w ∈ mT, w.before ([.int k, .int n, vf] : List Value).toArray s = true := fun w hw => hts w (List.mem_cons_of_mem _ hw)
  have hown : s.vm.findClass "jdk/internal/util/Preconditions" = some m.cls := findClass_of_methodNamed Bd.named
  have hlocks := Bd.notSynchronized
  have hw := w_s1
  have hw2 := w_s2
  have hw3 := w_s3
  have hw4 := w_s4
  have hw5 := w_s5
  simp only [Bool.and_eq_true] at hw hw2 hw3 hw4 hw5
  have hl := lv_entry ([.int k, .int n, vf]) (n := 3) hcat
  rw [harg] at hl
  have e0 := lg_entry_eq m [.int k, .int n, vf] 3
  refine W.eq e0 ?_
  generalize (lg_sl ([.int k, .int n, vf]) ++ List.replicate (3 - (lg_sl ([.int k, .int n, vf])).length) Slot.unset).toArray = ls at hl ⊢
  have hl : lv_has ls 3 [(0, .int k), (1, .int n), (2, vf)] := hl
  have hS : va_S (fun q => B ≤ q) s.heap s.heap [] := va_S.rf
  refine lv_iload_n hx hb dp0 rfl (lv_at hl 0 rfl) ?_
  refine lv_if_lt (tgt := 9) hx hb dp1 (by decide) (fun q => absurd q h1) (fun _ => ?_)
  refine lv_iload_n hx hb dp4 rfl (lv_at hl 0 rfl) ?_
  refine lv_iload_n hx hb dp5 rfl (lv_at hl 1 rfl) ?_
  refine lv_icmp_lt (tgt := 16) hx hb dp6 (by decide) (fun _ => ?_) (fun q => absurd h2 q)
  refine lv_iload_n hx hb dp16 rfl (lv_at hl 0 rfl) ?_
  exact W.iret hx hb Bd.returns (fun t ht2 _ => ⟨rfl, ht2⟩) hS.2.2 dp17
theorem dk0 : decode prog_17_method_155_code 0 = .ok (.iload_n 0, 1) := by decide +kernel
theorem dk1 : decode prog_17_method_155_code 1 = .ok (.iload_n 1, 1) := by decide +kernel
theorem dk2 : decode prog_17_method_155_code 2 = .ok (.getstatic 1053, 3) := by decide +kernel
theorem dk5 : decode prog_17_method_155_code 5 = .ok (.invokestatic 1059, 3) := by decide +kernel
theorem dk8 : decode prog_17_method_155_code 8 = .ok (.pop, 1) := by decide +kernel
theorem dk9 : decode prog_17_method_155_code 9 = .ok (.return_, 1) := by decide +kernel
set_option maxHeartbeats 1000000 in
theorem c_chk (l : Launch) {ρ : Nat → Nat} {B : Nat} {adV : Nat → Nat} {k n : Int32} (h1 : ¬ k < 0) (h2 : k < n) : Met l sChk (Cond.code sChk prog_17_method_155_code 2 none :: mT) (sRm 1 22) (sPc ρ B adV [.int k, .int n]) (sQc none) 0 0 (fun q => B ≤ q) := by
  refine Met.ofW (cc := prog_17_method_155_code) (maxL := 2) (ret := none) (by decide) rfl ?_
  intro p e s m args below meth c s₁ Bd hml hv
  obtain ⟨rfl, hX⟩ := hv
  have hx := Bd.exec
  have hb := Bd.bytes
  have hts := atoms_spec (ws := Cond.code sChk prog_17_method_155_code 2 none :: mT) Bd.pre
  have ht : ∀ w ∈ mT, w.before ([.int k, .int n] : List Value).toArray s = true := fun w hw => hts w (List.mem_cons_of_mem _ hw)
  have hown : s.vm.findClass "java/lang/String" = some m.cls := findClass_of_methodNamed Bd.named
  have hlocks := Bd.notSynchronized
  have hw := w_s1
  have hw2 := w_s2
  have hw3 := w_s3
  have hw4 := w_s4
  have hw5 := w_s5
  simp only [Bool.and_eq_true] at hw hw2 hw3 hw4 hw5
  have hl := lv_entry ([.int k, .int n]) (n := 2) (Nat.le_of_ble_eq_true rfl)
  have e0 := lg_entry_eq m [.int k, .int n] 2
  refine W.eq e0 ?_
  generalize (lg_sl ([.int k, .int n]) ++ List.replicate (2 - (lg_sl ([.int k, .int n])).length) Slot.unset).toArray = ls at hl ⊢
  have hl : lv_has ls 2 [(0, .int k), (1, .int n)] := hl
  have hS : va_S (fun q => B ≤ q) s.heap s.heap [] := va_S.rf
  obtain ⟨vf, hvf, hZ⟩ : ∃ vf : Value, (vf = .null ∨ ∃ t, vf = .ref t) ∧ va_Z "jdk/internal/util/Preconditions" "SIOOBE_FORMATTER" "Ljava/util/function/BiFunction;" vf (fun q => B ≤ q) s s.heap := by
    rcases hX.2.2 with q | ⟨t, q⟩
    · exact ⟨_, Or.inl rfl, q⟩
    · exact ⟨_, Or.inr ⟨t, rfl⟩, q⟩
  refine lv_iload_n hx hb dk0 rfl (lv_at hl 0 rfl) ?_
  refine lv_iload_n hx hb dk1 rfl (lv_at hl 1 rfl) ?_
  refine va_gets hx hb hZ hS hown (ht _ (mT_w hw5.1 rfl)) (fun _ q => q) dk2 ?_
  have cw : CallB (headSpec (Cond.code sChk prog_17_method_155_code 2 none :: mT) (sRm 1 22)).room s ([.int k, .int n] : List Value).toArray "java/lang/String" 1059 sPre prog_22_method_11_code 3 (some .int) (Cond.code sPre prog_22_method_11_code 3 (some .int) :: mT) (sRm 0 0) 0 0 3 :=
    callB_of 3 ht (mT_code (mT_w hw5.2.2.2 rfl)) rfl rfl rfl (ht _ (mT_w hw.2.2.2.2.2.2 rfl)) (ht _ (mT_w hw5.2.1 rfl)) ⟨by decide, by decide, by decide +kernel⟩ ⟨Nat.le_of_ble_eq_true rfl, Nat.le_of_ble_eq_true rfl⟩
  refine mm_call (rest := []) (r := some (.int k)) (PP := fun H => H = s.heap) (va_runS (As := [.int k, .int n, vf]) ⟨hx, hb, hml, hown, ht⟩ (c_pre l (ρ := ρ) (B := B) (adV := adV) hvf h1 h2) ⟨cw, ht _ (mT_w hw5.2.2.1 rfl)⟩ ⟨sPc_blind, fun U hU hW => ⟨rfl, hX.at hW.alike (fun q _ _ => by rw [hU])⟩⟩ rfl rfl hl.1 rfl (by show 2 * 0 + _ ≤ 8; exact Nat.le_of_ble_eq_true rfl) dk5 ⟨Nat.le_refl _, Nat.le_refl _⟩) hS (fun st oc t h0 q => ⟨q.1, q.2.trans h0, by rw [q.2]; exact Nat.le_refl _, fun q1 _ _ => by rw [q.2]⟩) (fun q h => h) (fun H1 locs1 hH hS1 => ?_)
  refine lv_pop (va := .int k) hx hb dk8 rfl ?_
  exact W.vret hx hb Bd.returns (fun t ht2 _ => ⟨rfl, ht2.trans hH⟩) hS1.2.2 dk9
theorem dh0 : decode prog_18_method_2_code 0 = .ok (.iload_n 1, 1) := by decide +kernel
theorem dh1 : decode prog_18_method_2_code 1 = .ok (.aload_n 0, 1) := by decide +kernel
theorem dh2 : decode prog_18_method_2_code 2 = .ok (.arraylength, 1) := by decide +kernel
theorem dh3 : decode prog_18_method_2_code 3 = .ok (.invokestatic 9, 3) := by decide +kernel
theorem dh6 : decode prog_18_method_2_code 6 = .ok (.aload_n 0, 1) := by decide +kernel
theorem dh7 : decode prog_18_method_2_code 7 = .ok (.iload_n 1, 1) := by decide +kernel
theorem dh8 : decode prog_18_method_2_code 8 = .ok (.baload, 1) := by decide +kernel
theorem dh9 : decode prog_18_method_2_code 9 = .ok (.sipush 255, 3) := by decide +kernel
theorem dh12 : decode prog_18_method_2_code 12 = .ok (.iand, 1) := by decide +kernel
theorem dh13 : decode prog_18_method_2_code 13 = .ok (.i2c, 1) := by decide +kernel
theorem dh14 : decode prog_18_method_2_code 14 = .ok (.ireturn, 1) := by decide +kernel
theorem sl_255 : ∀ i, i < 14 → ∀ j, j < 10 → (mStr.getD i []).getD j 0 &&& 255 = (mStr.getD i []).getD j 0 := by decide +kernel
theorem sl_10 : ∀ i, i < 14 → (mStr.getD i []).length ≤ 10 := by decide +kernel
set_option maxHeartbeats 1000000 in
theorem c_lch (l : Launch) {ρ : Nat → Nat} {B : Nat} {adV : Nat → Nat} {i : Nat} (hi : i < 14) {k : Int32} (hk : vp_in k (mStr.getD i []).length) : Met l sLch (Cond.code sLch prog_18_method_2_code 2 (some .char) :: mT) (sRm 2 43) (sPc ρ B adV [.ref (adV i), .int k]) (sQc (some (.int ((mStr.getD i []).getD k.toNatClampNeg 0)))) 0 0 (fun q => B ≤ q) := by
  refine Met.ofW (cc := prog_18_method_2_code) (maxL := 2) (ret := (some .char)) (by decide) rfl ?_
  intro p e s m args below meth c s₁ Bd hml hv
  obtain ⟨rfl, hX⟩ := hv
  have hx := Bd.exec
  have hb := Bd.bytes
  have hts := atoms_spec (ws := Cond.code sLch prog_18_method_2_code 2 (some .char) :: mT) Bd.pre
  have ht : ∀ w ∈ mT, w.before ([.ref (adV i), .int k] : List Value).toArray s = true := fun w hw => hts w (List.mem_cons_of_mem _ hw)
  have hown : s.vm.findClass "java/lang/StringLatin1" = some m.cls := findClass_of_methodNamed Bd.named
  have hlocks := Bd.notSynchronized
  have hw := w_s1
  have hw2 := w_s2
  have hw3 := w_s3
  have hw4 := w_s4
  have hw5 := w_s5
  simp only [Bool.and_eq_true] at hw hw2 hw3 hw4 hw5
  have hl := lv_entry ([.ref (adV i), .int k]) (n := 2) (Nat.le_of_ble_eq_true rfl)
  have e0 := lg_entry_eq m [.ref (adV i), .int k] 2
  refine W.eq e0 ?_
  generalize (lg_sl ([.ref (adV i), .int k]) ++ List.replicate (2 - (lg_sl ([.ref (adV i), .int k])).length) Slot.unset).toArray = ls at hl ⊢
  have hl : lv_has ls 2 [(0, .ref (adV i)), (1, .int k)] := hl
  have hS : va_S (fun q => B ≤ q) s.heap s.heap [] := va_S.rf
  have h1 : ¬ k < 0 := fun q => hk (Or.inl q)
  have hlt : k.toNatClampNeg < (mStr.getD i []).length := Nat.not_le.mp fun q => hk (Or.inr q)
  obtain ⟨j, hj1, hj2⟩ := vp_in_of hk (by have := (sl_len i hi).2; omega)
  have hT := (hX.1.1 i hi).2.2.2
  rw [(sl_len i hi).1] at hT
  refine lv_iload_n hx hb dh0 rfl (lv_at hl 1 rfl) ?_
  refine lv_aload_n hx hb dh1 rfl (lv_at hl 0 rfl) ?_
  refine va_tlen hx hb hT hS (v := nI (mStr.getD i []).length) rfl dh2 ?_
  have h2 : k < nI (mStr.getD i []).length := by rw [hj2]; exact nI_lt hj1 (by have := (sl_len i hi).2; omega)
  have cw : CallB (headSpec (Cond.code sLch prog_18_method_2_code 2 (some .char) :: mT) (sRm 2 43)).room s ([.ref (adV i), .int k] : List Value).toArray "java/lang/StringLatin1" 9 sChk prog_17_method_155_code 2 none (Cond.code sChk prog_17_method_155_code 2 none :: mT) (sRm 1 22) 0 0 2 :=
    callB_of 2 ht (mT_code (mT_w hw4.2.2.2.2.2 rfl)) rfl rfl rfl (ht _ (mT_w hw.2.2.2.2.1 rfl)) (ht _ (mT_w hw4.2.2.2.1 rfl)) ⟨by decide, by decide, by decide +kernel⟩ ⟨Nat.le_of_ble_eq_true rfl, Nat.le_of_ble_eq_true rfl⟩
  refine mm_call (rest := []) (r := none) (PP := fun H => H = s.heap) (va_runS (As := [.int k, .int (nI (mStr.getD i []).length)]) ⟨hx, hb, hml, hown, ht⟩ (c_chk l (ρ := ρ) (B := B) (adV := adV) h1 h2) ⟨cw, ht _ (mT_w hw4.2.2.2.2.1 rfl)⟩ ⟨sPc_blind, fun U hU hW => ⟨rfl, hX.at hW.alike (fun q _ _ => by rw [hU])⟩⟩ rfl rfl hl.1 rfl (by show 2 * 0 + _ ≤ 8; exact Nat.le_of_ble_eq_true rfl) dh3 ⟨Nat.le_refl _, Nat.le_refl _⟩) hS (fun st oc t h0 q => ⟨q.1, q.2.trans h0, by rw [q.2]; exact Nat.le_refl _, fun q1 _ _ => by rw [q.2]⟩) (fun q h => h) (fun H1 locs1 hH hS1 => ?_)
  refine lv_aload_n hx hb dh6 rfl (lv_at hl 0 rfl) ?_
  refine lv_iload_n hx hb dh7 rfl (lv_at hl 1 rfl) ?_
  refine va_tb hx hb hT hS1 hk (v := .int ((mStr.getD i []).getD k.toNatClampNeg 0)) rfl dh8 ?_
  refine lv_sipush (v := 255) hx hb dh9 (by decide) ?_
  refine lv_iand hx hb dh12 ?_
  refine lv_i2c hx hb dh13 (v := (mStr.getD i []).getD k.toNatClampNeg 0) (by rw [sc_c2]; exact sl_255 i hi _ (by have := sl_10 i hi; omega)) ?_
  have hnar : narrow .char (.int ((mStr.getD i []).getD k.toNatClampNeg 0)) = .int ((mStr.getD i []).getD k.toNatClampNeg 0) := by
    have := sc_nar ((mStr.getD i []).getD k.toNatClampNeg 0)
    rw [sl_255 i hi _ (by have := sl_10 i hi; omega)] at this
    exact this
  exact W.zret (ty := .char) hx hb Bd.returns hnar (fun t ht2 _ => ⟨rfl, ht2.trans hH⟩) hS1.2.2 dh14
theorem dr0 : decode prog_17_method_56_code 0 = .ok (.aload_n 0, 1) := by decide +kernel
theorem dr1 : decode prog_17_method_56_code 1 = .ok (.invokevirtual 492, 3) := by decide +kernel
theorem dr4 : decode prog_17_method_56_code 4 = .ok (.ifCond .eq 12, 3) := by decide +kernel
theorem dr7 : decode prog_17_method_56_code 7 = .ok (.aload_n 0, 1) := by decide +kernel
theorem dr8 : decode prog_17_method_56_code 8 = .ok (.getfield 9, 3) := by decide +kernel
theorem dr11 : decode prog_17_method_56_code 11 = .ok (.iload_n 1, 1) := by decide +kernel
theorem dr12 : decode prog_17_method_56_code 12 = .ok (.invokestatic 495, 3) := by decide +kernel
theorem dr15 : decode prog_17_method_56_code 15 = .ok (.ireturn, 1) := by decide +kernel
set_option maxHeartbeats 1000000 in
theorem c_chr (l : Launch) {ρ : Nat → Nat} {B : Nat} {adV : Nat → Nat} {i : Nat} (hi : i < 14) {k : Int32} (hk : vp_in k (mStr.getD i []).length) : Met l sChr (Cond.code sChr prog_17_method_56_code 2 (some .char) :: mT) (sRm 3 64) (sPc ρ B adV [.ref (ρ (1000000 + i)), .int k]) (sQc (some (.int ((mStr.getD i []).getD k.toNatClampNeg 0)))) 0 0 (fun q => B ≤ q) := by
  refine Met.ofW (cc := prog_17_method_56_code) (maxL := 2) (ret := (some .char)) (by decide) rfl ?_
  intro p e s m args below meth c s₁ Bd hml hv
  obtain ⟨rfl, hX⟩ := hv
  have hx := Bd.exec
  have hb := Bd.bytes
  have hts := atoms_spec (ws := Cond.code sChr prog_17_method_56_code 2 (some .char) :: mT) Bd.pre
  have ht : ∀ w ∈ mT, w.before ([.ref (ρ (1000000 + i)), .int k] : List Value).toArray s = true := fun w hw => hts w (List.mem_cons_of_mem _ hw)
  have hown : s.vm.findClass "java/lang/String" = some m.cls := findClass_of_methodNamed Bd.named
  have hlocks := Bd.notSynchronized
  have hw := w_s1
  have hw2 := w_s2
  have hw3 := w_s3
  have hw4 := w_s4
  have hw5 := w_s5
  simp only [Bool.and_eq_true] at hw hw2 hw3 hw4 hw5
  have hl := lv_entry ([.ref (ρ (1000000 + i)), .int k]) (n := 2) (Nat.le_of_ble_eq_true rfl)
  have e0 := lg_entry_eq m [.ref (ρ (1000000 + i)), .int k] 2
  refine W.eq e0 ?_
  generalize (lg_sl ([.ref (ρ (1000000 + i)), .int k]) ++ List.replicate (2 - (lg_sl ([.ref (ρ (1000000 + i)), .int k])).length) Slot.unset).toArray = ls at hl ⊢
  have hl : lv_has ls 2 [(0, .ref (ρ (1000000 + i))), (1, .int k)] := hl
  have hS : va_S (fun q => B ≤ q) s.heap s.heap [] := va_S.rf
  have hlt : k.toNatClampNeg < (mStr.getD i []).length := Nat.not_le.mp fun q => hk (Or.inr q)
  refine lv_aload_n hx hb dr0 rfl (lv_at hl 0 rfl) ?_
  have cw : CallW (headSpec (Cond.code sChr prog_17_method_56_code 2 (some .char) :: mT) (sRm 3 64)).room s ([.ref (ρ (1000000 + i)), .int k] : List Value).toArray "java/lang/String" "java/lang/String" 492 sLat prog_17_method_154_code 1 (some .boolean) (Cond.code sLat prog_17_method_154_code 1 (some .boolean) :: mT) (sRm 0 0) 0 0 0 :=
    ⟨callB_of 0 ht (mT_code (mT_w hw3.2.2.2.1 rfl)) rfl rfl rfl (ht _ (mT_w hw.2.2.2.2.1 rfl)) (ht _ (mT_w hw3.1 rfl)) ⟨by decide, by decide, by decide +kernel⟩ ⟨Nat.le_of_ble_eq_true rfl, Nat.le_of_ble_eq_true rfl⟩, ht _ (mT_w hw3.2.1 rfl), ht _ (mT_w hw3.2.2.1 rfl)⟩
  refine mm_call (rest := []) (r := some (.int 1)) (PP := fun H => H = s.heap) (va_runV (As := []) (b := ρ (1000000 + i)) ⟨hx, hb, hml, hown, ht⟩ (c_lat l hi) cw ⟨sPc_blind, vk_recv (adK := fun i => ρ (1000000 + i)) (i := i) hX.1 hi hS, fun U hU hW => ⟨rfl, hX.at hW.alike (fun q _ _ => by rw [hU])⟩⟩ rfl rfl hl.1 rfl (by show 2 * 0 + _ ≤ 8; exact Nat.le_of_ble_eq_true rfl) dr1 ⟨Nat.le_refl _, Nat.le_refl _⟩) hS (fun st oc t h0 q => ⟨q.1, q.2.trans h0, by rw [q.2]; exact Nat.le_refl _, fun q1 _ _ => by rw [q.2]⟩) (fun q h => h) (fun H1 locs1 hH hS1 => ?_)
  refine lv_if_eq (tgt := 16) hx hb dr4 (by decide) (fun q => absurd q (by decide)) (fun _ => ?_)
  refine lv_aload_n hx hb dr7 rfl (lv_at hl 0 rfl) ?_
  refine vk_getf hx hb (hX.1.1 i hi).2.2.1 hS1 hown (ht _ (mT_w hw.2.2.2.1 rfl)) (fun _ q => q) dr8 ?_
  refine lv_iload_n hx hb dr11 rfl (lv_at hl 1 rfl) ?_
  have cw2 : CallB (headSpec (Cond.code sChr prog_17_method_56_code 2 (some .char) :: mT) (sRm 3 64)).room s ([.ref (ρ (1000000 + i)), .int k] : List Value).toArray "java/lang/String" 495 sLch prog_18_method_2_code 2 (some .char) (Cond.code sLch prog_18_method_2_code 2 (some .char) :: mT) (sRm 2 43) 0 0 2 :=
    callB_of 2 ht (mT_code (mT_w hw4.2.2.1 rfl)) rfl rfl rfl (ht _ (mT_w hw.2.2.2.2.2.1 rfl)) (ht _ (mT_w hw4.1 rfl)) ⟨by decide, by decide, by decide +kernel⟩ ⟨Nat.le_of_ble_eq_true rfl, Nat.le_of_ble_eq_true rfl⟩
  subst hH
  refine mm_call (rest := []) (r := some (.int ((mStr.getD i []).getD k.toNatClampNeg 0))) (PP := fun H => H = s.heap) (va_runS (As := [.ref (adV i), .int k]) ⟨hx, hb, hml, hown, ht⟩ (c_lch l hi hk) ⟨cw2, ht _ (mT_w hw4.2.1 rfl)⟩ ⟨sPc_blind, fun U hU hW => ⟨rfl, hX.at hW.alike (fun q _ _ => by rw [hU])⟩⟩ rfl rfl hl.1 rfl (by show 2 * 0 + _ ≤ 8; exact Nat.le_of_ble_eq_true rfl) dr12 ⟨Nat.le_refl _, Nat.le_refl _⟩) hS1 (fun st oc t h0 q => ⟨q.1, q.2.trans h0, by rw [q.2]; exact Nat.le_refl _, fun q1 _ _ => by rw [q.2]⟩) (fun q h => h) (fun H2 locs2 hH2 hS2 => ?_)
  have hnar : narrow .char (.int ((mStr.getD i []).getD k.toNatClampNeg 0)) = .int ((mStr.getD i []).getD k.toNatClampNeg 0) := by
    have := sc_nar ((mStr.getD i []).getD k.toNatClampNeg 0)
    rw [sl_255 i hi _ (by have := sl_10 i hi; omega)] at this
    exact this
  exact W.zret (ty := .char) hx hb Bd.returns hnar (fun t ht2 _ => ⟨rfl, ht2.trans hH2⟩) hS2.2.2 dr15
section STR
variable {p : Program} {l : Launch} {e : Env} {R : Room} {s : State} {m : MethodId} {args : Array Value} {below : List Frame} {meth : Method} {c : Code} {Q : State → Prop} {D : va_G} {cA : Nat → ClassId} {ρ : Nat → Nat} {B : Nat} {adV : Nat → Nat} {c0 s0 y : Nat} {X : mH → Prop} {en : mE} {f f' : mF} {h h' : mH} {ok : Bool}
set_option maxHeartbeats 1000000 in
theorem ms_str {idx : Nat} (C : mCx p R s m args meth c D cA ρ B adV c0 y) (hd : decode (yBy y) f.1 = .ok (.invokevirtual idx, 3)) (hn : en.2.1 = 3) (hk : (Nat.ble 6 en.2.2.1.1 && Nat.ble en.2.2.1.1 7 && eLn pLn (yO y) idx en.2.2.1.1 && Nat.ble 4 (yFr y) && Nat.ble 108 (yLo y)) = true) (hg : mGr R c0 s0 h h') (hs : mPr en f h = (f', h', true)) (K : Wm p l e R s m args below meth c Q D cA ρ B c0 s0 y X f' h') : Wm p l e R s m args below meth c Q D cA ρ B c0 s0 y X f h := by
  obtain ⟨hx, hb, hml, hown, hts, hK, hρ, hB, hini, hfr, hlo, hex⟩ := C
  obtain ⟨i, n, ⟨k, j, t⟩, v⟩ := en
  obtain ⟨pc, ls, st⟩ := f
  simp only [Bool.and_eq_true] at hn hd hk
  obtain ⟨⟨⟨⟨k0, k1⟩, k2⟩, k3⟩, k4⟩ := hk
  subst hn
  have hw0 := pLn_of k2
  have k0 := Nat.le_of_ble_eq_true k0
  have k1 := Nat.le_of_ble_eq_true k1
  have k3 := Nat.le_of_ble_eq_true k3
  have k4 := Nat.le_of_ble_eq_true k4
  obtain ⟨g1, g2, g3, g4⟩ := hg
  have hw := w_s1
  have hw2 := w_s2
  have hw3 := w_s3
  simp only [Bool.and_eq_true] at hw hw2 hw3
  have hsx := hex.2.2.2
  simp only [mPr] at hs
  rcases (by omega : k = 6 ∨ k = 7) with rfl | rfl
  · match st, hs with
    | .ref a :: st, hs =>
      obtain ⟨rfl, rfl, hb2⟩ := tri hs
      simp only [Bool.and_eq_true] at hb2
      obtain ⟨⟨b1, b2⟩, b3⟩ := hb2
      have b1 := Nat.le_of_ble_eq_true b1
      have b2 := Nat.blt_eq.mp b2
      have b3 := Nat.le_of_ble_eq_true b3
      obtain ⟨ii, rfl⟩ : ∃ ii : Nat, a = 1000000 + ii := ⟨a - 1000000, (Nat.add_sub_of_le b1).symm⟩
      have hi : ii < 14 := Nat.lt_of_add_lt_add_left (show 1000000 + ii < 1000000 + 14 from b2)
      intro H locs as hl hr hX
      have cw : CallW R s args (oN (yO y)) "java/lang/String" idx sLen prog_17_method_54_code 1 (some .int) (Cond.code sLen prog_17_method_54_code 1 (some .int) :: mT) (sRm 1 20) 0 0 0 :=
        ⟨callB_of 0 hts (mT_code (mT_w hw2.2.2.2.1 rfl)) rfl rfl rfl (hts _ (mT_w hw.2.2.2.2.1 rfl)) (hts _ hw0) ⟨by decide, by decide, by decide +kernel⟩ ⟨by rw [hfr]; show 1 + 1 ≤ _; omega, by rw [hlo]; show 8 + (1 + 11) + 20 ≤ _; omega⟩, hts _ (mT_w hw2.2.2.2.2.1 rfl), hts _ (mT_w hw2.2.2.2.2.2 rfl)⟩
      refine mm_call (st0 := (Value.ref (1000000 + ii) :: st).map (tv ρ)) (rest := st.map (tv ρ)) (r := some (.int (Int32.ofNat (mStr.getD ii []).length))) (PP := fun H1 => H1 = H) (va_runV (As := []) (b := ρ (1000000 + ii)) ⟨hx, hb, hml, hown, hts⟩ (c_len l (ρ := ρ) (B := B) (adV := adV) hi) cw ⟨sPc_blind, vk_recv (adK := fun i => ρ (1000000 + i)) (i := ii) hsx.1 hi hr.2.1, fun U hU hW => ⟨rfl, hsx.at hW.alike (fun q q1 q2 => by rw [hU]; exact hr.2.1.2.1 q q1 q2)⟩⟩ rfl rfl hl.2.1 rfl (by show 2 * 0 + _ ≤ 8; rw [cat_map]; omega) hd ⟨by omega, by omega⟩) hr.2.1 (fun st oc t h0 q => ⟨q.1, q.2.trans h0, by rw [q.2]; exact Nat.le_refl _, fun q1 _ _ => by rw [q.2]⟩) (fun q h => h) (fun H1 locs1 hH hS1 => ?_)
      subst hH
      have K2 := K H1 locs1 as hl ⟨hr.1, hS1, hr.2.2⟩ hX
      rw [Nat.add_sub_cancel_left] at K2
      exact K2
  · match st, hs with
    | .int k9 :: .ref a :: st, hs =>
      obtain ⟨rfl, rfl, hb2⟩ := tri hs
      simp only [Bool.and_eq_true] at hb2
      obtain ⟨⟨⟨b1, b2⟩, b4⟩, b3⟩ := hb2
      have b1 := Nat.le_of_ble_eq_true b1
      have b2 := Nat.blt_eq.mp b2
      have b3 := Nat.le_of_ble_eq_true b3
      obtain ⟨ii, rfl⟩ : ∃ ii : Nat, a = 1000000 + ii := ⟨a - 1000000, (Nat.add_sub_of_le b1).symm⟩
      have hi : ii < 14 := Nat.lt_of_add_lt_add_left (show 1000000 + ii < 1000000 + 14 from b2)
      rw [Nat.add_sub_cancel_left] at b4 K
      have hin := mIn_of b4
      intro H locs as hl hr hX
      have cw : CallW R s args (oN (yO y)) "java/lang/String" idx sChr prog_17_method_56_code 2 (some .char) (Cond.code sChr prog_17_method_56_code 2 (some .char) :: mT) (sRm 3 64) 0 0 1 :=
        ⟨callB_of 1 hts (mT_code (mT_w hw3.2.2.2.2.2.2 rfl)) rfl rfl rfl (hts _ (mT_w hw.2.2.2.2.1 rfl)) (hts _ hw0) ⟨by decide, by decide, by decide +kernel⟩ ⟨by rw [hfr]; show 3 + 1 ≤ _; omega, by rw [hlo]; show 8 + (2 + 11) + 64 ≤ _; omega⟩, hts _ (mT_w hw3.2.2.2.2.1 rfl), hts _ (mT_w hw3.2.2.2.2.2.1 rfl)⟩
      refine mm_call (st0 := (Value.int k9 :: Value.ref (1000000 + ii) :: st).map (tv ρ)) (rest := st.map (tv ρ)) (r := some (.int ((mStr.getD ii []).getD k9.toNatClampNeg 0))) (PP := fun H1 => H1 = H) (va_runV (As := [.int k9]) (b := ρ (1000000 + ii)) ⟨hx, hb, hml, hown, hts⟩ (c_chr l (ρ := ρ) (B := B) (adV := adV) hi hin) cw ⟨sPc_blind, vk_recv (adK := fun i => ρ (1000000 + i)) (i := ii) hsx.1 hi hr.2.1, fun U hU hW => ⟨rfl, hsx.at hW.alike (fun q q1 q2 => by rw [hU]; exact hr.2.1.2.1 q q1 q2)⟩⟩ rfl rfl hl.2.1 rfl (by show 2 * 0 + _ ≤ 8; rw [cat_map]; omega) hd ⟨by omega, by omega⟩) hr.2.1 (fun st oc t h0 q => ⟨q.1, q.2.trans h0, by rw [q.2]; exact Nat.le_refl _, fun q1 _ _ => by rw [q.2]⟩) (fun q h => h) (fun H1 locs1 hH hS1 => ?_)
      subst hH
      exact K H1 locs1 as hl ⟨hr.1, hS1, hr.2.2⟩ hX
end STR
