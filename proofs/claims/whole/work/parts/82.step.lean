/-! One instruction of the small machine is one of the real machine. -/
/-- constant texts, and the JDK's two statics that they need -/
def mSx (ρ : Nat → Nat) (B : Nat) (adV : Nat → Nat) (s : State) : Prop := vk_S 14 (mStr.map List.length) mStr (fun i => ρ (1000000 + i)) adV (fun q => B ≤ q) s s.heap ∧ va_Z "java/lang/String" "COMPACT_STRINGS" "Z" (.int 1) (fun q => B ≤ q) s s.heap ∧ va_Zq "jdk/internal/util/Preconditions" "SIOOBE_FORMATTER" "Ljava/util/function/BiFunction;" (fun q => B ≤ q) s s.heap
/-- what a method needs beside its words: links of nest mates, classes of rows of references, constant texts -/
def mEx (ρ : Nat → Nat) (B : Nat) (adV : Nat → Nat) (s : State) : Prop :=
  (∀ q ∈ nLn, va_Nw (.methodLinkNest (oN q.1) q.2.1 (yNm q.2.2.1) "OneReader") s) ∧ (∀ ci, 1 ≤ ci → ci ≤ 4 → va_AO (kN ci) s) ∧ (∀ (i : Nat) (q : Nat × Nat × String × Nat), sLn[i]? = some q → vk_R (oN q.1) q.2.1 q.2.2.1 (ρ (1000000 + i)) s) ∧ mSx ρ B adV s
def mT : List Cond := lw_tbl.filter goodWord
theorem mT_in {w : Cond} (h : w ∈ lw_tbl) (hg : goodWord w = true) : w ∈ mT := List.mem_filter.mpr ⟨h, hg⟩
theorem mT_good : GoodIn mT mT := fun w hw => ⟨hw, good_of_word (List.mem_filter.mp hw).2⟩
def mCx (p : Program) (R : Room) (s : State) (m : MethodId) (args : Array Value) (meth : Method) (c : Code) (D : va_G) (cA : Nat → ClassId) (ρ : Nat → Nat) (B : Nat) (adV : Nat → Nat) (c0 y : Nat) : Prop :=
  p.tables.exec = Jvm.exec ∧ c.code = yBy y ∧ c.maxLocals = yML y ∧ s.vm.findClass (oN (yO y)) = some m.cls ∧ (∀ w ∈ mT, w.before args s = true) ∧ va_K D classes (tyL cA) s ∧ (∀ k, k < 1000000 → ρ k = B + k) ∧ s.heap.size = B + c0 ∧ (yKd y = 2 → meth.name = "<init>") ∧ R.frames = yFr y ∧ R.locals = yLo y ∧ mEx ρ B adV s
def mRel (D : va_G) (cA : Nat → ClassId) (ρ : Nat → Nat) (B : Nat) (H0 : Heap) (h : mH) (H : Heap) (locs : List Loc) : Prop :=
  va_P D classes (eW cA ρ h) H ∧ va_S (fun q => B ≤ q) H0 H locs ∧ h.1.length ≤ 1000000
def Wm (p : Program) (l : Launch) (e : Env) (R : Room) (s : State) (m : MethodId) (args : Array Value) (below : List Frame) (meth : Method) (c : Code) (Q : State → Prop) (D : va_G) (cA : Nat → ClassId) (ρ : Nat → Nat) (B c0 s0 y : Nat) (X : mH → Prop) (f : mF) (h : mH) : Prop :=
  ∀ (H : Heap) (locs : List Loc) (as : Array Slot), mLs ρ as (yML y) f.2.1 → mRel D cA ρ B s.heap h H locs → X h → W p l e R s m args below meth c H locs (h.1.length - c0) (mS h - s0) Q (F0 m f.1 as (f.2.2.map (tv ρ)))
section MS
variable {p : Program} {l : Launch} {e : Env} {R : Room} {s : State} {m : MethodId} {args : Array Value} {below : List Frame} {meth : Method} {c : Code} {Q : State → Prop} {D : va_G} {cA : Nat → ClassId} {ρ : Nat → Nat} {B : Nat} {adV : Nat → Nat} {c0 s0 y : Nat} {X : mH → Prop} {en : mE} {f f' : mF} {h h' : mH} {ok : Bool}
theorem ms_push {n : Nat} {v : Value} (row : ∀ (H : Heap) (locs : List Loc) (as : Array Slot) (cells slots : Nat) (rest : List Value), W p l e R s m args below meth c H locs cells slots Q (F0 m (f.1 + n) as (tv ρ v :: rest)) → W p l e R s m args below meth c H locs cells slots Q (F0 m f.1 as rest)) (hs : ((f.1 + n, f.2.1, v :: f.2.2), h, true) = (f', h', true)) (K : Wm p l e R s m args below meth c Q D cA ρ B c0 s0 y X f' h') : Wm p l e R s m args below meth c Q D cA ρ B c0 s0 y X f h := by
  obtain ⟨rfl, rfl, -⟩ := tri hs
  intro H locs as hl hr hX
  exact row H locs as _ _ _ (K H locs as hl hr hX)
theorem ms_ldI {k n : Nat} (row : ∀ (H : Heap) (locs : List Loc) (as : Array Slot) (cells slots : Nat) (rest : List Value) (x : Int32), as[k]? = some (.val (.int x)) → W p l e R s m args below meth c H locs cells slots Q (F0 m (f.1 + n) as (.int x :: rest)) → W p l e R s m args below meth c H locs cells slots Q (F0 m f.1 as rest)) (hn : en.2.1 = n) (hs : mLd mIsI k en f h = (f', h', true)) (K : Wm p l e R s m args below meth c Q D cA ρ B c0 s0 y X f' h') : Wm p l e R s m args below meth c Q D cA ρ B c0 s0 y X f h := by
  unfold mLd at hs
  obtain ⟨rfl, rfl, hb⟩ := tri hs
  intro H locs as hl hr hX
  generalize hv : f.2.1.getD k (.retAddr 0) = v at hb K
  cases v <;> simp only [mIsI, Bool.false_eq_true] at hb
  rw [hn] at K
  exact row H locs as _ _ _ _ (hl.at hv rfl) (K H locs as hl hr hX)
theorem ms_ldL {k n : Nat} (row : ∀ (H : Heap) (locs : List Loc) (as : Array Slot) (cells slots : Nat) (rest : List Value) (x : Int64), as[k]? = some (.val (.long x)) → W p l e R s m args below meth c H locs cells slots Q (F0 m (f.1 + n) as (.long x :: rest)) → W p l e R s m args below meth c H locs cells slots Q (F0 m f.1 as rest)) (hn : en.2.1 = n) (hs : mLd mIsL k en f h = (f', h', true)) (K : Wm p l e R s m args below meth c Q D cA ρ B c0 s0 y X f' h') : Wm p l e R s m args below meth c Q D cA ρ B c0 s0 y X f h := by
  unfold mLd at hs
  obtain ⟨rfl, rfl, hb⟩ := tri hs
  intro H locs as hl hr hX
  generalize hv : f.2.1.getD k (.retAddr 0) = v at hb K
  cases v <;> simp only [mIsL, Bool.false_eq_true] at hb
  rw [hn] at K
  exact row H locs as _ _ _ _ (hl.at hv rfl) (K H locs as hl hr hX)
theorem ms_ldR {k n : Nat} (row : ∀ (H : Heap) (locs : List Loc) (as : Array Slot) (cells slots : Nat) (rest : List Value) (x : Nat), as[k]? = some (.val (.ref x)) → W p l e R s m args below meth c H locs cells slots Q (F0 m (f.1 + n) as (.ref x :: rest)) → W p l e R s m args below meth c H locs cells slots Q (F0 m f.1 as rest)) (rowN : ∀ (H : Heap) (locs : List Loc) (as : Array Slot) (cells slots : Nat) (rest : List Value), as[k]? = some (.val .null) → W p l e R s m args below meth c H locs cells slots Q (F0 m (f.1 + n) as (.null :: rest)) → W p l e R s m args below meth c H locs cells slots Q (F0 m f.1 as rest)) (hn : en.2.1 = n) (hs : mLd mIsR k en f h = (f', h', true)) (K : Wm p l e R s m args below meth c Q D cA ρ B c0 s0 y X f' h') : Wm p l e R s m args below meth c Q D cA ρ B c0 s0 y X f h := by
  unfold mLd at hs
  obtain ⟨rfl, rfl, hb⟩ := tri hs
  intro H locs as hl hr hX
  generalize hv : f.2.1.getD k (.retAddr 0) = v at hb K
  rw [hn] at K
  cases v <;> simp only [mIsR, Bool.false_eq_true] at hb
  · exact rowN H locs as _ _ _ (hl.at hv rfl) (K H locs as hl hr hX)
  · exact row H locs as _ _ _ _ (hl.at hv rfl) (K H locs as hl hr hX)
theorem ms_stI {k n : Nat} (row : ∀ (H : Heap) (locs : List Loc) (as : Array Slot) (cells slots : Nat) (rest : List Value) (x : Int32) (lv : List (Nat × Value)), lv_has as (yML y) lv → k < yML y → (∀ as' : Array Slot, lv_has as' (yML y) ((k, Value.int x) :: lv.filter (fun q => !(q.1 == k) && !(q.1 + 1 == k && q.2.category == 2))) → W p l e R s m args below meth c H locs cells slots Q (F0 m (f.1 + n) as' rest)) → W p l e R s m args below meth c H locs cells slots Q (F0 m f.1 as (.int x :: rest))) (hn : en.2.1 = n) (hs : mSto mIsI k en f h = (f', h', true)) (K : Wm p l e R s m args below meth c Q D cA ρ B c0 s0 y X f' h') : Wm p l e R s m args below meth c Q D cA ρ B c0 s0 y X f h := by
  obtain ⟨pc, ls, st⟩ := f
  unfold mSto at hs
  cases st with
  | nil => exact absurd (tri hs).2.2 (by decide)
  | cons v st =>
    obtain ⟨rfl, rfl, hb⟩ := tri hs
    rw [Bool.and_eq_true] at hb
    cases v <;> simp only [mIsI, Bool.false_eq_true, false_and] at hb
    intro H locs as hl hr hX
    have hk : k < yML y := by rw [← hl.1]; exact Nat.blt_eq.mp hb.2
    rw [hn] at K
    exact row H locs as _ _ _ _ _ hl.has hk (fun as' h' => K H locs as' (hl.st1 hk h') hr hX)
theorem ms_stR {k n : Nat} (row : ∀ (H : Heap) (locs : List Loc) (as : Array Slot) (cells slots : Nat) (rest : List Value) (x : Nat) (lv : List (Nat × Value)), lv_has as (yML y) lv → k < yML y → (∀ as' : Array Slot, lv_has as' (yML y) ((k, Value.ref x) :: lv.filter (fun q => !(q.1 == k) && !(q.1 + 1 == k && q.2.category == 2))) → W p l e R s m args below meth c H locs cells slots Q (F0 m (f.1 + n) as' rest)) → W p l e R s m args below meth c H locs cells slots Q (F0 m f.1 as (.ref x :: rest))) (rowN : ∀ (H : Heap) (locs : List Loc) (as : Array Slot) (cells slots : Nat) (rest : List Value) (lv : List (Nat × Value)), lv_has as (yML y) lv → k < yML y → (∀ as' : Array Slot, lv_has as' (yML y) ((k, Value.null) :: lv.filter (fun q => !(q.1 == k) && !(q.1 + 1 == k && q.2.category == 2))) → W p l e R s m args below meth c H locs cells slots Q (F0 m (f.1 + n) as' rest)) → W p l e R s m args below meth c H locs cells slots Q (F0 m f.1 as (.null :: rest))) (hn : en.2.1 = n) (hs : mSto mIsR k en f h = (f', h', true)) (K : Wm p l e R s m args below meth c Q D cA ρ B c0 s0 y X f' h') : Wm p l e R s m args below meth c Q D cA ρ B c0 s0 y X f h := by
  obtain ⟨pc, ls, st⟩ := f
  unfold mSto at hs
  cases st with
  | nil => exact absurd (tri hs).2.2 (by decide)
  | cons v st =>
    obtain ⟨rfl, rfl, hb⟩ := tri hs
    rw [Bool.and_eq_true] at hb
    intro H locs as hl hr hX
    have hk : k < yML y := by rw [← hl.1]; exact Nat.blt_eq.mp hb.2
    rw [hn] at K
    cases v <;> simp only [mIsR, Bool.false_eq_true, false_and] at hb
    · exact rowN H locs as _ _ _ _ hl.has hk (fun as' h' => K H locs as' (hl.st1 hk h') hr hX)
    · exact row H locs as _ _ _ _ _ hl.has hk (fun as' h' => K H locs as' (hl.st1 hk h') hr hX)
theorem ms_stL {k n : Nat} (row : ∀ (H : Heap) (locs : List Loc) (as : Array Slot) (cells slots : Nat) (rest : List Value) (x : Int64) (lv : List (Nat × Value)), lv_has as (yML y) lv → k + 1 < yML y → (∀ as' : Array Slot, lv_has as' (yML y) ((k, Value.long x) :: lv.filter (fun q => !(q.1 == k) && (!(q.1 == k + 1) && !(q.1 + 1 == k && q.2.category == 2)))) → W p l e R s m args below meth c H locs cells slots Q (F0 m (f.1 + n) as' rest)) → W p l e R s m args below meth c H locs cells slots Q (F0 m f.1 as (.long x :: rest))) (hn : en.2.1 = n) (hs : mSto2 k en f h = (f', h', true)) (K : Wm p l e R s m args below meth c Q D cA ρ B c0 s0 y X f' h') : Wm p l e R s m args below meth c Q D cA ρ B c0 s0 y X f h := by
  obtain ⟨pc, ls, st⟩ := f
  unfold mSto2 at hs
  split at hs
  next v st heq =>
    simp only at heq
    subst heq
    obtain ⟨rfl, rfl, hb⟩ := tri hs
    intro H locs as hl hr hX
    have hk : k + 1 < yML y := by rw [← hl.1]; exact Nat.blt_eq.mp hb
    rw [hn] at K
    exact row H locs as _ _ _ _ _ hl.has hk (fun as' h' => K H locs as' (hl.st2 hk h') hr hX)
  next => exact absurd (tri hs).2.2 (by decide)
theorem ms_b2 {g : Int32 → Int32 → Int32} {okb : Int32 → Bool} {n : Nat} (row : ∀ (H : Heap) (locs : List Loc) (as : Array Slot) (cells slots : Nat) (rest : List Value) (x z : Int32), okb z = true → W p l e R s m args below meth c H locs cells slots Q (F0 m (f.1 + n) as (.int (g x z) :: rest)) → W p l e R s m args below meth c H locs cells slots Q (F0 m f.1 as (.int z :: .int x :: rest))) (hn : en.2.1 = n) (hs : mB2 g okb en f h = (f', h', true)) (K : Wm p l e R s m args below meth c Q D cA ρ B c0 s0 y X f' h') : Wm p l e R s m args below meth c Q D cA ρ B c0 s0 y X f h := by
  obtain ⟨pc, ls, st⟩ := f
  unfold mB2 at hs
  split at hs
  next b a st heq =>
    simp only at heq
    subst heq
    obtain ⟨rfl, rfl, hb⟩ := tri hs
    intro H locs as hl hr hX
    rw [hn] at K
    exact row H locs as _ _ _ _ _ hb (K H locs as hl hr hX)
  next => exact absurd (tri hs).2.2 (by decide)
theorem ms_b2l {g : Int64 → Int64 → Int64} {okb : Int64 → Bool} {n : Nat} (row : ∀ (H : Heap) (locs : List Loc) (as : Array Slot) (cells slots : Nat) (rest : List Value) (x z : Int64), okb z = true → W p l e R s m args below meth c H locs cells slots Q (F0 m (f.1 + n) as (.long (g x z) :: rest)) → W p l e R s m args below meth c H locs cells slots Q (F0 m f.1 as (.long z :: .long x :: rest))) (hn : en.2.1 = n) (hs : mB2L g okb en f h = (f', h', true)) (K : Wm p l e R s m args below meth c Q D cA ρ B c0 s0 y X f' h') : Wm p l e R s m args below meth c Q D cA ρ B c0 s0 y X f h := by
  obtain ⟨pc, ls, st⟩ := f
  unfold mB2L at hs
  split at hs
  next b a st heq =>
    simp only at heq
    subst heq
    obtain ⟨rfl, rfl, hb⟩ := tri hs
    intro H locs as hl hr hX
    rw [hn] at K
    exact row H locs as _ _ _ _ _ hb (K H locs as hl hr hX)
  next => exact absurd (tri hs).2.2 (by decide)
theorem eJmp_of {pc t : Nat} {off : Int} (hj : eJmp pc off t = true) : (pc : Int) + off = (t : Int) := of_decide_eq_true hj
theorem ms_if {cd : ClassFile.Cond} {off : Int} (hx : p.tables.exec = Jvm.exec) (hb : c.code = yBy y) (hd : decode (yBy y) f.1 = .ok (.ifCond cd off, 3)) (hj : eJmp f.1 off en.2.2.1.1 = true) (hn : en.2.1 = 3) (hs : mIf cd en f h = (f', h', true)) (K : Wm p l e R s m args below meth c Q D cA ρ B c0 s0 y X f' h') : Wm p l e R s m args below meth c Q D cA ρ B c0 s0 y X f h := by
  obtain ⟨pc, ls, st⟩ := f
  have ht := eJmp_of hj
  unfold mIf at hs
  split at hs
  next x st heq =>
    simp only at heq
    subst heq
    rw [hn] at hs
    intro H locs as hl hr hX
    cases cd
    · obtain ⟨rfl, rfl, -⟩ := tri hs
      refine lv_if_eq hx hb hd ht (fun hc => ?_) (fun hc => ?_)
      · have := K H locs as hl hr hX; rw [if_pos hc] at this; exact this
      · have := K H locs as hl hr hX; rw [if_neg hc] at this; exact this
    · obtain ⟨rfl, rfl, -⟩ := tri hs
      refine lv_if_ne hx hb hd ht (fun hc => ?_) (fun hc => ?_)
      · have := K H locs as hl hr hX; rw [if_neg hc] at this; exact this
      · have := K H locs as hl hr hX; rw [if_pos hc] at this; exact this
    · obtain ⟨rfl, rfl, -⟩ := tri hs
      refine lv_if_lt hx hb hd ht (fun hc => ?_) (fun hc => ?_)
      · have := K H locs as hl hr hX; rw [if_pos hc] at this; exact this
      · have := K H locs as hl hr hX; rw [if_neg hc] at this; exact this
    · obtain ⟨rfl, rfl, -⟩ := tri hs
      refine lv_if_ge hx hb hd ht (fun hc => ?_) (fun hc => ?_)
      · have := K H locs as hl hr hX; rw [if_pos hc] at this; exact this
      · have := K H locs as hl hr hX; rw [if_neg hc] at this; exact this
    · obtain ⟨rfl, rfl, -⟩ := tri hs
      refine lv_if_gt hx hb hd ht (fun hc => ?_) (fun hc => ?_)
      · have := K H locs as hl hr hX; rw [if_pos hc] at this; exact this
      · have := K H locs as hl hr hX; rw [if_neg hc] at this; exact this
    · obtain ⟨rfl, rfl, -⟩ := tri hs
      refine lv_if_le hx hb hd ht (fun hc => ?_) (fun hc => ?_)
      · have := K H locs as hl hr hX; rw [if_pos hc] at this; exact this
      · have := K H locs as hl hr hX; rw [if_neg hc] at this; exact this
  next => exact absurd (tri hs).2.2 (by decide)
theorem ms_ic {cd : ClassFile.Cond} {off : Int} (hx : p.tables.exec = Jvm.exec) (hb : c.code = yBy y) (hd : decode (yBy y) f.1 = .ok (.if_icmp cd off, 3)) (hj : eJmp f.1 off en.2.2.1.1 = true) (hn : en.2.1 = 3) (hs : mIc cd en f h = (f', h', true)) (K : Wm p l e R s m args below meth c Q D cA ρ B c0 s0 y X f' h') : Wm p l e R s m args below meth c Q D cA ρ B c0 s0 y X f h := by
  obtain ⟨pc, ls, st⟩ := f
  have ht := eJmp_of hj
  unfold mIc at hs
  split at hs
  next z x st heq =>
    simp only at heq
    subst heq
    rw [hn] at hs
    intro H locs as hl hr hX
    cases cd
    · obtain ⟨rfl, rfl, -⟩ := tri hs
      refine lv_icmp_eq hx hb hd ht (fun hc => ?_) (fun hc => ?_)
      · have := K H locs as hl hr hX; rw [if_pos hc] at this; exact this
      · have := K H locs as hl hr hX; rw [if_neg hc] at this; exact this
    · obtain ⟨rfl, rfl, -⟩ := tri hs
      refine lv_icmp_ne hx hb hd ht (fun hc => ?_) (fun hc => ?_)
      · have := K H locs as hl hr hX; rw [if_neg hc] at this; exact this
      · have := K H locs as hl hr hX; rw [if_pos hc] at this; exact this
    · obtain ⟨rfl, rfl, -⟩ := tri hs
      refine lv_icmp_lt hx hb hd ht (fun hc => ?_) (fun hc => ?_)
      · have := K H locs as hl hr hX; rw [if_pos hc] at this; exact this
      · have := K H locs as hl hr hX; rw [if_neg hc] at this; exact this
    · obtain ⟨rfl, rfl, -⟩ := tri hs
      refine lv_icmp_ge hx hb hd ht (fun hc => ?_) (fun hc => ?_)
      · have := K H locs as hl hr hX; rw [if_pos hc] at this; exact this
      · have := K H locs as hl hr hX; rw [if_neg hc] at this; exact this
    · obtain ⟨rfl, rfl, -⟩ := tri hs
      refine lv_icmp_gt hx hb hd ht (fun hc => ?_) (fun hc => ?_)
      · have := K H locs as hl hr hX; rw [if_pos hc] at this; exact this
      · have := K H locs as hl hr hX; rw [if_neg hc] at this; exact this
    · obtain ⟨rfl, rfl, -⟩ := tri hs
      refine lv_icmp_le hx hb hd ht (fun hc => ?_) (fun hc => ?_)
      · have := K H locs as hl hr hX; rw [if_pos hc] at this; exact this
      · have := K H locs as hl hr hX; rw [if_neg hc] at this; exact this
  next => exact absurd (tri hs).2.2 (by decide)
end MS
