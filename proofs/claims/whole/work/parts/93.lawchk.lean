/-! The law's own code is as asked: eight blocks at a time. -/
def ck8 (k : Nat) : Bool := (((bk 302).drop (8 * k)).take 8).all (blkOK 302)
theorem lc_0 : ck8 0 = true := by decide +kernel
theorem lc_1 : ck8 1 = true := by decide +kernel
theorem lc_2 : ck8 2 = true := by decide +kernel
theorem lc_3 : ck8 3 = true := by decide +kernel
theorem lc_4 : ck8 4 = true := by decide +kernel
theorem lc_5 : ck8 5 = true := by decide +kernel
theorem lc_6 : ck8 6 = true := by decide +kernel
theorem lc_7 : ck8 7 = true := by decide +kernel
theorem lc_8 : ck8 8 = true := by decide +kernel
theorem lc_9 : ck8 9 = true := by decide +kernel
theorem lc_10 : ck8 10 = true := by decide +kernel
theorem lc_11 : ck8 11 = true := by decide +kernel
theorem lc_12 : ck8 12 = true := by decide +kernel
theorem lc_13 : ck8 13 = true := by decide +kernel
theorem lc_14 : ck8 14 = true := by decide +kernel
theorem lc_15 : ck8 15 = true := by decide +kernel
theorem lc_16 : ck8 16 = true := by decide +kernel
theorem lc_17 : ck8 17 = true := by decide +kernel
theorem lc_18 : ck8 18 = true := by decide +kernel
theorem lc_19 : ck8 19 = true := by decide +kernel
theorem lc_20 : ck8 20 = true := by decide +kernel
theorem lc_21 : ck8 21 = true := by decide +kernel
theorem lc_22 : ck8 22 = true := by decide +kernel
theorem lc_23 : ck8 23 = true := by decide +kernel
theorem lc_24 : ck8 24 = true := by decide +kernel
theorem lc_25 : ck8 25 = true := by decide +kernel
theorem lc_26 : ck8 26 = true := by decide +kernel
theorem lc_27 : ck8 27 = true := by decide +kernel
theorem ck_len : (bk 302).length = 221 := by decide +kernel
theorem bo_302 : (bk 302).all (blkOK 302) = true := by
  rw [List.all_eq_true]
  intro b hb
  obtain ⟨i, hi⟩ := List.getElem?_of_mem hb
  have hl : i < 221 := by rw [← ck_len]; exact (List.getElem?_eq_some_iff.mp hi).1
  have key : ∀ k, k < 28 → ck8 k = true := by
    intro k hk
    match k, hk with
    | 0, _ => exact lc_0
    | 1, _ => exact lc_1
    | 2, _ => exact lc_2
    | 3, _ => exact lc_3
    | 4, _ => exact lc_4
    | 5, _ => exact lc_5
    | 6, _ => exact lc_6
    | 7, _ => exact lc_7
    | 8, _ => exact lc_8
    | 9, _ => exact lc_9
    | 10, _ => exact lc_10
    | 11, _ => exact lc_11
    | 12, _ => exact lc_12
    | 13, _ => exact lc_13
    | 14, _ => exact lc_14
    | 15, _ => exact lc_15
    | 16, _ => exact lc_16
    | 17, _ => exact lc_17
    | 18, _ => exact lc_18
    | 19, _ => exact lc_19
    | 20, _ => exact lc_20
    | 21, _ => exact lc_21
    | 22, _ => exact lc_22
    | 23, _ => exact lc_23
    | 24, _ => exact lc_24
    | 25, _ => exact lc_25
    | 26, _ => exact lc_26
    | 27, _ => exact lc_27
    | n + 28, h => exact absurd h (by omega)
  have h8 := key (i / 8) (by omega)
  refine List.all_eq_true.mp h8 b (List.mem_of_getElem? (i := i % 8) ?_)
  rw [List.getElem?_take, if_pos (by omega), List.getElem?_drop, show 8 * (i / 8) + i % 8 = i by omega]
  exact hi
