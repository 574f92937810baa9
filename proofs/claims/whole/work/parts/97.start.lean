/-! the law, from its entry -/
set_option maxHeartbeats 4000000 in
theorem whole_start {p : Program} {e : Env} {s : State} {m : MethodId} {below : List Frame} {meth : Method} {c : Code} (l : Launch) (hflags : l.flags = flags0) {b L : Nat} {xs : Nat → Int32} (hL : L ≤ 3072) (C0 : lw_At p s m meth c b L xs) : W p l e room_1 s m #[Value.ref b] below meth c s.heap [] 0 0 (lw_Z below #[Value.ref b] s) (entryFrame m ([Value.ref b] : List Value).toArray 4) := by
  obtain ⟨hx, hb, hr, hml, hown, hts, hX, hbl, hlocks, hgv⟩ := id C0
  obtain ⟨D, hKc⟩ := known_of hts
  obtain ⟨cA, hKa⟩ := arr_of hts
  obtain ⟨adK, adV, hex⟩ := mEx_of (b := b) hts hgv
  generalize hρd : roO s.heap.size b adK = ρ at hex
  have hρ : ∀ k, k < 1000000 → ρ k = s.heap.size + k := fun k hk => by rw [← hρd]; exact ro_lo hk
  have hρb : ρ 2000000 = b := by rw [← hρd]; exact ro_sc
  obtain ⟨y1, y2, y3, y4, y5, y6⟩ := y_302
  obtain ⟨h', ⟨n, hn⟩, hR⟩ := law_ev (T := scT xs L) (S := xs) (n := L) (by omega) (scT_1 xs L) (scT_2 xs L)
  have hlen : h'.1 = H0 := hR.1.1
  have hl1 : h'.1.length ≤ 600000 := by rw [hlen]; exact H0_len
  have hl2 : mS h' ≤ 7302249 := by unfold mS; rw [hlen]; exact H0_sum
  have C : mCx p room_1 s m #[Value.ref b] meth c D cA ρ s.heap.size adV 0 302 := ⟨hx, hb.trans y1.symm, hml.trans y2.symm, by rw [y3]; exact hown, fun w hw => hts w (List.mem_filter.mp hw).1, ⟨hKc, hKa⟩, hρ, rfl, fun h => absurd (y6.symm.trans h) (by decide), y4.symm, y5.symm, hex⟩
  obtain ⟨-, K⟩ := ex_all (l := l) (D := D) (cA := cA) (B := s.heap.size) (adV := adV) hρ n 302 _ _ _ _ bo_302 hn
  have K2 := K p e room_1 s m #[Value.ref b] below meth c (lw_Z below #[Value.ref b] s) 0 0 (scX xs L) C scX_ok (fun _ => ⟨L, xs, by omega, by rw [hρb]; exact hX, by rw [hρb]; exact hbl, by rw [hρb]; exact hbl, fun h q => q⟩) ⟨Nat.zero_le _, Nat.zero_le _, hl1, hl2⟩ (law_ret hx hb hr hlocks hl1 hl2)
  have hE := ent_Ls (ρ := ρ) (as := [Value.ref 2000000]) (nL := 4) (Nat.le_of_ble_eq_true rfl)
  rw [show ([Value.ref 2000000]).map (tv ρ) = [Value.ref b] from by rw [← hρb]; rfl] at hE
  rw [lg_entry_eq]
  exact K2 s.heap [] _ (by rw [y2]; exact hE) ⟨fun k q hq => by simp [eW, oV, hC] at hq, va_S.rf, Nat.le_of_ble_eq_true rfl⟩ (scX_0 xs L)
