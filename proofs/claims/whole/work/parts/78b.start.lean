/-- the walk of the law -/
theorem whole_start {p : Program} {e : Env} {s : State} {m : MethodId} {below : List Frame} {meth : Method} {c : Code} (l : Launch) {b L : Nat} {xs : Nat → Int32} (hL : L ≤ 3072) (C0 : lw_At l p s m meth c b L xs) : W p l e room_1 s m #[Value.ref b] below meth c s.heap [] 0 0 (lw_Z below #[Value.ref b] s) (entryFrame m ([Value.ref b] : List Value).toArray 7) := by
  obtain ⟨hx, hb, hr, hml, hown, hts, hX, hbl, hlk, hg, hl, hnm⟩ := C0
  obtain ⟨D, dA, hK⟩ := start_K hts hg
  have hKX := start_KX hts hg
  have hlv := lv_entry [Value.ref b] (n := 7) (by simp [lg_sl, Value.category])
  rw [lg_entry_eq]
  have z0 : z_sum s.heap.size s.heap = 0 := by
    unfold z_sum
    rw [List.drop_eq_nil_of_le (by rw [z_ms_len]; exact Nat.le_refl _)]
    rfl
  have hR : zR D dA s.heap (fun _ => none, 0, 0) s.heap := ⟨rfl, z0, fun _ _ => rfl, fun a x h => nomatch h⟩
  exact law_go (F := (l, D, dA, s.heap)) (X := (p, e, room_1, s, m, #[Value.ref b], below, meth, c, lw_Z below #[Value.ref b] s, 7)) rfl ⟨rfl, rfl, hx, hb, hml, hr, hlk, hown, hnm, fun w hw => hts w (zW_tb w hw), hK, rfl, z0⟩ ⟨hX, hbl⟩ hKX hl ⟨rfl, rfl, rfl⟩ hL s.heap [] _ 0 0 hR (fun q hq => by cases hq) hlv
