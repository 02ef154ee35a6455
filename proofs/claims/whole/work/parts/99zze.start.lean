theorem whole_start {p : Program} {e : Env} {s : State} {m : MethodId} {below : List Frame} {meth : Method} {c : Code} (l : Launch) {b L : Nat} {xs : Nat → Int32} (hL : L ≤ 3072) (C0 : lw_At p s m meth c b L xs) : W p l e room_1 s m #[Value.ref b] below meth c s.heap [] 0 0 (lw_Z below #[Value.ref b] s) (entryFrame m ([Value.ref b] : List Value).toArray 4) := by
  obtain ⟨hx, hb, hr, hml, hown, hts, hX, hbl, hlk, hgv, hnm⟩ := C0
  obtain ⟨E, rfl, hEB, hK⟩ := lw_env l hts hgv
  have hbeg := lw_begin (E := E) (b := b) (n := L) (xs := xs) hL
  have hl := lv_entry (n := 4) [Value.ref b] (Nat.le_of_ble_eq_true rfl)
  rw [lg_entry_eq]
  have hctx : CtxOk E kL_law p s m #[Value.ref b] meth c := ⟨hx, hb, hml, hr, hlk, hown, fun w hw => hts w (List.mem_filter.mp hw).1, hK, hnm, by rw [hEB]; exact Nat.le_refl _⟩
  have hrep : Rep E Sz Iz Lz s.heap := ⟨by rw [hEB]; rfl, fun a ha => absurd ha.2 (by have := ha.1; show ¬ a < eB E + 0; omega)⟩
  have hW := hbeg p e s m #[Value.ref b] below meth c s.heap [] _ hctx hrep va_S.rf hl
  intro T hT X
  obtain ⟨t, a1, a2⟩ := hW T hT X
  exact ⟨t, a1, a2 ⟨rfl, hX, hbl, hEB⟩⟩
