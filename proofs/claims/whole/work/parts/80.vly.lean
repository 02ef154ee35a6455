/-! THE CLASS: the valley of boxes and terms at v -/
def VlM (I : IT) (v : Nat) (q : Nat → Nat) : Prop := I v 0 = nI (q 0) ∧ (∀ i, i < 48 → I (v + 1) i = nI (q (8 + i))) ∧ (∀ b, b < 6 → I (v + 2) b = nI (q (56 + b))) ∧ (∀ b, b < 6 → I (v + 3) b = nI (q (62 + b))) ∧ (∀ b, b < 6 → I (v + 4) b = pred1 (q (68 + b))) ∧ (∀ b, b < 6 → I (v + 5) b = nI (q (74 + b))) ∧ (∀ i, i < 3 → I (v + 6) i = nI (q (5 + i)))
theorem VlM.cg {I I' : IT} {v : Nat} {q : Nat → Nat} (h : VlM I v q) (e : ∀ a, v ≤ a → a ≤ v + 6 → I' a = I a) : VlM I' v q := by
  unfold VlM at h ⊢
  rw [e v (by omega) (by omega), e (v + 1) (by omega) (by omega), e (v + 2) (by omega) (by omega), e (v + 3) (by omega) (by omega), e (v + 4) (by omega) (by omega), e (v + 5) (by omega) (by omega), e (v + 6) (by omega) (by omega)]
  exact h
theorem VlM.pi {I : IT} {v : Nat} {q : Nat → Nat} (h : VlM I v q) {b j : Nat} (hb : b < 6) (hj : j < 8) : I (v + 1) (b * 8 + j) = nI (q (8 + 8 * b + j)) := by
  rw [h.2.1 _ (by omega)]; congr 2; omega
theorem sm_s (f : Nat → Nat) (n : Nat) : sm f (n + 1) = sm f n + f n := rfl
theorem bof_first {q : Nat → Nat} (hq : wq q) {s b : Nat} (hb : b < q 0) (h : q (68 + b) = s + 1) : ∀ n, n ≤ q 0 → b < n → bof q s n = b + 1 := by
  have hnb := hq.nb
  intro n
  induction n with
  | zero => intro _ h0; omega
  | succ n ih =>
    intro h1 h2
    rw [bof]
    by_cases e : n = b
    · subst e; rw [if_pos h]
    · rw [if_neg (fun z => hq.ww n b (by omega) (by omega) e (by omega) (z.trans h.symm)), ih (by omega) (by omega)]
theorem bof_none {q : Nat → Nat} {s : Nat} : ∀ n, (∀ b, b < n → q (68 + b) ≠ s + 1) → bof q s n = 0 := by
  intro n
  induction n with
  | zero => intro _; rfl
  | succ n ih => intro h; rw [bof, if_neg (h n (by omega))]; exact ih fun b hb => h b (by omega)
section CA
variable {E : EnT} {S : ST} {I : IT} {L : LT} {v : Nat} {q : Nat → Nat}
theorem c_X9_hasBox (h9 : Lay9 E S v) (h : VlM I v q) (hq : wq q) {x : Int32} : Cd E kX9_hasBox 0 0 0 [.ref v, .int x] S I L (.int (b2i (bnd x (q 0)))) S I L := by
  have hnb := hq.nb
  refine C_of (by decide) (Nat.le_of_ble_eq_true rfl) ?_
  refine V_iload_n (pc := 0) dX9_hasBox_0 rfl ?_
  refine V_if_lt (pc := 1) (tgt := 16) dX9_hasBox_1 (by decide) (fun c1 => ?_) (fun n1 => ?_)
  · skip
    first | rw [bnd_lo c1] | rw [bnd_hi (by omega) c9]
    refine V_iconst (pc := 16) (v := nI 0) dX9_hasBox_16 (by decide) ?_
    refine V_zretB (pc := 17) (p := false) dX9_hasBox_17 rfl rfl (by first | decide | omega) (by first | decide | omega) ?_
    exact ⟨rfl, rfl, rfl, rfl⟩
  · skip
    refine V_iload_n (pc := 4) dX9_hasBox_4 rfl ?_
    refine V_aload_n (pc := 5) dX9_hasBox_5 rfl ?_
    refine V_getIE (pc := 6) 9 0 dX9_hasBox_6 flX9_9 (by decide) h9.o (h.1) ?_
    refine V_icmp_ge (pc := 9) (tgt := 16) dX9_hasBox_9 (by decide) (fun c9 => ?_) (fun n9 => ?_)
    · skip
      first | rw [bnd_lo c1] | rw [bnd_hi (by omega) c9]
      refine V_iconst (pc := 16) (v := nI 0) dX9_hasBox_16 (by decide) ?_
      refine V_zretB (pc := 17) (p := false) dX9_hasBox_17 rfl rfl (by first | decide | omega) (by first | decide | omega) ?_
      exact ⟨rfl, rfl, rfl, rfl⟩
    · skip
      rw [bnd_in (by omega) n1 n9]
      refine V_iconst (pc := 12) (v := nI 1) dX9_hasBox_12 (by decide) ?_
      refine V_goto (pc := 13) (tgt := 17) dX9_hasBox_13 (by decide) ?_
      refine V_zretB (pc := 17) (p := true) dX9_hasBox_17 rfl rfl (by first | decide | omega) (by first | decide | omega) ?_
      exact ⟨rfl, rfl, rfl, rfl⟩
theorem c_X9_notesAt (h9 : Lay9 E S v) (h : VlM I v q) (hq : wq q) {b j : Nat} (hb : b < 6) (hj : j < 8) : Cd E kX9_notesAt 0 0 0 [.ref v, .int (nI b), .int (nI j)] S I L (.int (nI (nt q b j))) S I L := by
  have hp := hq.pi b j hb hj
  refine C_of (by decide) (Nat.le_of_ble_eq_true rfl) ?_
  refine V_aload_n (pc := 0) dX9_notesAt_0 rfl ?_
  refine V_getR (pc := 1) 9 1 dX9_notesAt_1 flX9_15 (by decide) h9.o h9.R1 ?_
  refine V_iload_n (pc := 4) dX9_notesAt_4 rfl ?_
  refine V_bipush (pc := 5) (v := nI 8) dX9_notesAt_5 (by decide) ?_
  refine V_imulN (pc := 7) dX9_notesAt_7 ?_
  refine V_iload_n (pc := 8) dX9_notesAt_8 rfl ?_
  refine V_iaddN (pc := 9) dX9_notesAt_9 ?_
  refine V_ialoadE (pc := 10) dX9_notesAt_10 h9.A1 (by first | decide | omega) (by omega) (h.pi hb hj) ?_
  refine V_aload_n (pc := 11) dX9_notesAt_11 rfl ?_
  refine V_getR (pc := 12) 9 2 dX9_notesAt_12 flX9_19 (by decide) h9.o h9.R2 ?_
  refine V_iload_n (pc := 15) dX9_notesAt_15 rfl ?_
  refine V_ialoadE (pc := 16) dX9_notesAt_16 h9.A2 (by first | decide | omega) (by omega) (h.2.2.1 b hb) ?_
  refine V_iconst (pc := 17) (v := (-1)) dX9_notesAt_17 (by decide) ?_
  refine V_ixor (pc := 18) dX9_notesAt_18 ?_
  refine V_iandX (pc := 19) dX9_notesAt_19 (by omega) ?_
  refine V_iret (pc := 20) dX9_notesAt_20 rfl (by first | decide | omega) (by first | decide | omega) ?_
  exact ⟨rfl, rfl, rfl, rfl⟩
theorem c_X9_notes (h9 : Lay9 E S v) (h : VlM I v q) (hq : wq q) {b : Nat} (hb : b < 6) : Cd E kX9_notes 1 0 0 [.ref v, .int (nI b)] S I L (.int (nI (nts q b))) S I L := by
  refine C_of (by decide) (Nat.le_of_ble_eq_true rfl) ?_
  refine V_iconst (pc := 0) (v := nI 0) dX9_notes_0 (by decide) ?_
  refine V_istore_n (pc := 1) (ls' := [(0, _), (1, _), (2, _)]) dX9_notes_1 (by decide) rfl ?_
  refine V_iconst (pc := 2) (v := nI 0) dX9_notes_2 (by decide) ?_
  refine V_istore_n (pc := 3) (ls' := [(0, _), (1, _), (2, _), (3, _)]) dX9_notes_3 (by decide) rfl ?_
  refine loopUp (P := fun j => V E kX9_notes (rmOf 1 0 0) (Qd E (.int (nI (nts q b))) S I L) 0 0 S I L 4 [(0, .ref v), (1, .int (nI b)), (2, .int (nI (sm (fun j => pop8 (nt q b j)) j))), (3, .int (nI j))] []) (n := 8) ?_ ?_ 0 (by omega)
  · skip
    refine V_iload_n (pc := 4) dX9_notes_4 rfl ?_
    refine V_bipush (pc := 5) (v := nI 8) dX9_notes_5 (by decide) ?_
    refine V_icmp_geN (pc := 7) (tgt := 28) dX9_notes_7 (by decide) (by omega) (by omega) (fun c7 => ?_) (fun n7 => absurd n7 (by omega))
    refine V_iload_n (pc := 28) dX9_notes_28 rfl ?_
    refine V_iret (pc := 29) dX9_notes_29 rfl (by first | decide | omega) (by first | decide | omega) ?_
    exact ⟨rfl, rfl, rfl, rfl⟩
  · intro j hj ih
    have hn := nt_lt hq hb hj
    refine V_iload_n (pc := 4) dX9_notes_4 rfl ?_
    refine V_bipush (pc := 5) (v := nI 8) dX9_notes_5 (by decide) ?_
    refine V_icmp_geN (pc := 7) (tgt := 28) dX9_notes_7 (by decide) (by omega) (by omega) (fun c7 => absurd c7 (by omega)) (fun n7 => ?_)
    refine V_iload_n (pc := 10) dX9_notes_10 rfl ?_
    refine V_aload_n (pc := 11) dX9_notes_11 rfl ?_
    refine V_iload_n (pc := 12) dX9_notes_12 rfl ?_
    refine V_iload_n (pc := 13) dX9_notes_13 rfl ?_
    refine V_callVd (pc := 14) (ci := 9) (c_X9_notesAt h9 h hq hb hj) dX9_notes_14 mlX9_46 mkX9_notesAt rfl rfl h9.o ⟨by decide, rfl⟩ ⟨Nat.le_of_ble_eq_true rfl, Nat.le_of_ble_eq_true rfl⟩ (Nat.le_of_ble_eq_true rfl) ⟨Nat.le_of_ble_eq_true rfl, Nat.le_of_ble_eq_true rfl⟩ ?_
    refine V_callSd (pc := 17) (c_J6_bitCount_0f7a4) dX9_notes_17 mlX9_50 mkJ6_bitCount_0f7a4 rfl rfl ⟨Nat.le_of_ble_eq_true rfl, Nat.le_of_ble_eq_true rfl⟩ (Nat.le_of_ble_eq_true rfl) ⟨Nat.le_of_ble_eq_true rfl, Nat.le_of_ble_eq_true rfl⟩ ?_
    rw [bcI_N _ hn]
    refine V_iaddN (pc := 20) dX9_notes_20 ?_
    refine V_istore_n (pc := 21) (ls' := [(0, _), (1, _), (2, _), (3, _)]) dX9_notes_21 (by decide) rfl ?_
    refine V_iinc1 (pc := 22) (ls' := [(0, _), (1, _), (2, _), (3, _)]) dX9_notes_22 rfl (by decide) rfl ?_
    refine V_goto (pc := 25) (tgt := 4) dX9_notes_25 (by decide) ?_
    exact ih
theorem c_X9_barsWith (h9 : Lay9 E S v) (h : VlM I v q) (hq : wq q) {b s : Nat} (hb : b < 6) (hs : s < 6) : Cd E kX9_barsWith 1 0 0 [.ref v, .int (nI b), .int (nI (q (80 + s)))] S I L (.int (nI (erq q b s))) S I L := by
  have hea := hq.ea s hs
  refine C_of (by decide) (Nat.le_of_ble_eq_true rfl) ?_
  refine V_iconst (pc := 0) (v := nI 0) dX9_barsWith_0 (by decide) ?_
  refine V_istore_n (pc := 1) (ls' := [(0, _), (1, _), (2, _), (3, _)]) dX9_barsWith_1 (by decide) rfl ?_
  refine V_iconst (pc := 2) (v := nI 0) dX9_barsWith_2 (by decide) ?_
  refine V_istore (pc := 3) (ls' := [(0, _), (1, _), (2, _), (3, _), (4, _)]) dX9_barsWith_3 (by decide) rfl ?_
  refine loopUp (P := fun j => V E kX9_barsWith (rmOf 1 0 0) (Qd E (.int (nI (erq q b s))) S I L) 0 0 S I L 5 [(0, .ref v), (1, .int (nI b)), (2, .int (nI (q (80 + s)))), (3, .int (nI (sm (fun j => nt q b j / 2 ^ q (80 + s) % 2) j))), (4, .int (nI j))] []) (n := 8) ?_ ?_ 0 (by omega)
  · skip
    refine V_iload (pc := 5) dX9_barsWith_5 rfl ?_
    refine V_bipush (pc := 7) (v := nI 8) dX9_barsWith_7 (by decide) ?_
    refine V_icmp_geN (pc := 9) (tgt := 32) dX9_barsWith_9 (by decide) (by omega) (by omega) (fun c9 => ?_) (fun n9 => absurd n9 (by omega))
    refine V_iload_n (pc := 32) dX9_barsWith_32 rfl ?_
    refine V_iret (pc := 33) dX9_barsWith_33 rfl (by first | decide | omega) (by first | decide | omega) ?_
    exact ⟨rfl, rfl, rfl, rfl⟩
  · intro j hj ih
    have hn := nt_lt hq hb hj
    refine V_iload (pc := 5) dX9_barsWith_5 rfl ?_
    refine V_bipush (pc := 7) (v := nI 8) dX9_barsWith_7 (by decide) ?_
    refine V_icmp_geN (pc := 9) (tgt := 32) dX9_barsWith_9 (by decide) (by omega) (by omega) (fun c9 => absurd c9 (by omega)) (fun n9 => ?_)
    refine V_iload_n (pc := 12) dX9_barsWith_12 rfl ?_
    refine V_aload_n (pc := 13) dX9_barsWith_13 rfl ?_
    refine V_iload_n (pc := 14) dX9_barsWith_14 rfl ?_
    refine V_iload (pc := 15) dX9_barsWith_15 rfl ?_
    refine V_callVd (pc := 17) (ci := 9) (c_X9_notesAt h9 h hq hb hj) dX9_barsWith_17 mlX9_46 mkX9_notesAt rfl rfl h9.o ⟨by decide, rfl⟩ ⟨Nat.le_of_ble_eq_true rfl, Nat.le_of_ble_eq_true rfl⟩ (Nat.le_of_ble_eq_true rfl) ⟨Nat.le_of_ble_eq_true rfl, Nat.le_of_ble_eq_true rfl⟩ ?_
    refine V_iload_n (pc := 20) dX9_barsWith_20 rfl ?_
    refine V_ishrN (pc := 21) dX9_barsWith_21 (by omega) (by omega) ?_
    refine V_iconst (pc := 22) (v := nI 1) dX9_barsWith_22 (by decide) ?_
    refine V_iand1 (pc := 23) dX9_barsWith_23 ?_
    refine V_iaddN (pc := 24) dX9_barsWith_24 ?_
    refine V_istore_n (pc := 25) (ls' := [(0, _), (1, _), (2, _), (3, _), (4, _)]) dX9_barsWith_25 (by decide) rfl ?_
    refine V_iinc1 (pc := 26) (ls' := [(0, _), (1, _), (2, _), (3, _), (4, _)]) dX9_barsWith_26 rfl (by decide) rfl ?_
    refine V_goto (pc := 29) (tgt := 5) dX9_barsWith_29 (by decide) ?_
    exact ih
theorem c_X9_couples (h9 : Lay9 E S v) (h : VlM I v q) (hq : wq q) : Cd E kX9_couples 0 0 0 [.ref v] S I L (.int (nI (cpl q))) S I L := by
  have hnb := hq.nb
  refine C_of (by decide) (Nat.le_of_ble_eq_true rfl) ?_
  refine V_iconst (pc := 0) (v := nI 0) dX9_couples_0 (by decide) ?_
  refine V_istore_n (pc := 1) (ls' := [(0, _), (1, _)]) dX9_couples_1 (by decide) rfl ?_
  refine V_iconst (pc := 2) (v := nI 0) dX9_couples_2 (by decide) ?_
  refine V_istore_n (pc := 3) (ls' := [(0, _), (1, _), (2, _)]) dX9_couples_3 (by decide) rfl ?_
  refine loopUp (P := fun j => V E kX9_couples (rmOf 0 0 0) (Qd E (.int (nI (cpl q))) S I L) 0 0 S I L 4 [(0, .ref v), (1, .int (nI (sm (fun b => if q (68 + b) = 0 then 0 else 1) j))), (2, .int (nI j))] []) (n := q 0) ?_ ?_ 0 (by omega)
  · skip
    refine V_iload_n (pc := 4) dX9_couples_4 rfl ?_
    refine V_aload_n (pc := 5) dX9_couples_5 rfl ?_
    refine V_getIE (pc := 6) 9 0 dX9_couples_6 flX9_9 (by decide) h9.o (h.1) ?_
    refine V_icmp_geN (pc := 9) (tgt := 36) dX9_couples_9 (by decide) (by omega) (by omega) (fun c9 => ?_) (fun n9 => absurd n9 (by omega))
    refine V_iload_n (pc := 36) dX9_couples_36 rfl ?_
    refine V_iret (pc := 37) dX9_couples_37 rfl (by first | decide | omega) (by first | decide | omega) ?_
    exact ⟨rfl, rfl, rfl, rfl⟩
  · intro j hj ih
    have hw := hq.we j (by omega)
    have hns := hq.ns
    rw [sm_s _ j] at ih
    refine V_iload_n (pc := 4) dX9_couples_4 rfl ?_
    refine V_aload_n (pc := 5) dX9_couples_5 rfl ?_
    refine V_getIE (pc := 6) 9 0 dX9_couples_6 flX9_9 (by decide) h9.o (h.1) ?_
    refine V_icmp_geN (pc := 9) (tgt := 36) dX9_couples_9 (by decide) (by omega) (by omega) (fun c9 => absurd c9 (by omega)) (fun n9 => ?_)
    refine V_iload_n (pc := 12) dX9_couples_12 rfl ?_
    refine V_aload_n (pc := 13) dX9_couples_13 rfl ?_
    refine V_getR (pc := 14) 9 4 dX9_couples_14 flX9_25 (by decide) h9.o h9.R4 ?_
    refine V_iload_n (pc := 17) dX9_couples_17 rfl ?_
    refine V_ialoadE (pc := 18) dX9_couples_18 h9.A4 (by first | decide | omega) (by omega) (h.2.2.2.2.1 j (by omega)) ?_
    refine V_iconst (pc := 19) (v := (-1)) dX9_couples_19 (by decide) ?_
    refine V_icmp_ne (pc := 20) (tgt := 27) dX9_couples_20 (by decide) (fun c20 => ?_) (fun n20 => ?_)
    · skip
      rw [if_neg (fun z => c20 ((pred1_none (by omega)).mpr z))] at ih
      refine V_iconst (pc := 27) (v := nI 1) dX9_couples_27 (by decide) ?_
      refine V_iaddN (pc := 28) dX9_couples_28 ?_
      refine V_istore_n (pc := 29) (ls' := [(0, _), (1, _), (2, _)]) dX9_couples_29 (by decide) rfl ?_
      refine V_iinc1 (pc := 30) (ls' := [(0, _), (1, _), (2, _)]) dX9_couples_30 rfl (by decide) rfl ?_
      refine V_goto (pc := 33) (tgt := 4) dX9_couples_33 (by decide) ?_
      exact ih
    · skip
      rw [if_pos ((pred1_none (by omega)).mp n20)] at ih
      refine V_iconst (pc := 23) (v := nI 0) dX9_couples_23 (by decide) ?_
      refine V_goto (pc := 24) (tgt := 28) dX9_couples_24 (by decide) ?_
      refine V_iaddN (pc := 28) dX9_couples_28 ?_
      refine V_istore_n (pc := 29) (ls' := [(0, _), (1, _), (2, _)]) dX9_couples_29 (by decide) rfl ?_
      refine V_iinc1 (pc := 30) (ls' := [(0, _), (1, _), (2, _)]) dX9_couples_30 rfl (by decide) rfl ?_
      refine V_goto (pc := 33) (tgt := 4) dX9_couples_33 (by decide) ?_
      exact ih
theorem c_X9_boxOf (h9 : Lay9 E S v) (h : VlM I v q) (hq : wq q) {s : Nat} (hs : s < 6) : Cd E kX9_boxOf 0 0 0 [.ref v, .int (nI s)] S I L (.int (pred1 (bof q s (q 0)))) S I L := by
  have hnb := hq.nb
  have hns := hq.ns
  refine C_of (by decide) (Nat.le_of_ble_eq_true rfl) ?_
  refine V_iconst (pc := 0) (v := nI 0) dX9_boxOf_0 (by decide) ?_
  refine V_istore_n (pc := 1) (ls' := [(0, _), (1, _), (2, _)]) dX9_boxOf_1 (by decide) rfl ?_
  refine loopUp (P := fun j => (∀ b, b < j → q (68 + b) ≠ s + 1) → V E kX9_boxOf (rmOf 0 0 0) (Qd E (.int (pred1 (bof q s (q 0)))) S I L) 0 0 S I L 2 [(0, .ref v), (1, .int (nI s)), (2, .int (nI j))] []) (n := q 0) ?_ ?_ 0 (by omega) (fun b hb => absurd hb (Nat.not_lt_zero b))
  · intro hno
    rw [bof_none _ hno, pred1_0]
    refine V_iload_n (pc := 2) dX9_boxOf_2 rfl ?_
    refine V_aload_n (pc := 3) dX9_boxOf_3 rfl ?_
    refine V_getIE (pc := 4) 9 0 dX9_boxOf_4 flX9_9 (by decide) h9.o (h.1) ?_
    refine V_icmp_geN (pc := 7) (tgt := 28) dX9_boxOf_7 (by decide) (by omega) (by omega) (fun c7 => ?_) (fun n7 => absurd n7 (by omega))
    refine V_iconst (pc := 28) (v := (-1)) dX9_boxOf_28 (by decide) ?_
    refine V_iret (pc := 29) dX9_boxOf_29 rfl (by first | decide | omega) (by first | decide | omega) ?_
    exact ⟨rfl, rfl, rfl, rfl⟩
  · intro j hj ih hno
    have hw := hq.we j (by omega)
    refine V_iload_n (pc := 2) dX9_boxOf_2 rfl ?_
    refine V_aload_n (pc := 3) dX9_boxOf_3 rfl ?_
    refine V_getIE (pc := 4) 9 0 dX9_boxOf_4 flX9_9 (by decide) h9.o (h.1) ?_
    refine V_icmp_geN (pc := 7) (tgt := 28) dX9_boxOf_7 (by decide) (by omega) (by omega) (fun c7 => absurd c7 (by omega)) (fun n7 => ?_)
    refine V_aload_n (pc := 10) dX9_boxOf_10 rfl ?_
    refine V_getR (pc := 11) 9 4 dX9_boxOf_11 flX9_25 (by decide) h9.o h9.R4 ?_
    refine V_iload_n (pc := 14) dX9_boxOf_14 rfl ?_
    refine V_ialoadE (pc := 15) dX9_boxOf_15 h9.A4 (by first | decide | omega) (by omega) (h.2.2.2.2.1 j (by omega)) ?_
    refine V_iload_n (pc := 16) dX9_boxOf_16 rfl ?_
    refine V_icmp_ne (pc := 17) (tgt := 22) dX9_boxOf_17 (by decide) (fun c17 => ?_) (fun n17 => ?_)
    · skip
      have ih := ih (fun b hb => if e : b = j then by rw [e]; exact fun z => c17 ((pred1_some (by omega) (by omega)).mpr z) else hno b (by omega))
      refine V_iinc1 (pc := 22) (ls' := [(0, _), (1, _), (2, _)]) dX9_boxOf_22 rfl (by decide) rfl ?_
      refine V_goto (pc := 25) (tgt := 2) dX9_boxOf_25 (by decide) ?_
      exact ih
    · skip
      rw [bof_first hq hj ((pred1_some (by omega) (by omega)).mp n17) (q 0) (Nat.le_refl _) hj, pred1_s]
      refine V_iload_n (pc := 20) dX9_boxOf_20 rfl ?_
      refine V_iret (pc := 21) dX9_boxOf_21 rfl (by first | decide | omega) (by first | decide | omega) ?_
      exact ⟨rfl, rfl, rfl, rfl⟩
end CA
