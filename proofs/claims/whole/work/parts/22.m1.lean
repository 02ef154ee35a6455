/-! THE REFERENCE: its small methods -/
section MA
variable {E : EnT} {S : ST} {I : IT} {L : LT} {o : Nat} {q : Nat → Nat}
theorem c_X12_in {v lo hi : Int64} : Cd E kX12_in 0 0 0 [.long v, .long lo, .long hi] S I L (.int (b2i (decide (lo ≤ v ∧ v ≤ hi)))) S I L := by
  refine C_of (by decide) (Nat.le_of_ble_eq_true rfl) ?_
  refine V_lload_n (pc := 0) dX12_in_0 rfl ?_
  refine V_lload_n (pc := 1) dX12_in_1 rfl ?_
  refine V_lcmp (pc := 2) dX12_in_2 ?_
  refine V_if_lt (pc := 3) (tgt := 17) dX12_in_3 (by decide) (fun c3 => ?_) (fun n3 => ?_)
  · skip
    have hz : decide (lo ≤ v ∧ v ≤ hi) = false := decide_eq_false (by first | exact fun z => absurd ((lg_cmp_lt v lo).mp c3) (Int64.not_lt.mpr z.1) | exact fun z => absurd ((lg_cmp_gt v hi).mp c10) (Int64.not_lt.mpr z.2))
    rw [hz]
    refine V_iconst (pc := 17) (v := nI 0) dX12_in_17 (by decide) ?_
    refine V_zretB (pc := 18) (p := false) dX12_in_18 rfl rfl (by first | decide | omega) (by first | decide | omega) ?_
    exact ⟨rfl, rfl, rfl, rfl⟩
  · skip
    refine V_lload_n (pc := 6) dX12_in_6 rfl ?_
    refine V_lload (pc := 7) dX12_in_7 rfl ?_
    refine V_lcmp (pc := 9) dX12_in_9 ?_
    refine V_if_gt (pc := 10) (tgt := 17) dX12_in_10 (by decide) (fun c10 => ?_) (fun n10 => ?_)
    · skip
      have hz : decide (lo ≤ v ∧ v ≤ hi) = false := decide_eq_false (by first | exact fun z => absurd ((lg_cmp_lt v lo).mp c3) (Int64.not_lt.mpr z.1) | exact fun z => absurd ((lg_cmp_gt v hi).mp c10) (Int64.not_lt.mpr z.2))
      rw [hz]
      refine V_iconst (pc := 17) (v := nI 0) dX12_in_17 (by decide) ?_
      refine V_zretB (pc := 18) (p := false) dX12_in_18 rfl rfl (by first | decide | omega) (by first | decide | omega) ?_
      exact ⟨rfl, rfl, rfl, rfl⟩
    · skip
      have hz : decide (lo ≤ v ∧ v ≤ hi) = true := decide_eq_true ⟨Int64.not_lt.mp (fun z => n3 ((lg_cmp_lt v lo).mpr z)), Int64.not_lt.mp (fun z => n10 ((lg_cmp_gt v hi).mpr z))⟩
      rw [hz]
      refine V_iconst (pc := 13) (v := nI 1) dX12_in_13 (by decide) ?_
      refine V_goto (pc := 14) (tgt := 18) dX12_in_14 (by decide) ?_
      refine V_zretB (pc := 18) (p := true) dX12_in_18 rfl rfl (by first | decide | omega) (by first | decide | omega) ?_
      exact ⟨rfl, rfl, rfl, rfl⟩
theorem c_X12_is {a t : Nat} (ha : a < 2 ^ 31) (ht : t < 32) : Cd E kX12_is 0 0 0 [.int (nI a), .int (nI t)] S I L (.int (b2i (decide (a / 2 ^ t % 2 = 1)))) S I L := by
  refine C_of (by decide) (Nat.le_of_ble_eq_true rfl) ?_
  refine V_iload_n (pc := 0) dX12_is_0 rfl ?_
  refine V_iload_n (pc := 1) dX12_is_1 rfl ?_
  refine V_ishrN (pc := 2) dX12_is_2 (by omega) (by omega) ?_
  refine V_iconst (pc := 3) (v := nI 1) dX12_is_3 (by decide) ?_
  refine V_iand1 (pc := 4) dX12_is_4 ?_
  refine V_iconst (pc := 5) (v := nI 1) dX12_is_5 (by decide) ?_
  refine V_icmp_neN (pc := 6) (tgt := 13) dX12_is_6 (by decide) (by omega) (by omega) (fun c6 => ?_) (fun n6 => ?_)
  · skip
    rw [decide_eq_false c6]
    refine V_iconst (pc := 13) (v := nI 0) dX12_is_13 (by decide) ?_
    refine V_zretB (pc := 14) (p := false) dX12_is_14 rfl rfl (by first | decide | omega) (by first | decide | omega) ?_
    exact ⟨rfl, rfl, rfl, rfl⟩
  · skip
    rw [decide_eq_true n6]
    refine V_iconst (pc := 9) (v := nI 1) dX12_is_9 (by decide) ?_
    refine V_goto (pc := 10) (tgt := 14) dX12_is_10 (by decide) ?_
    refine V_zretB (pc := 14) (p := true) dX12_is_14 rfl rfl (by first | decide | omega) (by first | decide | omega) ?_
    exact ⟨rfl, rfl, rfl, rfl⟩
theorem lp_ones {R : Room} {Q : QT} {cl sl a : Nat} (ha : a < 2 ^ 31) : ∀ (m t : Nat), t + m = 8 → V E kX12_ones R Q cl sl S I L 24 [(0, .int (nI a)), (1, .int (nI (pop8 a))), (2, .int (nI 8))] [] → V E kX12_ones R Q cl sl S I L 4 [(0, .int (nI a)), (1, .int (nI (sm (fun t => a / 2 ^ t % 2) t))), (2, .int (nI t))] [] := by
  intro m
  induction m with
  | zero =>
    intro t ht hk
    have e : t = 8 := by omega
    subst e
    rw [← pop8_sm] at hk
    refine V_iload_n (pc := 4) dX12_ones_4 rfl ?_
    refine V_bipush (pc := 5) (v := nI 8) dX12_ones_5 (by decide) ?_
    refine V_icmp_geN (pc := 7) (tgt := 24) dX12_ones_7 (by decide) (by omega) (by omega) (fun c7 => ?_) (fun n7 => absurd n7 (by omega))
    exact hk
  | succ m ih =>
    intro t ht hk
    refine V_iload_n (pc := 4) dX12_ones_4 rfl ?_
    refine V_bipush (pc := 5) (v := nI 8) dX12_ones_5 (by decide) ?_
    refine V_icmp_geN (pc := 7) (tgt := 24) dX12_ones_7 (by decide) (by omega) (by omega) (fun c7 => absurd c7 (by omega)) (fun n7 => ?_)
    refine V_iload_n (pc := 10) dX12_ones_10 rfl ?_
    refine V_iload_n (pc := 11) dX12_ones_11 rfl ?_
    refine V_iload_n (pc := 12) dX12_ones_12 rfl ?_
    refine V_ishrN (pc := 13) dX12_ones_13 (by omega) (by omega) ?_
    refine V_iconst (pc := 14) (v := nI 1) dX12_ones_14 (by decide) ?_
    refine V_iand1 (pc := 15) dX12_ones_15 ?_
    refine V_iaddN (pc := 16) dX12_ones_16 ?_
    refine V_istore_n (pc := 17) (ls' := [(0, _), (1, _), (2, _)]) dX12_ones_17 (by decide) rfl ?_
    refine V_iinc1 (pc := 18) (ls' := [(0, _), (1, _), (2, _)]) dX12_ones_18 rfl (by decide) rfl ?_
    refine V_goto (pc := 21) (tgt := 4) dX12_ones_21 (by decide) ?_
    exact ih (t + 1) (by omega) hk
theorem c_X12_ones {a : Nat} (ha : a < 2 ^ 31) : Cd E kX12_ones 0 0 0 [.int (nI a)] S I L (.int (nI (pop8 a))) S I L := by
  refine C_of (by decide) (Nat.le_of_ble_eq_true rfl) ?_
  refine V_iconst (pc := 0) (v := nI 0) dX12_ones_0 (by decide) ?_
  refine V_istore_n (pc := 1) (ls' := [(0, _), (1, _)]) dX12_ones_1 (by decide) rfl ?_
  refine V_iconst (pc := 2) (v := nI 0) dX12_ones_2 (by decide) ?_
  refine V_istore_n (pc := 3) (ls' := [(0, _), (1, _), (2, _)]) dX12_ones_3 (by decide) rfl ?_
  refine lp_ones ha 8 0 (by omega) ?_
  refine V_iload_n (pc := 24) dX12_ones_24 rfl ?_
  exact V_iret dX12_ones_25 rfl (by decide) (by decide) ⟨rfl, rfl, rfl, rfl⟩
def clampI (v : Int64) (lo hi : Int32) : Int32 := if v < lo.toInt64 then lo else if hi.toInt64 < v then hi else v.toInt32
theorem c_X12_within {v : Int64} {lo hi : Int32} : Cd E kX12_within 0 0 0 [.long v, .int lo, .int hi] S I L (.int (clampI v lo hi)) S I L := by
  refine C_of (by decide) (Nat.le_of_ble_eq_true rfl) ?_
  refine V_lload_n (pc := 0) dX12_within_0 rfl ?_
  refine V_iload_n (pc := 1) dX12_within_1 rfl ?_
  refine V_i2l (pc := 2) dX12_within_2 rfl ?_
  refine V_lcmp (pc := 3) dX12_within_3 ?_
  refine V_if_ge (pc := 4) (tgt := 11) dX12_within_4 (by decide) (fun c4 => ?_) (fun n4 => ?_)
  · skip
    refine V_lload_n (pc := 11) dX12_within_11 rfl ?_
    refine V_iload_n (pc := 12) dX12_within_12 rfl ?_
    refine V_i2l (pc := 13) dX12_within_13 rfl ?_
    refine V_lcmp (pc := 14) dX12_within_14 ?_
    refine V_if_le (pc := 15) (tgt := 22) dX12_within_15 (by decide) (fun c15 => ?_) (fun n15 => ?_)
    · skip
      rw [clampI, if_neg (Int64.not_lt.mpr ((lg_cmp_ge _ _).mp c4)), if_neg (Int64.not_lt.mpr ((lg_cmp_le _ _).mp c15))]
      refine V_lload_n (pc := 22) dX12_within_22 rfl ?_
      refine V_l2i (pc := 23) dX12_within_23 rfl ?_
      refine V_iret (pc := 24) dX12_within_24 rfl (by first | decide | omega) (by first | decide | omega) ?_
      exact ⟨rfl, rfl, rfl, rfl⟩
    · skip
      rw [clampI, if_neg (Int64.not_lt.mpr ((lg_cmp_ge _ _).mp c4)), if_pos (Int64.not_le.mp (fun z => n15 ((lg_cmp_le _ _).mpr z)))]
      refine V_iload_n (pc := 18) dX12_within_18 rfl ?_
      refine V_goto (pc := 19) (tgt := 24) dX12_within_19 (by decide) ?_
      refine V_iret (pc := 24) dX12_within_24 rfl (by first | decide | omega) (by first | decide | omega) ?_
      exact ⟨rfl, rfl, rfl, rfl⟩
  · skip
    rw [clampI, if_pos (Int64.not_le.mp (fun z => n4 ((lg_cmp_ge _ _).mpr z)))]
    refine V_iload_n (pc := 7) dX12_within_7 rfl ?_
    refine V_goto (pc := 8) (tgt := 24) dX12_within_8 (by decide) ?_
    refine V_iret (pc := 24) dX12_within_24 rfl (by first | decide | omega) (by first | decide | omega) ?_
    exact ⟨rfl, rfl, rfl, rfl⟩
theorem c_X12_isBox (h12 : Lay12 E S o) (hr : RowM I (o + 2) q) (hq : wq q) {x : Int32} : Cd E kX12_isBox 1 0 0 [.ref o, .int x] S I L (.int (b2i (bnd x (q 0)))) S I L := by
  have hb := hq.nb
  rw [← bnd64 (by omega)]
  refine C_of (by decide) (Nat.le_of_ble_eq_true rfl) ?_
  refine V_iload_n (pc := 0) dX12_isBox_0 rfl ?_
  refine V_i2l (pc := 1) dX12_isBox_1 rfl ?_
  refine V_lconst (pc := 2) (v := lN 0) dX12_isBox_2 (by decide) ?_
  refine V_aload_n (pc := 3) dX12_isBox_3 rfl ?_
  refine V_getR (pc := 4) 12 3 dX12_isBox_4 flX12_13 (by decide) h12.o h12.R3 ?_
  refine V_iconst (pc := 7) (v := nI 0) dX12_isBox_7 (by decide) ?_
  refine V_ialoadE (pc := 8) dX12_isBox_8 h12.A3 (by first | decide | omega) (by omega) (hr.n (by omega)) ?_
  refine V_i2lN (pc := 9) dX12_isBox_9 (by omega) ?_
  refine V_lconst (pc := 10) (v := lN 1) dX12_isBox_10 (by decide) ?_
  refine V_lsub (pc := 11) dX12_isBox_11 ?_
  refine V_callSd (pc := 12) (c_X12_in) dX12_isBox_12 mlX12_195 mkX12_in rfl rfl ⟨Nat.le_of_ble_eq_true rfl, Nat.le_of_ble_eq_true rfl⟩ (Nat.le_of_ble_eq_true rfl) ⟨Nat.le_of_ble_eq_true rfl, Nat.le_of_ble_eq_true rfl⟩ ?_
  refine V_zretB (pc := 15)  dX12_isBox_15 rfl rfl (by first | decide | omega) (by first | decide | omega) ?_
  exact ⟨rfl, rfl, rfl, rfl⟩
theorem c_X12_isSuitor (h12 : Lay12 E S o) (hr : RowM I (o + 2) q) (hq : wq q) {x : Int32} : Cd E kX12_isSuitor 1 0 0 [.ref o, .int x] S I L (.int (b2i (bnd x (q 1)))) S I L := by
  have hb := hq.ns
  rw [← bnd64 (by omega)]
  refine C_of (by decide) (Nat.le_of_ble_eq_true rfl) ?_
  refine V_iload_n (pc := 0) dX12_isSuitor_0 rfl ?_
  refine V_i2l (pc := 1) dX12_isSuitor_1 rfl ?_
  refine V_lconst (pc := 2) (v := lN 0) dX12_isSuitor_2 (by decide) ?_
  refine V_aload_n (pc := 3) dX12_isSuitor_3 rfl ?_
  refine V_getR (pc := 4) 12 3 dX12_isSuitor_4 flX12_13 (by decide) h12.o h12.R3 ?_
  refine V_iconst (pc := 7) (v := nI 1) dX12_isSuitor_7 (by decide) ?_
  refine V_ialoadE (pc := 8) dX12_isSuitor_8 h12.A3 (by first | decide | omega) (by omega) (hr.n (by omega)) ?_
  refine V_i2lN (pc := 9) dX12_isSuitor_9 (by omega) ?_
  refine V_lconst (pc := 10) (v := lN 1) dX12_isSuitor_10 (by decide) ?_
  refine V_lsub (pc := 11) dX12_isSuitor_11 ?_
  refine V_callSd (pc := 12) (c_X12_in) dX12_isSuitor_12 mlX12_195 mkX12_in rfl rfl ⟨Nat.le_of_ble_eq_true rfl, Nat.le_of_ble_eq_true rfl⟩ (Nat.le_of_ble_eq_true rfl) ⟨Nat.le_of_ble_eq_true rfl, Nat.le_of_ble_eq_true rfl⟩ ?_
  refine V_zretB (pc := 15)  dX12_isSuitor_15 rfl rfl (by first | decide | omega) (by first | decide | omega) ?_
  exact ⟨rfl, rfl, rfl, rfl⟩
theorem c_X12_isBar {x : Int32} : Cd E kX12_isBar 1 0 0 [.int x] S I L (.int (b2i (bnd x 8))) S I L := by
  rw [← bnd64' (n := 7) (by omega)]
  refine C_of (by decide) (Nat.le_of_ble_eq_true rfl) ?_
  refine V_iload_n (pc := 0) dX12_isBar_0 rfl ?_
  refine V_i2l (pc := 1) dX12_isBar_1 rfl ?_
  refine V_lconst (pc := 2) (v := lN 0) dX12_isBar_2 (by decide) ?_
  refine V_ldc2 (pc := 3) dX12_isBar_3 coX12_202 ?_
  refine V_callSd (pc := 6) (c_X12_in) dX12_isBar_6 mlX12_195 mkX12_in rfl rfl ⟨Nat.le_of_ble_eq_true rfl, Nat.le_of_ble_eq_true rfl⟩ (Nat.le_of_ble_eq_true rfl) ⟨Nat.le_of_ble_eq_true rfl, Nat.le_of_ble_eq_true rfl⟩ ?_
  refine V_zretB (pc := 9)  dX12_isBar_9 rfl rfl (by first | decide | omega) (by first | decide | omega) ?_
  exact ⟨rfl, rfl, rfl, rfl⟩
theorem c_X12_isTooth {x : Int32} : Cd E kX12_isTooth 1 0 0 [.int x] S I L (.int (b2i (bnd x 8))) S I L := by
  rw [← bnd64' (n := 7) (by omega)]
  refine C_of (by decide) (Nat.le_of_ble_eq_true rfl) ?_
  refine V_iload_n (pc := 0) dX12_isTooth_0 rfl ?_
  refine V_i2l (pc := 1) dX12_isTooth_1 rfl ?_
  refine V_lconst (pc := 2) (v := lN 0) dX12_isTooth_2 (by decide) ?_
  refine V_ldc2 (pc := 3) dX12_isTooth_3 coX12_202 ?_
  refine V_callSd (pc := 6) (c_X12_in) dX12_isTooth_6 mlX12_195 mkX12_in rfl rfl ⟨Nat.le_of_ble_eq_true rfl, Nat.le_of_ble_eq_true rfl⟩ (Nat.le_of_ble_eq_true rfl) ⟨Nat.le_of_ble_eq_true rfl, Nat.le_of_ble_eq_true rfl⟩ ?_
  refine V_zretB (pc := 9)  dX12_isTooth_9 rfl rfl (by first | decide | omega) (by first | decide | omega) ?_
  exact ⟨rfl, rfl, rfl, rfl⟩
theorem c_X12_notesAt (h12 : Lay12 E S o) (hr : RowM I (o + 2) q) (hq : wq q) {b j : Nat} (hb : b < 6) (hj : j < 8) : Cd E kX12_notesAt 0 0 0 [.ref o, .int (nI b), .int (nI j)] S I L (.int (nI (nt q b j))) S I L := by
  have hp := hq.pi b j hb hj
  refine C_of (by decide) (Nat.le_of_ble_eq_true rfl) ?_
  refine V_aload_n (pc := 0) dX12_notesAt_0 rfl ?_
  refine V_getR (pc := 1) 12 3 dX12_notesAt_1 flX12_13 (by decide) h12.o h12.R3 ?_
  refine V_bipush (pc := 4) (v := nI 8) dX12_notesAt_4 (by decide) ?_
  refine V_bipush (pc := 6) (v := nI 8) dX12_notesAt_6 (by decide) ?_
  refine V_iload_n (pc := 8) dX12_notesAt_8 rfl ?_
  refine V_imulN (pc := 9) dX12_notesAt_9 ?_
  refine V_iaddN (pc := 10) dX12_notesAt_10 ?_
  refine V_iload_n (pc := 11) dX12_notesAt_11 rfl ?_
  refine V_iaddN (pc := 12) dX12_notesAt_12 ?_
  refine V_ialoadE (pc := 13) dX12_notesAt_13 h12.A3 (by first | decide | omega) (by omega) (hr.n (by omega)) ?_
  refine V_aload_n (pc := 14) dX12_notesAt_14 rfl ?_
  refine V_getR (pc := 15) 12 3 dX12_notesAt_15 flX12_13 (by decide) h12.o h12.R3 ?_
  refine V_bipush (pc := 18) (v := nI 56) dX12_notesAt_18 (by decide) ?_
  refine V_iload_n (pc := 20) dX12_notesAt_20 rfl ?_
  refine V_iaddN (pc := 21) dX12_notesAt_21 ?_
  refine V_ialoadE (pc := 22) dX12_notesAt_22 h12.A3 (by first | decide | omega) (by omega) (hr.n (by omega)) ?_
  refine V_iconst (pc := 23) (v := (-1)) dX12_notesAt_23 (by decide) ?_
  refine V_ixor (pc := 24) dX12_notesAt_24 ?_
  refine V_iandX (pc := 25) dX12_notesAt_25 (by omega) ?_
  refine V_iret (pc := 26) dX12_notesAt_26 rfl (by first | decide | omega) (by first | decide | omega) ?_
  exact ⟨rfl, rfl, rfl, rfl⟩
theorem lp_notesOf {R : Room} {Q : QT} {cl sl : Nat} (h12 : Lay12 E S o) (hr : RowM I (o + 2) q) (hq : wq q) {b : Nat} (hb : b < 6) (hR : 1 ≤ R.frames ∧ 100 ≤ R.locals ∧ cl ≤ R.cells ∧ sl ≤ R.slots) : ∀ (m j : Nat), j + m = 8 → V E kX12_notesOf R Q cl sl S I L 28 [(0, .ref o), (1, .int (nI b)), (2, .int (nI (nts q b))), (3, .int (nI 8))] [] → V E kX12_notesOf R Q cl sl S I L 4 [(0, .ref o), (1, .int (nI b)), (2, .int (nI (sm (fun j => pop8 (nt q b j)) j))), (3, .int (nI j))] [] := by
  intro m
  induction m with
  | zero =>
    intro j hj hk
    have e : j = 8 := by omega
    subst e
    refine V_iload_n (pc := 4) dX12_notesOf_4 rfl ?_
    refine V_bipush (pc := 5) (v := nI 8) dX12_notesOf_5 (by decide) ?_
    refine V_icmp_geN (pc := 7) (tgt := 28) dX12_notesOf_7 (by decide) (by omega) (by omega) (fun c7 => ?_) (fun n7 => absurd n7 (by omega))
    exact hk
  | succ m ih =>
    intro j hj hk
    have hn := nt_lt hq hb (show j < 8 by omega)
    refine V_iload_n (pc := 4) dX12_notesOf_4 rfl ?_
    refine V_bipush (pc := 5) (v := nI 8) dX12_notesOf_5 (by decide) ?_
    refine V_icmp_geN (pc := 7) (tgt := 28) dX12_notesOf_7 (by decide) (by omega) (by omega) (fun c7 => absurd c7 (by omega)) (fun n7 => ?_)
    refine V_iload_n (pc := 10) dX12_notesOf_10 rfl ?_
    refine V_aload_n (pc := 11) dX12_notesOf_11 rfl ?_
    refine V_iload_n (pc := 12) dX12_notesOf_12 rfl ?_
    refine V_iload_n (pc := 13) dX12_notesOf_13 rfl ?_
    refine V_callVd (pc := 14) (ci := 12) (c_X12_notesAt (by first | assumption | omega | exact h12) (by first | assumption | omega | exact h12) (by first | assumption | omega | exact h12) (by first | assumption | omega | exact h12) (by first | assumption | omega | exact h12)) dX12_notesOf_14 mlX12_204 mkX12_notesAt rfl rfl h12.o ⟨by decide, rfl⟩ ⟨by omega, by show 8 + (_ + 11) + 64 * 0 ≤ _; simp only []; omega⟩ (Nat.le_of_ble_eq_true rfl) ⟨by omega, by omega⟩ ?_
    refine V_callSd (pc := 17) (c_X12_ones (by first | assumption | omega)) dX12_notesOf_17 mlX12_208 mkX12_ones rfl rfl ⟨by omega, by show 8 + (_ + 11) + 64 * 0 ≤ _; simp only []; omega⟩ (Nat.le_of_ble_eq_true rfl) ⟨by omega, by omega⟩ ?_
    refine V_iaddN (pc := 20) dX12_notesOf_20 ?_
    refine V_istore_n (pc := 21) (ls' := [(0, _), (1, _), (2, _), (3, _)]) dX12_notesOf_21 (by decide) rfl ?_
    refine V_iinc1 (pc := 22) (ls' := [(0, _), (1, _), (2, _), (3, _)]) dX12_notesOf_22 rfl (by decide) rfl ?_
    refine V_goto (pc := 25) (tgt := 4) dX12_notesOf_25 (by decide) ?_
    exact ih (j + 1) (by omega) hk
theorem c_X12_notesOf (h12 : Lay12 E S o) (hr : RowM I (o + 2) q) (hq : wq q) {b : Nat} (hb : b < 6) : Cd E kX12_notesOf 2 0 0 [.ref o, .int (nI b)] S I L (.int (nI (nts q b))) S I L := by
  refine C_of (by decide) (Nat.le_of_ble_eq_true rfl) ?_
  refine V_iconst (pc := 0) (v := nI 0) dX12_notesOf_0 (by decide) ?_
  refine V_istore_n (pc := 1) (ls' := [(0, _), (1, _), (2, _)]) dX12_notesOf_1 (by decide) rfl ?_
  refine V_iconst (pc := 2) (v := nI 0) dX12_notesOf_2 (by decide) ?_
  refine V_istore_n (pc := 3) (ls' := [(0, _), (1, _), (2, _), (3, _)]) dX12_notesOf_3 (by decide) rfl ?_
  refine lp_notesOf h12 hr hq hb ⟨by decide, by decide, by decide, by decide⟩ 8 0 (by omega) ?_
  refine V_iload_n (pc := 28) dX12_notesOf_28 rfl ?_
  exact V_iret dX12_notesOf_29 rfl (by decide) (by decide) ⟨rfl, rfl, rfl, rfl⟩
end MA
