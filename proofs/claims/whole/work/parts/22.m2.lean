/-! THE REFERENCE: ear, wed, couples, telling, keeping -/
section MB
variable {E : EnT} {S : ST} {I : IT} {L : LT} {o : Nat} {q : Nat → Nat}
theorem c_X12_earOf (h12 : Lay12 E S o) (hr : RowM I (o + 2) q) (hq : wq q) {b s : Nat} (hb : b < 6) (hs : s < 6) : Cd E kX12_earOf 1 0 0 [.ref o, .int (nI b), .int (nI s)] S I L (.int (nI (erq q b s))) S I L := by
  have he := hq.ea s hs
  refine C_of (by decide) (Nat.le_of_ble_eq_true rfl) ?_
  refine V_iconst (pc := 0) (v := nI 0) dX12_earOf_0 (by decide) ?_
  refine V_istore_n (pc := 1) (ls' := [(0, _), (1, _), (2, _), (3, _)]) dX12_earOf_1 (by decide) rfl ?_
  refine V_iconst (pc := 2) (v := nI 0) dX12_earOf_2 (by decide) ?_
  refine V_istore (pc := 3) (ls' := [(0, _), (1, _), (2, _), (3, _), (4, _)]) dX12_earOf_3 (by decide) rfl ?_
  refine loopUp (P := fun j => V E kX12_earOf (rmOf 1 0 0) (Qd E (.int (nI (erq q b s))) S I L) 0 0 S I L 5 [(0, .ref o), (1, .int (nI b)), (2, .int (nI s)), (3, .int (nI (sm (fun j => nt q b j / 2 ^ q (80 + s) % 2) j))), (4, .int (nI j))] []) (n := 8) ?_ ?_ 0 (by omega)
  · skip
    refine V_iload (pc := 5) dX12_earOf_5 rfl ?_
    refine V_bipush (pc := 7) (v := nI 8) dX12_earOf_7 (by decide) ?_
    refine V_icmp_geN (pc := 9) (tgt := 40) dX12_earOf_9 (by decide) (by omega) (by omega) (fun c9 => ?_) (fun n9 => absurd n9 (by omega))
    refine V_iload_n (pc := 40) dX12_earOf_40 rfl ?_
    refine V_iret (pc := 41) dX12_earOf_41 rfl (by first | decide | omega) (by first | decide | omega) ?_
    exact ⟨rfl, rfl, rfl, rfl⟩
  · intro j hj ih
    have hn := nt_lt hq hb hj
    refine V_iload (pc := 5) dX12_earOf_5 rfl ?_
    refine V_bipush (pc := 7) (v := nI 8) dX12_earOf_7 (by decide) ?_
    refine V_icmp_geN (pc := 9) (tgt := 40) dX12_earOf_9 (by decide) (by omega) (by omega) (fun c9 => absurd c9 (by omega)) (fun n9 => ?_)
    refine V_iload_n (pc := 12) dX12_earOf_12 rfl ?_
    refine V_aload_n (pc := 13) dX12_earOf_13 rfl ?_
    refine V_iload_n (pc := 14) dX12_earOf_14 rfl ?_
    refine V_iload (pc := 15) dX12_earOf_15 rfl ?_
    refine V_callVd (pc := 17) (ci := 12) (c_X12_notesAt (by first | assumption | omega | exact h12) (by first | assumption | omega | exact h12) (by first | assumption | omega | exact h12) (by first | assumption | omega | exact h12) (by first | assumption | omega | exact h12)) dX12_earOf_17 mlX12_204 mkX12_notesAt rfl rfl h12.o ⟨by decide, rfl⟩ ⟨Nat.le_of_ble_eq_true rfl, Nat.le_of_ble_eq_true rfl⟩ (Nat.le_of_ble_eq_true rfl) ⟨Nat.le_of_ble_eq_true rfl, Nat.le_of_ble_eq_true rfl⟩ ?_
    refine V_aload_n (pc := 20) dX12_earOf_20 rfl ?_
    refine V_getR (pc := 21) 12 3 dX12_earOf_21 flX12_13 (by decide) h12.o h12.R3 ?_
    refine V_bipush (pc := 24) (v := nI 80) dX12_earOf_24 (by decide) ?_
    refine V_iload_n (pc := 26) dX12_earOf_26 rfl ?_
    refine V_iaddN (pc := 27) dX12_earOf_27 ?_
    refine V_ialoadE (pc := 28) dX12_earOf_28 h12.A3 (by first | decide | omega) (by omega) (hr.n (by omega)) ?_
    refine V_ishrN (pc := 29) dX12_earOf_29 (by omega) (by omega) ?_
    refine V_iconst (pc := 30) (v := nI 1) dX12_earOf_30 (by decide) ?_
    refine V_iand1 (pc := 31) dX12_earOf_31 ?_
    refine V_iaddN (pc := 32) dX12_earOf_32 ?_
    refine V_istore_n (pc := 33) (ls' := [(0, _), (1, _), (2, _), (3, _), (4, _)]) dX12_earOf_33 (by decide) rfl ?_
    refine V_iinc1 (pc := 34) (ls' := [(0, _), (1, _), (2, _), (3, _), (4, _)]) dX12_earOf_34 rfl (by decide) rfl ?_
    refine V_goto (pc := 37) (tgt := 5) dX12_earOf_37 (by decide) ?_
    exact ih
theorem c_X12_boxOf (h12 : Lay12 E S o) (hr : RowM I (o + 2) q) (hq : wq q) {s : Nat} (hs : s < 6) : Cd E kX12_boxOf 0 0 0 [.ref o, .int (nI s)] S I L (.int (pred1 (bof q s (q 0)))) S I L := by
  have hb := hq.nb
  have h1 := hq.ns
  refine C_of (by decide) (Nat.le_of_ble_eq_true rfl) ?_
  refine V_iconst (pc := 0) (v := (-1)) dX12_boxOf_0 (by decide) ?_
  refine V_istore_n (pc := 1) (ls' := [(0, _), (1, _), (2, _)]) dX12_boxOf_1 (by decide) rfl ?_
  refine V_iconst (pc := 2) (v := nI 0) dX12_boxOf_2 (by decide) ?_
  refine V_istore_n (pc := 3) (ls' := [(0, _), (1, _), (2, _), (3, _)]) dX12_boxOf_3 (by decide) rfl ?_
  refine loopUp (P := fun j => V E kX12_boxOf (rmOf 0 0 0) (Qd E (.int (pred1 (bof q s (q 0)))) S I L) 0 0 S I L 4 [(0, .ref o), (1, .int (nI s)), (2, .int (pred1 (bof q s j))), (3, .int (nI j))] []) (n := q 0) ?_ ?_ 0 (by omega)
  · skip
    refine V_iload_n (pc := 4) dX12_boxOf_4 rfl ?_
    refine V_aload_n (pc := 5) dX12_boxOf_5 rfl ?_
    refine V_getR (pc := 6) 12 3 dX12_boxOf_6 flX12_13 (by decide) h12.o h12.R3 ?_
    refine V_iconst (pc := 9) (v := nI 0) dX12_boxOf_9 (by decide) ?_
    refine V_ialoadE (pc := 10) dX12_boxOf_10 h12.A3 (by first | decide | omega) (by omega) (hr.n (by omega)) ?_
    refine V_icmp_geN (pc := 11) (tgt := 39) dX12_boxOf_11 (by decide) (by omega) (by omega) (fun c11 => ?_) (fun n11 => absurd n11 (by omega))
    refine V_iload_n (pc := 39) dX12_boxOf_39 rfl ?_
    refine V_iret (pc := 40) dX12_boxOf_40 rfl (by first | decide | omega) (by first | decide | omega) ?_
    exact ⟨rfl, rfl, rfl, rfl⟩
  · intro j hj ih
    have hw := hq.we j (by omega)
    rw [bof] at ih
    refine V_iload_n (pc := 4) dX12_boxOf_4 rfl ?_
    refine V_aload_n (pc := 5) dX12_boxOf_5 rfl ?_
    refine V_getR (pc := 6) 12 3 dX12_boxOf_6 flX12_13 (by decide) h12.o h12.R3 ?_
    refine V_iconst (pc := 9) (v := nI 0) dX12_boxOf_9 (by decide) ?_
    refine V_ialoadE (pc := 10) dX12_boxOf_10 h12.A3 (by first | decide | omega) (by omega) (hr.n (by omega)) ?_
    refine V_icmp_geN (pc := 11) (tgt := 39) dX12_boxOf_11 (by decide) (by omega) (by omega) (fun c11 => absurd c11 (by omega)) (fun n11 => ?_)
    refine V_aload_n (pc := 14) dX12_boxOf_14 rfl ?_
    refine V_getR (pc := 15) 12 3 dX12_boxOf_15 flX12_13 (by decide) h12.o h12.R3 ?_
    refine V_bipush (pc := 18) (v := nI 68) dX12_boxOf_18 (by decide) ?_
    refine V_iload_n (pc := 20) dX12_boxOf_20 rfl ?_
    refine V_iaddN (pc := 21) dX12_boxOf_21 ?_
    refine V_ialoadE (pc := 22) dX12_boxOf_22 h12.A3 (by first | decide | omega) (by omega) (hr.w (by omega)) ?_
    refine V_iload_n (pc := 23) dX12_boxOf_23 rfl ?_
    refine V_icmp_ne (pc := 24) (tgt := 31) dX12_boxOf_24 (by decide) (fun c24 => ?_) (fun n24 => ?_)
    · skip
      rw [if_neg (fun z => c24 ((pred1_some (by omega) (by omega)).mpr z))] at ih
      refine V_iload_n (pc := 31) dX12_boxOf_31 rfl ?_
      refine V_istore_n (pc := 32) (ls' := [(0, _), (1, _), (2, _), (3, _)]) dX12_boxOf_32 (by decide) rfl ?_
      refine V_iinc1 (pc := 33) (ls' := [(0, _), (1, _), (2, _), (3, _)]) dX12_boxOf_33 rfl (by decide) rfl ?_
      refine V_goto (pc := 36) (tgt := 4) dX12_boxOf_36 (by decide) ?_
      exact ih
    · skip
      rw [if_pos ((pred1_some (by omega) (by omega)).mp n24), pred1_s] at ih
      refine V_iload_n (pc := 27) dX12_boxOf_27 rfl ?_
      refine V_goto (pc := 28) (tgt := 32) dX12_boxOf_28 (by decide) ?_
      refine V_istore_n (pc := 32) (ls' := [(0, _), (1, _), (2, _), (3, _)]) dX12_boxOf_32 (by decide) rfl ?_
      refine V_iinc1 (pc := 33) (ls' := [(0, _), (1, _), (2, _), (3, _)]) dX12_boxOf_33 rfl (by decide) rfl ?_
      refine V_goto (pc := 36) (tgt := 4) dX12_boxOf_36 (by decide) ?_
      exact ih
theorem c_X12_couples (h12 : Lay12 E S o) (hr : RowM I (o + 2) q) (hq : wq q) : Cd E kX12_couples 0 0 0 [.ref o] S I L (.int (nI (cpl q))) S I L := by
  have hb := hq.nb
  have h1 := hq.ns
  refine C_of (by decide) (Nat.le_of_ble_eq_true rfl) ?_
  refine V_iconst (pc := 0) (v := nI 0) dX12_couples_0 (by decide) ?_
  refine V_istore_n (pc := 1) (ls' := [(0, _), (1, _)]) dX12_couples_1 (by decide) rfl ?_
  refine V_iconst (pc := 2) (v := nI 0) dX12_couples_2 (by decide) ?_
  refine V_istore_n (pc := 3) (ls' := [(0, _), (1, _), (2, _)]) dX12_couples_3 (by decide) rfl ?_
  refine loopUp (P := fun j => V E kX12_couples (rmOf 0 0 0) (Qd E (.int (nI (cpl q))) S I L) 0 0 S I L 4 [(0, .ref o), (1, .int (nI (sm (fun b => if q (68 + b) = 0 then 0 else 1) j))), (2, .int (nI j))] []) (n := q 0) ?_ ?_ 0 (by omega)
  · skip
    refine V_iload_n (pc := 4) dX12_couples_4 rfl ?_
    refine V_aload_n (pc := 5) dX12_couples_5 rfl ?_
    refine V_getR (pc := 6) 12 3 dX12_couples_6 flX12_13 (by decide) h12.o h12.R3 ?_
    refine V_iconst (pc := 9) (v := nI 0) dX12_couples_9 (by decide) ?_
    refine V_ialoadE (pc := 10) dX12_couples_10 h12.A3 (by first | decide | omega) (by omega) (hr.n (by omega)) ?_
    refine V_icmp_geN (pc := 11) (tgt := 41) dX12_couples_11 (by decide) (by omega) (by omega) (fun c11 => ?_) (fun n11 => absurd n11 (by omega))
    refine V_iload_n (pc := 41) dX12_couples_41 rfl ?_
    refine V_iret (pc := 42) dX12_couples_42 rfl (by first | decide | omega) (by first | decide | omega) ?_
    exact ⟨rfl, rfl, rfl, rfl⟩
  · intro j hj ih
    have hw := hq.we j (by omega)
    rw [sm] at ih
    refine V_iload_n (pc := 4) dX12_couples_4 rfl ?_
    refine V_aload_n (pc := 5) dX12_couples_5 rfl ?_
    refine V_getR (pc := 6) 12 3 dX12_couples_6 flX12_13 (by decide) h12.o h12.R3 ?_
    refine V_iconst (pc := 9) (v := nI 0) dX12_couples_9 (by decide) ?_
    refine V_ialoadE (pc := 10) dX12_couples_10 h12.A3 (by first | decide | omega) (by omega) (hr.n (by omega)) ?_
    refine V_icmp_geN (pc := 11) (tgt := 41) dX12_couples_11 (by decide) (by omega) (by omega) (fun c11 => absurd c11 (by omega)) (fun n11 => ?_)
    refine V_iload_n (pc := 14) dX12_couples_14 rfl ?_
    refine V_aload_n (pc := 15) dX12_couples_15 rfl ?_
    refine V_getR (pc := 16) 12 3 dX12_couples_16 flX12_13 (by decide) h12.o h12.R3 ?_
    refine V_bipush (pc := 19) (v := nI 68) dX12_couples_19 (by decide) ?_
    refine V_iload_n (pc := 21) dX12_couples_21 rfl ?_
    refine V_iaddN (pc := 22) dX12_couples_22 ?_
    refine V_ialoadE (pc := 23) dX12_couples_23 h12.A3 (by first | decide | omega) (by omega) (hr.w (by omega)) ?_
    refine V_iconst (pc := 24) (v := (-1)) dX12_couples_24 (by decide) ?_
    refine V_icmp_ne (pc := 25) (tgt := 32) dX12_couples_25 (by decide) (fun c25 => ?_) (fun n25 => ?_)
    · skip
      rw [if_neg (fun z => c25 ((pred1_none (by omega)).mpr z))] at ih
      refine V_iconst (pc := 32) (v := nI 1) dX12_couples_32 (by decide) ?_
      refine V_iaddN (pc := 33) dX12_couples_33 ?_
      refine V_istore_n (pc := 34) (ls' := [(0, _), (1, _), (2, _)]) dX12_couples_34 (by decide) rfl ?_
      refine V_iinc1 (pc := 35) (ls' := [(0, _), (1, _), (2, _)]) dX12_couples_35 rfl (by decide) rfl ?_
      refine V_goto (pc := 38) (tgt := 4) dX12_couples_38 (by decide) ?_
      exact ih
    · skip
      rw [if_pos ((pred1_none (by omega)).mp n25)] at ih
      refine V_iconst (pc := 28) (v := nI 0) dX12_couples_28 (by decide) ?_
      refine V_goto (pc := 29) (tgt := 33) dX12_couples_29 (by decide) ?_
      refine V_iaddN (pc := 33) dX12_couples_33 ?_
      refine V_istore_n (pc := 34) (ls' := [(0, _), (1, _), (2, _)]) dX12_couples_34 (by decide) rfl ?_
      refine V_iinc1 (pc := 35) (ls' := [(0, _), (1, _), (2, _)]) dX12_couples_35 rfl (by decide) rfl ?_
      refine V_goto (pc := 38) (tgt := 4) dX12_couples_38 (by decide) ?_
      exact ih
/-- telling an answer that isn't a refusal: the status is 0 -/
theorem c_X12_tell (h12 : Lay12 E S o) {v : Nat} (hv : v < 2 ^ 31) : Cd E kX12_tell 0 0 0 [.ref o, .int (nI v)] S I L (.int (nI v)) S (up2 I o 1 (nI 0)) L := by
  refine C_of (by decide) (Nat.le_of_ble_eq_true rfl) ?_
  refine V_aload_n (pc := 0) dX12_tell_0 rfl ?_
  refine V_iload_n (pc := 1) dX12_tell_1 rfl ?_
  refine V_if_geN (pc := 2) (tgt := 9) dX12_tell_2 (by decide) (by omega) ?_
  refine V_iconst (pc := 9) (v := nI 0) dX12_tell_9 (by decide) ?_
  refine V_putI (pc := 10) 12 1 dX12_tell_10 flX12_178 (by decide) (by decide) (Or.inl rfl) rfl rfl h12.o ?_
  refine V_iload_n (pc := 13) dX12_tell_13 rfl ?_
  refine V_if_geN (pc := 14) (tgt := 28) dX12_tell_14 (by decide) (by omega) ?_
  refine V_iload_n (pc := 28) dX12_tell_28 rfl ?_
  refine V_iret (pc := 29) dX12_tell_29 rfl (by first | decide | omega) (by first | decide | omega) ?_
  exact ⟨rfl, rfl, rfl, rfl⟩
/-- refusing: the status, and one refusal more of that kind -/
def refu (I : IT) (o r : Nat) : IT := up2 (up2 I o 1 (-(nI r))) (o + 1) r (I (o + 1) r + nI 1)
theorem neg_nI {r : Nat} (h0 : 0 < r) (h : r < 7) : -(nI r) < 0 := by
  have : r = 1 ∨ r = 2 ∨ r = 3 ∨ r = 4 ∨ r = 5 ∨ r = 6 := by omega
  rcases this with rfl | rfl | rfl | rfl | rfl | rfl <;> decide
theorem neg_neg_nI {r : Nat} (h : r < 7) : -(-(nI r)) = nI r := by
  have : r = 0 ∨ r = 1 ∨ r = 2 ∨ r = 3 ∨ r = 4 ∨ r = 5 ∨ r = 6 := by omega
  rcases this with rfl | rfl | rfl | rfl | rfl | rfl | rfl <;> decide
theorem c_X12_tell_r (h12 : Lay12 E S o) {r : Nat} (h0 : 0 < r) (hr : r < 7) : Cd E kX12_tell 0 0 0 [.ref o, .int (-(nI r))] S I L (.int (-(nI r))) S (refu I o r) L := by
  have hn := neg_nI h0 hr
  refine C_of (by decide) (Nat.le_of_ble_eq_true rfl) ?_
  refine V_aload_n (pc := 0) dX12_tell_0 rfl ?_
  refine V_iload_n (pc := 1) dX12_tell_1 rfl ?_
  refine V_if_ge (pc := 2) (tgt := 9) dX12_tell_2 (by decide) (fun c2 => absurd c2 (by exact Int32.not_le.mpr hn)) (fun n2 => ?_)
  refine V_iload_n (pc := 5) dX12_tell_5 rfl ?_
  refine V_goto (pc := 6) (tgt := 10) dX12_tell_6 (by decide) ?_
  refine V_putI (pc := 10) 12 1 dX12_tell_10 flX12_178 (by decide) (by decide) (Or.inl rfl) rfl rfl h12.o ?_
  refine V_iload_n (pc := 13) dX12_tell_13 rfl ?_
  refine V_if_ge (pc := 14) (tgt := 28) dX12_tell_14 (by decide) (fun c14 => absurd c14 (by exact Int32.not_le.mpr hn)) (fun n14 => ?_)
  refine V_aload_n (pc := 17) dX12_tell_17 rfl ?_
  refine V_getR (pc := 18) 12 2 dX12_tell_18 flX12_7 (by decide) h12.o h12.R2 ?_
  refine V_iload_n (pc := 21) dX12_tell_21 rfl ?_
  refine V_ineg (pc := 22) dX12_tell_22 ?_
  refine V_top (neg_neg_nI hr) ?_
  refine V_dup2 (pc := 23) dX12_tell_23 rfl rfl ?_
  refine V_ialoadE (pc := 24) dX12_tell_24 h12.A2 (by first | decide | omega) (by omega) (show up2 I o 1 (-(nI r)) (o + 1) r = I (o + 1) r by rw [up2_ne (by omega)]) ?_
  refine V_iconst (pc := 25) (v := nI 1) dX12_tell_25 (by decide) ?_
  refine V_iadd (pc := 26) dX12_tell_26 ?_
  refine V_iastore (pc := 27) dX12_tell_27 h12.A2 (by first | decide | omega) (by omega) ?_
  refine V_iload_n (pc := 28) dX12_tell_28 rfl ?_
  refine V_iret (pc := 29) dX12_tell_29 rfl (by first | decide | omega) (by first | decide | omega) ?_
  exact ⟨rfl, rfl, rfl, rfl⟩
theorem c_X12_change (h12 : Lay12 E S o) {i : Nat} {v w : Int32} (hi : i < 5516) (hw : I (o + 2) i = w) : Cd E kX12_change 0 0 0 [.ref o, .int (nI i), .int v] S I L (.int w) S (up2 (up2 I (o + 2) i v) o 1 (nI 0)) L := by
  refine C_of (by decide) (Nat.le_of_ble_eq_true rfl) ?_
  refine V_aload_n (pc := 0) dX12_change_0 rfl ?_
  refine V_getR (pc := 1) 12 3 dX12_change_1 flX12_13 (by decide) h12.o h12.R3 ?_
  refine V_iload_n (pc := 4) dX12_change_4 rfl ?_
  refine V_ialoadE (pc := 5) dX12_change_5 h12.A3 (by first | decide | omega) (by omega) (hw) ?_
  refine V_istore_n (pc := 6) (ls' := [(0, _), (1, _), (2, _), (3, _)]) dX12_change_6 (by decide) rfl ?_
  refine V_aload_n (pc := 7) dX12_change_7 rfl ?_
  refine V_getR (pc := 8) 12 3 dX12_change_8 flX12_13 (by decide) h12.o h12.R3 ?_
  refine V_iload_n (pc := 11) dX12_change_11 rfl ?_
  refine V_iload_n (pc := 12) dX12_change_12 rfl ?_
  refine V_iastore (pc := 13) dX12_change_13 h12.A3 (by first | decide | omega) (by omega) ?_
  refine V_aload_n (pc := 14) dX12_change_14 rfl ?_
  refine V_iconst (pc := 15) (v := nI 0) dX12_change_15 (by decide) ?_
  refine V_putI (pc := 16) 12 1 dX12_change_16 flX12_178 (by decide) (by decide) (Or.inl rfl) rfl rfl h12.o ?_
  refine V_iload_n (pc := 19) dX12_change_19 rfl ?_
  refine V_iret (pc := 20) dX12_change_20 rfl (by first | decide | omega) (by first | decide | omega) ?_
  exact ⟨rfl, rfl, rfl, rfl⟩
theorem c_X12_settled (h12 : Lay12 E S o) {v : Nat} (hv : v < 2 ^ 31) : Cd E kX12_settled 1 0 0 [.ref o, .int (nI v)] S I L (.int (nI v)) S (up2 (up2 I o 8 (nI 0)) o 1 (nI 0)) L := by
  refine C_of (by decide) (Nat.le_of_ble_eq_true rfl) ?_
  refine V_aload_n (pc := 0) dX12_settled_0 rfl ?_
  refine V_iload_n (pc := 1) dX12_settled_1 rfl ?_
  refine V_if_geN (pc := 2) (tgt := 12) dX12_settled_2 (by decide) (by omega) ?_
  refine V_iconst (pc := 12) (v := nI 0) dX12_settled_12 (by decide) ?_
  refine V_putI (pc := 13) 12 8 dX12_settled_13 flX12_181 (by decide) (by decide) (Or.inl rfl) rfl rfl h12.o ?_
  refine V_aload_n (pc := 16) dX12_settled_16 rfl ?_
  refine V_iload_n (pc := 17) dX12_settled_17 rfl ?_
  refine V_callVd (pc := 18) (ci := 12) (c_X12_tell (by first | assumption | omega | exact h12) (by first | assumption | omega | exact h12)) dX12_settled_18 mlX12_184 mkX12_tell rfl rfl h12.o ⟨by decide, rfl⟩ ⟨Nat.le_of_ble_eq_true rfl, Nat.le_of_ble_eq_true rfl⟩ (Nat.le_of_ble_eq_true rfl) ⟨Nat.le_of_ble_eq_true rfl, Nat.le_of_ble_eq_true rfl⟩ ?_
  refine V_iret (pc := 21) dX12_settled_21 rfl (by first | decide | omega) (by first | decide | omega) ?_
  exact ⟨rfl, rfl, rfl, rfl⟩
/-- a stretch of n places from c on -/
def cpy (f g : Nat → Int32) (c d n : Nat) : Nat → Int32 := fun j => if d ≤ j ∧ j < d + n then f (c + (j - d)) else g j
theorem cpy_0 (f g : Nat → Int32) (c d : Nat) : cpy f g c d 0 = g := by funext j; unfold cpy; rw [if_neg (by omega)]
theorem upr_same (I : IT) (a : Nat) : upr I a (I a) = I := by funext x j; unfold upr; split; (rename_i h; rw [h]); rfl
theorem upr_cpy_step {I : IT} {a : Nat} (f g : Nat → Int32) (c d n : Nat) : up2 (upr I a (cpy f g c d n)) a (d + n) (f (c + n)) = upr I a (cpy f g c d (n + 1)) := by
  funext x j
  unfold up2 upr cpy
  by_cases hx : x = a
  · subst hx
    simp only [if_true]
    by_cases hj : j = d + n
    · subst hj
      rw [if_pos rfl, if_pos (by omega)]
      congr 1; omega
    · rw [if_neg hj]
      by_cases h1 : d ≤ j ∧ j < d + n
      · rw [if_pos h1, if_pos (by omega)]
      · rw [if_neg h1, if_neg (by omega)]
  · simp only [if_neg hx]
theorem c_X12_keepAll (h12 : Lay12 E S o) {k : Nat} (hk : k < 18) : Cn E kX12_keepAll 0 0 0 [.ref o, .int (nI k)] S I L S (upr I (o + 5) (cpy (I (o + 2)) (I (o + 5)) 5 (75 * k) 75)) L := by
  refine C_of (by decide) (Nat.le_of_ble_eq_true rfl) ?_
  refine V_iconst (pc := 0) (v := nI 0) dX12_keepAll_0 (by decide) ?_
  refine V_istore_n (pc := 1) (ls' := [(0, _), (1, _), (2, _)]) dX12_keepAll_1 (by decide) rfl ?_
  have e0 : I = upr I (o + 5) (cpy (I (o + 2)) (I (o + 5)) 5 (75 * k) 0) := by rw [cpy_0, upr_same]
  refine (show V E _ _ _ _ _ _ (upr I (o + 5) (cpy (I (o + 2)) (I (o + 5)) 5 (75 * k) 0)) _ _ _ _ → V _ _ _ _ _ _ _ I _ _ _ _ from fun h => by rw [← e0] at h; exact h) ?_
  refine loopUp (P := fun j => V E kX12_keepAll (rmOf 0 0 0) (Qn E S (upr I (o + 5) (cpy (I (o + 2)) (I (o + 5)) 5 (75 * k) 75)) L) 0 0 S (upr I (o + 5) (cpy (I (o + 2)) (I (o + 5)) 5 (75 * k) j)) L 2 [(0, .ref o), (1, .int (nI k)), (2, .int (nI j))] []) (n := 75) ?_ ?_ 0 (by omega)
  · skip
    refine V_iload_n (pc := 2) dX12_keepAll_2 rfl ?_
    refine V_bipush (pc := 3) (v := nI 75) dX12_keepAll_3 (by decide) ?_
    refine V_icmp_geN (pc := 5) (tgt := 33) dX12_keepAll_5 (by decide) (by omega) (by omega) (fun c5 => ?_) (fun n5 => absurd n5 (by omega))
    refine V_vret (pc := 33) dX12_keepAll_33 rfl (by first | decide | omega) (by first | decide | omega) ?_
    exact ⟨rfl, rfl, rfl, rfl⟩
  · intro j hj ih
    refine V_iload_n (pc := 2) dX12_keepAll_2 rfl ?_
    refine V_bipush (pc := 3) (v := nI 75) dX12_keepAll_3 (by decide) ?_
    refine V_icmp_geN (pc := 5) (tgt := 33) dX12_keepAll_5 (by decide) (by omega) (by omega) (fun c5 => absurd c5 (by omega)) (fun n5 => ?_)
    refine V_aload_n (pc := 8) dX12_keepAll_8 rfl ?_
    refine V_getR (pc := 9) 12 6 dX12_keepAll_9 flX12_23 (by decide) h12.o h12.R6 ?_
    refine V_bipush (pc := 12) (v := nI 75) dX12_keepAll_12 (by decide) ?_
    refine V_iload_n (pc := 14) dX12_keepAll_14 rfl ?_
    refine V_imulN (pc := 15) dX12_keepAll_15 ?_
    refine V_iload_n (pc := 16) dX12_keepAll_16 rfl ?_
    refine V_iaddN (pc := 17) dX12_keepAll_17 ?_
    refine V_aload_n (pc := 18) dX12_keepAll_18 rfl ?_
    refine V_getR (pc := 19) 12 3 dX12_keepAll_19 flX12_13 (by decide) h12.o h12.R3 ?_
    refine V_iconst (pc := 22) (v := nI 5) dX12_keepAll_22 (by decide) ?_
    refine V_iload_n (pc := 23) dX12_keepAll_23 rfl ?_
    refine V_iaddN (pc := 24) dX12_keepAll_24 ?_
    refine V_ialoadE (pc := 25) dX12_keepAll_25 h12.A3 (by first | decide | omega) (by omega) (show upr I (o + 5) (cpy (I (o + 2)) (I (o + 5)) 5 (75 * k) j) (o + 2) (5 + j) = I (o + 2) (5 + j) by rw [upr_row (by omega)]) ?_
    refine V_iastore (pc := 26) dX12_keepAll_26 h12.A6 (by first | decide | omega) (by omega) ?_
    refine V_iinc1 (pc := 27) (ls' := [(0, _), (1, _), (2, _)]) dX12_keepAll_27 rfl (by decide) rfl ?_
    refine V_goto (pc := 30) (tgt := 2) dX12_keepAll_30 (by decide) ?_
    rw [upr_cpy_step]; exact ih
theorem c_X12_putBack (h12 : Lay12 E S o) {k : Nat} (hk : k < 18) : Cn E kX12_putBack 0 0 0 [.ref o, .int (nI k)] S I L S (upr I (o + 2) (cpy (I (o + 5)) (I (o + 2)) (75 * k) 5 75)) L := by
  refine C_of (by decide) (Nat.le_of_ble_eq_true rfl) ?_
  refine V_iconst (pc := 0) (v := nI 0) dX12_putBack_0 (by decide) ?_
  refine V_istore_n (pc := 1) (ls' := [(0, _), (1, _), (2, _)]) dX12_putBack_1 (by decide) rfl ?_
  have e0 : I = upr I (o + 2) (cpy (I (o + 5)) (I (o + 2)) (75 * k) 5 0) := by rw [cpy_0, upr_same]
  refine (show V E _ _ _ _ _ _ (upr I (o + 2) (cpy (I (o + 5)) (I (o + 2)) (75 * k) 5 0)) _ _ _ _ → V _ _ _ _ _ _ _ I _ _ _ _ from fun h => by rw [← e0] at h; exact h) ?_
  refine loopUp (P := fun j => V E kX12_putBack (rmOf 0 0 0) (Qn E S (upr I (o + 2) (cpy (I (o + 5)) (I (o + 2)) (75 * k) 5 75)) L) 0 0 S (upr I (o + 2) (cpy (I (o + 5)) (I (o + 2)) (75 * k) 5 j)) L 2 [(0, .ref o), (1, .int (nI k)), (2, .int (nI j))] []) (n := 75) ?_ ?_ 0 (by omega)
  · skip
    refine V_iload_n (pc := 2) dX12_putBack_2 rfl ?_
    refine V_bipush (pc := 3) (v := nI 75) dX12_putBack_3 (by decide) ?_
    refine V_icmp_geN (pc := 5) (tgt := 33) dX12_putBack_5 (by decide) (by omega) (by omega) (fun c5 => ?_) (fun n5 => absurd n5 (by omega))
    refine V_vret (pc := 33) dX12_putBack_33 rfl (by first | decide | omega) (by first | decide | omega) ?_
    exact ⟨rfl, rfl, rfl, rfl⟩
  · intro j hj ih
    refine V_iload_n (pc := 2) dX12_putBack_2 rfl ?_
    refine V_bipush (pc := 3) (v := nI 75) dX12_putBack_3 (by decide) ?_
    refine V_icmp_geN (pc := 5) (tgt := 33) dX12_putBack_5 (by decide) (by omega) (by omega) (fun c5 => absurd c5 (by omega)) (fun n5 => ?_)
    refine V_aload_n (pc := 8) dX12_putBack_8 rfl ?_
    refine V_getR (pc := 9) 12 3 dX12_putBack_9 flX12_13 (by decide) h12.o h12.R3 ?_
    refine V_iconst (pc := 12) (v := nI 5) dX12_putBack_12 (by decide) ?_
    refine V_iload_n (pc := 13) dX12_putBack_13 rfl ?_
    refine V_iaddN (pc := 14) dX12_putBack_14 ?_
    refine V_aload_n (pc := 15) dX12_putBack_15 rfl ?_
    refine V_getR (pc := 16) 12 6 dX12_putBack_16 flX12_23 (by decide) h12.o h12.R6 ?_
    refine V_bipush (pc := 19) (v := nI 75) dX12_putBack_19 (by decide) ?_
    refine V_iload_n (pc := 21) dX12_putBack_21 rfl ?_
    refine V_imulN (pc := 22) dX12_putBack_22 ?_
    refine V_iload_n (pc := 23) dX12_putBack_23 rfl ?_
    refine V_iaddN (pc := 24) dX12_putBack_24 ?_
    refine V_ialoadE (pc := 25) dX12_putBack_25 h12.A6 (by first | decide | omega) (by omega) (show upr I (o + 2) (cpy (I (o + 5)) (I (o + 2)) (75 * k) 5 j) (o + 5) (75 * k + j) = I (o + 5) (75 * k + j) by rw [upr_row (by omega)]) ?_
    refine V_iastore (pc := 26) dX12_putBack_26 h12.A3 (by first | decide | omega) (by omega) ?_
    refine V_iinc1 (pc := 27) (ls' := [(0, _), (1, _), (2, _)]) dX12_putBack_27 rfl (by decide) rfl ?_
    refine V_goto (pc := 30) (tgt := 2) dX12_putBack_30 (by decide) ?_
    rw [upr_cpy_step]; exact ih
end MB
