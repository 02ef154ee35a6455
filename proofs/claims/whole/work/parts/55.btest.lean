/-! THE REFERENCE reads: behind tests -/
section PE
variable {E : EnT} {S : ST} {I I0 : IT} {L L0 : LT} {o n p l d : Nat} {t : Nat → Nat} {P : List (Nat × Nat)} {c : CT} {b : Option Nat}
theorem c_X12_behindTest_and (h12 : Lay12 E S o) (h : PS o t n I0 L0 I L none (p, l, d, P, c)) (ht : tc t n p = 2) (hl : P.length < 400) (hb : BD 399 P c) : C E kX12_behindTest 4 0 0 [.ref o] S I L (fun r S' I' L' => r = some (.int (nI 0)) ∧ S = S' ∧ PS o t n I0 L0 I' L' none (nxt t n p, l, d, (29, (sto 2 P c).2.2.2) :: (sto 2 P c).1, (setq (sto 2 P c).2.1 (sto 2 P c).2.2.2 29, setq (sto 2 P c).2.2.1 (sto 2 P c).2.2.2 0, (sto 2 P c).2.2.2 + 1))) := by
  have hT : TK o t n I L p := h.1
  have ho := h12.o
  have hb2 := BD.st (k := 2) hb
  refine C_of (by decide) (Nat.le_of_ble_eq_true rfl) ?_
  refine V_aload_n (pc := 0) dX12_behindTest_0 rfl ?_
  refine V_ldc2 (pc := 1) dX12_behindTest_1 coX12_387 ?_
  refine V_callVd (pc := 4) (ci := 12) (c_X12_isWord (k := 2) h12 hT (by decide) (by decide)) dX12_behindTest_4 mlX12_331 mkX12_isWord rfl rfl h12.o ⟨by decide, rfl⟩ ⟨Nat.le_of_ble_eq_true rfl, Nat.le_of_ble_eq_true rfl⟩ (Nat.le_of_ble_eq_true rfl) ⟨Nat.le_of_ble_eq_true rfl, Nat.le_of_ble_eq_true rfl⟩ ?_
  refine V_istore_n (pc := 7) (ls' := [(0, _), (1, _)]) dX12_behindTest_7 (by decide) rfl ?_
  refine V_iload_n (pc := 8) dX12_behindTest_8 rfl ?_
  refine V_if_neB (pc := 9) (tgt := 22) dX12_behindTest_9 (by decide) (fun c9 => ?_) (fun n9 => absurd n9 (by rw [decide_eq_true ht]; decide))
  refine V_aload_n (pc := 22) dX12_behindTest_22 rfl ?_
  refine V_iload_n (pc := 23) dX12_behindTest_23 rfl ?_
  refine V_if_eqB (pc := 24) (tgt := 31) dX12_behindTest_24 (by decide) (fun c24 => absurd c24 (by rw [decide_eq_true ht]; decide)) (fun n24 => ?_)
  refine V_iconst (pc := 27) (v := nI 2) dX12_behindTest_27 (by decide) ?_
  refine V_goto (pc := 28) (tgt := 32) dX12_behindTest_28 (by decide) ?_
  refine V_callV (pc := 32) (ci := 12) (c_X12_settle h12 (by omega) h (by have := hb.1; omega) (by have := hb.2.1; omega) hb.2.2) dX12_behindTest_32 mlX12_377 mkX12_settle rfl rfl h12.o ⟨by decide, rfl⟩ ⟨Nat.le_of_ble_eq_true rfl, Nat.le_of_ble_eq_true rfl⟩ (Nat.le_of_ble_eq_true rfl) ⟨Nat.le_of_ble_eq_true rfl, Nat.le_of_ble_eq_true rfl⟩ (fun r S' I' L' hp => ?_)
  obtain ⟨rfl, rfl, rfl, hP⟩ := hp
  refine V_aload_n (pc := 35) dX12_behindTest_35 rfl ?_
  refine V_iload_n (pc := 36) dX12_behindTest_36 rfl ?_
  refine V_if_eqB (pc := 37) (tgt := 45) dX12_behindTest_37 (by decide) (fun c37 => absurd c37 (by rw [decide_eq_true ht]; decide)) (fun n37 => ?_)
  refine V_bipush (pc := 40) (v := nI 29) dX12_behindTest_40 (by decide) ?_
  refine V_goto (pc := 42) (tgt := 47) dX12_behindTest_42 (by decide) ?_
  refine V_aload_n (pc := 47) dX12_behindTest_47 rfl ?_
  refine V_getIE (pc := 48) 12 23 dX12_behindTest_48 flX12_312 (by decide) h12.o (hP.2.2.2.2.2.1.1) ?_
  refine V_callV (pc := 51) (ci := 12) (c_X12_push h12 hP (by have := hb2.2.1; omega)) dX12_behindTest_51 mlX12_338 mkX12_push rfl rfl h12.o ⟨by decide, rfl⟩ ⟨Nat.le_of_ble_eq_true rfl, Nat.le_of_ble_eq_true rfl⟩ (Nat.le_of_ble_eq_true rfl) ⟨Nat.le_of_ble_eq_true rfl, Nat.le_of_ble_eq_true rfl⟩ (fun r S' I' L' hp => ?_)
  obtain ⟨rfl, rfl, rfl, hP2⟩ := hp
  refine V_aload_n (pc := 54) dX12_behindTest_54 rfl ?_
  refine V_iload_n (pc := 55) dX12_behindTest_55 rfl ?_
  refine V_if_eqB (pc := 56) (tgt := 64) dX12_behindTest_56 (by decide) (fun c56 => absurd c56 (by rw [decide_eq_true ht]; decide)) (fun n56 => ?_)
  refine V_bipush (pc := 59) (v := nI 29) dX12_behindTest_59 (by decide) ?_
  refine V_goto (pc := 61) (tgt := 66) dX12_behindTest_61 (by decide) ?_
  refine V_iconst (pc := 66) (v := nI 0) dX12_behindTest_66 (by decide) ?_
  refine V_callV (pc := 67) (ci := 12) (c_X12_emit h12 hP2 (by have := hb2.1.2.1; omega)) dX12_behindTest_67 mlX12_321 mkX12_emit rfl rfl h12.o ⟨by decide, rfl⟩ ⟨Nat.le_of_ble_eq_true rfl, Nat.le_of_ble_eq_true rfl⟩ (Nat.le_of_ble_eq_true rfl) ⟨Nat.le_of_ble_eq_true rfl, Nat.le_of_ble_eq_true rfl⟩ (fun r S' I' L' hp => ?_)
  obtain ⟨rfl, rfl, rfl, hP3⟩ := hp
  refine V_aload_n (pc := 70) dX12_behindTest_70 rfl ?_
  refine V_callV (pc := 71) (ci := 12) (c_X12_nextP h12 hP3) dX12_behindTest_71 mlX12_279 mkX12_next rfl rfl h12.o ⟨by decide, rfl⟩ ⟨Nat.le_of_ble_eq_true rfl, Nat.le_of_ble_eq_true rfl⟩ (Nat.le_of_ble_eq_true rfl) ⟨Nat.le_of_ble_eq_true rfl, Nat.le_of_ble_eq_true rfl⟩ (fun r S' I' L' hp => ?_)
  obtain ⟨rfl, rfl, hQ⟩ := hp
  refine V_iconst (pc := 74) (v := nI 0) dX12_behindTest_74 (by decide) ?_
  refine V_iret (pc := 75) dX12_behindTest_75 rfl (by first | decide | omega) (by first | decide | omega) ?_
  exact ⟨rfl, rfl, hQ⟩
theorem c_X12_behindTest_or (h12 : Lay12 E S o) (h : PS o t n I0 L0 I L none (p, l, d, P, c)) (ht : tc t n p = 1) (hl : P.length < 400) (hb : BD 399 P c) : C E kX12_behindTest 4 0 0 [.ref o] S I L (fun r S' I' L' => r = some (.int (nI 0)) ∧ S = S' ∧ PS o t n I0 L0 I' L' none (nxt t n p, l, d, (30, (sto 1 P c).2.2.2) :: (sto 1 P c).1, (setq (sto 1 P c).2.1 (sto 1 P c).2.2.2 30, setq (sto 1 P c).2.2.1 (sto 1 P c).2.2.2 0, (sto 1 P c).2.2.2 + 1))) := by
  have hT : TK o t n I L p := h.1
  have ho := h12.o
  have hb2 := BD.st (k := 1) hb
  have h2 : ¬ tc t n p = 2 := by omega
  refine C_of (by decide) (Nat.le_of_ble_eq_true rfl) ?_
  refine V_aload_n (pc := 0) dX12_behindTest_0 rfl ?_
  refine V_ldc2 (pc := 1) dX12_behindTest_1 coX12_387 ?_
  refine V_callVd (pc := 4) (ci := 12) (c_X12_isWord (k := 2) h12 hT (by decide) (by decide)) dX12_behindTest_4 mlX12_331 mkX12_isWord rfl rfl h12.o ⟨by decide, rfl⟩ ⟨Nat.le_of_ble_eq_true rfl, Nat.le_of_ble_eq_true rfl⟩ (Nat.le_of_ble_eq_true rfl) ⟨Nat.le_of_ble_eq_true rfl, Nat.le_of_ble_eq_true rfl⟩ ?_
  refine V_istore_n (pc := 7) (ls' := [(0, _), (1, _)]) dX12_behindTest_7 (by decide) rfl ?_
  refine V_iload_n (pc := 8) dX12_behindTest_8 rfl ?_
  refine V_if_neB (pc := 9) (tgt := 22) dX12_behindTest_9 (by decide) (fun c9 => absurd c9 (by rw [decide_eq_false h2]; decide)) (fun n9 => ?_)
  refine V_aload_n (pc := 12) dX12_behindTest_12 rfl ?_
  refine V_ldc2 (pc := 13) dX12_behindTest_13 coX12_389 ?_
  refine V_callVd (pc := 16) (ci := 12) (c_X12_isWord (k := 1) h12 hT (by decide) (by decide)) dX12_behindTest_16 mlX12_331 mkX12_isWord rfl rfl h12.o ⟨by decide, rfl⟩ ⟨Nat.le_of_ble_eq_true rfl, Nat.le_of_ble_eq_true rfl⟩ (Nat.le_of_ble_eq_true rfl) ⟨Nat.le_of_ble_eq_true rfl, Nat.le_of_ble_eq_true rfl⟩ ?_
  refine V_if_eqB (pc := 19) (tgt := 76) dX12_behindTest_19 (by decide) (fun c19 => absurd c19 (by rw [decide_eq_true ht]; decide)) (fun n19 => ?_)
  refine V_aload_n (pc := 22) dX12_behindTest_22 rfl ?_
  refine V_iload_n (pc := 23) dX12_behindTest_23 rfl ?_
  refine V_if_eqB (pc := 24) (tgt := 31) dX12_behindTest_24 (by decide) (fun c24 => ?_) (fun n24 => absurd n24 (by rw [decide_eq_false h2]; decide))
  refine V_iconst (pc := 31) (v := nI 1) dX12_behindTest_31 (by decide) ?_
  refine V_callV (pc := 32) (ci := 12) (c_X12_settle h12 (by omega) h (by have := hb.1; omega) (by have := hb.2.1; omega) hb.2.2) dX12_behindTest_32 mlX12_377 mkX12_settle rfl rfl h12.o ⟨by decide, rfl⟩ ⟨Nat.le_of_ble_eq_true rfl, Nat.le_of_ble_eq_true rfl⟩ (Nat.le_of_ble_eq_true rfl) ⟨Nat.le_of_ble_eq_true rfl, Nat.le_of_ble_eq_true rfl⟩ (fun r S' I' L' hp => ?_)
  obtain ⟨rfl, rfl, rfl, hP⟩ := hp
  refine V_aload_n (pc := 35) dX12_behindTest_35 rfl ?_
  refine V_iload_n (pc := 36) dX12_behindTest_36 rfl ?_
  refine V_if_eqB (pc := 37) (tgt := 45) dX12_behindTest_37 (by decide) (fun c37 => ?_) (fun n37 => absurd n37 (by rw [decide_eq_false h2]; decide))
  refine V_bipush (pc := 45) (v := nI 30) dX12_behindTest_45 (by decide) ?_
  refine V_aload_n (pc := 47) dX12_behindTest_47 rfl ?_
  refine V_getIE (pc := 48) 12 23 dX12_behindTest_48 flX12_312 (by decide) h12.o (hP.2.2.2.2.2.1.1) ?_
  refine V_callV (pc := 51) (ci := 12) (c_X12_push h12 hP (by have := hb2.2.1; omega)) dX12_behindTest_51 mlX12_338 mkX12_push rfl rfl h12.o ⟨by decide, rfl⟩ ⟨Nat.le_of_ble_eq_true rfl, Nat.le_of_ble_eq_true rfl⟩ (Nat.le_of_ble_eq_true rfl) ⟨Nat.le_of_ble_eq_true rfl, Nat.le_of_ble_eq_true rfl⟩ (fun r S' I' L' hp => ?_)
  obtain ⟨rfl, rfl, rfl, hP2⟩ := hp
  refine V_aload_n (pc := 54) dX12_behindTest_54 rfl ?_
  refine V_iload_n (pc := 55) dX12_behindTest_55 rfl ?_
  refine V_if_eqB (pc := 56) (tgt := 64) dX12_behindTest_56 (by decide) (fun c56 => ?_) (fun n56 => absurd n56 (by rw [decide_eq_false h2]; decide))
  refine V_bipush (pc := 64) (v := nI 30) dX12_behindTest_64 (by decide) ?_
  refine V_iconst (pc := 66) (v := nI 0) dX12_behindTest_66 (by decide) ?_
  refine V_callV (pc := 67) (ci := 12) (c_X12_emit h12 hP2 (by have := hb2.1.2.1; omega)) dX12_behindTest_67 mlX12_321 mkX12_emit rfl rfl h12.o ⟨by decide, rfl⟩ ⟨Nat.le_of_ble_eq_true rfl, Nat.le_of_ble_eq_true rfl⟩ (Nat.le_of_ble_eq_true rfl) ⟨Nat.le_of_ble_eq_true rfl, Nat.le_of_ble_eq_true rfl⟩ (fun r S' I' L' hp => ?_)
  obtain ⟨rfl, rfl, rfl, hP3⟩ := hp
  refine V_aload_n (pc := 70) dX12_behindTest_70 rfl ?_
  refine V_callV (pc := 71) (ci := 12) (c_X12_nextP h12 hP3) dX12_behindTest_71 mlX12_279 mkX12_next rfl rfl h12.o ⟨by decide, rfl⟩ ⟨Nat.le_of_ble_eq_true rfl, Nat.le_of_ble_eq_true rfl⟩ (Nat.le_of_ble_eq_true rfl) ⟨Nat.le_of_ble_eq_true rfl, Nat.le_of_ble_eq_true rfl⟩ (fun r S' I' L' hp => ?_)
  obtain ⟨rfl, rfl, hQ⟩ := hp
  refine V_iconst (pc := 74) (v := nI 0) dX12_behindTest_74 (by decide) ?_
  refine V_iret (pc := 75) dX12_behindTest_75 rfl (by first | decide | omega) (by first | decide | omega) ?_
  exact ⟨rfl, rfl, hQ⟩
theorem c_X12_behindTest_end (h12 : Lay12 E S o) (h : PS o t n I0 L0 I L none (p, l, d, P, c)) (h1 : tc t n p ≠ 1) (h2 : tc t n p ≠ 2) (hb : BD 400 P c) (hi : inr P = 0) : C E kX12_behindTest 4 0 0 [.ref o] S I L (fun r S' I' L' => r = some (.int (nI 4)) ∧ S = S' ∧ PS o t n I0 L0 I' L' none (p, l, d, P, c)) := by
  have hT : TK o t n I L p := h.1
  have ho := h12.o
  refine C_of (by decide) (Nat.le_of_ble_eq_true rfl) ?_
  refine V_aload_n (pc := 0) dX12_behindTest_0 rfl ?_
  refine V_ldc2 (pc := 1) dX12_behindTest_1 coX12_387 ?_
  refine V_callVd (pc := 4) (ci := 12) (c_X12_isWord (k := 2) h12 hT (by decide) (by decide)) dX12_behindTest_4 mlX12_331 mkX12_isWord rfl rfl h12.o ⟨by decide, rfl⟩ ⟨Nat.le_of_ble_eq_true rfl, Nat.le_of_ble_eq_true rfl⟩ (Nat.le_of_ble_eq_true rfl) ⟨Nat.le_of_ble_eq_true rfl, Nat.le_of_ble_eq_true rfl⟩ ?_
  refine V_istore_n (pc := 7) (ls' := [(0, _), (1, _)]) dX12_behindTest_7 (by decide) rfl ?_
  refine V_iload_n (pc := 8) dX12_behindTest_8 rfl ?_
  refine V_if_neB (pc := 9) (tgt := 22) dX12_behindTest_9 (by decide) (fun c9 => absurd c9 (by rw [decide_eq_false h2]; decide)) (fun n9 => ?_)
  refine V_aload_n (pc := 12) dX12_behindTest_12 rfl ?_
  refine V_ldc2 (pc := 13) dX12_behindTest_13 coX12_389 ?_
  refine V_callVd (pc := 16) (ci := 12) (c_X12_isWord (k := 1) h12 hT (by decide) (by decide)) dX12_behindTest_16 mlX12_331 mkX12_isWord rfl rfl h12.o ⟨by decide, rfl⟩ ⟨Nat.le_of_ble_eq_true rfl, Nat.le_of_ble_eq_true rfl⟩ (Nat.le_of_ble_eq_true rfl) ⟨Nat.le_of_ble_eq_true rfl, Nat.le_of_ble_eq_true rfl⟩ ?_
  refine V_if_eqB (pc := 19) (tgt := 76) dX12_behindTest_19 (by decide) (fun c19 => ?_) (fun n19 => absurd n19 (by rw [decide_eq_false h1]; decide))
  refine V_aload_n (pc := 76) dX12_behindTest_76 rfl ?_
  refine V_callVd (pc := 77) (ci := 12) (c_X12_inner h12 h hb.1 hb.le) dX12_behindTest_77 mlX12_380 mkX12_inner rfl rfl h12.o ⟨by decide, rfl⟩ ⟨Nat.le_of_ble_eq_true rfl, Nat.le_of_ble_eq_true rfl⟩ (Nat.le_of_ble_eq_true rfl) ⟨Nat.le_of_ble_eq_true rfl, Nat.le_of_ble_eq_true rfl⟩ ?_
  rw [hi, pred1_0]
  refine V_iconst (pc := 80) (v := (-1)) dX12_behindTest_80 (by decide) ?_
  refine V_icmp_ne (pc := 81) (tgt := 86) dX12_behindTest_81 (by decide) (fun c81 => absurd c81 (by decide)) (fun n81 => ?_)
  refine V_iconst (pc := 84) (v := nI 4) dX12_behindTest_84 (by decide) ?_
  refine V_iret (pc := 85) dX12_behindTest_85 rfl (by first | decide | omega) (by first | decide | omega) ?_
  exact ⟨rfl, rfl, h⟩
theorem c_X12_behindTest_br (h12 : Lay12 E S o) {y : Nat × Nat} {P' : List (Nat × Nat)} {c' : CT} (h : PS o t n I0 L0 I L none (p, l, d, P, c)) (h1 : tc t n p ≠ 1) (h2 : tc t n p ≠ 2) (hb : BD 400 P c) (hi : inr P ≠ 0) (hd : 0 < d ∧ d ≤ 8) (hs : sto 1 P c = (y :: P', c')) : C E kX12_behindTest 4 0 0 [.ref o] S I L (fun r S' I' L' => r = some (.int (nI 2)) ∧ S = S' ∧ (tc t n p = 141 → PS o t n I0 L0 I' L' none (nxt t n p, l, d - 1, P', c')) ∧ (tc t n p ≠ 141 → PS o t n I0 L0 I' L' (some p) (p, l, d, P, c))) := by
  have hT : TK o t n I L p := h.1
  have ho := h12.o
  have hin := inr_le hb.le
  have hl400 := hb.1
  have hb2 := BD.st (k := 1) hb
  rw [hs] at hb2
  have hl2 : P'.length + 1 ≤ P.length := hb2.2.1
  have h33 : ¬ pred1 (inr P) = -1 := fun z => hi ((pred1_none (by omega)).mp z)
  refine C_of (by decide) (Nat.le_of_ble_eq_true rfl) ?_
  by_cases h141 : tc t n p = 141
  · skip
    refine V_aload_n (pc := 0) dX12_behindTest_0 rfl ?_
    refine V_ldc2 (pc := 1) dX12_behindTest_1 coX12_387 ?_
    refine V_callVd (pc := 4) (ci := 12) (c_X12_isWord (k := 2) h12 hT (by decide) (by decide)) dX12_behindTest_4 mlX12_331 mkX12_isWord rfl rfl h12.o ⟨by decide, rfl⟩ ⟨Nat.le_of_ble_eq_true rfl, Nat.le_of_ble_eq_true rfl⟩ (Nat.le_of_ble_eq_true rfl) ⟨Nat.le_of_ble_eq_true rfl, Nat.le_of_ble_eq_true rfl⟩ ?_
    refine V_istore_n (pc := 7) (ls' := [(0, _), (1, _)]) dX12_behindTest_7 (by decide) rfl ?_
    refine V_iload_n (pc := 8) dX12_behindTest_8 rfl ?_
    refine V_if_neB (pc := 9) (tgt := 22) dX12_behindTest_9 (by decide) (fun c9 => absurd c9 (by rw [decide_eq_false h2]; decide)) (fun n9 => ?_)
    refine V_aload_n (pc := 12) dX12_behindTest_12 rfl ?_
    refine V_ldc2 (pc := 13) dX12_behindTest_13 coX12_389 ?_
    refine V_callVd (pc := 16) (ci := 12) (c_X12_isWord (k := 1) h12 hT (by decide) (by decide)) dX12_behindTest_16 mlX12_331 mkX12_isWord rfl rfl h12.o ⟨by decide, rfl⟩ ⟨Nat.le_of_ble_eq_true rfl, Nat.le_of_ble_eq_true rfl⟩ (Nat.le_of_ble_eq_true rfl) ⟨Nat.le_of_ble_eq_true rfl, Nat.le_of_ble_eq_true rfl⟩ ?_
    refine V_if_eqB (pc := 19) (tgt := 76) dX12_behindTest_19 (by decide) (fun c19 => ?_) (fun n19 => absurd n19 (by rw [decide_eq_false h1]; decide))
    refine V_aload_n (pc := 76) dX12_behindTest_76 rfl ?_
    refine V_callVd (pc := 77) (ci := 12) (c_X12_inner h12 h hb.1 hb.le) dX12_behindTest_77 mlX12_380 mkX12_inner rfl rfl h12.o ⟨by decide, rfl⟩ ⟨Nat.le_of_ble_eq_true rfl, Nat.le_of_ble_eq_true rfl⟩ (Nat.le_of_ble_eq_true rfl) ⟨Nat.le_of_ble_eq_true rfl, Nat.le_of_ble_eq_true rfl⟩ ?_
    refine V_iconst (pc := 80) (v := (-1)) dX12_behindTest_80 (by decide) ?_
    refine V_icmp_ne (pc := 81) (tgt := 86) dX12_behindTest_81 (by decide) (fun c81 => ?_) (fun n81 => absurd n81 (by exact h33))
    refine V_aload_n (pc := 86) dX12_behindTest_86 rfl ?_
    refine V_aload_n (pc := 87) dX12_behindTest_87 rfl ?_
    refine V_bipush (pc := 88) (v := nI 41) dX12_behindTest_88 (by decide) ?_
    refine V_callVd (pc := 90) (ci := 12) (c_X12_isSign h12 hT (by omega)) dX12_behindTest_90 mlX12_344 mkX12_isSign rfl rfl h12.o ⟨by decide, rfl⟩ ⟨Nat.le_of_ble_eq_true rfl, Nat.le_of_ble_eq_true rfl⟩ (Nat.le_of_ble_eq_true rfl) ⟨Nat.le_of_ble_eq_true rfl, Nat.le_of_ble_eq_true rfl⟩ ?_
    refine V_callV (pc := 93) (ci := 12) (c_X12_must h12 h) dX12_behindTest_93 mlX12_308 mkX12_must rfl rfl h12.o ⟨by decide, rfl⟩ ⟨Nat.le_of_ble_eq_true rfl, Nat.le_of_ble_eq_true rfl⟩ (Nat.le_of_ble_eq_true rfl) ⟨Nat.le_of_ble_eq_true rfl, Nat.le_of_ble_eq_true rfl⟩ (fun r S' I' L' hp => ?_)
    obtain ⟨rfl, rfl, hP, _⟩ := hp
    have hP := hP (decide_eq_true (show tc t n p = 100 + 41 from h141))
    refine V_aload_n (pc := 96) dX12_behindTest_96 rfl ?_
    refine V_getIE (pc := 97) 12 19 dX12_behindTest_97 flX12_275 (by decide) h12.o (hP.2.2.2.2.2.2.1) ?_
    refine V_if_neB (pc := 100) (tgt := 128) dX12_behindTest_100 (by decide) (fun c100 => absurd c100 (by simp)) (fun n100 => ?_)
    refine V_aload_n (pc := 103) dX12_behindTest_103 rfl ?_
    refine V_iconst (pc := 104) (v := nI 1) dX12_behindTest_104 (by decide) ?_
    refine V_callV (pc := 105) (ci := 12) (c_X12_settle h12 (by omega) hP hb.1 hb.2.1 hb.2.2) dX12_behindTest_105 mlX12_377 mkX12_settle rfl rfl h12.o ⟨by decide, rfl⟩ ⟨Nat.le_of_ble_eq_true rfl, Nat.le_of_ble_eq_true rfl⟩ (Nat.le_of_ble_eq_true rfl) ⟨Nat.le_of_ble_eq_true rfl, Nat.le_of_ble_eq_true rfl⟩ (fun r S' I' L' hp => ?_)
    obtain ⟨rfl, rfl, rfl, hP2⟩ := hp
    rw [hs] at hP2
    refine V_aload_n (pc := 108) dX12_behindTest_108 rfl ?_
    refine V_dup (pc := 109) dX12_behindTest_109 rfl ?_
    refine V_getIE (pc := 110) 12 29 dX12_behindTest_110 flX12_315 (by decide) h12.o ((show I' o 29 = nI (P'.length + 1) from hP2.2.2.2.1)) ?_
    refine V_iconst (pc := 113) (v := nI 1) dX12_behindTest_113 (by decide) ?_
    refine V_isubN (pc := 114) dX12_behindTest_114 (by omega) ?_
    refine V_putI (pc := 115) 12 29 dX12_behindTest_115 flX12_315 (by decide) (by decide) (Or.inl rfl) rfl rfl h12.o ?_
    refine V_aload_n (pc := 118) dX12_behindTest_118 rfl ?_
    refine V_dup (pc := 119) dX12_behindTest_119 rfl ?_
    refine V_getIE (pc := 120) 12 30 dX12_behindTest_120 flX12_335 (by decide) h12.o ((show up2 I' o 29 (nI P'.length) o 30 = nI d from (up2_nej (by omega)).trans hP2.2.2.1)) ?_
    refine V_iconst (pc := 123) (v := nI 1) dX12_behindTest_123 (by decide) ?_
    refine V_isubN (pc := 124) dX12_behindTest_124 (by omega) ?_
    refine V_putI (pc := 125) 12 30 dX12_behindTest_125 flX12_335 (by decide) (by decide) (Or.inl rfl) rfl rfl h12.o ?_
    refine V_iconst (pc := 128) (v := nI 2) dX12_behindTest_128 (by decide) ?_
    refine V_iret (pc := 129) dX12_behindTest_129 rfl (by first | decide | omega) (by first | decide | omega) ?_
    exact ⟨rfl, rfl, (fun _ => hP2.pop.set30), fun z => absurd h141 z⟩
  · skip
    refine V_aload_n (pc := 0) dX12_behindTest_0 rfl ?_
    refine V_ldc2 (pc := 1) dX12_behindTest_1 coX12_387 ?_
    refine V_callVd (pc := 4) (ci := 12) (c_X12_isWord (k := 2) h12 hT (by decide) (by decide)) dX12_behindTest_4 mlX12_331 mkX12_isWord rfl rfl h12.o ⟨by decide, rfl⟩ ⟨Nat.le_of_ble_eq_true rfl, Nat.le_of_ble_eq_true rfl⟩ (Nat.le_of_ble_eq_true rfl) ⟨Nat.le_of_ble_eq_true rfl, Nat.le_of_ble_eq_true rfl⟩ ?_
    refine V_istore_n (pc := 7) (ls' := [(0, _), (1, _)]) dX12_behindTest_7 (by decide) rfl ?_
    refine V_iload_n (pc := 8) dX12_behindTest_8 rfl ?_
    refine V_if_neB (pc := 9) (tgt := 22) dX12_behindTest_9 (by decide) (fun c9 => absurd c9 (by rw [decide_eq_false h2]; decide)) (fun n9 => ?_)
    refine V_aload_n (pc := 12) dX12_behindTest_12 rfl ?_
    refine V_ldc2 (pc := 13) dX12_behindTest_13 coX12_389 ?_
    refine V_callVd (pc := 16) (ci := 12) (c_X12_isWord (k := 1) h12 hT (by decide) (by decide)) dX12_behindTest_16 mlX12_331 mkX12_isWord rfl rfl h12.o ⟨by decide, rfl⟩ ⟨Nat.le_of_ble_eq_true rfl, Nat.le_of_ble_eq_true rfl⟩ (Nat.le_of_ble_eq_true rfl) ⟨Nat.le_of_ble_eq_true rfl, Nat.le_of_ble_eq_true rfl⟩ ?_
    refine V_if_eqB (pc := 19) (tgt := 76) dX12_behindTest_19 (by decide) (fun c19 => ?_) (fun n19 => absurd n19 (by rw [decide_eq_false h1]; decide))
    refine V_aload_n (pc := 76) dX12_behindTest_76 rfl ?_
    refine V_callVd (pc := 77) (ci := 12) (c_X12_inner h12 h hb.1 hb.le) dX12_behindTest_77 mlX12_380 mkX12_inner rfl rfl h12.o ⟨by decide, rfl⟩ ⟨Nat.le_of_ble_eq_true rfl, Nat.le_of_ble_eq_true rfl⟩ (Nat.le_of_ble_eq_true rfl) ⟨Nat.le_of_ble_eq_true rfl, Nat.le_of_ble_eq_true rfl⟩ ?_
    refine V_iconst (pc := 80) (v := (-1)) dX12_behindTest_80 (by decide) ?_
    refine V_icmp_ne (pc := 81) (tgt := 86) dX12_behindTest_81 (by decide) (fun c81 => ?_) (fun n81 => absurd n81 (by exact h33))
    refine V_aload_n (pc := 86) dX12_behindTest_86 rfl ?_
    refine V_aload_n (pc := 87) dX12_behindTest_87 rfl ?_
    refine V_bipush (pc := 88) (v := nI 41) dX12_behindTest_88 (by decide) ?_
    refine V_callVd (pc := 90) (ci := 12) (c_X12_isSign h12 hT (by omega)) dX12_behindTest_90 mlX12_344 mkX12_isSign rfl rfl h12.o ⟨by decide, rfl⟩ ⟨Nat.le_of_ble_eq_true rfl, Nat.le_of_ble_eq_true rfl⟩ (Nat.le_of_ble_eq_true rfl) ⟨Nat.le_of_ble_eq_true rfl, Nat.le_of_ble_eq_true rfl⟩ ?_
    refine V_callV (pc := 93) (ci := 12) (c_X12_must h12 h) dX12_behindTest_93 mlX12_308 mkX12_must rfl rfl h12.o ⟨by decide, rfl⟩ ⟨Nat.le_of_ble_eq_true rfl, Nat.le_of_ble_eq_true rfl⟩ (Nat.le_of_ble_eq_true rfl) ⟨Nat.le_of_ble_eq_true rfl, Nat.le_of_ble_eq_true rfl⟩ (fun r S' I' L' hp => ?_)
    obtain ⟨rfl, rfl, _, hP⟩ := hp
    have hP := hP (decide_eq_false (show ¬ tc t n p = 100 + 41 from h141))
    refine V_aload_n (pc := 96) dX12_behindTest_96 rfl ?_
    refine V_getIE (pc := 97) 12 19 dX12_behindTest_97 flX12_275 (by decide) h12.o (hP.2.2.2.2.2.2.1) ?_
    refine V_if_neB (pc := 100) (tgt := 128) dX12_behindTest_100 (by decide) (fun c100 => ?_) (fun n100 => absurd n100 (by simp))
    refine V_iconst (pc := 128) (v := nI 2) dX12_behindTest_128 (by decide) ?_
    refine V_iret (pc := 129) dX12_behindTest_129 rfl (by first | decide | omega) (by first | decide | omega) ?_
    exact ⟨rfl, rfl, (fun z => absurd z h141), fun _ => hP⟩
end PE
