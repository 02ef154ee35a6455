/-! THE REFERENCE's public methods, II: what is asked -/
section MI2
variable {E : EnT} {S : ST} {I : IT} {L : LT} {o : Nat} {A : AT}
theorem not_m1 : ¬ (-1 : Int32) = nI 0 := by decide
def spOf (A : AT) (x y : Int32) : Int32 := if bnd x (aq A 0) = true ∧ bnd y 15 = true then (if cln y = 0 then nI (aq A (62 + cln x)) else if cln y = 1 then nI (nts (aq A) (cln x)) else if cln y = 2 then nI (aq A (56 + cln x)) else if cln y = 3 then pred1 (aq A (68 + cln x)) else if cln y = 4 then nI (aq A (74 + cln x)) else if cln y = 5 then nI (lst (lwf A) (aq A) (cln x)) else if cln y = 6 then nI (lss (lwf A) (aq A) (cln x)) else nI (aq A (8 + 8 * cln x + (cln y - 7)))) else -1
theorem c_X12_of (h12 : Lay12 E S o) (hM : MR o I L A) (hA : wfA A) {x y : Int32} : Cm E kX12_of 7 [.ref o, .int x, .int y] S I L o (.int (spOf A x y)) A := by
  have hq := hA.q
  have hnb := hq.nb
  have hl := hA.law
  have e14 : decide (lN 0 ≤ y.toInt64 ∧ y.toInt64 ≤ (14 : Int64)) = bnd y 15 := bnd64' (n := 14) (by omega)
  by_cases hx : bnd x (aq A 0) = true
  · by_cases hy : bnd y 15 = true
    · obtain ⟨b, hb, hxb⟩ := bnd_ex (by omega) hx
      obtain ⟨k, hk, hyk⟩ := bnd_ex (by omega) hy
      have ev : spOf A x y = (if k = 0 then nI (aq A (62 + b)) else if k = 1 then nI (nts (aq A) b) else if k = 2 then nI (aq A (56 + b)) else if k = 3 then pred1 (aq A (68 + b)) else if k = 4 then nI (aq A (74 + b)) else if k = 5 then nI (lst (lwf A) (aq A) b) else if k = 6 then nI (lss (lwf A) (aq A) b) else nI (aq A (8 + 8 * b + (k - 7)))) := by
        unfold spOf
        rw [if_pos ⟨hx, hy⟩, hxb, hyk, cln_nI (by omega), cln_nI (by omega)]
      rw [ev]
      subst hxb hyk
      refine C_of (by decide) (Nat.le_of_ble_eq_true rfl) ?_
      have hk7 : k = 0 ∨ k = 1 ∨ k = 2 ∨ k = 3 ∨ k = 4 ∨ k = 5 ∨ k = 6 ∨ 7 ≤ k := by omega
      rcases hk7 with rfl | rfl | rfl | rfl | rfl | rfl | rfl | h7
      · skip
        refine V_aload_n (pc := 0) dX12_of_0 rfl ?_
        refine V_iconst (pc := 1) (v := nI 0) dX12_of_1 (by decide) ?_
        refine V_putI (pc := 2) 12 0 dX12_of_2 flX12_175 (by decide) (by decide) (Or.inl rfl) rfl rfl h12.o ?_
        have hM := hM.thrown (v := nI 0)
        have hF : FrM o (up2 I o 0 (nI 0)) I L L := FrM.rf.up (by omega)
        generalize up2 I o 0 (nI 0) = I0 at hM hF ⊢
        have hr := hM.row
        refine V_aload_n (pc := 5) dX12_of_5 rfl ?_
        refine V_iload_n (pc := 6) dX12_of_6 rfl ?_
        refine V_callVd (pc := 7) (ci := 12) (c_X12_isBox (by first | assumption | omega | exact h12) (by first | assumption | omega | exact h12) (by first | assumption | omega | exact h12)) dX12_of_7 mlX12_213 mkX12_isBox rfl rfl h12.o ⟨by decide, rfl⟩ ⟨Nat.le_of_ble_eq_true rfl, Nat.le_of_ble_eq_true rfl⟩ (Nat.le_of_ble_eq_true rfl) ⟨Nat.le_of_ble_eq_true rfl, Nat.le_of_ble_eq_true rfl⟩ ?_
        refine V_if_eqB (pc := 10) (tgt := 25) dX12_of_10 (by decide) (fun c10 => absurd c10 (by rw [hx]; decide)) (fun n10 => ?_)
        refine V_iload_n (pc := 13) dX12_of_13 rfl ?_
        refine V_i2l (pc := 14) dX12_of_14 rfl ?_
        refine V_lconst (pc := 15) (v := lN 0) dX12_of_15 (by decide) ?_
        refine V_ldc2 (pc := 16) dX12_of_16 coX12_217 ?_
        refine V_callSd (pc := 19) (c_X12_in) dX12_of_19 mlX12_195 mkX12_in rfl rfl ⟨Nat.le_of_ble_eq_true rfl, Nat.le_of_ble_eq_true rfl⟩ (Nat.le_of_ble_eq_true rfl) ⟨Nat.le_of_ble_eq_true rfl, Nat.le_of_ble_eq_true rfl⟩ ?_
        refine V_if_neB (pc := 22) (tgt := 27) dX12_of_22 (by decide) (fun c22 => ?_) (fun n22 => absurd n22 (by rw [e14, hy]; decide))
        refine V_iload_n (pc := 27) dX12_of_27 rfl ?_
        refine V_tableIn (pc := 28) (off := 44) (tgt := 72) dX12_of_28 (by decide) (by decide) (by decide) (by decide) ?_
        refine V_aload_n (pc := 72) dX12_of_72 rfl ?_
        refine V_getR (pc := 73) 12 3 dX12_of_73 flX12_13 (by decide) h12.o h12.R3 ?_
        refine V_bipush (pc := 76) (v := nI 62) dX12_of_76 (by decide) ?_
        refine V_iload_n (pc := 78) dX12_of_78 rfl ?_
        refine V_iaddN (pc := 79) dX12_of_79 ?_
        refine V_ialoadE (pc := 80) dX12_of_80 h12.A3 (by first | decide | omega) (by omega) (hr.n (by omega)) ?_
        refine V_iret (pc := 81) dX12_of_81 rfl (by first | decide | omega) (by first | decide | omega) ?_
        exact ⟨rfl, rfl, hM, hF⟩
      · skip
        refine V_aload_n (pc := 0) dX12_of_0 rfl ?_
        refine V_iconst (pc := 1) (v := nI 0) dX12_of_1 (by decide) ?_
        refine V_putI (pc := 2) 12 0 dX12_of_2 flX12_175 (by decide) (by decide) (Or.inl rfl) rfl rfl h12.o ?_
        have hM := hM.thrown (v := nI 0)
        have hF : FrM o (up2 I o 0 (nI 0)) I L L := FrM.rf.up (by omega)
        generalize up2 I o 0 (nI 0) = I0 at hM hF ⊢
        have hr := hM.row
        refine V_aload_n (pc := 5) dX12_of_5 rfl ?_
        refine V_iload_n (pc := 6) dX12_of_6 rfl ?_
        refine V_callVd (pc := 7) (ci := 12) (c_X12_isBox (by first | assumption | omega | exact h12) (by first | assumption | omega | exact h12) (by first | assumption | omega | exact h12)) dX12_of_7 mlX12_213 mkX12_isBox rfl rfl h12.o ⟨by decide, rfl⟩ ⟨Nat.le_of_ble_eq_true rfl, Nat.le_of_ble_eq_true rfl⟩ (Nat.le_of_ble_eq_true rfl) ⟨Nat.le_of_ble_eq_true rfl, Nat.le_of_ble_eq_true rfl⟩ ?_
        refine V_if_eqB (pc := 10) (tgt := 25) dX12_of_10 (by decide) (fun c10 => absurd c10 (by rw [hx]; decide)) (fun n10 => ?_)
        refine V_iload_n (pc := 13) dX12_of_13 rfl ?_
        refine V_i2l (pc := 14) dX12_of_14 rfl ?_
        refine V_lconst (pc := 15) (v := lN 0) dX12_of_15 (by decide) ?_
        refine V_ldc2 (pc := 16) dX12_of_16 coX12_217 ?_
        refine V_callSd (pc := 19) (c_X12_in) dX12_of_19 mlX12_195 mkX12_in rfl rfl ⟨Nat.le_of_ble_eq_true rfl, Nat.le_of_ble_eq_true rfl⟩ (Nat.le_of_ble_eq_true rfl) ⟨Nat.le_of_ble_eq_true rfl, Nat.le_of_ble_eq_true rfl⟩ ?_
        refine V_if_neB (pc := 22) (tgt := 27) dX12_of_22 (by decide) (fun c22 => ?_) (fun n22 => absurd n22 (by rw [e14, hy]; decide))
        refine V_iload_n (pc := 27) dX12_of_27 rfl ?_
        refine V_tableIn (pc := 28) (off := 54) (tgt := 82) dX12_of_28 (by decide) (by decide) (by decide) (by decide) ?_
        refine V_aload_n (pc := 82) dX12_of_82 rfl ?_
        refine V_iload_n (pc := 83) dX12_of_83 rfl ?_
        refine V_callVd (pc := 84) (ci := 12) (c_X12_notesOf (by first | assumption | omega | exact h12) (by first | assumption | omega | exact h12) (by first | assumption | omega | exact h12) (by first | assumption | omega | exact h12)) dX12_of_84 mlX12_219 mkX12_notesOf rfl rfl h12.o ⟨by decide, rfl⟩ ⟨Nat.le_of_ble_eq_true rfl, Nat.le_of_ble_eq_true rfl⟩ (Nat.le_of_ble_eq_true rfl) ⟨Nat.le_of_ble_eq_true rfl, Nat.le_of_ble_eq_true rfl⟩ ?_
        refine V_iret (pc := 87) dX12_of_87 rfl (by first | decide | omega) (by first | decide | omega) ?_
        exact ⟨rfl, rfl, hM, hF⟩
      · skip
        refine V_aload_n (pc := 0) dX12_of_0 rfl ?_
        refine V_iconst (pc := 1) (v := nI 0) dX12_of_1 (by decide) ?_
        refine V_putI (pc := 2) 12 0 dX12_of_2 flX12_175 (by decide) (by decide) (Or.inl rfl) rfl rfl h12.o ?_
        have hM := hM.thrown (v := nI 0)
        have hF : FrM o (up2 I o 0 (nI 0)) I L L := FrM.rf.up (by omega)
        generalize up2 I o 0 (nI 0) = I0 at hM hF ⊢
        have hr := hM.row
        refine V_aload_n (pc := 5) dX12_of_5 rfl ?_
        refine V_iload_n (pc := 6) dX12_of_6 rfl ?_
        refine V_callVd (pc := 7) (ci := 12) (c_X12_isBox (by first | assumption | omega | exact h12) (by first | assumption | omega | exact h12) (by first | assumption | omega | exact h12)) dX12_of_7 mlX12_213 mkX12_isBox rfl rfl h12.o ⟨by decide, rfl⟩ ⟨Nat.le_of_ble_eq_true rfl, Nat.le_of_ble_eq_true rfl⟩ (Nat.le_of_ble_eq_true rfl) ⟨Nat.le_of_ble_eq_true rfl, Nat.le_of_ble_eq_true rfl⟩ ?_
        refine V_if_eqB (pc := 10) (tgt := 25) dX12_of_10 (by decide) (fun c10 => absurd c10 (by rw [hx]; decide)) (fun n10 => ?_)
        refine V_iload_n (pc := 13) dX12_of_13 rfl ?_
        refine V_i2l (pc := 14) dX12_of_14 rfl ?_
        refine V_lconst (pc := 15) (v := lN 0) dX12_of_15 (by decide) ?_
        refine V_ldc2 (pc := 16) dX12_of_16 coX12_217 ?_
        refine V_callSd (pc := 19) (c_X12_in) dX12_of_19 mlX12_195 mkX12_in rfl rfl ⟨Nat.le_of_ble_eq_true rfl, Nat.le_of_ble_eq_true rfl⟩ (Nat.le_of_ble_eq_true rfl) ⟨Nat.le_of_ble_eq_true rfl, Nat.le_of_ble_eq_true rfl⟩ ?_
        refine V_if_neB (pc := 22) (tgt := 27) dX12_of_22 (by decide) (fun c22 => ?_) (fun n22 => absurd n22 (by rw [e14, hy]; decide))
        refine V_iload_n (pc := 27) dX12_of_27 rfl ?_
        refine V_tableIn (pc := 28) (off := 60) (tgt := 88) dX12_of_28 (by decide) (by decide) (by decide) (by decide) ?_
        refine V_aload_n (pc := 88) dX12_of_88 rfl ?_
        refine V_getR (pc := 89) 12 3 dX12_of_89 flX12_13 (by decide) h12.o h12.R3 ?_
        refine V_bipush (pc := 92) (v := nI 56) dX12_of_92 (by decide) ?_
        refine V_iload_n (pc := 94) dX12_of_94 rfl ?_
        refine V_iaddN (pc := 95) dX12_of_95 ?_
        refine V_ialoadE (pc := 96) dX12_of_96 h12.A3 (by first | decide | omega) (by omega) (hr.n (by omega)) ?_
        refine V_iret (pc := 97) dX12_of_97 rfl (by first | decide | omega) (by first | decide | omega) ?_
        exact ⟨rfl, rfl, hM, hF⟩
      · skip
        refine V_aload_n (pc := 0) dX12_of_0 rfl ?_
        refine V_iconst (pc := 1) (v := nI 0) dX12_of_1 (by decide) ?_
        refine V_putI (pc := 2) 12 0 dX12_of_2 flX12_175 (by decide) (by decide) (Or.inl rfl) rfl rfl h12.o ?_
        have hM := hM.thrown (v := nI 0)
        have hF : FrM o (up2 I o 0 (nI 0)) I L L := FrM.rf.up (by omega)
        generalize up2 I o 0 (nI 0) = I0 at hM hF ⊢
        have hr := hM.row
        refine V_aload_n (pc := 5) dX12_of_5 rfl ?_
        refine V_iload_n (pc := 6) dX12_of_6 rfl ?_
        refine V_callVd (pc := 7) (ci := 12) (c_X12_isBox (by first | assumption | omega | exact h12) (by first | assumption | omega | exact h12) (by first | assumption | omega | exact h12)) dX12_of_7 mlX12_213 mkX12_isBox rfl rfl h12.o ⟨by decide, rfl⟩ ⟨Nat.le_of_ble_eq_true rfl, Nat.le_of_ble_eq_true rfl⟩ (Nat.le_of_ble_eq_true rfl) ⟨Nat.le_of_ble_eq_true rfl, Nat.le_of_ble_eq_true rfl⟩ ?_
        refine V_if_eqB (pc := 10) (tgt := 25) dX12_of_10 (by decide) (fun c10 => absurd c10 (by rw [hx]; decide)) (fun n10 => ?_)
        refine V_iload_n (pc := 13) dX12_of_13 rfl ?_
        refine V_i2l (pc := 14) dX12_of_14 rfl ?_
        refine V_lconst (pc := 15) (v := lN 0) dX12_of_15 (by decide) ?_
        refine V_ldc2 (pc := 16) dX12_of_16 coX12_217 ?_
        refine V_callSd (pc := 19) (c_X12_in) dX12_of_19 mlX12_195 mkX12_in rfl rfl ⟨Nat.le_of_ble_eq_true rfl, Nat.le_of_ble_eq_true rfl⟩ (Nat.le_of_ble_eq_true rfl) ⟨Nat.le_of_ble_eq_true rfl, Nat.le_of_ble_eq_true rfl⟩ ?_
        refine V_if_neB (pc := 22) (tgt := 27) dX12_of_22 (by decide) (fun c22 => ?_) (fun n22 => absurd n22 (by rw [e14, hy]; decide))
        refine V_iload_n (pc := 27) dX12_of_27 rfl ?_
        refine V_tableIn (pc := 28) (off := 70) (tgt := 98) dX12_of_28 (by decide) (by decide) (by decide) (by decide) ?_
        refine V_aload_n (pc := 98) dX12_of_98 rfl ?_
        refine V_getR (pc := 99) 12 3 dX12_of_99 flX12_13 (by decide) h12.o h12.R3 ?_
        refine V_bipush (pc := 102) (v := nI 68) dX12_of_102 (by decide) ?_
        refine V_iload_n (pc := 104) dX12_of_104 rfl ?_
        refine V_iaddN (pc := 105) dX12_of_105 ?_
        refine V_ialoadE (pc := 106) dX12_of_106 h12.A3 (by first | decide | omega) (by omega) (hr.w (by omega)) ?_
        refine V_iret (pc := 107) dX12_of_107 rfl (by first | decide | omega) (by first | decide | omega) ?_
        exact ⟨rfl, rfl, hM, hF⟩
      · skip
        refine V_aload_n (pc := 0) dX12_of_0 rfl ?_
        refine V_iconst (pc := 1) (v := nI 0) dX12_of_1 (by decide) ?_
        refine V_putI (pc := 2) 12 0 dX12_of_2 flX12_175 (by decide) (by decide) (Or.inl rfl) rfl rfl h12.o ?_
        have hM := hM.thrown (v := nI 0)
        have hF : FrM o (up2 I o 0 (nI 0)) I L L := FrM.rf.up (by omega)
        generalize up2 I o 0 (nI 0) = I0 at hM hF ⊢
        have hr := hM.row
        refine V_aload_n (pc := 5) dX12_of_5 rfl ?_
        refine V_iload_n (pc := 6) dX12_of_6 rfl ?_
        refine V_callVd (pc := 7) (ci := 12) (c_X12_isBox (by first | assumption | omega | exact h12) (by first | assumption | omega | exact h12) (by first | assumption | omega | exact h12)) dX12_of_7 mlX12_213 mkX12_isBox rfl rfl h12.o ⟨by decide, rfl⟩ ⟨Nat.le_of_ble_eq_true rfl, Nat.le_of_ble_eq_true rfl⟩ (Nat.le_of_ble_eq_true rfl) ⟨Nat.le_of_ble_eq_true rfl, Nat.le_of_ble_eq_true rfl⟩ ?_
        refine V_if_eqB (pc := 10) (tgt := 25) dX12_of_10 (by decide) (fun c10 => absurd c10 (by rw [hx]; decide)) (fun n10 => ?_)
        refine V_iload_n (pc := 13) dX12_of_13 rfl ?_
        refine V_i2l (pc := 14) dX12_of_14 rfl ?_
        refine V_lconst (pc := 15) (v := lN 0) dX12_of_15 (by decide) ?_
        refine V_ldc2 (pc := 16) dX12_of_16 coX12_217 ?_
        refine V_callSd (pc := 19) (c_X12_in) dX12_of_19 mlX12_195 mkX12_in rfl rfl ⟨Nat.le_of_ble_eq_true rfl, Nat.le_of_ble_eq_true rfl⟩ (Nat.le_of_ble_eq_true rfl) ⟨Nat.le_of_ble_eq_true rfl, Nat.le_of_ble_eq_true rfl⟩ ?_
        refine V_if_neB (pc := 22) (tgt := 27) dX12_of_22 (by decide) (fun c22 => ?_) (fun n22 => absurd n22 (by rw [e14, hy]; decide))
        refine V_iload_n (pc := 27) dX12_of_27 rfl ?_
        refine V_tableIn (pc := 28) (off := 80) (tgt := 108) dX12_of_28 (by decide) (by decide) (by decide) (by decide) ?_
        refine V_aload_n (pc := 108) dX12_of_108 rfl ?_
        refine V_getR (pc := 109) 12 3 dX12_of_109 flX12_13 (by decide) h12.o h12.R3 ?_
        refine V_bipush (pc := 112) (v := nI 74) dX12_of_112 (by decide) ?_
        refine V_iload_n (pc := 114) dX12_of_114 rfl ?_
        refine V_iaddN (pc := 115) dX12_of_115 ?_
        refine V_ialoadE (pc := 116) dX12_of_116 h12.A3 (by first | decide | omega) (by omega) (hr.n (by omega)) ?_
        refine V_iret (pc := 117) dX12_of_117 rfl (by first | decide | omega) (by first | decide | omega) ?_
        exact ⟨rfl, rfl, hM, hF⟩
      · skip
        refine V_aload_n (pc := 0) dX12_of_0 rfl ?_
        refine V_iconst (pc := 1) (v := nI 0) dX12_of_1 (by decide) ?_
        refine V_putI (pc := 2) 12 0 dX12_of_2 flX12_175 (by decide) (by decide) (Or.inl rfl) rfl rfl h12.o ?_
        have hM := hM.thrown (v := nI 0)
        have hF : FrM o (up2 I o 0 (nI 0)) I L L := FrM.rf.up (by omega)
        generalize up2 I o 0 (nI 0) = I0 at hM hF ⊢
        have hr := hM.row
        refine V_aload_n (pc := 5) dX12_of_5 rfl ?_
        refine V_iload_n (pc := 6) dX12_of_6 rfl ?_
        refine V_callVd (pc := 7) (ci := 12) (c_X12_isBox (by first | assumption | omega | exact h12) (by first | assumption | omega | exact h12) (by first | assumption | omega | exact h12)) dX12_of_7 mlX12_213 mkX12_isBox rfl rfl h12.o ⟨by decide, rfl⟩ ⟨Nat.le_of_ble_eq_true rfl, Nat.le_of_ble_eq_true rfl⟩ (Nat.le_of_ble_eq_true rfl) ⟨Nat.le_of_ble_eq_true rfl, Nat.le_of_ble_eq_true rfl⟩ ?_
        refine V_if_eqB (pc := 10) (tgt := 25) dX12_of_10 (by decide) (fun c10 => absurd c10 (by rw [hx]; decide)) (fun n10 => ?_)
        refine V_iload_n (pc := 13) dX12_of_13 rfl ?_
        refine V_i2l (pc := 14) dX12_of_14 rfl ?_
        refine V_lconst (pc := 15) (v := lN 0) dX12_of_15 (by decide) ?_
        refine V_ldc2 (pc := 16) dX12_of_16 coX12_217 ?_
        refine V_callSd (pc := 19) (c_X12_in) dX12_of_19 mlX12_195 mkX12_in rfl rfl ⟨Nat.le_of_ble_eq_true rfl, Nat.le_of_ble_eq_true rfl⟩ (Nat.le_of_ble_eq_true rfl) ⟨Nat.le_of_ble_eq_true rfl, Nat.le_of_ble_eq_true rfl⟩ ?_
        refine V_if_neB (pc := 22) (tgt := 27) dX12_of_22 (by decide) (fun c22 => ?_) (fun n22 => absurd n22 (by rw [e14, hy]; decide))
        refine V_iload_n (pc := 27) dX12_of_27 rfl ?_
        refine V_tableIn (pc := 28) (off := 90) (tgt := 118) dX12_of_28 (by decide) (by decide) (by decide) (by decide) ?_
        refine V_aload_n (pc := 118) dX12_of_118 rfl ?_
        refine V_iload_n (pc := 119) dX12_of_119 rfl ?_
        refine V_callV (pc := 120) (ci := 12) (c_X12_lastsOf h12 hr hq (hM.law hq) hl.1 hM.od (by omega)) dX12_of_120 mlX12_222 mkX12_lastsOf rfl rfl h12.o ⟨by decide, rfl⟩ ⟨Nat.le_of_ble_eq_true rfl, Nat.le_of_ble_eq_true rfl⟩ (Nat.le_of_ble_eq_true rfl) ⟨Nat.le_of_ble_eq_true rfl, Nat.le_of_ble_eq_true rfl⟩ (fun r S' I' L' hp => ?_)
        obtain ⟨rfl, rfl, hI, hL⟩ := hp
        refine V_iret (pc := 123) dX12_of_123 rfl (by first | decide | omega) (by first | decide | omega) ?_
        exact ⟨rfl, rfl, hM.ts hI hL, hF.ts hI hL⟩
      · skip
        refine V_aload_n (pc := 0) dX12_of_0 rfl ?_
        refine V_iconst (pc := 1) (v := nI 0) dX12_of_1 (by decide) ?_
        refine V_putI (pc := 2) 12 0 dX12_of_2 flX12_175 (by decide) (by decide) (Or.inl rfl) rfl rfl h12.o ?_
        have hM := hM.thrown (v := nI 0)
        have hF : FrM o (up2 I o 0 (nI 0)) I L L := FrM.rf.up (by omega)
        generalize up2 I o 0 (nI 0) = I0 at hM hF ⊢
        have hr := hM.row
        refine V_aload_n (pc := 5) dX12_of_5 rfl ?_
        refine V_iload_n (pc := 6) dX12_of_6 rfl ?_
        refine V_callVd (pc := 7) (ci := 12) (c_X12_isBox (by first | assumption | omega | exact h12) (by first | assumption | omega | exact h12) (by first | assumption | omega | exact h12)) dX12_of_7 mlX12_213 mkX12_isBox rfl rfl h12.o ⟨by decide, rfl⟩ ⟨Nat.le_of_ble_eq_true rfl, Nat.le_of_ble_eq_true rfl⟩ (Nat.le_of_ble_eq_true rfl) ⟨Nat.le_of_ble_eq_true rfl, Nat.le_of_ble_eq_true rfl⟩ ?_
        refine V_if_eqB (pc := 10) (tgt := 25) dX12_of_10 (by decide) (fun c10 => absurd c10 (by rw [hx]; decide)) (fun n10 => ?_)
        refine V_iload_n (pc := 13) dX12_of_13 rfl ?_
        refine V_i2l (pc := 14) dX12_of_14 rfl ?_
        refine V_lconst (pc := 15) (v := lN 0) dX12_of_15 (by decide) ?_
        refine V_ldc2 (pc := 16) dX12_of_16 coX12_217 ?_
        refine V_callSd (pc := 19) (c_X12_in) dX12_of_19 mlX12_195 mkX12_in rfl rfl ⟨Nat.le_of_ble_eq_true rfl, Nat.le_of_ble_eq_true rfl⟩ (Nat.le_of_ble_eq_true rfl) ⟨Nat.le_of_ble_eq_true rfl, Nat.le_of_ble_eq_true rfl⟩ ?_
        refine V_if_neB (pc := 22) (tgt := 27) dX12_of_22 (by decide) (fun c22 => ?_) (fun n22 => absurd n22 (by rw [e14, hy]; decide))
        refine V_iload_n (pc := 27) dX12_of_27 rfl ?_
        refine V_tableIn (pc := 28) (off := 96) (tgt := 124) dX12_of_28 (by decide) (by decide) (by decide) (by decide) ?_
        refine V_aload_n (pc := 124) dX12_of_124 rfl ?_
        refine V_iload_n (pc := 125) dX12_of_125 rfl ?_
        refine V_callV (pc := 126) (ci := 12) (c_X12_losesOf h12 hr hq (hM.law hq) hl.1 hM.od (by omega)) dX12_of_126 mlX12_225 mkX12_losesOf rfl rfl h12.o ⟨by decide, rfl⟩ ⟨Nat.le_of_ble_eq_true rfl, Nat.le_of_ble_eq_true rfl⟩ (Nat.le_of_ble_eq_true rfl) ⟨Nat.le_of_ble_eq_true rfl, Nat.le_of_ble_eq_true rfl⟩ (fun r S' I' L' hp => ?_)
        obtain ⟨rfl, rfl, hI, hL⟩ := hp
        refine V_iret (pc := 129) dX12_of_129 rfl (by first | decide | omega) (by first | decide | omega) ?_
        exact ⟨rfl, rfl, hM.ts hI hL, hF.ts hI hL⟩
      · skip
        refine V_aload_n (pc := 0) dX12_of_0 rfl ?_
        refine V_iconst (pc := 1) (v := nI 0) dX12_of_1 (by decide) ?_
        refine V_putI (pc := 2) 12 0 dX12_of_2 flX12_175 (by decide) (by decide) (Or.inl rfl) rfl rfl h12.o ?_
        have hM := hM.thrown (v := nI 0)
        have hF : FrM o (up2 I o 0 (nI 0)) I L L := FrM.rf.up (by omega)
        generalize up2 I o 0 (nI 0) = I0 at hM hF ⊢
        have hr := hM.row
        refine V_aload_n (pc := 5) dX12_of_5 rfl ?_
        refine V_iload_n (pc := 6) dX12_of_6 rfl ?_
        refine V_callVd (pc := 7) (ci := 12) (c_X12_isBox (by first | assumption | omega | exact h12) (by first | assumption | omega | exact h12) (by first | assumption | omega | exact h12)) dX12_of_7 mlX12_213 mkX12_isBox rfl rfl h12.o ⟨by decide, rfl⟩ ⟨Nat.le_of_ble_eq_true rfl, Nat.le_of_ble_eq_true rfl⟩ (Nat.le_of_ble_eq_true rfl) ⟨Nat.le_of_ble_eq_true rfl, Nat.le_of_ble_eq_true rfl⟩ ?_
        refine V_if_eqB (pc := 10) (tgt := 25) dX12_of_10 (by decide) (fun c10 => absurd c10 (by rw [hx]; decide)) (fun n10 => ?_)
        refine V_iload_n (pc := 13) dX12_of_13 rfl ?_
        refine V_i2l (pc := 14) dX12_of_14 rfl ?_
        refine V_lconst (pc := 15) (v := lN 0) dX12_of_15 (by decide) ?_
        refine V_ldc2 (pc := 16) dX12_of_16 coX12_217 ?_
        refine V_callSd (pc := 19) (c_X12_in) dX12_of_19 mlX12_195 mkX12_in rfl rfl ⟨Nat.le_of_ble_eq_true rfl, Nat.le_of_ble_eq_true rfl⟩ (Nat.le_of_ble_eq_true rfl) ⟨Nat.le_of_ble_eq_true rfl, Nat.le_of_ble_eq_true rfl⟩ ?_
        refine V_if_neB (pc := 22) (tgt := 27) dX12_of_22 (by decide) (fun c22 => ?_) (fun n22 => absurd n22 (by rw [e14, hy]; decide))
        refine V_iload_n (pc := 27) dX12_of_27 rfl ?_
        refine V_tableOut (pc := 28) (tgt := 130) dX12_of_28 (Or.inr (by rw [nI_toInt (by omega)]; omega)) (by decide) ?_
        refine V_aload_n (pc := 130) dX12_of_130 rfl ?_
        refine V_getR (pc := 131) 12 3 dX12_of_131 flX12_13 (by decide) h12.o h12.R3 ?_
        refine V_bipush (pc := 134) (v := nI 8) dX12_of_134 (by decide) ?_
        refine V_bipush (pc := 136) (v := nI 8) dX12_of_136 (by decide) ?_
        refine V_iload_n (pc := 138) dX12_of_138 rfl ?_
        refine V_imulN (pc := 139) dX12_of_139 ?_
        refine V_iaddN (pc := 140) dX12_of_140 ?_
        refine V_iload_n (pc := 141) dX12_of_141 rfl ?_
        refine V_iaddN (pc := 142) dX12_of_142 ?_
        refine V_bipush (pc := 143) (v := nI 7) dX12_of_143 (by decide) ?_
        refine V_isubN (pc := 145) dX12_of_145 (by omega) ?_
        refine V_ialoadE (pc := 146) dX12_of_146 h12.A3 (by first | decide | omega) (by omega) (show _ = nI (aq A (8 + 8 * b + (k - 7))) by rw [show 8 + 8 * b + k - 7 = 8 + 8 * b + (k - 7) by omega]; exact hr.n (by omega)) ?_
        refine V_iret (pc := 147) dX12_of_147 rfl (by first | decide | omega) (by first | decide | omega) ?_
        refine ⟨?_, rfl, hM, hF⟩
        rw [if_neg (by omega), if_neg (by omega), if_neg (by omega), if_neg (by omega), if_neg (by omega), if_neg (by omega), if_neg (by omega)]
    · have ev : spOf A x y = -1 := by unfold spOf; rw [if_neg (fun z => hy z.2)]
      rw [ev]
      refine C_of (by decide) (Nat.le_of_ble_eq_true rfl) ?_
      refine V_aload_n (pc := 0) dX12_of_0 rfl ?_
      refine V_iconst (pc := 1) (v := nI 0) dX12_of_1 (by decide) ?_
      refine V_putI (pc := 2) 12 0 dX12_of_2 flX12_175 (by decide) (by decide) (Or.inl rfl) rfl rfl h12.o ?_
      have hM := hM.thrown (v := nI 0)
      have hF : FrM o (up2 I o 0 (nI 0)) I L L := FrM.rf.up (by omega)
      generalize up2 I o 0 (nI 0) = I0 at hM hF ⊢
      have hr := hM.row
      refine V_aload_n (pc := 5) dX12_of_5 rfl ?_
      refine V_iload_n (pc := 6) dX12_of_6 rfl ?_
      refine V_callVd (pc := 7) (ci := 12) (c_X12_isBox (by first | assumption | omega | exact h12) (by first | assumption | omega | exact h12) (by first | assumption | omega | exact h12)) dX12_of_7 mlX12_213 mkX12_isBox rfl rfl h12.o ⟨by decide, rfl⟩ ⟨Nat.le_of_ble_eq_true rfl, Nat.le_of_ble_eq_true rfl⟩ (Nat.le_of_ble_eq_true rfl) ⟨Nat.le_of_ble_eq_true rfl, Nat.le_of_ble_eq_true rfl⟩ ?_
      refine V_if_eqB (pc := 10) (tgt := 25) dX12_of_10 (by decide) (fun c10 => absurd c10 (by rw [hx]; decide)) (fun n10 => ?_)
      refine V_iload_n (pc := 13) dX12_of_13 rfl ?_
      refine V_i2l (pc := 14) dX12_of_14 rfl ?_
      refine V_lconst (pc := 15) (v := lN 0) dX12_of_15 (by decide) ?_
      refine V_ldc2 (pc := 16) dX12_of_16 coX12_217 ?_
      refine V_callSd (pc := 19) (c_X12_in) dX12_of_19 mlX12_195 mkX12_in rfl rfl ⟨Nat.le_of_ble_eq_true rfl, Nat.le_of_ble_eq_true rfl⟩ (Nat.le_of_ble_eq_true rfl) ⟨Nat.le_of_ble_eq_true rfl, Nat.le_of_ble_eq_true rfl⟩ ?_
      refine V_if_neB (pc := 22) (tgt := 27) dX12_of_22 (by decide) (fun c22 => absurd c22 (by rw [e14]; exact hy)) (fun n22 => ?_)
      refine V_iconst (pc := 25) (v := (-1)) dX12_of_25 (by decide) ?_
      refine V_iret (pc := 26) dX12_of_26 rfl (by first | decide | omega) (by first | decide | omega) ?_
      exact ⟨rfl, rfl, hM, hF⟩
  · have ev : spOf A x y = -1 := by unfold spOf; rw [if_neg (fun z => hx z.1)]
    rw [ev]
    refine C_of (by decide) (Nat.le_of_ble_eq_true rfl) ?_
    refine V_aload_n (pc := 0) dX12_of_0 rfl ?_
    refine V_iconst (pc := 1) (v := nI 0) dX12_of_1 (by decide) ?_
    refine V_putI (pc := 2) 12 0 dX12_of_2 flX12_175 (by decide) (by decide) (Or.inl rfl) rfl rfl h12.o ?_
    have hM := hM.thrown (v := nI 0)
    have hF : FrM o (up2 I o 0 (nI 0)) I L L := FrM.rf.up (by omega)
    generalize up2 I o 0 (nI 0) = I0 at hM hF ⊢
    have hr := hM.row
    refine V_aload_n (pc := 5) dX12_of_5 rfl ?_
    refine V_iload_n (pc := 6) dX12_of_6 rfl ?_
    refine V_callVd (pc := 7) (ci := 12) (c_X12_isBox (by first | assumption | omega | exact h12) (by first | assumption | omega | exact h12) (by first | assumption | omega | exact h12)) dX12_of_7 mlX12_213 mkX12_isBox rfl rfl h12.o ⟨by decide, rfl⟩ ⟨Nat.le_of_ble_eq_true rfl, Nat.le_of_ble_eq_true rfl⟩ (Nat.le_of_ble_eq_true rfl) ⟨Nat.le_of_ble_eq_true rfl, Nat.le_of_ble_eq_true rfl⟩ ?_
    refine V_if_eqB (pc := 10) (tgt := 25) dX12_of_10 (by decide) (fun c10 => ?_) (fun n10 => absurd n10 (by exact hx))
    refine V_iconst (pc := 25) (v := (-1)) dX12_of_25 (by decide) ?_
    refine V_iret (pc := 26) dX12_of_26 rfl (by first | decide | omega) (by first | decide | omega) ?_
    exact ⟨rfl, rfl, hM, hF⟩
def spAt (A : AT) (x y : Int32) : Int32 := if bnd x (aq A 1) = true ∧ bnd y 3 = true then (if cln y = 0 then nI (aq A (80 + cln x)) else if cln y = 1 then nI (aq A (86 + cln x)) else pred1 (bof (aq A) (cln x) (aq A 0))) else -1
theorem out3 {y : Int32} {n : Nat} (hn : n < 2 ^ 31) (h : ¬ bnd y (n + 1) = true) : y.toInt < 0 ∨ (n : Int) < y.toInt := by
  have h1 : ¬ (0 ≤ y.toInt ∧ y.toInt < ((n + 1 : Nat) : Int)) := fun z => h (decide_eq_true z)
  omega
theorem c_X12_at (h12 : Lay12 E S o) (hM : MR o I L A) (hA : wfA A) {x y : Int32} : Cm E kX12_at 2 [.ref o, .int x, .int y] S I L o (.int (spAt A x y)) A := by
  have hq := hA.q
  have hnb := hq.ns
  by_cases hx : bnd x (aq A 1) = true
  · by_cases hy : bnd y 3 = true
    · obtain ⟨b, hb, hxb⟩ := bnd_ex (by omega) hx
      obtain ⟨k, hk, hyk⟩ := bnd_ex (by omega) hy
      have ev : spAt A x y = (if k = 0 then nI (aq A (80 + b)) else if k = 1 then nI (aq A (86 + b)) else pred1 (bof (aq A) b (aq A 0))) := by
        unfold spAt
        rw [if_pos ⟨hx, hy⟩, hxb, hyk, cln_nI (by omega), cln_nI (by omega)]
      rw [ev]
      subst hxb hyk
      refine C_of (by decide) (Nat.le_of_ble_eq_true rfl) ?_
      have hk7 : k = 0 ∨ k = 1 ∨ k = 2 := by omega
      rcases hk7 with rfl | rfl | rfl
      · skip
        refine V_aload_n (pc := 0) dX12_at_0 rfl ?_
        refine V_iconst (pc := 1) (v := nI 0) dX12_at_1 (by decide) ?_
        refine V_putI (pc := 2) 12 0 dX12_at_2 flX12_175 (by decide) (by decide) (Or.inl rfl) rfl rfl h12.o ?_
        have hM := hM.thrown (v := nI 0)
        have hF : FrM o (up2 I o 0 (nI 0)) I L L := FrM.rf.up (by omega)
        generalize up2 I o 0 (nI 0) = I0 at hM hF ⊢
        have hr := hM.row
        refine V_aload_n (pc := 5) dX12_at_5 rfl ?_
        refine V_iload_n (pc := 6) dX12_at_6 rfl ?_
        refine V_callVd (pc := 7) (ci := 12) (c_X12_isSuitor (by first | assumption | omega | exact h12) (by first | assumption | omega | exact h12) (by first | assumption | omega | exact h12)) dX12_at_7 mlX12_241 mkX12_isSuitor rfl rfl h12.o ⟨by decide, rfl⟩ ⟨Nat.le_of_ble_eq_true rfl, Nat.le_of_ble_eq_true rfl⟩ (Nat.le_of_ble_eq_true rfl) ⟨Nat.le_of_ble_eq_true rfl, Nat.le_of_ble_eq_true rfl⟩ ?_
        refine V_if_neB (pc := 10) (tgt := 15) dX12_at_10 (by decide) (fun c10 => ?_) (fun n10 => absurd n10 (by rw [hx]; decide))
        refine V_iload_n (pc := 15) dX12_at_15 rfl ?_
        refine V_tableIn (pc := 16) (off := 28) (tgt := 44) dX12_at_16 (by decide) (by decide) (by decide) (by decide) ?_
        refine V_aload_n (pc := 44) dX12_at_44 rfl ?_
        refine V_getR (pc := 45) 12 3 dX12_at_45 flX12_13 (by decide) h12.o h12.R3 ?_
        refine V_bipush (pc := 48) (v := nI 80) dX12_at_48 (by decide) ?_
        refine V_iload_n (pc := 50) dX12_at_50 rfl ?_
        refine V_iaddN (pc := 51) dX12_at_51 ?_
        refine V_ialoadE (pc := 52) dX12_at_52 h12.A3 (by first | decide | omega) (by omega) (hr.n (by omega)) ?_
        refine V_iret (pc := 53) dX12_at_53 rfl (by first | decide | omega) (by first | decide | omega) ?_
        exact ⟨rfl, rfl, hM, hF⟩
      · skip
        refine V_aload_n (pc := 0) dX12_at_0 rfl ?_
        refine V_iconst (pc := 1) (v := nI 0) dX12_at_1 (by decide) ?_
        refine V_putI (pc := 2) 12 0 dX12_at_2 flX12_175 (by decide) (by decide) (Or.inl rfl) rfl rfl h12.o ?_
        have hM := hM.thrown (v := nI 0)
        have hF : FrM o (up2 I o 0 (nI 0)) I L L := FrM.rf.up (by omega)
        generalize up2 I o 0 (nI 0) = I0 at hM hF ⊢
        have hr := hM.row
        refine V_aload_n (pc := 5) dX12_at_5 rfl ?_
        refine V_iload_n (pc := 6) dX12_at_6 rfl ?_
        refine V_callVd (pc := 7) (ci := 12) (c_X12_isSuitor (by first | assumption | omega | exact h12) (by first | assumption | omega | exact h12) (by first | assumption | omega | exact h12)) dX12_at_7 mlX12_241 mkX12_isSuitor rfl rfl h12.o ⟨by decide, rfl⟩ ⟨Nat.le_of_ble_eq_true rfl, Nat.le_of_ble_eq_true rfl⟩ (Nat.le_of_ble_eq_true rfl) ⟨Nat.le_of_ble_eq_true rfl, Nat.le_of_ble_eq_true rfl⟩ ?_
        refine V_if_neB (pc := 10) (tgt := 15) dX12_at_10 (by decide) (fun c10 => ?_) (fun n10 => absurd n10 (by rw [hx]; decide))
        refine V_iload_n (pc := 15) dX12_at_15 rfl ?_
        refine V_tableIn (pc := 16) (off := 38) (tgt := 54) dX12_at_16 (by decide) (by decide) (by decide) (by decide) ?_
        refine V_aload_n (pc := 54) dX12_at_54 rfl ?_
        refine V_getR (pc := 55) 12 3 dX12_at_55 flX12_13 (by decide) h12.o h12.R3 ?_
        refine V_bipush (pc := 58) (v := nI 86) dX12_at_58 (by decide) ?_
        refine V_iload_n (pc := 60) dX12_at_60 rfl ?_
        refine V_iaddN (pc := 61) dX12_at_61 ?_
        refine V_ialoadE (pc := 62) dX12_at_62 h12.A3 (by first | decide | omega) (by omega) (hr.n (by omega)) ?_
        refine V_iret (pc := 63) dX12_at_63 rfl (by first | decide | omega) (by first | decide | omega) ?_
        exact ⟨rfl, rfl, hM, hF⟩
      · skip
        refine V_aload_n (pc := 0) dX12_at_0 rfl ?_
        refine V_iconst (pc := 1) (v := nI 0) dX12_at_1 (by decide) ?_
        refine V_putI (pc := 2) 12 0 dX12_at_2 flX12_175 (by decide) (by decide) (Or.inl rfl) rfl rfl h12.o ?_
        have hM := hM.thrown (v := nI 0)
        have hF : FrM o (up2 I o 0 (nI 0)) I L L := FrM.rf.up (by omega)
        generalize up2 I o 0 (nI 0) = I0 at hM hF ⊢
        have hr := hM.row
        refine V_aload_n (pc := 5) dX12_at_5 rfl ?_
        refine V_iload_n (pc := 6) dX12_at_6 rfl ?_
        refine V_callVd (pc := 7) (ci := 12) (c_X12_isSuitor (by first | assumption | omega | exact h12) (by first | assumption | omega | exact h12) (by first | assumption | omega | exact h12)) dX12_at_7 mlX12_241 mkX12_isSuitor rfl rfl h12.o ⟨by decide, rfl⟩ ⟨Nat.le_of_ble_eq_true rfl, Nat.le_of_ble_eq_true rfl⟩ (Nat.le_of_ble_eq_true rfl) ⟨Nat.le_of_ble_eq_true rfl, Nat.le_of_ble_eq_true rfl⟩ ?_
        refine V_if_neB (pc := 10) (tgt := 15) dX12_at_10 (by decide) (fun c10 => ?_) (fun n10 => absurd n10 (by rw [hx]; decide))
        refine V_iload_n (pc := 15) dX12_at_15 rfl ?_
        refine V_tableIn (pc := 16) (off := 48) (tgt := 64) dX12_at_16 (by decide) (by decide) (by decide) (by decide) ?_
        refine V_aload_n (pc := 64) dX12_at_64 rfl ?_
        refine V_iload_n (pc := 65) dX12_at_65 rfl ?_
        refine V_callVd (pc := 66) (ci := 12) (c_X12_boxOf (by first | assumption | omega | exact h12) (by first | assumption | omega | exact h12) (by first | assumption | omega | exact h12) (by first | assumption | omega | exact h12)) dX12_at_66 mlX12_244 mkX12_boxOf rfl rfl h12.o ⟨by decide, rfl⟩ ⟨Nat.le_of_ble_eq_true rfl, Nat.le_of_ble_eq_true rfl⟩ (Nat.le_of_ble_eq_true rfl) ⟨Nat.le_of_ble_eq_true rfl, Nat.le_of_ble_eq_true rfl⟩ ?_
        refine V_iret (pc := 69) dX12_at_69 rfl (by first | decide | omega) (by first | decide | omega) ?_
        exact ⟨rfl, rfl, hM, hF⟩
    · have ev : spAt A x y = -1 := by unfold spAt; rw [if_neg (fun z => hy z.2)]
      rw [ev]
      refine C_of (by decide) (Nat.le_of_ble_eq_true rfl) ?_
      refine V_aload_n (pc := 0) dX12_at_0 rfl ?_
      refine V_iconst (pc := 1) (v := nI 0) dX12_at_1 (by decide) ?_
      refine V_putI (pc := 2) 12 0 dX12_at_2 flX12_175 (by decide) (by decide) (Or.inl rfl) rfl rfl h12.o ?_
      have hM := hM.thrown (v := nI 0)
      have hF : FrM o (up2 I o 0 (nI 0)) I L L := FrM.rf.up (by omega)
      generalize up2 I o 0 (nI 0) = I0 at hM hF ⊢
      have hr := hM.row
      refine V_aload_n (pc := 5) dX12_at_5 rfl ?_
      refine V_iload_n (pc := 6) dX12_at_6 rfl ?_
      refine V_callVd (pc := 7) (ci := 12) (c_X12_isSuitor (by first | assumption | omega | exact h12) (by first | assumption | omega | exact h12) (by first | assumption | omega | exact h12)) dX12_at_7 mlX12_241 mkX12_isSuitor rfl rfl h12.o ⟨by decide, rfl⟩ ⟨Nat.le_of_ble_eq_true rfl, Nat.le_of_ble_eq_true rfl⟩ (Nat.le_of_ble_eq_true rfl) ⟨Nat.le_of_ble_eq_true rfl, Nat.le_of_ble_eq_true rfl⟩ ?_
      refine V_if_neB (pc := 10) (tgt := 15) dX12_at_10 (by decide) (fun c10 => ?_) (fun n10 => absurd n10 (by rw [hx]; decide))
      refine V_iload_n (pc := 15) dX12_at_15 rfl ?_
      refine V_tableOut (pc := 16) (tgt := 70) dX12_at_16 (out3 (n := 2) (by omega) hy) (by decide) ?_
      refine V_iconst (pc := 70) (v := (-1)) dX12_at_70 (by decide) ?_
      refine V_iret (pc := 71) dX12_at_71 rfl (by first | decide | omega) (by first | decide | omega) ?_
      exact ⟨rfl, rfl, hM, hF⟩
  · have ev : spAt A x y = -1 := by unfold spAt; rw [if_neg (fun z => hx z.1)]
    rw [ev]
    refine C_of (by decide) (Nat.le_of_ble_eq_true rfl) ?_
    refine V_aload_n (pc := 0) dX12_at_0 rfl ?_
    refine V_iconst (pc := 1) (v := nI 0) dX12_at_1 (by decide) ?_
    refine V_putI (pc := 2) 12 0 dX12_at_2 flX12_175 (by decide) (by decide) (Or.inl rfl) rfl rfl h12.o ?_
    have hM := hM.thrown (v := nI 0)
    have hF : FrM o (up2 I o 0 (nI 0)) I L L := FrM.rf.up (by omega)
    generalize up2 I o 0 (nI 0) = I0 at hM hF ⊢
    have hr := hM.row
    refine V_aload_n (pc := 5) dX12_at_5 rfl ?_
    refine V_iload_n (pc := 6) dX12_at_6 rfl ?_
    refine V_callVd (pc := 7) (ci := 12) (c_X12_isSuitor (by first | assumption | omega | exact h12) (by first | assumption | omega | exact h12) (by first | assumption | omega | exact h12)) dX12_at_7 mlX12_241 mkX12_isSuitor rfl rfl h12.o ⟨by decide, rfl⟩ ⟨Nat.le_of_ble_eq_true rfl, Nat.le_of_ble_eq_true rfl⟩ (Nat.le_of_ble_eq_true rfl) ⟨Nat.le_of_ble_eq_true rfl, Nat.le_of_ble_eq_true rfl⟩ ?_
    refine V_if_neB (pc := 10) (tgt := 15) dX12_at_10 (by decide) (fun c10 => absurd c10 (by exact hx)) (fun n10 => ?_)
    refine V_iconst (pc := 13) (v := (-1)) dX12_at_13 (by decide) ?_
    refine V_iret (pc := 14) dX12_at_14 rfl (by first | decide | omega) (by first | decide | omega) ?_
    exact ⟨rfl, rfl, hM, hF⟩
def spAsks (A : AT) (x y z : Int32) : Int32 := if bnd x (aq A 0) = true ∧ bnd y (aq A 1) = true ∧ bnd z 3 = true then (if cln z = 0 then nI (erq (aq A) (cln x) (cln y)) else if cln z = 1 then nI (lik (lwf A) (aq A) (cln x) (cln y)) else b2i (brd (lwf A) (aq A) (cln x) (cln y))) else -1
theorem c_X12_asks (h12 : Lay12 E S o) (hM : MR o I L A) (hA : wfA A) {x y z : Int32} : Cm E kX12_asks 7 [.ref o, .int x, .int y, .int z] S I L o (.int (spAsks A x y z)) A := by
  have hq := hA.q
  have hnb := hq.nb
  have hns := hq.ns
  have hl := hA.law
  by_cases hx : bnd x (aq A 0) = true
  · by_cases hy : bnd y (aq A 1) = true
    · obtain ⟨b, hb, hxb⟩ := bnd_ex (by omega) hx
      obtain ⟨s, hs, hys⟩ := bnd_ex (by omega) hy
      by_cases hz : bnd z 3 = true
      · obtain ⟨k, hk, hyk⟩ := bnd_ex (by omega) hz
        have ev : spAsks A x y z = (if k = 0 then nI (erq (aq A) b s) else if k = 1 then nI (lik (lwf A) (aq A) b s) else b2i (brd (lwf A) (aq A) b s)) := by
          unfold spAsks
          rw [if_pos ⟨hx, hy, hz⟩, hxb, hys, hyk, cln_nI (by omega), cln_nI (by omega), cln_nI (by omega)]
        rw [ev]
        subst hxb hys hyk
        refine C_of (by decide) (Nat.le_of_ble_eq_true rfl) ?_
        have hk7 : k = 0 ∨ k = 1 ∨ k = 2 := by omega
        rcases hk7 with rfl | rfl | rfl
        · skip
          refine V_aload_n (pc := 0) dX12_asks_0 rfl ?_
          refine V_iconst (pc := 1) (v := nI 0) dX12_asks_1 (by decide) ?_
          refine V_putI (pc := 2) 12 0 dX12_asks_2 flX12_175 (by decide) (by decide) (Or.inl rfl) rfl rfl h12.o ?_
          have hM := hM.thrown (v := nI 0)
          have hF : FrM o (up2 I o 0 (nI 0)) I L L := FrM.rf.up (by omega)
          generalize up2 I o 0 (nI 0) = I0 at hM hF ⊢
          have hr := hM.row
          refine V_aload_n (pc := 5) dX12_asks_5 rfl ?_
          refine V_iload_n (pc := 6) dX12_asks_6 rfl ?_
          refine V_callVd (pc := 7) (ci := 12) (c_X12_isBox (by first | assumption | omega | exact h12) (by first | assumption | omega | exact h12) (by first | assumption | omega | exact h12)) dX12_asks_7 mlX12_213 mkX12_isBox rfl rfl h12.o ⟨by decide, rfl⟩ ⟨Nat.le_of_ble_eq_true rfl, Nat.le_of_ble_eq_true rfl⟩ (Nat.le_of_ble_eq_true rfl) ⟨Nat.le_of_ble_eq_true rfl, Nat.le_of_ble_eq_true rfl⟩ ?_
          refine V_if_eqB (pc := 10) (tgt := 21) dX12_asks_10 (by decide) (fun c10 => absurd c10 (by rw [hx]; decide)) (fun n10 => ?_)
          refine V_aload_n (pc := 13) dX12_asks_13 rfl ?_
          refine V_iload_n (pc := 14) dX12_asks_14 rfl ?_
          refine V_callVd (pc := 15) (ci := 12) (c_X12_isSuitor (by first | assumption | omega | exact h12) (by first | assumption | omega | exact h12) (by first | assumption | omega | exact h12)) dX12_asks_15 mlX12_241 mkX12_isSuitor rfl rfl h12.o ⟨by decide, rfl⟩ ⟨Nat.le_of_ble_eq_true rfl, Nat.le_of_ble_eq_true rfl⟩ (Nat.le_of_ble_eq_true rfl) ⟨Nat.le_of_ble_eq_true rfl, Nat.le_of_ble_eq_true rfl⟩ ?_
          refine V_if_neB (pc := 18) (tgt := 23) dX12_asks_18 (by decide) (fun c18 => ?_) (fun n18 => absurd n18 (by rw [hy]; decide))
          refine V_iload_n (pc := 23) dX12_asks_23 rfl ?_
          refine V_tableIn (pc := 24) (off := 28) (tgt := 52) dX12_asks_24 (by decide) (by decide) (by decide) (by decide) ?_
          refine V_aload_n (pc := 52) dX12_asks_52 rfl ?_
          refine V_iload_n (pc := 53) dX12_asks_53 rfl ?_
          refine V_iload_n (pc := 54) dX12_asks_54 rfl ?_
          refine V_callVd (pc := 55) (ci := 12) (c_X12_earOf (by first | assumption | omega | exact h12) (by first | assumption | omega | exact h12) (by first | assumption | omega | exact h12) (by first | assumption | omega | exact h12) (by first | assumption | omega | exact h12)) dX12_asks_55 mlX12_247 mkX12_earOf rfl rfl h12.o ⟨by decide, rfl⟩ ⟨Nat.le_of_ble_eq_true rfl, Nat.le_of_ble_eq_true rfl⟩ (Nat.le_of_ble_eq_true rfl) ⟨Nat.le_of_ble_eq_true rfl, Nat.le_of_ble_eq_true rfl⟩ ?_
          refine V_iret (pc := 58) dX12_asks_58 rfl (by first | decide | omega) (by first | decide | omega) ?_
          exact ⟨rfl, rfl, hM, hF⟩
        · skip
          refine V_aload_n (pc := 0) dX12_asks_0 rfl ?_
          refine V_iconst (pc := 1) (v := nI 0) dX12_asks_1 (by decide) ?_
          refine V_putI (pc := 2) 12 0 dX12_asks_2 flX12_175 (by decide) (by decide) (Or.inl rfl) rfl rfl h12.o ?_
          have hM := hM.thrown (v := nI 0)
          have hF : FrM o (up2 I o 0 (nI 0)) I L L := FrM.rf.up (by omega)
          generalize up2 I o 0 (nI 0) = I0 at hM hF ⊢
          have hr := hM.row
          refine V_aload_n (pc := 5) dX12_asks_5 rfl ?_
          refine V_iload_n (pc := 6) dX12_asks_6 rfl ?_
          refine V_callVd (pc := 7) (ci := 12) (c_X12_isBox (by first | assumption | omega | exact h12) (by first | assumption | omega | exact h12) (by first | assumption | omega | exact h12)) dX12_asks_7 mlX12_213 mkX12_isBox rfl rfl h12.o ⟨by decide, rfl⟩ ⟨Nat.le_of_ble_eq_true rfl, Nat.le_of_ble_eq_true rfl⟩ (Nat.le_of_ble_eq_true rfl) ⟨Nat.le_of_ble_eq_true rfl, Nat.le_of_ble_eq_true rfl⟩ ?_
          refine V_if_eqB (pc := 10) (tgt := 21) dX12_asks_10 (by decide) (fun c10 => absurd c10 (by rw [hx]; decide)) (fun n10 => ?_)
          refine V_aload_n (pc := 13) dX12_asks_13 rfl ?_
          refine V_iload_n (pc := 14) dX12_asks_14 rfl ?_
          refine V_callVd (pc := 15) (ci := 12) (c_X12_isSuitor (by first | assumption | omega | exact h12) (by first | assumption | omega | exact h12) (by first | assumption | omega | exact h12)) dX12_asks_15 mlX12_241 mkX12_isSuitor rfl rfl h12.o ⟨by decide, rfl⟩ ⟨Nat.le_of_ble_eq_true rfl, Nat.le_of_ble_eq_true rfl⟩ (Nat.le_of_ble_eq_true rfl) ⟨Nat.le_of_ble_eq_true rfl, Nat.le_of_ble_eq_true rfl⟩ ?_
          refine V_if_neB (pc := 18) (tgt := 23) dX12_asks_18 (by decide) (fun c18 => ?_) (fun n18 => absurd n18 (by rw [hy]; decide))
          refine V_iload_n (pc := 23) dX12_asks_23 rfl ?_
          refine V_tableIn (pc := 24) (off := 35) (tgt := 59) dX12_asks_24 (by decide) (by decide) (by decide) (by decide) ?_
          refine V_aload_n (pc := 59) dX12_asks_59 rfl ?_
          refine V_iload_n (pc := 60) dX12_asks_60 rfl ?_
          refine V_iload_n (pc := 61) dX12_asks_61 rfl ?_
          refine V_callV (pc := 62) (ci := 12) (c_X12_likesOf h12 hr hq (hM.law hq) hl.1 hM.od (by omega) (by omega)) dX12_asks_62 mlX12_250 mkX12_likesOf rfl rfl h12.o ⟨by decide, rfl⟩ ⟨Nat.le_of_ble_eq_true rfl, Nat.le_of_ble_eq_true rfl⟩ (Nat.le_of_ble_eq_true rfl) ⟨Nat.le_of_ble_eq_true rfl, Nat.le_of_ble_eq_true rfl⟩ (fun r S' I' L' hp => ?_)
          obtain ⟨rfl, rfl, hI, hL⟩ := hp
          refine V_iret (pc := 65) dX12_asks_65 rfl (by first | decide | omega) (by first | decide | omega) ?_
          exact ⟨rfl, rfl, hM.ts hI hL, hF.ts hI hL⟩
        · skip
          refine V_aload_n (pc := 0) dX12_asks_0 rfl ?_
          refine V_iconst (pc := 1) (v := nI 0) dX12_asks_1 (by decide) ?_
          refine V_putI (pc := 2) 12 0 dX12_asks_2 flX12_175 (by decide) (by decide) (Or.inl rfl) rfl rfl h12.o ?_
          have hM := hM.thrown (v := nI 0)
          have hF : FrM o (up2 I o 0 (nI 0)) I L L := FrM.rf.up (by omega)
          generalize up2 I o 0 (nI 0) = I0 at hM hF ⊢
          have hr := hM.row
          refine V_aload_n (pc := 5) dX12_asks_5 rfl ?_
          refine V_iload_n (pc := 6) dX12_asks_6 rfl ?_
          refine V_callVd (pc := 7) (ci := 12) (c_X12_isBox (by first | assumption | omega | exact h12) (by first | assumption | omega | exact h12) (by first | assumption | omega | exact h12)) dX12_asks_7 mlX12_213 mkX12_isBox rfl rfl h12.o ⟨by decide, rfl⟩ ⟨Nat.le_of_ble_eq_true rfl, Nat.le_of_ble_eq_true rfl⟩ (Nat.le_of_ble_eq_true rfl) ⟨Nat.le_of_ble_eq_true rfl, Nat.le_of_ble_eq_true rfl⟩ ?_
          refine V_if_eqB (pc := 10) (tgt := 21) dX12_asks_10 (by decide) (fun c10 => absurd c10 (by rw [hx]; decide)) (fun n10 => ?_)
          refine V_aload_n (pc := 13) dX12_asks_13 rfl ?_
          refine V_iload_n (pc := 14) dX12_asks_14 rfl ?_
          refine V_callVd (pc := 15) (ci := 12) (c_X12_isSuitor (by first | assumption | omega | exact h12) (by first | assumption | omega | exact h12) (by first | assumption | omega | exact h12)) dX12_asks_15 mlX12_241 mkX12_isSuitor rfl rfl h12.o ⟨by decide, rfl⟩ ⟨Nat.le_of_ble_eq_true rfl, Nat.le_of_ble_eq_true rfl⟩ (Nat.le_of_ble_eq_true rfl) ⟨Nat.le_of_ble_eq_true rfl, Nat.le_of_ble_eq_true rfl⟩ ?_
          refine V_if_neB (pc := 18) (tgt := 23) dX12_asks_18 (by decide) (fun c18 => ?_) (fun n18 => absurd n18 (by rw [hy]; decide))
          refine V_iload_n (pc := 23) dX12_asks_23 rfl ?_
          refine V_tableIn (pc := 24) (off := 42) (tgt := 66) dX12_asks_24 (by decide) (by decide) (by decide) (by decide) ?_
          refine V_aload_n (pc := 66) dX12_asks_66 rfl ?_
          refine V_iload_n (pc := 67) dX12_asks_67 rfl ?_
          refine V_iload_n (pc := 68) dX12_asks_68 rfl ?_
          refine V_callV (pc := 69) (ci := 12) (c_X12_isBarred h12 hr hq (hM.law hq) hl.2.2 hM.od (by omega) (by omega)) dX12_asks_69 mlX12_253 mkX12_isBarred rfl rfl h12.o ⟨by decide, rfl⟩ ⟨Nat.le_of_ble_eq_true rfl, Nat.le_of_ble_eq_true rfl⟩ (Nat.le_of_ble_eq_true rfl) ⟨Nat.le_of_ble_eq_true rfl, Nat.le_of_ble_eq_true rfl⟩ (fun r S' I' L' hp => ?_)
          obtain ⟨rfl, rfl, hI, hL⟩ := hp
          refine V_if_eqB (pc := 72) (tgt := 79) dX12_asks_72 (by decide) (fun c72 => ?_) (fun n72 => ?_)
          · skip
            refine V_iconst (pc := 79) (v := nI 0) dX12_asks_79 (by decide) ?_
            refine V_iret (pc := 80) dX12_asks_80 rfl (by first | decide | omega) (by first | decide | omega) ?_
            first | exact ⟨by rw [n72]; rfl, rfl, hM.ts hI hL, hF.ts hI hL⟩ | exact ⟨by rw [c72]; rfl, rfl, hM.ts hI hL, hF.ts hI hL⟩
          · skip
            refine V_iconst (pc := 75) (v := nI 1) dX12_asks_75 (by decide) ?_
            refine V_goto (pc := 76) (tgt := 80) dX12_asks_76 (by decide) ?_
            refine V_iret (pc := 80) dX12_asks_80 rfl (by first | decide | omega) (by first | decide | omega) ?_
            first | exact ⟨by rw [n72]; rfl, rfl, hM.ts hI hL, hF.ts hI hL⟩ | exact ⟨by rw [c72]; rfl, rfl, hM.ts hI hL, hF.ts hI hL⟩
      · have ev : spAsks A x y z = -1 := by unfold spAsks; rw [if_neg (fun w => hz w.2.2)]
        rw [ev]
        refine C_of (by decide) (Nat.le_of_ble_eq_true rfl) ?_
        refine V_aload_n (pc := 0) dX12_asks_0 rfl ?_
        refine V_iconst (pc := 1) (v := nI 0) dX12_asks_1 (by decide) ?_
        refine V_putI (pc := 2) 12 0 dX12_asks_2 flX12_175 (by decide) (by decide) (Or.inl rfl) rfl rfl h12.o ?_
        have hM := hM.thrown (v := nI 0)
        have hF : FrM o (up2 I o 0 (nI 0)) I L L := FrM.rf.up (by omega)
        generalize up2 I o 0 (nI 0) = I0 at hM hF ⊢
        have hr := hM.row
        refine V_aload_n (pc := 5) dX12_asks_5 rfl ?_
        refine V_iload_n (pc := 6) dX12_asks_6 rfl ?_
        refine V_callVd (pc := 7) (ci := 12) (c_X12_isBox (by first | assumption | omega | exact h12) (by first | assumption | omega | exact h12) (by first | assumption | omega | exact h12)) dX12_asks_7 mlX12_213 mkX12_isBox rfl rfl h12.o ⟨by decide, rfl⟩ ⟨Nat.le_of_ble_eq_true rfl, Nat.le_of_ble_eq_true rfl⟩ (Nat.le_of_ble_eq_true rfl) ⟨Nat.le_of_ble_eq_true rfl, Nat.le_of_ble_eq_true rfl⟩ ?_
        refine V_if_eqB (pc := 10) (tgt := 21) dX12_asks_10 (by decide) (fun c10 => absurd c10 (by rw [hx]; decide)) (fun n10 => ?_)
        refine V_aload_n (pc := 13) dX12_asks_13 rfl ?_
        refine V_iload_n (pc := 14) dX12_asks_14 rfl ?_
        refine V_callVd (pc := 15) (ci := 12) (c_X12_isSuitor (by first | assumption | omega | exact h12) (by first | assumption | omega | exact h12) (by first | assumption | omega | exact h12)) dX12_asks_15 mlX12_241 mkX12_isSuitor rfl rfl h12.o ⟨by decide, rfl⟩ ⟨Nat.le_of_ble_eq_true rfl, Nat.le_of_ble_eq_true rfl⟩ (Nat.le_of_ble_eq_true rfl) ⟨Nat.le_of_ble_eq_true rfl, Nat.le_of_ble_eq_true rfl⟩ ?_
        refine V_if_neB (pc := 18) (tgt := 23) dX12_asks_18 (by decide) (fun c18 => ?_) (fun n18 => absurd n18 (by rw [hy]; decide))
        refine V_iload_n (pc := 23) dX12_asks_23 rfl ?_
        refine V_tableOut (pc := 24) (tgt := 81) dX12_asks_24 (out3 (n := 2) (by omega) hz) (by decide) ?_
        refine V_iconst (pc := 81) (v := (-1)) dX12_asks_81 (by decide) ?_
        refine V_iret (pc := 82) dX12_asks_82 rfl (by first | decide | omega) (by first | decide | omega) ?_
        exact ⟨rfl, rfl, hM, hF⟩
    · have ev : spAsks A x y z = -1 := by unfold spAsks; rw [if_neg (fun w => hy w.2.1)]
      rw [ev]
      refine C_of (by decide) (Nat.le_of_ble_eq_true rfl) ?_
      refine V_aload_n (pc := 0) dX12_asks_0 rfl ?_
      refine V_iconst (pc := 1) (v := nI 0) dX12_asks_1 (by decide) ?_
      refine V_putI (pc := 2) 12 0 dX12_asks_2 flX12_175 (by decide) (by decide) (Or.inl rfl) rfl rfl h12.o ?_
      have hM := hM.thrown (v := nI 0)
      have hF : FrM o (up2 I o 0 (nI 0)) I L L := FrM.rf.up (by omega)
      generalize up2 I o 0 (nI 0) = I0 at hM hF ⊢
      have hr := hM.row
      refine V_aload_n (pc := 5) dX12_asks_5 rfl ?_
      refine V_iload_n (pc := 6) dX12_asks_6 rfl ?_
      refine V_callVd (pc := 7) (ci := 12) (c_X12_isBox (by first | assumption | omega | exact h12) (by first | assumption | omega | exact h12) (by first | assumption | omega | exact h12)) dX12_asks_7 mlX12_213 mkX12_isBox rfl rfl h12.o ⟨by decide, rfl⟩ ⟨Nat.le_of_ble_eq_true rfl, Nat.le_of_ble_eq_true rfl⟩ (Nat.le_of_ble_eq_true rfl) ⟨Nat.le_of_ble_eq_true rfl, Nat.le_of_ble_eq_true rfl⟩ ?_
      refine V_if_eqB (pc := 10) (tgt := 21) dX12_asks_10 (by decide) (fun c10 => absurd c10 (by rw [hx]; decide)) (fun n10 => ?_)
      refine V_aload_n (pc := 13) dX12_asks_13 rfl ?_
      refine V_iload_n (pc := 14) dX12_asks_14 rfl ?_
      refine V_callVd (pc := 15) (ci := 12) (c_X12_isSuitor (by first | assumption | omega | exact h12) (by first | assumption | omega | exact h12) (by first | assumption | omega | exact h12)) dX12_asks_15 mlX12_241 mkX12_isSuitor rfl rfl h12.o ⟨by decide, rfl⟩ ⟨Nat.le_of_ble_eq_true rfl, Nat.le_of_ble_eq_true rfl⟩ (Nat.le_of_ble_eq_true rfl) ⟨Nat.le_of_ble_eq_true rfl, Nat.le_of_ble_eq_true rfl⟩ ?_
      refine V_if_neB (pc := 18) (tgt := 23) dX12_asks_18 (by decide) (fun c18 => absurd c18 (by exact hy)) (fun n18 => ?_)
      refine V_iconst (pc := 21) (v := (-1)) dX12_asks_21 (by decide) ?_
      refine V_iret (pc := 22) dX12_asks_22 rfl (by first | decide | omega) (by first | decide | omega) ?_
      exact ⟨rfl, rfl, hM, hF⟩
  · have ev : spAsks A x y z = -1 := by unfold spAsks; rw [if_neg (fun w => hx w.1)]
    rw [ev]
    refine C_of (by decide) (Nat.le_of_ble_eq_true rfl) ?_
    refine V_aload_n (pc := 0) dX12_asks_0 rfl ?_
    refine V_iconst (pc := 1) (v := nI 0) dX12_asks_1 (by decide) ?_
    refine V_putI (pc := 2) 12 0 dX12_asks_2 flX12_175 (by decide) (by decide) (Or.inl rfl) rfl rfl h12.o ?_
    have hM := hM.thrown (v := nI 0)
    have hF : FrM o (up2 I o 0 (nI 0)) I L L := FrM.rf.up (by omega)
    generalize up2 I o 0 (nI 0) = I0 at hM hF ⊢
    have hr := hM.row
    refine V_aload_n (pc := 5) dX12_asks_5 rfl ?_
    refine V_iload_n (pc := 6) dX12_asks_6 rfl ?_
    refine V_callVd (pc := 7) (ci := 12) (c_X12_isBox (by first | assumption | omega | exact h12) (by first | assumption | omega | exact h12) (by first | assumption | omega | exact h12)) dX12_asks_7 mlX12_213 mkX12_isBox rfl rfl h12.o ⟨by decide, rfl⟩ ⟨Nat.le_of_ble_eq_true rfl, Nat.le_of_ble_eq_true rfl⟩ (Nat.le_of_ble_eq_true rfl) ⟨Nat.le_of_ble_eq_true rfl, Nat.le_of_ble_eq_true rfl⟩ ?_
    refine V_if_eqB (pc := 10) (tgt := 21) dX12_asks_10 (by decide) (fun c10 => ?_) (fun n10 => absurd n10 (by exact hx))
    refine V_iconst (pc := 21) (v := (-1)) dX12_asks_21 (by decide) ?_
    refine V_iret (pc := 22) dX12_asks_22 rfl (by first | decide | omega) (by first | decide | omega) ?_
    exact ⟨rfl, rfl, hM, hF⟩
def cntV (A : AT) (k : Nat) : Int32 := if k = 0 then nI (aq A 0) else if k = 1 then nI (aq A 1) else if k = 2 then nI (cpl (aq A)) else if k = 3 then nI (aq A 2) else if k = 4 then nI (aq A 3) else if k = 5 then nI (aun A).1 else if k = 6 then nI (atp A).1 else if k = 7 then (ax A).2.2.2.2 1 else if k = 8 then (ax A).2.2.2.2 2 else if k = 9 then (ax A).2.2.2.2 3 else if k = 10 then (ax A).2.2.2.2 5 else if k = 11 then (ax A).2.2.2.2 6 else if k = 12 then pred1 (aq A 4) else nI (aq A (5 + (k - 13)))
def spCount (A : AT) (x : Int32) : Int32 := if bnd x 16 = true then cntV A (cln x) else -1
theorem in1315 {x : Int32} : decide ((13 : Int64) ≤ x.toInt64 ∧ x.toInt64 ≤ (15 : Int64)) = decide (13 ≤ x.toInt ∧ x.toInt ≤ 15) := by
  apply decide_eq_decide.mpr
  rw [Int64.le_iff_toInt_le, Int64.le_iff_toInt_le, Int32.toInt_toInt64, show (13 : Int64).toInt = 13 from by decide, show (15 : Int64).toInt = 15 from by decide]
theorem c_X12_count (h12 : Lay12 E S o) (hM : MR o I L A) (hA : wfA A) {x : Int32} : Cm E kX12_count 2 [.ref o, .int x] S I L o (.int (spCount A x)) A := by
  have hq := hA.q
  by_cases hx : bnd x 16 = true
  · obtain ⟨k, hk, hxk⟩ := bnd_ex (by omega) hx
    have ev : spCount A x = cntV A k := by unfold spCount; rw [if_pos hx, hxk, cln_nI (by omega)]
    rw [ev]
    have hin := in1315 (x := x)
    rw [hxk] at hin ⊢
    rw [nI_toInt (by omega)] at hin
    refine C_of (by decide) (Nat.le_of_ble_eq_true rfl) ?_
    have hk7 : k = 0 ∨ k = 1 ∨ k = 2 ∨ k = 3 ∨ k = 4 ∨ k = 5 ∨ k = 6 ∨ k = 7 ∨ k = 8 ∨ k = 9 ∨ k = 10 ∨ k = 11 ∨ k = 12 ∨ 13 ≤ k := by omega
    rcases hk7 with rfl | rfl | rfl | rfl | rfl | rfl | rfl | rfl | rfl | rfl | rfl | rfl | rfl | h13
    · skip
      refine V_aload_n (pc := 0) dX12_count_0 rfl ?_
      refine V_iconst (pc := 1) (v := nI 0) dX12_count_1 (by decide) ?_
      refine V_putI (pc := 2) 12 0 dX12_count_2 flX12_175 (by decide) (by decide) (Or.inl rfl) rfl rfl h12.o ?_
      have hM := hM.thrown (v := nI 0)
      have hF : FrM o (up2 I o 0 (nI 0)) I L L := FrM.rf.up (by omega)
      generalize up2 I o 0 (nI 0) = I0 at hM hF ⊢
      have hr := hM.row
      refine V_iload_n (pc := 5) dX12_count_5 rfl ?_
      refine V_tableIn (pc := 6) (off := 66) (tgt := 72) dX12_count_6 (by decide) (by decide) (by decide) (by decide) ?_
      refine V_aload_n (pc := 72) dX12_count_72 rfl ?_
      refine V_getR (pc := 73) 12 3 dX12_count_73 flX12_13 (by decide) h12.o h12.R3 ?_
      refine V_iconst (pc := 76) (v := nI 0) dX12_count_76 (by decide) ?_
      refine V_ialoadE (pc := 77) dX12_count_77 h12.A3 (by first | decide | omega) (by omega) (hr.n (by omega)) ?_
      refine V_iret (pc := 78) dX12_count_78 rfl (by first | decide | omega) (by first | decide | omega) ?_
      exact ⟨rfl, rfl, hM, hF⟩
    · skip
      refine V_aload_n (pc := 0) dX12_count_0 rfl ?_
      refine V_iconst (pc := 1) (v := nI 0) dX12_count_1 (by decide) ?_
      refine V_putI (pc := 2) 12 0 dX12_count_2 flX12_175 (by decide) (by decide) (Or.inl rfl) rfl rfl h12.o ?_
      have hM := hM.thrown (v := nI 0)
      have hF : FrM o (up2 I o 0 (nI 0)) I L L := FrM.rf.up (by omega)
      generalize up2 I o 0 (nI 0) = I0 at hM hF ⊢
      have hr := hM.row
      refine V_iload_n (pc := 5) dX12_count_5 rfl ?_
      refine V_tableIn (pc := 6) (off := 73) (tgt := 79) dX12_count_6 (by decide) (by decide) (by decide) (by decide) ?_
      refine V_aload_n (pc := 79) dX12_count_79 rfl ?_
      refine V_getR (pc := 80) 12 3 dX12_count_80 flX12_13 (by decide) h12.o h12.R3 ?_
      refine V_iconst (pc := 83) (v := nI 1) dX12_count_83 (by decide) ?_
      refine V_ialoadE (pc := 84) dX12_count_84 h12.A3 (by first | decide | omega) (by omega) (hr.n (by omega)) ?_
      refine V_iret (pc := 85) dX12_count_85 rfl (by first | decide | omega) (by first | decide | omega) ?_
      exact ⟨rfl, rfl, hM, hF⟩
    · skip
      refine V_aload_n (pc := 0) dX12_count_0 rfl ?_
      refine V_iconst (pc := 1) (v := nI 0) dX12_count_1 (by decide) ?_
      refine V_putI (pc := 2) 12 0 dX12_count_2 flX12_175 (by decide) (by decide) (Or.inl rfl) rfl rfl h12.o ?_
      have hM := hM.thrown (v := nI 0)
      have hF : FrM o (up2 I o 0 (nI 0)) I L L := FrM.rf.up (by omega)
      generalize up2 I o 0 (nI 0) = I0 at hM hF ⊢
      have hr := hM.row
      refine V_iload_n (pc := 5) dX12_count_5 rfl ?_
      refine V_tableIn (pc := 6) (off := 80) (tgt := 86) dX12_count_6 (by decide) (by decide) (by decide) (by decide) ?_
      refine V_aload_n (pc := 86) dX12_count_86 rfl ?_
      refine V_callVd (pc := 87) (ci := 12) (c_X12_couples (by first | assumption | omega | exact h12) (by first | assumption | omega | exact h12) (by first | assumption | omega | exact h12)) dX12_count_87 mlX12_548 mkX12_couples rfl rfl h12.o ⟨by decide, rfl⟩ ⟨Nat.le_of_ble_eq_true rfl, Nat.le_of_ble_eq_true rfl⟩ (Nat.le_of_ble_eq_true rfl) ⟨Nat.le_of_ble_eq_true rfl, Nat.le_of_ble_eq_true rfl⟩ ?_
      refine V_iret (pc := 90) dX12_count_90 rfl (by first | decide | omega) (by first | decide | omega) ?_
      exact ⟨rfl, rfl, hM, hF⟩
    · skip
      refine V_aload_n (pc := 0) dX12_count_0 rfl ?_
      refine V_iconst (pc := 1) (v := nI 0) dX12_count_1 (by decide) ?_
      refine V_putI (pc := 2) 12 0 dX12_count_2 flX12_175 (by decide) (by decide) (Or.inl rfl) rfl rfl h12.o ?_
      have hM := hM.thrown (v := nI 0)
      have hF : FrM o (up2 I o 0 (nI 0)) I L L := FrM.rf.up (by omega)
      generalize up2 I o 0 (nI 0) = I0 at hM hF ⊢
      have hr := hM.row
      refine V_iload_n (pc := 5) dX12_count_5 rfl ?_
      refine V_tableIn (pc := 6) (off := 85) (tgt := 91) dX12_count_6 (by decide) (by decide) (by decide) (by decide) ?_
      refine V_aload_n (pc := 91) dX12_count_91 rfl ?_
      refine V_getR (pc := 92) 12 3 dX12_count_92 flX12_13 (by decide) h12.o h12.R3 ?_
      refine V_iconst (pc := 95) (v := nI 2) dX12_count_95 (by decide) ?_
      refine V_ialoadE (pc := 96) dX12_count_96 h12.A3 (by first | decide | omega) (by omega) (hr.n (by omega)) ?_
      refine V_iret (pc := 97) dX12_count_97 rfl (by first | decide | omega) (by first | decide | omega) ?_
      exact ⟨rfl, rfl, hM, hF⟩
    · skip
      refine V_aload_n (pc := 0) dX12_count_0 rfl ?_
      refine V_iconst (pc := 1) (v := nI 0) dX12_count_1 (by decide) ?_
      refine V_putI (pc := 2) 12 0 dX12_count_2 flX12_175 (by decide) (by decide) (Or.inl rfl) rfl rfl h12.o ?_
      have hM := hM.thrown (v := nI 0)
      have hF : FrM o (up2 I o 0 (nI 0)) I L L := FrM.rf.up (by omega)
      generalize up2 I o 0 (nI 0) = I0 at hM hF ⊢
      have hr := hM.row
      refine V_iload_n (pc := 5) dX12_count_5 rfl ?_
      refine V_tableIn (pc := 6) (off := 92) (tgt := 98) dX12_count_6 (by decide) (by decide) (by decide) (by decide) ?_
      refine V_aload_n (pc := 98) dX12_count_98 rfl ?_
      refine V_getR (pc := 99) 12 3 dX12_count_99 flX12_13 (by decide) h12.o h12.R3 ?_
      refine V_iconst (pc := 102) (v := nI 3) dX12_count_102 (by decide) ?_
      refine V_ialoadE (pc := 103) dX12_count_103 h12.A3 (by first | decide | omega) (by omega) (hr.n (by omega)) ?_
      refine V_iret (pc := 104) dX12_count_104 rfl (by first | decide | omega) (by first | decide | omega) ?_
      exact ⟨rfl, rfl, hM, hF⟩
    · skip
      refine V_aload_n (pc := 0) dX12_count_0 rfl ?_
      refine V_iconst (pc := 1) (v := nI 0) dX12_count_1 (by decide) ?_
      refine V_putI (pc := 2) 12 0 dX12_count_2 flX12_175 (by decide) (by decide) (Or.inl rfl) rfl rfl h12.o ?_
      have hM := hM.thrown (v := nI 0)
      have hF : FrM o (up2 I o 0 (nI 0)) I L L := FrM.rf.up (by omega)
      generalize up2 I o 0 (nI 0) = I0 at hM hF ⊢
      have hr := hM.row
      refine V_iload_n (pc := 5) dX12_count_5 rfl ?_
      refine V_tableIn (pc := 6) (off := 99) (tgt := 105) dX12_count_6 (by decide) (by decide) (by decide) (by decide) ?_
      refine V_aload_n (pc := 105) dX12_count_105 rfl ?_
      refine V_getIE (pc := 106) 12 8 dX12_count_106 flX12_181 (by decide) h12.o (hM.und.1) ?_
      refine V_iret (pc := 109) dX12_count_109 rfl (by first | decide | omega) (by first | decide | omega) ?_
      exact ⟨rfl, rfl, hM, hF⟩
    · skip
      refine V_aload_n (pc := 0) dX12_count_0 rfl ?_
      refine V_iconst (pc := 1) (v := nI 0) dX12_count_1 (by decide) ?_
      refine V_putI (pc := 2) 12 0 dX12_count_2 flX12_175 (by decide) (by decide) (Or.inl rfl) rfl rfl h12.o ?_
      have hM := hM.thrown (v := nI 0)
      have hF : FrM o (up2 I o 0 (nI 0)) I L L := FrM.rf.up (by omega)
      generalize up2 I o 0 (nI 0) = I0 at hM hF ⊢
      have hr := hM.row
      refine V_iload_n (pc := 5) dX12_count_5 rfl ?_
      refine V_tableIn (pc := 6) (off := 104) (tgt := 110) dX12_count_6 (by decide) (by decide) (by decide) (by decide) ?_
      refine V_aload_n (pc := 110) dX12_count_110 rfl ?_
      refine V_getIE (pc := 111) 12 13 dX12_count_111 flX12_263 (by decide) h12.o (hM.tap.1) ?_
      refine V_iret (pc := 114) dX12_count_114 rfl (by first | decide | omega) (by first | decide | omega) ?_
      exact ⟨rfl, rfl, hM, hF⟩
    · skip
      refine V_aload_n (pc := 0) dX12_count_0 rfl ?_
      refine V_iconst (pc := 1) (v := nI 0) dX12_count_1 (by decide) ?_
      refine V_putI (pc := 2) 12 0 dX12_count_2 flX12_175 (by decide) (by decide) (Or.inl rfl) rfl rfl h12.o ?_
      have hM := hM.thrown (v := nI 0)
      have hF : FrM o (up2 I o 0 (nI 0)) I L L := FrM.rf.up (by omega)
      generalize up2 I o 0 (nI 0) = I0 at hM hF ⊢
      have hr := hM.row
      refine V_iload_n (pc := 5) dX12_count_5 rfl ?_
      refine V_tableIn (pc := 6) (off := 109) (tgt := 115) dX12_count_6 (by decide) (by decide) (by decide) (by decide) ?_
      refine V_aload_n (pc := 115) dX12_count_115 rfl ?_
      refine V_getR (pc := 116) 12 2 dX12_count_116 flX12_7 (by decide) h12.o h12.R2 ?_
      refine V_iconst (pc := 119) (v := nI 1) dX12_count_119 (by decide) ?_
      refine V_ialoadE (pc := 120) dX12_count_120 h12.A2 (by first | decide | omega) (by omega) (hM.x.2.2.2.2 1 (by omega)) ?_
      refine V_iret (pc := 121) dX12_count_121 rfl (by first | decide | omega) (by first | decide | omega) ?_
      exact ⟨rfl, rfl, hM, hF⟩
    · skip
      refine V_aload_n (pc := 0) dX12_count_0 rfl ?_
      refine V_iconst (pc := 1) (v := nI 0) dX12_count_1 (by decide) ?_
      refine V_putI (pc := 2) 12 0 dX12_count_2 flX12_175 (by decide) (by decide) (Or.inl rfl) rfl rfl h12.o ?_
      have hM := hM.thrown (v := nI 0)
      have hF : FrM o (up2 I o 0 (nI 0)) I L L := FrM.rf.up (by omega)
      generalize up2 I o 0 (nI 0) = I0 at hM hF ⊢
      have hr := hM.row
      refine V_iload_n (pc := 5) dX12_count_5 rfl ?_
      refine V_tableIn (pc := 6) (off := 116) (tgt := 122) dX12_count_6 (by decide) (by decide) (by decide) (by decide) ?_
      refine V_aload_n (pc := 122) dX12_count_122 rfl ?_
      refine V_getR (pc := 123) 12 2 dX12_count_123 flX12_7 (by decide) h12.o h12.R2 ?_
      refine V_iconst (pc := 126) (v := nI 2) dX12_count_126 (by decide) ?_
      refine V_ialoadE (pc := 127) dX12_count_127 h12.A2 (by first | decide | omega) (by omega) (hM.x.2.2.2.2 2 (by omega)) ?_
      refine V_iret (pc := 128) dX12_count_128 rfl (by first | decide | omega) (by first | decide | omega) ?_
      exact ⟨rfl, rfl, hM, hF⟩
    · skip
      refine V_aload_n (pc := 0) dX12_count_0 rfl ?_
      refine V_iconst (pc := 1) (v := nI 0) dX12_count_1 (by decide) ?_
      refine V_putI (pc := 2) 12 0 dX12_count_2 flX12_175 (by decide) (by decide) (Or.inl rfl) rfl rfl h12.o ?_
      have hM := hM.thrown (v := nI 0)
      have hF : FrM o (up2 I o 0 (nI 0)) I L L := FrM.rf.up (by omega)
      generalize up2 I o 0 (nI 0) = I0 at hM hF ⊢
      have hr := hM.row
      refine V_iload_n (pc := 5) dX12_count_5 rfl ?_
      refine V_tableIn (pc := 6) (off := 123) (tgt := 129) dX12_count_6 (by decide) (by decide) (by decide) (by decide) ?_
      refine V_aload_n (pc := 129) dX12_count_129 rfl ?_
      refine V_getR (pc := 130) 12 2 dX12_count_130 flX12_7 (by decide) h12.o h12.R2 ?_
      refine V_iconst (pc := 133) (v := nI 3) dX12_count_133 (by decide) ?_
      refine V_ialoadE (pc := 134) dX12_count_134 h12.A2 (by first | decide | omega) (by omega) (hM.x.2.2.2.2 3 (by omega)) ?_
      refine V_iret (pc := 135) dX12_count_135 rfl (by first | decide | omega) (by first | decide | omega) ?_
      exact ⟨rfl, rfl, hM, hF⟩
    · skip
      refine V_aload_n (pc := 0) dX12_count_0 rfl ?_
      refine V_iconst (pc := 1) (v := nI 0) dX12_count_1 (by decide) ?_
      refine V_putI (pc := 2) 12 0 dX12_count_2 flX12_175 (by decide) (by decide) (Or.inl rfl) rfl rfl h12.o ?_
      have hM := hM.thrown (v := nI 0)
      have hF : FrM o (up2 I o 0 (nI 0)) I L L := FrM.rf.up (by omega)
      generalize up2 I o 0 (nI 0) = I0 at hM hF ⊢
      have hr := hM.row
      refine V_iload_n (pc := 5) dX12_count_5 rfl ?_
      refine V_tableIn (pc := 6) (off := 130) (tgt := 136) dX12_count_6 (by decide) (by decide) (by decide) (by decide) ?_
      refine V_aload_n (pc := 136) dX12_count_136 rfl ?_
      refine V_getR (pc := 137) 12 2 dX12_count_137 flX12_7 (by decide) h12.o h12.R2 ?_
      refine V_iconst (pc := 140) (v := nI 5) dX12_count_140 (by decide) ?_
      refine V_ialoadE (pc := 141) dX12_count_141 h12.A2 (by first | decide | omega) (by omega) (hM.x.2.2.2.2 5 (by omega)) ?_
      refine V_iret (pc := 142) dX12_count_142 rfl (by first | decide | omega) (by first | decide | omega) ?_
      exact ⟨rfl, rfl, hM, hF⟩
    · skip
      refine V_aload_n (pc := 0) dX12_count_0 rfl ?_
      refine V_iconst (pc := 1) (v := nI 0) dX12_count_1 (by decide) ?_
      refine V_putI (pc := 2) 12 0 dX12_count_2 flX12_175 (by decide) (by decide) (Or.inl rfl) rfl rfl h12.o ?_
      have hM := hM.thrown (v := nI 0)
      have hF : FrM o (up2 I o 0 (nI 0)) I L L := FrM.rf.up (by omega)
      generalize up2 I o 0 (nI 0) = I0 at hM hF ⊢
      have hr := hM.row
      refine V_iload_n (pc := 5) dX12_count_5 rfl ?_
      refine V_tableIn (pc := 6) (off := 137) (tgt := 143) dX12_count_6 (by decide) (by decide) (by decide) (by decide) ?_
      refine V_aload_n (pc := 143) dX12_count_143 rfl ?_
      refine V_getR (pc := 144) 12 2 dX12_count_144 flX12_7 (by decide) h12.o h12.R2 ?_
      refine V_bipush (pc := 147) (v := nI 6) dX12_count_147 (by decide) ?_
      refine V_ialoadE (pc := 149) dX12_count_149 h12.A2 (by first | decide | omega) (by omega) (hM.x.2.2.2.2 6 (by omega)) ?_
      refine V_iret (pc := 150) dX12_count_150 rfl (by first | decide | omega) (by first | decide | omega) ?_
      exact ⟨rfl, rfl, hM, hF⟩
    · skip
      refine V_aload_n (pc := 0) dX12_count_0 rfl ?_
      refine V_iconst (pc := 1) (v := nI 0) dX12_count_1 (by decide) ?_
      refine V_putI (pc := 2) 12 0 dX12_count_2 flX12_175 (by decide) (by decide) (Or.inl rfl) rfl rfl h12.o ?_
      have hM := hM.thrown (v := nI 0)
      have hF : FrM o (up2 I o 0 (nI 0)) I L L := FrM.rf.up (by omega)
      generalize up2 I o 0 (nI 0) = I0 at hM hF ⊢
      have hr := hM.row
      refine V_iload_n (pc := 5) dX12_count_5 rfl ?_
      refine V_tableIn (pc := 6) (off := 145) (tgt := 151) dX12_count_6 (by decide) (by decide) (by decide) (by decide) ?_
      refine V_aload_n (pc := 151) dX12_count_151 rfl ?_
      refine V_getR (pc := 152) 12 3 dX12_count_152 flX12_13 (by decide) h12.o h12.R3 ?_
      refine V_iconst (pc := 155) (v := nI 4) dX12_count_155 (by decide) ?_
      refine V_ialoadE (pc := 156) dX12_count_156 h12.A3 (by first | decide | omega) (by omega) (hr.f) ?_
      refine V_iret (pc := 157) dX12_count_157 rfl (by first | decide | omega) (by first | decide | omega) ?_
      exact ⟨rfl, rfl, hM, hF⟩
    · skip
      refine V_aload_n (pc := 0) dX12_count_0 rfl ?_
      refine V_iconst (pc := 1) (v := nI 0) dX12_count_1 (by decide) ?_
      refine V_putI (pc := 2) 12 0 dX12_count_2 flX12_175 (by decide) (by decide) (Or.inl rfl) rfl rfl h12.o ?_
      have hM := hM.thrown (v := nI 0)
      have hF : FrM o (up2 I o 0 (nI 0)) I L L := FrM.rf.up (by omega)
      generalize up2 I o 0 (nI 0) = I0 at hM hF ⊢
      have hr := hM.row
      refine V_iload_n (pc := 5) dX12_count_5 rfl ?_
      refine V_tableOut (pc := 6) (tgt := 158) dX12_count_6 (Or.inr (by rw [nI_toInt (by omega)]; omega)) (by decide) ?_
      refine V_iload_n (pc := 158) dX12_count_158 rfl ?_
      refine V_i2l (pc := 159) dX12_count_159 rfl ?_
      refine V_ldc2 (pc := 160) dX12_count_160 coX12_578 ?_
      refine V_ldc2 (pc := 163) dX12_count_163 coX12_580 ?_
      refine V_callSd (pc := 166) (c_X12_in) dX12_count_166 mlX12_195 mkX12_in rfl rfl ⟨Nat.le_of_ble_eq_true rfl, Nat.le_of_ble_eq_true rfl⟩ (Nat.le_of_ble_eq_true rfl) ⟨Nat.le_of_ble_eq_true rfl, Nat.le_of_ble_eq_true rfl⟩ ?_
      refine V_if_eqB (pc := 169) (tgt := 186) dX12_count_169 (by decide) (fun c169 => absurd c169 (by rw [hin]; simp; omega)) (fun n169 => ?_)
      refine V_aload_n (pc := 172) dX12_count_172 rfl ?_
      refine V_getR (pc := 173) 12 3 dX12_count_173 flX12_13 (by decide) h12.o h12.R3 ?_
      refine V_iconst (pc := 176) (v := nI 5) dX12_count_176 (by decide) ?_
      refine V_iload_n (pc := 177) dX12_count_177 rfl ?_
      refine V_iaddN (pc := 178) dX12_count_178 ?_
      refine V_bipush (pc := 179) (v := nI 13) dX12_count_179 (by decide) ?_
      refine V_isubN (pc := 181) dX12_count_181 (by omega) ?_
      refine V_ialoadE (pc := 182) dX12_count_182 h12.A3 (by first | decide | omega) (by omega) (show _ = nI (aq A (5 + (k - 13))) by rw [show 5 + k - 13 = 5 + (k - 13) by omega]; exact hr.n (by omega)) ?_
      refine V_goto (pc := 183) (tgt := 187) dX12_count_183 (by decide) ?_
      refine V_iret (pc := 187) dX12_count_187 rfl (by first | decide | omega) (by first | decide | omega) ?_
      refine ⟨?_, rfl, hM, hF⟩
      unfold cntV
      rw [if_neg (by omega), if_neg (by omega), if_neg (by omega), if_neg (by omega), if_neg (by omega), if_neg (by omega), if_neg (by omega), if_neg (by omega), if_neg (by omega), if_neg (by omega), if_neg (by omega), if_neg (by omega), if_neg (by omega)]
  · have ev : spCount A x = -1 := by unfold spCount; rw [if_neg hx]
    rw [ev]
    have h1 : ¬ (0 ≤ x.toInt ∧ x.toInt < ((16 : Nat) : Int)) := fun z => hx (decide_eq_true z)
    have hin := in1315 (x := x)
    refine C_of (by decide) (Nat.le_of_ble_eq_true rfl) ?_
    refine V_aload_n (pc := 0) dX12_count_0 rfl ?_
    refine V_iconst (pc := 1) (v := nI 0) dX12_count_1 (by decide) ?_
    refine V_putI (pc := 2) 12 0 dX12_count_2 flX12_175 (by decide) (by decide) (Or.inl rfl) rfl rfl h12.o ?_
    have hM := hM.thrown (v := nI 0)
    have hF : FrM o (up2 I o 0 (nI 0)) I L L := FrM.rf.up (by omega)
    generalize up2 I o 0 (nI 0) = I0 at hM hF ⊢
    have hr := hM.row
    refine V_iload_n (pc := 5) dX12_count_5 rfl ?_
    refine V_tableOut (pc := 6) (tgt := 158) dX12_count_6 (by omega) (by decide) ?_
    refine V_iload_n (pc := 158) dX12_count_158 rfl ?_
    refine V_i2l (pc := 159) dX12_count_159 rfl ?_
    refine V_ldc2 (pc := 160) dX12_count_160 coX12_578 ?_
    refine V_ldc2 (pc := 163) dX12_count_163 coX12_580 ?_
    refine V_callSd (pc := 166) (c_X12_in) dX12_count_166 mlX12_195 mkX12_in rfl rfl ⟨Nat.le_of_ble_eq_true rfl, Nat.le_of_ble_eq_true rfl⟩ (Nat.le_of_ble_eq_true rfl) ⟨Nat.le_of_ble_eq_true rfl, Nat.le_of_ble_eq_true rfl⟩ ?_
    refine V_if_eqB (pc := 169) (tgt := 186) dX12_count_169 (by decide) (fun c169 => ?_) (fun n169 => absurd n169 (by rw [hin]; simp; omega))
    refine V_iconst (pc := 186) (v := (-1)) dX12_count_186 (by decide) ?_
    refine V_iret (pc := 187) dX12_count_187 rfl (by first | decide | omega) (by first | decide | omega) ?_
    exact ⟨rfl, rfl, hM, hF⟩
theorem c_X12_rust (h12 : Lay12 E S o) (hM : MR o I L A) : Cm E kX12_rust 1 [.ref o] S I L o (.int ((ax A).1)) A := by
  refine C_of (by decide) (Nat.le_of_ble_eq_true rfl) ?_
  refine V_aload_n (pc := 0) dX12_rust_0 rfl ?_
  refine V_iconst (pc := 1) (v := nI 0) dX12_rust_1 (by decide) ?_
  refine V_putI (pc := 2) 12 0 dX12_rust_2 flX12_175 (by decide) (by decide) (Or.inl rfl) rfl rfl h12.o ?_
  have hM := hM.thrown (v := nI 0)
  have hF : FrM o (up2 I o 0 (nI 0)) I L L := FrM.rf.up (by omega)
  generalize up2 I o 0 (nI 0) = I0 at hM hF ⊢
  have hr := hM.row
  refine V_aload_n (pc := 5) dX12_rust_5 rfl ?_
  refine V_getIE (pc := 6) 12 11 dX12_rust_6 flX12_266 (by decide) h12.o (hM.x.1) ?_
  refine V_iret (pc := 9) dX12_rust_9 rfl (by first | decide | omega) (by first | decide | omega) ?_
  exact ⟨rfl, rfl, hM, hF⟩
theorem c_X12_fault (h12 : Lay12 E S o) (hM : MR o I L A) : Cm E kX12_fault 1 [.ref o] S I L o (.int ((ax A).2.1)) A := by
  refine C_of (by decide) (Nat.le_of_ble_eq_true rfl) ?_
  refine V_aload_n (pc := 0) dX12_fault_0 rfl ?_
  refine V_iconst (pc := 1) (v := nI 0) dX12_fault_1 (by decide) ?_
  refine V_putI (pc := 2) 12 0 dX12_fault_2 flX12_175 (by decide) (by decide) (Or.inl rfl) rfl rfl h12.o ?_
  have hM := hM.thrown (v := nI 0)
  have hF : FrM o (up2 I o 0 (nI 0)) I L L := FrM.rf.up (by omega)
  generalize up2 I o 0 (nI 0) = I0 at hM hF ⊢
  have hr := hM.row
  refine V_aload_n (pc := 5) dX12_fault_5 rfl ?_
  refine V_getIE (pc := 6) 12 18 dX12_fault_6 flX12_38 (by decide) h12.o (hM.x.2.1) ?_
  refine V_iret (pc := 9) dX12_fault_9 rfl (by first | decide | omega) (by first | decide | omega) ?_
  exact ⟨rfl, rfl, hM, hF⟩
theorem c_X12_stopped (h12 : Lay12 E S o) (hM : MR o I L A) : Cm E kX12_stopped 1 [.ref o] S I L o (.int ((ax A).2.2.1)) A := by
  refine C_of (by decide) (Nat.le_of_ble_eq_true rfl) ?_
  refine V_aload_n (pc := 0) dX12_stopped_0 rfl ?_
  refine V_iconst (pc := 1) (v := nI 0) dX12_stopped_1 (by decide) ?_
  refine V_putI (pc := 2) 12 0 dX12_stopped_2 flX12_175 (by decide) (by decide) (Or.inl rfl) rfl rfl h12.o ?_
  have hM := hM.thrown (v := nI 0)
  have hF : FrM o (up2 I o 0 (nI 0)) I L L := FrM.rf.up (by omega)
  generalize up2 I o 0 (nI 0) = I0 at hM hF ⊢
  have hr := hM.row
  refine V_aload_n (pc := 5) dX12_stopped_5 rfl ?_
  refine V_getIE (pc := 6) 12 57 dX12_stopped_6 flX12_166 (by decide) h12.o (hM.x.2.2.1) ?_
  refine V_iret (pc := 9) dX12_stopped_9 rfl (by first | decide | omega) (by first | decide | omega) ?_
  exact ⟨rfl, rfl, hM, hF⟩
theorem c_X12_status (h12 : Lay12 E S o) (hM : MR o I L A) : Cm E kX12_status 1 [.ref o] S I L o (.int ((ax A).2.2.2.1)) A := by
  refine C_of (by decide) (Nat.le_of_ble_eq_true rfl) ?_
  refine V_aload_n (pc := 0) dX12_status_0 rfl ?_
  refine V_iconst (pc := 1) (v := nI 0) dX12_status_1 (by decide) ?_
  refine V_putI (pc := 2) 12 0 dX12_status_2 flX12_175 (by decide) (by decide) (Or.inl rfl) rfl rfl h12.o ?_
  have hM := hM.thrown (v := nI 0)
  have hF : FrM o (up2 I o 0 (nI 0)) I L L := FrM.rf.up (by omega)
  generalize up2 I o 0 (nI 0) = I0 at hM hF ⊢
  have hr := hM.row
  refine V_aload_n (pc := 5) dX12_status_5 rfl ?_
  refine V_getIE (pc := 6) 12 1 dX12_status_6 flX12_178 (by decide) h12.o (hM.x.2.2.2.1) ?_
  refine V_iret (pc := 9) dX12_status_9 rfl (by first | decide | omega) (by first | decide | omega) ?_
  exact ⟨rfl, rfl, hM, hF⟩
end MI2
