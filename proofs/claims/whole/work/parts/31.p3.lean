/-! THE REFERENCE's public methods, III: single cells -/
theorem RowM.st {I : IT} {a i n : Nat} {q : Nat → Nat} {v : Int32} (h : RowM I a q) (h0 : i ≠ 0) (hv : v = enc (setq q i n) i) : RowM (up2 I a i v) a (setq q i n) := by
  intro j hj hw
  rw [setq_n (by omega)] at hw
  by_cases e : j = i
  · subst e; rw [up2_self]; exact hv
  · rw [up2_nej e, h j hj hw]
    unfold enc
    rw [setq_n e]
theorem enc_n {q : Nat → Nat} {i n : Nat} (hi : i ≠ 4 ∧ (i < 68 ∨ 74 ≤ i)) : nI n = enc (setq q i n) i := by
  unfold enc
  rw [if_neg (by omega), setq_s]
theorem enc_w {q : Nat → Nat} {i n : Nat} (hi : i = 4 ∨ (68 ≤ i ∧ i < 74)) : pred1 n = enc (setq q i n) i := by
  unfold enc
  rw [if_pos hi, setq_s]
theorem MR.st {o i n : Nat} {I : IT} {L : LT} {A : AT} {v : Int32} (h : MR o I L A) (h0 : i ≠ 0 ∧ i ≠ 3 ∧ i < 116) (hv : v = enc (setq (aq A) i n) i) : MR o (up2 I (o + 2) i v) L (sq A (setq (aq A) i n)) :=
  h.srow (fun a ha => up2_row ha) (fun j hj => up2_nej (by omega)) (h.row.st h0.1 hv) (setq_n (by omega)) (Or.inl (setq_n (by omega)))
theorem MR.tpm {o : Nat} {I I' : IT} {L : LT} {A : AT} {t : Nat × (Nat → Nat)} (h : MR o I L A) (hI : ∀ a, a ≠ o → a ≠ o + 9 → I' a = I a) (hf : ∀ i, i ≠ 13 → I' o i = I o i) (ht : I' o 13 = nI t.1 ∧ ∀ i, i < t.1 → I' (o + 9) i = nI (t.2 i)) : MR o I' L (stp A t) := by
  obtain ⟨h1, h2, h3, h4, h5, h6, h7, h8, h9⟩ := h
  refine ⟨h1.cg (hI _ (by omega) (by omega)), ?_, ?_, ?_, ht, ?_, ?_, (hf 20 (by omega)).trans h8, h9⟩
  · unfold LwsM at h2 ⊢; rw [hI (o + 2) (by omega) (by omega)]; exact h2
  · unfold UndM at h3 ⊢; rw [hI (o + 5) (by omega) (by omega), hI (o + 6) (by omega) (by omega), hf 8 (by omega)]; exact h3
  · unfold ImgM at h4 ⊢; rw [hI (o + 3) (by omega) (by omega), hI (o + 4) (by omega) (by omega)]; exact h4
  · unfold XM at h6 ⊢; rw [hI (o + 1) (by omega) (by omega), hf 1 (by omega), hf 11 (by omega), hf 18 (by omega), hf 57 (by omega)]; exact h6
  · unfold DrM at h7 ⊢; rw [hI (o + 35) (by omega) (by omega), hf 61 (by omega)]; exact h7
theorem MR.xm {o : Nat} {I I' : IT} {L : LT} {A : AT} {x : XT} (h : MR o I L A) (hI : ∀ a, a ≠ o → I' a = I a) (hf : ∀ i, i ≠ 1 → i ≠ 11 → i ≠ 18 → i ≠ 57 → I' o i = I o i) (ht : XM I' o (sx A x)) : MR o I' L (sx A x) := by
  obtain ⟨h1, h2, h3, h4, h5, h6, h7, h8, h9⟩ := h
  refine ⟨h1.cg (hI _ (by omega)), ?_, ?_, ?_, ?_, ht, ?_, (hf 20 (by omega) (by omega) (by omega) (by omega)).trans h8, h9⟩
  · unfold LwsM at h2 ⊢; rw [hI (o + 2) (by omega)]; exact h2
  · unfold UndM at h3 ⊢; rw [hI (o + 5) (by omega), hI (o + 6) (by omega), hf 8 (by omega) (by omega) (by omega) (by omega)]; exact h3
  · unfold ImgM at h4 ⊢; rw [hI (o + 3) (by omega), hI (o + 4) (by omega)]; exact h4
  · unfold TapM at h5 ⊢; rw [hI (o + 9) (by omega), hf 13 (by omega) (by omega) (by omega) (by omega)]; exact h5
  · unfold DrM at h7 ⊢; rw [hI (o + 35) (by omega), hf 61 (by omega) (by omega) (by omega) (by omega)]; exact h7
theorem up2_comm {α : Type} {f : Nat → Nat → α} {a b i j : Nat} {v w : α} (h : a ≠ b) : up2 (up2 f a i v) b j w = up2 (up2 f b j w) a i v := by
  funext x y
  unfold up2
  by_cases h1 : x = a
  · by_cases h2 : x = b
    · omega
    · simp [h1, h]
  · simp [h1]
section MI3
variable {E : EnT} {S : ST} {I : IT} {L : LT} {o : Nat} {A : AT}
def spPins (A : AT) (x y z : Int32) : Int32 × AT := if bnd y 8 = true ∧ bnd z 256 = true then (if bnd x (aq A 0) = true then (nI (aq A (8 + 8 * cln x + cln y)), ok0 (un0 (sq A (setq (aq A) (8 + 8 * cln x + cln y) (cln z))))) else (-(nI 2), rfs A 2)) else (-(nI 1), rfs A 1)
theorem c_X12_pins (h12 : Lay12 E S o) (hM : MR o I L A) (hA : wfA A) {x y z : Int32} : Cm E kX12_pins 2 [.ref o, .int x, .int y, .int z] S I L o (.int (spPins A x y z).1) (spPins A x y z).2 := by
  have hq := hA.q
  have hnb := hq.nb
  have e255 : decide (lN 0 ≤ z.toInt64 ∧ z.toInt64 ≤ (255 : Int64)) = bnd z 256 := bnd64' (n := 255) (by omega)
  refine C_of (by decide) (Nat.le_of_ble_eq_true rfl) ?_
  refine V_aload_n (pc := 0) dX12_pins_0 rfl ?_
  refine V_iconst (pc := 1) (v := nI 0) dX12_pins_1 (by decide) ?_
  refine V_putI (pc := 2) 12 0 dX12_pins_2 flX12_175 (by decide) (by decide) (Or.inl rfl) rfl rfl h12.o ?_
  have hM := hM.thrown (v := nI 0)
  have hF : FrM o (up2 I o 0 (nI 0)) I L L := FrM.rf.up (by omega)
  generalize up2 I o 0 (nI 0) = I0 at hM hF ⊢
  have hr := hM.row
  refine V_iload_n (pc := 5) dX12_pins_5 rfl ?_
  refine V_callSd (pc := 6) (c_X12_isBar) dX12_pins_6 mlX12_228 mkX12_isBar rfl rfl ⟨Nat.le_of_ble_eq_true rfl, Nat.le_of_ble_eq_true rfl⟩ (Nat.le_of_ble_eq_true rfl) ⟨Nat.le_of_ble_eq_true rfl, Nat.le_of_ble_eq_true rfl⟩ ?_
  refine V_if_eqB (pc := 9) (tgt := 24) dX12_pins_9 (by decide) (fun c9 => ?_) (fun n9 => ?_)
  · skip
    refine V_aload_n (pc := 24) dX12_pins_24 rfl ?_
    refine V_iconst (pc := 25) (v := (-1)) dX12_pins_25 (by decide) ?_
    refine V_callVd (pc := 26) (ci := 12) (c_X12_tellv (r := 1) h12 (by decide) (by decide) (by decide)) dX12_pins_26 mlX12_184 mkX12_tell rfl rfl h12.o ⟨by decide, rfl⟩ ⟨Nat.le_of_ble_eq_true rfl, Nat.le_of_ble_eq_true rfl⟩ (Nat.le_of_ble_eq_true rfl) ⟨Nat.le_of_ble_eq_true rfl, Nat.le_of_ble_eq_true rfl⟩ ?_
    refine V_iret (pc := 29) dX12_pins_29 rfl (by first | decide | omega) (by first | decide | omega) ?_
    first | (rw [spPins, if_neg (fun w => by rw [w.1] at c9; exact absurd c9 (by decide))]; exact ⟨rfl, rfl, hM.hrf, hF.hrf⟩) | (rw [e255] at n21; rw [spPins, if_neg (fun w => by rw [w.2] at n21; exact absurd n21 (by decide))]; exact ⟨rfl, rfl, hM.hrf, hF.hrf⟩)
  · skip
    refine V_iload_n (pc := 12) dX12_pins_12 rfl ?_
    refine V_i2l (pc := 13) dX12_pins_13 rfl ?_
    refine V_lconst (pc := 14) (v := lN 0) dX12_pins_14 (by decide) ?_
    refine V_ldc2 (pc := 15) dX12_pins_15 coX12_231 ?_
    refine V_callSd (pc := 18) (c_X12_in) dX12_pins_18 mlX12_195 mkX12_in rfl rfl ⟨Nat.le_of_ble_eq_true rfl, Nat.le_of_ble_eq_true rfl⟩ (Nat.le_of_ble_eq_true rfl) ⟨Nat.le_of_ble_eq_true rfl, Nat.le_of_ble_eq_true rfl⟩ ?_
    refine V_if_neB (pc := 21) (tgt := 30) dX12_pins_21 (by decide) (fun c21 => ?_) (fun n21 => ?_)
    · skip
      rw [e255] at c21
      obtain ⟨j, hj, hy⟩ := bnd_ex (by omega) n9
      obtain ⟨t, ht, hz⟩ := bnd_ex (by omega) c21
      rw [spPins, if_pos ⟨n9, c21⟩]
      subst hy hz
      rw [cln_nI (by omega), cln_nI (by omega)]
      refine V_aload_n (pc := 30) dX12_pins_30 rfl ?_
      refine V_iload_n (pc := 31) dX12_pins_31 rfl ?_
      refine V_callVd (pc := 32) (ci := 12) (c_X12_isBox (by first | assumption | omega | exact h12) (by first | assumption | omega | exact h12) (by first | assumption | omega | exact h12)) dX12_pins_32 mlX12_213 mkX12_isBox rfl rfl h12.o ⟨by decide, rfl⟩ ⟨Nat.le_of_ble_eq_true rfl, Nat.le_of_ble_eq_true rfl⟩ (Nat.le_of_ble_eq_true rfl) ⟨Nat.le_of_ble_eq_true rfl, Nat.le_of_ble_eq_true rfl⟩ ?_
      refine V_if_neB (pc := 35) (tgt := 45) dX12_pins_35 (by decide) (fun c35 => ?_) (fun n35 => ?_)
      · skip
        obtain ⟨b, hb, hx⟩ := bnd_ex (by omega) c35
        rw [if_pos c35]
        subst hx
        rw [cln_nI (by omega)]
        refine V_aload_n (pc := 45) dX12_pins_45 rfl ?_
        refine V_iconst (pc := 46) (v := nI 0) dX12_pins_46 (by decide) ?_
        refine V_putI (pc := 47) 12 8 dX12_pins_47 flX12_181 (by decide) (by decide) (Or.inl rfl) rfl rfl h12.o ?_
        refine V_aload_n (pc := 50) dX12_pins_50 rfl ?_
        refine V_bipush (pc := 51) (v := nI 8) dX12_pins_51 (by decide) ?_
        refine V_bipush (pc := 53) (v := nI 8) dX12_pins_53 (by decide) ?_
        refine V_iload_n (pc := 55) dX12_pins_55 rfl ?_
        refine V_imulN (pc := 56) dX12_pins_56 ?_
        refine V_iaddN (pc := 57) dX12_pins_57 ?_
        refine V_iload_n (pc := 58) dX12_pins_58 rfl ?_
        refine V_iaddN (pc := 59) dX12_pins_59 ?_
        refine V_iload_n (pc := 60) dX12_pins_60 rfl ?_
        refine V_callVd (pc := 61) (ci := 12) (c_X12_change (w := nI (aq A (8 + 8 * b + j))) h12 (by omega) (by rw [up2_row (by omega)]; exact hr.n (by omega))) dX12_pins_61 mlX12_233 mkX12_change rfl rfl h12.o ⟨by decide, rfl⟩ ⟨Nat.le_of_ble_eq_true rfl, Nat.le_of_ble_eq_true rfl⟩ (Nat.le_of_ble_eq_true rfl) ⟨Nat.le_of_ble_eq_true rfl, Nat.le_of_ble_eq_true rfl⟩ ?_
        refine V_iret (pc := 64) dX12_pins_64 rfl (by first | decide | omega) (by first | decide | omega) ?_
        exact ⟨rfl, rfl, (hM.hun.st (n := t) (by omega) (enc_n (by omega))).hok, ((hF.up (by omega)).up (by omega)).up (by omega)⟩
      · skip
        refine V_aload_n (pc := 38) dX12_pins_38 rfl ?_
        refine V_bipush (pc := 39) (v := (-2)) dX12_pins_39 (by decide) ?_
        refine V_callVd (pc := 41) (ci := 12) (c_X12_tellv (r := 2) h12 (by decide) (by decide) (by decide)) dX12_pins_41 mlX12_184 mkX12_tell rfl rfl h12.o ⟨by decide, rfl⟩ ⟨Nat.le_of_ble_eq_true rfl, Nat.le_of_ble_eq_true rfl⟩ (Nat.le_of_ble_eq_true rfl) ⟨Nat.le_of_ble_eq_true rfl, Nat.le_of_ble_eq_true rfl⟩ ?_
        refine V_iret (pc := 44) dX12_pins_44 rfl (by first | decide | omega) (by first | decide | omega) ?_
        rw [if_neg (by rw [n35]; decide)]
        exact ⟨rfl, rfl, hM.hrf, hF.hrf⟩
    · skip
      refine V_aload_n (pc := 24) dX12_pins_24 rfl ?_
      refine V_iconst (pc := 25) (v := (-1)) dX12_pins_25 (by decide) ?_
      refine V_callVd (pc := 26) (ci := 12) (c_X12_tellv (r := 1) h12 (by decide) (by decide) (by decide)) dX12_pins_26 mlX12_184 mkX12_tell rfl rfl h12.o ⟨by decide, rfl⟩ ⟨Nat.le_of_ble_eq_true rfl, Nat.le_of_ble_eq_true rfl⟩ (Nat.le_of_ble_eq_true rfl) ⟨Nat.le_of_ble_eq_true rfl, Nat.le_of_ble_eq_true rfl⟩ ?_
      refine V_iret (pc := 29) dX12_pins_29 rfl (by first | decide | omega) (by first | decide | omega) ?_
      first | (rw [spPins, if_neg (fun w => by rw [w.1] at c9; exact absurd c9 (by decide))]; exact ⟨rfl, rfl, hM.hrf, hF.hrf⟩) | (rw [e255] at n21; rw [spPins, if_neg (fun w => by rw [w.2] at n21; exact absurd n21 (by decide))]; exact ⟨rfl, rfl, hM.hrf, hF.hrf⟩)
def spSuitor (A : AT) (x y : Int32) : Int32 × AT := if bnd x 8 = true ∧ bnd y 61 = true then (if aq A 1 = 6 then (-(nI 5), rfs A 5) else (nI (aq A 1), ok0 (un0 (sq A (setq (setq (setq (aq A) (80 + aq A 1) (cln x)) (86 + aq A 1) (cln y)) 1 (aq A 1 + 1)))))) else (-(nI 1), rfs A 1)
theorem c_X12_suitor (h12 : Lay12 E S o) (hM : MR o I L A) (hA : wfA A) {x y : Int32} : Cm E kX12_suitor 2 [.ref o, .int x, .int y] S I L o (.int (spSuitor A x y).1) (spSuitor A x y).2 := by
  have hq := hA.q
  have hns := hq.ns
  have e60 : decide (lN 0 ≤ y.toInt64 ∧ y.toInt64 ≤ (60 : Int64)) = bnd y 61 := bnd64' (n := 60) (by omega)
  refine C_of (by decide) (Nat.le_of_ble_eq_true rfl) ?_
  refine V_aload_n (pc := 0) dX12_suitor_0 rfl ?_
  refine V_iconst (pc := 1) (v := nI 0) dX12_suitor_1 (by decide) ?_
  refine V_putI (pc := 2) 12 0 dX12_suitor_2 flX12_175 (by decide) (by decide) (Or.inl rfl) rfl rfl h12.o ?_
  have hM := hM.thrown (v := nI 0)
  have hF : FrM o (up2 I o 0 (nI 0)) I L L := FrM.rf.up (by omega)
  generalize up2 I o 0 (nI 0) = I0 at hM hF ⊢
  have hr := hM.row
  refine V_iload_n (pc := 5) dX12_suitor_5 rfl ?_
  refine V_callSd (pc := 6) (c_X12_isTooth) dX12_suitor_6 mlX12_236 mkX12_isTooth rfl rfl ⟨Nat.le_of_ble_eq_true rfl, Nat.le_of_ble_eq_true rfl⟩ (Nat.le_of_ble_eq_true rfl) ⟨Nat.le_of_ble_eq_true rfl, Nat.le_of_ble_eq_true rfl⟩ ?_
  refine V_if_eqB (pc := 9) (tgt := 24) dX12_suitor_9 (by decide) (fun c9 => ?_) (fun n9 => ?_)
  · skip
    refine V_aload_n (pc := 24) dX12_suitor_24 rfl ?_
    refine V_iconst (pc := 25) (v := (-1)) dX12_suitor_25 (by decide) ?_
    refine V_callVd (pc := 26) (ci := 12) (c_X12_tellv (r := 1) h12 (by decide) (by decide) (by decide)) dX12_suitor_26 mlX12_184 mkX12_tell rfl rfl h12.o ⟨by decide, rfl⟩ ⟨Nat.le_of_ble_eq_true rfl, Nat.le_of_ble_eq_true rfl⟩ (Nat.le_of_ble_eq_true rfl) ⟨Nat.le_of_ble_eq_true rfl, Nat.le_of_ble_eq_true rfl⟩ ?_
    refine V_iret (pc := 29) dX12_suitor_29 rfl (by first | decide | omega) (by first | decide | omega) ?_
    first | (rw [spSuitor, if_neg (fun w => by rw [w.1] at c9; exact absurd c9 (by decide))]; exact ⟨rfl, rfl, hM.hrf, hF.hrf⟩) | (rw [e60] at n21; rw [spSuitor, if_neg (fun w => by rw [w.2] at n21; exact absurd n21 (by decide))]; exact ⟨rfl, rfl, hM.hrf, hF.hrf⟩)
  · skip
    refine V_iload_n (pc := 12) dX12_suitor_12 rfl ?_
    refine V_i2l (pc := 13) dX12_suitor_13 rfl ?_
    refine V_lconst (pc := 14) (v := lN 0) dX12_suitor_14 (by decide) ?_
    refine V_ldc2 (pc := 15) dX12_suitor_15 coX12_239 ?_
    refine V_callSd (pc := 18) (c_X12_in) dX12_suitor_18 mlX12_195 mkX12_in rfl rfl ⟨Nat.le_of_ble_eq_true rfl, Nat.le_of_ble_eq_true rfl⟩ (Nat.le_of_ble_eq_true rfl) ⟨Nat.le_of_ble_eq_true rfl, Nat.le_of_ble_eq_true rfl⟩ ?_
    refine V_if_neB (pc := 21) (tgt := 30) dX12_suitor_21 (by decide) (fun c21 => ?_) (fun n21 => ?_)
    · skip
      rw [e60] at c21
      obtain ⟨j, hj, hy⟩ := bnd_ex (by omega) n9
      obtain ⟨t, ht, hz⟩ := bnd_ex (by omega) c21
      rw [spSuitor, if_pos ⟨n9, c21⟩]
      subst hy hz
      rw [cln_nI (by omega), cln_nI (by omega)]
      refine V_aload_n (pc := 30) dX12_suitor_30 rfl ?_
      refine V_getR (pc := 31) 12 3 dX12_suitor_31 flX12_13 (by decide) h12.o h12.R3 ?_
      refine V_iconst (pc := 34) (v := nI 1) dX12_suitor_34 (by decide) ?_
      refine V_ialoadE (pc := 35) dX12_suitor_35 h12.A3 (by first | decide | omega) (by omega) (hr.n (by omega)) ?_
      refine V_istore_n (pc := 36) (ls' := [(0, _), (1, _), (2, _), (3, _)]) dX12_suitor_36 (by decide) rfl ?_
      refine V_iload_n (pc := 37) dX12_suitor_37 rfl ?_
      refine V_bipush (pc := 38) (v := nI 6) dX12_suitor_38 (by decide) ?_
      refine V_icmp_neN (pc := 40) (tgt := 50) dX12_suitor_40 (by decide) (by omega) (by omega) (fun c40 => ?_) (fun n40 => ?_)
      · skip
        rw [if_neg c40]
        refine V_aload_n (pc := 50) dX12_suitor_50 rfl ?_
        refine V_getR (pc := 51) 12 3 dX12_suitor_51 flX12_13 (by decide) h12.o h12.R3 ?_
        refine V_bipush (pc := 54) (v := nI 80) dX12_suitor_54 (by decide) ?_
        refine V_iload_n (pc := 56) dX12_suitor_56 rfl ?_
        refine V_iaddN (pc := 57) dX12_suitor_57 ?_
        refine V_iload_n (pc := 58) dX12_suitor_58 rfl ?_
        refine V_iastore (pc := 59) dX12_suitor_59 h12.A3 (by first | decide | omega) (by omega) ?_
        refine V_aload_n (pc := 60) dX12_suitor_60 rfl ?_
        refine V_getR (pc := 61) 12 3 dX12_suitor_61 flX12_13 (by decide) h12.o h12.R3 ?_
        refine V_bipush (pc := 64) (v := nI 86) dX12_suitor_64 (by decide) ?_
        refine V_iload_n (pc := 66) dX12_suitor_66 rfl ?_
        refine V_iaddN (pc := 67) dX12_suitor_67 ?_
        refine V_iload_n (pc := 68) dX12_suitor_68 rfl ?_
        refine V_iastore (pc := 69) dX12_suitor_69 h12.A3 (by first | decide | omega) (by omega) ?_
        refine V_aload_n (pc := 70) dX12_suitor_70 rfl ?_
        refine V_getR (pc := 71) 12 3 dX12_suitor_71 flX12_13 (by decide) h12.o h12.R3 ?_
        refine V_iconst (pc := 74) (v := nI 1) dX12_suitor_74 (by decide) ?_
        refine V_dup2 (pc := 75) dX12_suitor_75 rfl rfl ?_
        refine V_ialoadE (pc := 76) dX12_suitor_76 h12.A3 (by first | decide | omega) (by omega) (show (_ : Int32) = nI (aq A 1) by rw [up2_nej (by omega), up2_nej (by omega)]; exact hr.n (by omega)) ?_
        refine V_iconst (pc := 77) (v := nI 1) dX12_suitor_77 (by decide) ?_
        refine V_iaddN (pc := 78) dX12_suitor_78 ?_
        refine V_iastore (pc := 79) dX12_suitor_79 h12.A3 (by first | decide | omega) (by omega) ?_
        refine V_aload_n (pc := 80) dX12_suitor_80 rfl ?_
        refine V_iload_n (pc := 81) dX12_suitor_81 rfl ?_
        refine V_callVd (pc := 82) (ci := 12) (c_X12_settled (by first | assumption | omega | exact h12) (by first | assumption | omega | exact h12)) dX12_suitor_82 mlX12_199 mkX12_settled rfl rfl h12.o ⟨by decide, rfl⟩ ⟨Nat.le_of_ble_eq_true rfl, Nat.le_of_ble_eq_true rfl⟩ (Nat.le_of_ble_eq_true rfl) ⟨Nat.le_of_ble_eq_true rfl, Nat.le_of_ble_eq_true rfl⟩ ?_
        refine V_iret (pc := 85) dX12_suitor_85 rfl (by first | decide | omega) (by first | decide | omega) ?_
        exact ⟨rfl, rfl, ((((hM.st (i := 80 + aq A 1) (n := j) (by omega) (enc_n (by omega))).st (i := 86 + aq A 1) (n := t) (by omega) (enc_n (by omega))).st (i := 1) (n := aq A 1 + 1) (by omega) (enc_n (by omega))).hun).hok, ((((hF.up (by omega)).up (by omega)).up (by omega)).up (by omega)).up (by omega)⟩
      · skip
        refine V_aload_n (pc := 43) dX12_suitor_43 rfl ?_
        refine V_bipush (pc := 44) (v := (-5)) dX12_suitor_44 (by decide) ?_
        refine V_callVd (pc := 46) (ci := 12) (c_X12_tellv (r := 5) h12 (by decide) (by decide) (by decide)) dX12_suitor_46 mlX12_184 mkX12_tell rfl rfl h12.o ⟨by decide, rfl⟩ ⟨Nat.le_of_ble_eq_true rfl, Nat.le_of_ble_eq_true rfl⟩ (Nat.le_of_ble_eq_true rfl) ⟨Nat.le_of_ble_eq_true rfl, Nat.le_of_ble_eq_true rfl⟩ ?_
        refine V_iret (pc := 49) dX12_suitor_49 rfl (by first | decide | omega) (by first | decide | omega) ?_
        rw [if_pos n40]
        exact ⟨rfl, rfl, hM.hrf, hF.hrf⟩
    · skip
      refine V_aload_n (pc := 24) dX12_suitor_24 rfl ?_
      refine V_iconst (pc := 25) (v := (-1)) dX12_suitor_25 (by decide) ?_
      refine V_callVd (pc := 26) (ci := 12) (c_X12_tellv (r := 1) h12 (by decide) (by decide) (by decide)) dX12_suitor_26 mlX12_184 mkX12_tell rfl rfl h12.o ⟨by decide, rfl⟩ ⟨Nat.le_of_ble_eq_true rfl, Nat.le_of_ble_eq_true rfl⟩ (Nat.le_of_ble_eq_true rfl) ⟨Nat.le_of_ble_eq_true rfl, Nat.le_of_ble_eq_true rfl⟩ ?_
      refine V_iret (pc := 29) dX12_suitor_29 rfl (by first | decide | omega) (by first | decide | omega) ?_
      first | (rw [spSuitor, if_neg (fun w => by rw [w.1] at c9; exact absurd c9 (by decide))]; exact ⟨rfl, rfl, hM.hrf, hF.hrf⟩) | (rw [e60] at n21; rw [spSuitor, if_neg (fun w => by rw [w.2] at n21; exact absurd n21 (by decide))]; exact ⟨rfl, rfl, hM.hrf, hF.hrf⟩)
def tmx (k : Nat) : Nat := if k = 0 then 1000 else if k = 1 then 11 else 10
def spTerms (A : AT) (x y : Int32) : Int32 × AT := if bnd x 3 = true ∧ bnd y (tmx (cln x)) = true then (nI (aq A (5 + cln x)), ok0 (un0 (sq A (setq (aq A) (5 + cln x) (cln y))))) else (-(nI 1), rfs A 1)
theorem not_bnd {x : Int32} {n j : Nat} (hj : j < n) (hn : n < 2 ^ 31) (h : ¬ bnd x n = true) : ¬ x = nI j := by
  intro e
  rw [e, bnd_nI (by omega)] at h
  exact h (decide_eq_true hj)
theorem c_X12_terms (h12 : Lay12 E S o) (hM : MR o I L A) (hA : wfA A) {x y : Int32} : Cm E kX12_terms 2 [.ref o, .int x, .int y] S I L o (.int (spTerms A x y).1) (spTerms A x y).2 := by
  have e999 : decide (lN 0 ≤ y.toInt64 ∧ y.toInt64 ≤ (999 : Int64)) = bnd y 1000 := bnd64' (n := 999) (by omega)
  have e10 : decide (lN 0 ≤ y.toInt64 ∧ y.toInt64 ≤ (10 : Int64)) = bnd y 11 := bnd64' (n := 10) (by omega)
  have e9 : decide (lN 0 ≤ y.toInt64 ∧ y.toInt64 ≤ (9 : Int64)) = bnd y 10 := bnd64' (n := 9) (by omega)
  refine C_of (by decide) (Nat.le_of_ble_eq_true rfl) ?_
  by_cases hx : bnd x 3 = true
  · obtain ⟨k, hk, hxk⟩ := bnd_ex (by omega) hx
    by_cases hy : bnd y (tmx k) = true
    · rw [spTerms, if_pos ⟨hx, by rw [hxk, cln_nI (by omega)]; exact hy⟩, hxk, cln_nI (by omega)]
      subst hxk
      obtain ⟨j, hj, hyj⟩ := bnd_ex (by unfold tmx; split; omega; split <;> omega) hy
      have hj' : j < 1000 := by
        unfold tmx at hj
        split at hj
        · omega
        · split at hj <;> omega
      rcases (by omega : k = 0 ∨ k = 1 ∨ k = 2) with rfl | rfl | rfl
      · have hb : bnd y 1000 = true := hy
        refine V_aload_n (pc := 0) dX12_terms_0 rfl ?_
        refine V_iconst (pc := 1) (v := nI 0) dX12_terms_1 (by decide) ?_
        refine V_putI (pc := 2) 12 0 dX12_terms_2 flX12_175 (by decide) (by decide) (Or.inl rfl) rfl rfl h12.o ?_
        have hM := hM.thrown (v := nI 0)
        have hF : FrM o (up2 I o 0 (nI 0)) I L L := FrM.rf.up (by omega)
        generalize up2 I o 0 (nI 0) = I0 at hM hF ⊢
        have hr := hM.row
        refine V_iload_n (pc := 5) dX12_terms_5 rfl ?_
        refine V_if_neN (pc := 6) (tgt := 21) dX12_terms_6 (by decide) (by omega) (fun c6 => absurd c6 (by omega)) (fun n6 => ?_)
        refine V_iload_n (pc := 9) dX12_terms_9 rfl ?_
        refine V_i2l (pc := 10) dX12_terms_10 rfl ?_
        refine V_lconst (pc := 11) (v := lN 0) dX12_terms_11 (by decide) ?_
        refine V_ldc2 (pc := 12) dX12_terms_12 coX12_257 ?_
        refine V_callSd (pc := 15) (c_X12_in) dX12_terms_15 mlX12_195 mkX12_in rfl rfl ⟨Nat.le_of_ble_eq_true rfl, Nat.le_of_ble_eq_true rfl⟩ (Nat.le_of_ble_eq_true rfl) ⟨Nat.le_of_ble_eq_true rfl, Nat.le_of_ble_eq_true rfl⟩ ?_
        refine V_goto (pc := 18) (tgt := 60) dX12_terms_18 (by decide) ?_
        refine V_istore_n (pc := 60) (ls' := [(0, _), (1, _), (2, _), (3, _)]) dX12_terms_60 (by decide) rfl ?_
        refine V_iload_n (pc := 61) dX12_terms_61 rfl ?_
        refine V_if_neB (pc := 62) (tgt := 71) dX12_terms_62 (by decide) (fun c62 => ?_) (fun n62 => absurd n62 (by rw [e999, hb]; decide))
        subst hyj
        rw [cln_nI (by omega)]
        refine V_aload_n (pc := 71) dX12_terms_71 rfl ?_
        refine V_iconst (pc := 72) (v := nI 0) dX12_terms_72 (by decide) ?_
        refine V_putI (pc := 73) 12 8 dX12_terms_73 flX12_181 (by decide) (by decide) (Or.inl rfl) rfl rfl h12.o ?_
        refine V_aload_n (pc := 76) dX12_terms_76 rfl ?_
        refine V_iconst (pc := 77) (v := nI 5) dX12_terms_77 (by decide) ?_
        refine V_iload_n (pc := 78) dX12_terms_78 rfl ?_
        refine V_iaddN (pc := 79) dX12_terms_79 ?_
        refine V_iload_n (pc := 80) dX12_terms_80 rfl ?_
        refine V_callVd (pc := 81) (ci := 12) (c_X12_change (w := nI (aq A (5 + 0))) h12 (by omega) (by rw [up2_row (by omega)]; exact hr.n (by omega))) dX12_terms_81 mlX12_233 mkX12_change rfl rfl h12.o ⟨by decide, rfl⟩ ⟨Nat.le_of_ble_eq_true rfl, Nat.le_of_ble_eq_true rfl⟩ (Nat.le_of_ble_eq_true rfl) ⟨Nat.le_of_ble_eq_true rfl, Nat.le_of_ble_eq_true rfl⟩ ?_
        refine V_iret (pc := 84) dX12_terms_84 rfl (by first | decide | omega) (by first | decide | omega) ?_
        exact ⟨rfl, rfl, (hM.hun.st (n := j) (by omega) (enc_n (by omega))).hok, ((hF.up (by omega)).up (by omega)).up (by omega)⟩
      · have hb : bnd y 11 = true := hy
        refine V_aload_n (pc := 0) dX12_terms_0 rfl ?_
        refine V_iconst (pc := 1) (v := nI 0) dX12_terms_1 (by decide) ?_
        refine V_putI (pc := 2) 12 0 dX12_terms_2 flX12_175 (by decide) (by decide) (Or.inl rfl) rfl rfl h12.o ?_
        have hM := hM.thrown (v := nI 0)
        have hF : FrM o (up2 I o 0 (nI 0)) I L L := FrM.rf.up (by omega)
        generalize up2 I o 0 (nI 0) = I0 at hM hF ⊢
        have hr := hM.row
        refine V_iload_n (pc := 5) dX12_terms_5 rfl ?_
        refine V_if_neN (pc := 6) (tgt := 21) dX12_terms_6 (by decide) (by omega) (fun c6 => ?_) (fun n6 => absurd n6 (by omega))
        refine V_iload_n (pc := 21) dX12_terms_21 rfl ?_
        refine V_iconst (pc := 22) (v := nI 1) dX12_terms_22 (by decide) ?_
        refine V_icmp_neN (pc := 23) (tgt := 38) dX12_terms_23 (by decide) (by omega) (by omega) (fun c23 => absurd c23 (by omega)) (fun n23 => ?_)
        refine V_iload_n (pc := 26) dX12_terms_26 rfl ?_
        refine V_i2l (pc := 27) dX12_terms_27 rfl ?_
        refine V_lconst (pc := 28) (v := lN 0) dX12_terms_28 (by decide) ?_
        refine V_ldc2 (pc := 29) dX12_terms_29 coX12_259 ?_
        refine V_callSd (pc := 32) (c_X12_in) dX12_terms_32 mlX12_195 mkX12_in rfl rfl ⟨Nat.le_of_ble_eq_true rfl, Nat.le_of_ble_eq_true rfl⟩ (Nat.le_of_ble_eq_true rfl) ⟨Nat.le_of_ble_eq_true rfl, Nat.le_of_ble_eq_true rfl⟩ ?_
        refine V_goto (pc := 35) (tgt := 60) dX12_terms_35 (by decide) ?_
        refine V_istore_n (pc := 60) (ls' := [(0, _), (1, _), (2, _), (3, _)]) dX12_terms_60 (by decide) rfl ?_
        refine V_iload_n (pc := 61) dX12_terms_61 rfl ?_
        refine V_if_neB (pc := 62) (tgt := 71) dX12_terms_62 (by decide) (fun c62 => ?_) (fun n62 => absurd n62 (by rw [e10, hb]; decide))
        subst hyj
        rw [cln_nI (by omega)]
        refine V_aload_n (pc := 71) dX12_terms_71 rfl ?_
        refine V_iconst (pc := 72) (v := nI 0) dX12_terms_72 (by decide) ?_
        refine V_putI (pc := 73) 12 8 dX12_terms_73 flX12_181 (by decide) (by decide) (Or.inl rfl) rfl rfl h12.o ?_
        refine V_aload_n (pc := 76) dX12_terms_76 rfl ?_
        refine V_iconst (pc := 77) (v := nI 5) dX12_terms_77 (by decide) ?_
        refine V_iload_n (pc := 78) dX12_terms_78 rfl ?_
        refine V_iaddN (pc := 79) dX12_terms_79 ?_
        refine V_iload_n (pc := 80) dX12_terms_80 rfl ?_
        refine V_callVd (pc := 81) (ci := 12) (c_X12_change (w := nI (aq A (5 + 1))) h12 (by omega) (by rw [up2_row (by omega)]; exact hr.n (by omega))) dX12_terms_81 mlX12_233 mkX12_change rfl rfl h12.o ⟨by decide, rfl⟩ ⟨Nat.le_of_ble_eq_true rfl, Nat.le_of_ble_eq_true rfl⟩ (Nat.le_of_ble_eq_true rfl) ⟨Nat.le_of_ble_eq_true rfl, Nat.le_of_ble_eq_true rfl⟩ ?_
        refine V_iret (pc := 84) dX12_terms_84 rfl (by first | decide | omega) (by first | decide | omega) ?_
        exact ⟨rfl, rfl, (hM.hun.st (n := j) (by omega) (enc_n (by omega))).hok, ((hF.up (by omega)).up (by omega)).up (by omega)⟩
      · have hb : bnd y 10 = true := hy
        refine V_aload_n (pc := 0) dX12_terms_0 rfl ?_
        refine V_iconst (pc := 1) (v := nI 0) dX12_terms_1 (by decide) ?_
        refine V_putI (pc := 2) 12 0 dX12_terms_2 flX12_175 (by decide) (by decide) (Or.inl rfl) rfl rfl h12.o ?_
        have hM := hM.thrown (v := nI 0)
        have hF : FrM o (up2 I o 0 (nI 0)) I L L := FrM.rf.up (by omega)
        generalize up2 I o 0 (nI 0) = I0 at hM hF ⊢
        have hr := hM.row
        refine V_iload_n (pc := 5) dX12_terms_5 rfl ?_
        refine V_if_neN (pc := 6) (tgt := 21) dX12_terms_6 (by decide) (by omega) (fun c6 => ?_) (fun n6 => absurd n6 (by omega))
        refine V_iload_n (pc := 21) dX12_terms_21 rfl ?_
        refine V_iconst (pc := 22) (v := nI 1) dX12_terms_22 (by decide) ?_
        refine V_icmp_neN (pc := 23) (tgt := 38) dX12_terms_23 (by decide) (by omega) (by omega) (fun c23 => ?_) (fun n23 => absurd n23 (by omega))
        refine V_iload_n (pc := 38) dX12_terms_38 rfl ?_
        refine V_iconst (pc := 39) (v := nI 2) dX12_terms_39 (by decide) ?_
        refine V_icmp_neN (pc := 40) (tgt := 59) dX12_terms_40 (by decide) (by omega) (by omega) (fun c40 => absurd c40 (by omega)) (fun n40 => ?_)
        refine V_iload_n (pc := 43) dX12_terms_43 rfl ?_
        refine V_i2l (pc := 44) dX12_terms_44 rfl ?_
        refine V_lconst (pc := 45) (v := lN 0) dX12_terms_45 (by decide) ?_
        refine V_ldc2 (pc := 46) dX12_terms_46 coX12_261 ?_
        refine V_callSd (pc := 49) (c_X12_in) dX12_terms_49 mlX12_195 mkX12_in rfl rfl ⟨Nat.le_of_ble_eq_true rfl, Nat.le_of_ble_eq_true rfl⟩ (Nat.le_of_ble_eq_true rfl) ⟨Nat.le_of_ble_eq_true rfl, Nat.le_of_ble_eq_true rfl⟩ ?_
        refine V_if_eqB (pc := 52) (tgt := 59) dX12_terms_52 (by decide) (fun c52 => absurd c52 (by rw [e9, hb]; decide)) (fun n52 => ?_)
        refine V_iconst (pc := 55) (v := nI 1) dX12_terms_55 (by decide) ?_
        refine V_goto (pc := 56) (tgt := 60) dX12_terms_56 (by decide) ?_
        refine V_istore_n (pc := 60) (ls' := [(0, _), (1, _), (2, _), (3, _)]) dX12_terms_60 (by decide) rfl ?_
        refine V_iload_n (pc := 61) dX12_terms_61 rfl ?_
        refine V_if_neN (pc := 62) (tgt := 71) dX12_terms_62 (by decide) (by omega) (fun c62 => ?_) (fun n62 => absurd n62 (by omega))
        subst hyj
        rw [cln_nI (by omega)]
        refine V_aload_n (pc := 71) dX12_terms_71 rfl ?_
        refine V_iconst (pc := 72) (v := nI 0) dX12_terms_72 (by decide) ?_
        refine V_putI (pc := 73) 12 8 dX12_terms_73 flX12_181 (by decide) (by decide) (Or.inl rfl) rfl rfl h12.o ?_
        refine V_aload_n (pc := 76) dX12_terms_76 rfl ?_
        refine V_iconst (pc := 77) (v := nI 5) dX12_terms_77 (by decide) ?_
        refine V_iload_n (pc := 78) dX12_terms_78 rfl ?_
        refine V_iaddN (pc := 79) dX12_terms_79 ?_
        refine V_iload_n (pc := 80) dX12_terms_80 rfl ?_
        refine V_callVd (pc := 81) (ci := 12) (c_X12_change (w := nI (aq A (5 + 2))) h12 (by omega) (by rw [up2_row (by omega)]; exact hr.n (by omega))) dX12_terms_81 mlX12_233 mkX12_change rfl rfl h12.o ⟨by decide, rfl⟩ ⟨Nat.le_of_ble_eq_true rfl, Nat.le_of_ble_eq_true rfl⟩ (Nat.le_of_ble_eq_true rfl) ⟨Nat.le_of_ble_eq_true rfl, Nat.le_of_ble_eq_true rfl⟩ ?_
        refine V_iret (pc := 84) dX12_terms_84 rfl (by first | decide | omega) (by first | decide | omega) ?_
        exact ⟨rfl, rfl, (hM.hun.st (n := j) (by omega) (enc_n (by omega))).hok, ((hF.up (by omega)).up (by omega)).up (by omega)⟩
    · rw [spTerms, if_neg (fun w => hy (by have := w.2; rw [hxk, cln_nI (by omega)] at this; exact this))]
      subst hxk
      rcases (by omega : k = 0 ∨ k = 1 ∨ k = 2) with rfl | rfl | rfl
      · have hb : ¬ bnd y 1000 = true := hy
        refine V_aload_n (pc := 0) dX12_terms_0 rfl ?_
        refine V_iconst (pc := 1) (v := nI 0) dX12_terms_1 (by decide) ?_
        refine V_putI (pc := 2) 12 0 dX12_terms_2 flX12_175 (by decide) (by decide) (Or.inl rfl) rfl rfl h12.o ?_
        have hM := hM.thrown (v := nI 0)
        have hF : FrM o (up2 I o 0 (nI 0)) I L L := FrM.rf.up (by omega)
        generalize up2 I o 0 (nI 0) = I0 at hM hF ⊢
        have hr := hM.row
        refine V_iload_n (pc := 5) dX12_terms_5 rfl ?_
        refine V_if_neN (pc := 6) (tgt := 21) dX12_terms_6 (by decide) (by omega) (fun c6 => absurd c6 (by omega)) (fun n6 => ?_)
        refine V_iload_n (pc := 9) dX12_terms_9 rfl ?_
        refine V_i2l (pc := 10) dX12_terms_10 rfl ?_
        refine V_lconst (pc := 11) (v := lN 0) dX12_terms_11 (by decide) ?_
        refine V_ldc2 (pc := 12) dX12_terms_12 coX12_257 ?_
        refine V_callSd (pc := 15) (c_X12_in) dX12_terms_15 mlX12_195 mkX12_in rfl rfl ⟨Nat.le_of_ble_eq_true rfl, Nat.le_of_ble_eq_true rfl⟩ (Nat.le_of_ble_eq_true rfl) ⟨Nat.le_of_ble_eq_true rfl, Nat.le_of_ble_eq_true rfl⟩ ?_
        refine V_goto (pc := 18) (tgt := 60) dX12_terms_18 (by decide) ?_
        refine V_istore_n (pc := 60) (ls' := [(0, _), (1, _), (2, _), (3, _)]) dX12_terms_60 (by decide) rfl ?_
        refine V_iload_n (pc := 61) dX12_terms_61 rfl ?_
        refine V_if_neB (pc := 62) (tgt := 71) dX12_terms_62 (by decide) (fun c62 => absurd c62 (by rw [e999]; exact hb)) (fun n62 => ?_)
        refine V_aload_n (pc := 65) dX12_terms_65 rfl ?_
        refine V_iconst (pc := 66) (v := (-1)) dX12_terms_66 (by decide) ?_
        refine V_callVd (pc := 67) (ci := 12) (c_X12_tellv (r := 1) h12 (by decide) (by decide) (by decide)) dX12_terms_67 mlX12_184 mkX12_tell rfl rfl h12.o ⟨by decide, rfl⟩ ⟨Nat.le_of_ble_eq_true rfl, Nat.le_of_ble_eq_true rfl⟩ (Nat.le_of_ble_eq_true rfl) ⟨Nat.le_of_ble_eq_true rfl, Nat.le_of_ble_eq_true rfl⟩ ?_
        refine V_iret (pc := 70) dX12_terms_70 rfl (by first | decide | omega) (by first | decide | omega) ?_
        exact ⟨rfl, rfl, hM.hrf, hF.hrf⟩
      · have hb : ¬ bnd y 11 = true := hy
        refine V_aload_n (pc := 0) dX12_terms_0 rfl ?_
        refine V_iconst (pc := 1) (v := nI 0) dX12_terms_1 (by decide) ?_
        refine V_putI (pc := 2) 12 0 dX12_terms_2 flX12_175 (by decide) (by decide) (Or.inl rfl) rfl rfl h12.o ?_
        have hM := hM.thrown (v := nI 0)
        have hF : FrM o (up2 I o 0 (nI 0)) I L L := FrM.rf.up (by omega)
        generalize up2 I o 0 (nI 0) = I0 at hM hF ⊢
        have hr := hM.row
        refine V_iload_n (pc := 5) dX12_terms_5 rfl ?_
        refine V_if_neN (pc := 6) (tgt := 21) dX12_terms_6 (by decide) (by omega) (fun c6 => ?_) (fun n6 => absurd n6 (by omega))
        refine V_iload_n (pc := 21) dX12_terms_21 rfl ?_
        refine V_iconst (pc := 22) (v := nI 1) dX12_terms_22 (by decide) ?_
        refine V_icmp_neN (pc := 23) (tgt := 38) dX12_terms_23 (by decide) (by omega) (by omega) (fun c23 => absurd c23 (by omega)) (fun n23 => ?_)
        refine V_iload_n (pc := 26) dX12_terms_26 rfl ?_
        refine V_i2l (pc := 27) dX12_terms_27 rfl ?_
        refine V_lconst (pc := 28) (v := lN 0) dX12_terms_28 (by decide) ?_
        refine V_ldc2 (pc := 29) dX12_terms_29 coX12_259 ?_
        refine V_callSd (pc := 32) (c_X12_in) dX12_terms_32 mlX12_195 mkX12_in rfl rfl ⟨Nat.le_of_ble_eq_true rfl, Nat.le_of_ble_eq_true rfl⟩ (Nat.le_of_ble_eq_true rfl) ⟨Nat.le_of_ble_eq_true rfl, Nat.le_of_ble_eq_true rfl⟩ ?_
        refine V_goto (pc := 35) (tgt := 60) dX12_terms_35 (by decide) ?_
        refine V_istore_n (pc := 60) (ls' := [(0, _), (1, _), (2, _), (3, _)]) dX12_terms_60 (by decide) rfl ?_
        refine V_iload_n (pc := 61) dX12_terms_61 rfl ?_
        refine V_if_neB (pc := 62) (tgt := 71) dX12_terms_62 (by decide) (fun c62 => absurd c62 (by rw [e10]; exact hb)) (fun n62 => ?_)
        refine V_aload_n (pc := 65) dX12_terms_65 rfl ?_
        refine V_iconst (pc := 66) (v := (-1)) dX12_terms_66 (by decide) ?_
        refine V_callVd (pc := 67) (ci := 12) (c_X12_tellv (r := 1) h12 (by decide) (by decide) (by decide)) dX12_terms_67 mlX12_184 mkX12_tell rfl rfl h12.o ⟨by decide, rfl⟩ ⟨Nat.le_of_ble_eq_true rfl, Nat.le_of_ble_eq_true rfl⟩ (Nat.le_of_ble_eq_true rfl) ⟨Nat.le_of_ble_eq_true rfl, Nat.le_of_ble_eq_true rfl⟩ ?_
        refine V_iret (pc := 70) dX12_terms_70 rfl (by first | decide | omega) (by first | decide | omega) ?_
        exact ⟨rfl, rfl, hM.hrf, hF.hrf⟩
      · have hb : ¬ bnd y 10 = true := hy
        refine V_aload_n (pc := 0) dX12_terms_0 rfl ?_
        refine V_iconst (pc := 1) (v := nI 0) dX12_terms_1 (by decide) ?_
        refine V_putI (pc := 2) 12 0 dX12_terms_2 flX12_175 (by decide) (by decide) (Or.inl rfl) rfl rfl h12.o ?_
        have hM := hM.thrown (v := nI 0)
        have hF : FrM o (up2 I o 0 (nI 0)) I L L := FrM.rf.up (by omega)
        generalize up2 I o 0 (nI 0) = I0 at hM hF ⊢
        have hr := hM.row
        refine V_iload_n (pc := 5) dX12_terms_5 rfl ?_
        refine V_if_neN (pc := 6) (tgt := 21) dX12_terms_6 (by decide) (by omega) (fun c6 => ?_) (fun n6 => absurd n6 (by omega))
        refine V_iload_n (pc := 21) dX12_terms_21 rfl ?_
        refine V_iconst (pc := 22) (v := nI 1) dX12_terms_22 (by decide) ?_
        refine V_icmp_neN (pc := 23) (tgt := 38) dX12_terms_23 (by decide) (by omega) (by omega) (fun c23 => ?_) (fun n23 => absurd n23 (by omega))
        refine V_iload_n (pc := 38) dX12_terms_38 rfl ?_
        refine V_iconst (pc := 39) (v := nI 2) dX12_terms_39 (by decide) ?_
        refine V_icmp_neN (pc := 40) (tgt := 59) dX12_terms_40 (by decide) (by omega) (by omega) (fun c40 => absurd c40 (by omega)) (fun n40 => ?_)
        refine V_iload_n (pc := 43) dX12_terms_43 rfl ?_
        refine V_i2l (pc := 44) dX12_terms_44 rfl ?_
        refine V_lconst (pc := 45) (v := lN 0) dX12_terms_45 (by decide) ?_
        refine V_ldc2 (pc := 46) dX12_terms_46 coX12_261 ?_
        refine V_callSd (pc := 49) (c_X12_in) dX12_terms_49 mlX12_195 mkX12_in rfl rfl ⟨Nat.le_of_ble_eq_true rfl, Nat.le_of_ble_eq_true rfl⟩ (Nat.le_of_ble_eq_true rfl) ⟨Nat.le_of_ble_eq_true rfl, Nat.le_of_ble_eq_true rfl⟩ ?_
        refine V_if_eqB (pc := 52) (tgt := 59) dX12_terms_52 (by decide) (fun c52 => ?_) (fun n52 => absurd n52 (by rw [e9]; exact hb))
        refine V_iconst (pc := 59) (v := nI 0) dX12_terms_59 (by decide) ?_
        refine V_istore_n (pc := 60) (ls' := [(0, _), (1, _), (2, _), (3, _)]) dX12_terms_60 (by decide) rfl ?_
        refine V_iload_n (pc := 61) dX12_terms_61 rfl ?_
        refine V_if_neN (pc := 62) (tgt := 71) dX12_terms_62 (by decide) (by omega) (fun c62 => absurd c62 (by omega)) (fun n62 => ?_)
        refine V_aload_n (pc := 65) dX12_terms_65 rfl ?_
        refine V_iconst (pc := 66) (v := (-1)) dX12_terms_66 (by decide) ?_
        refine V_callVd (pc := 67) (ci := 12) (c_X12_tellv (r := 1) h12 (by decide) (by decide) (by decide)) dX12_terms_67 mlX12_184 mkX12_tell rfl rfl h12.o ⟨by decide, rfl⟩ ⟨Nat.le_of_ble_eq_true rfl, Nat.le_of_ble_eq_true rfl⟩ (Nat.le_of_ble_eq_true rfl) ⟨Nat.le_of_ble_eq_true rfl, Nat.le_of_ble_eq_true rfl⟩ ?_
        refine V_iret (pc := 70) dX12_terms_70 rfl (by first | decide | omega) (by first | decide | omega) ?_
        exact ⟨rfl, rfl, hM.hrf, hF.hrf⟩
  · rw [spTerms, if_neg (fun w => hx w.1)]
    refine V_aload_n (pc := 0) dX12_terms_0 rfl ?_
    refine V_iconst (pc := 1) (v := nI 0) dX12_terms_1 (by decide) ?_
    refine V_putI (pc := 2) 12 0 dX12_terms_2 flX12_175 (by decide) (by decide) (Or.inl rfl) rfl rfl h12.o ?_
    have hM := hM.thrown (v := nI 0)
    have hF : FrM o (up2 I o 0 (nI 0)) I L L := FrM.rf.up (by omega)
    generalize up2 I o 0 (nI 0) = I0 at hM hF ⊢
    have hr := hM.row
    refine V_iload_n (pc := 5) dX12_terms_5 rfl ?_
    refine V_if_ne (pc := 6) (tgt := 21) dX12_terms_6 (by decide) (fun c6 => ?_) (fun n6 => absurd n6 (by exact fun z => not_bnd (j := 0) (by omega) (by omega) hx z))
    refine V_iload_n (pc := 21) dX12_terms_21 rfl ?_
    refine V_iconst (pc := 22) (v := nI 1) dX12_terms_22 (by decide) ?_
    refine V_icmp_ne (pc := 23) (tgt := 38) dX12_terms_23 (by decide) (fun c23 => ?_) (fun n23 => absurd n23 (by exact fun z => not_bnd (j := 1) (by omega) (by omega) hx z))
    refine V_iload_n (pc := 38) dX12_terms_38 rfl ?_
    refine V_iconst (pc := 39) (v := nI 2) dX12_terms_39 (by decide) ?_
    refine V_icmp_ne (pc := 40) (tgt := 59) dX12_terms_40 (by decide) (fun c40 => ?_) (fun n40 => absurd n40 (by exact fun z => not_bnd (j := 2) (by omega) (by omega) hx z))
    refine V_iconst (pc := 59) (v := nI 0) dX12_terms_59 (by decide) ?_
    refine V_istore_n (pc := 60) (ls' := [(0, _), (1, _), (2, _), (3, _)]) dX12_terms_60 (by decide) rfl ?_
    refine V_iload_n (pc := 61) dX12_terms_61 rfl ?_
    refine V_if_neN (pc := 62) (tgt := 71) dX12_terms_62 (by decide) (by omega) (fun c62 => absurd c62 (by omega)) (fun n62 => ?_)
    refine V_aload_n (pc := 65) dX12_terms_65 rfl ?_
    refine V_iconst (pc := 66) (v := (-1)) dX12_terms_66 (by decide) ?_
    refine V_callVd (pc := 67) (ci := 12) (c_X12_tellv (r := 1) h12 (by decide) (by decide) (by decide)) dX12_terms_67 mlX12_184 mkX12_tell rfl rfl h12.o ⟨by decide, rfl⟩ ⟨Nat.le_of_ble_eq_true rfl, Nat.le_of_ble_eq_true rfl⟩ (Nat.le_of_ble_eq_true rfl) ⟨Nat.le_of_ble_eq_true rfl, Nat.le_of_ble_eq_true rfl⟩ ?_
    refine V_iret (pc := 70) dX12_terms_70 rfl (by first | decide | omega) (by first | decide | omega) ?_
    exact ⟨rfl, rfl, hM.hrf, hF.hrf⟩
def isl (x : Int32) (n : Nat) : Bool := decide (x = -1) || bnd x n
def suc1 (x : Int32) : Nat := cln (x + 1)
theorem isl_ex {x : Int32} {n : Nat} (hn : n < 2 ^ 31) (h : isl x n = true) : suc1 x ≤ n ∧ x = pred1 (suc1 x) := by
  unfold isl at h
  by_cases hx : x = -1
  · subst hx; exact ⟨Nat.zero_le n, by decide⟩
  · rw [decide_eq_false hx, Bool.false_or] at h
    obtain ⟨j, hj, e⟩ := bnd_ex hn h
    subst e
    have e2 : suc1 (nI j) = j + 1 := by unfold suc1; rw [show (1 : Int32) = nI 1 from rfl, nI_add, cln_nI (by omega)]
    rw [e2, pred1_s]
    exact ⟨by omega, rfl⟩
theorem c_X12_isLaw (h12 : Lay12 E S o) {q : Nat → Nat} (hr : RowM I (o + 2) q) (hq : wq q) {x : Int32} : Cd E kX12_isLaw 1 0 0 [.ref o, .int x] S I L (.int (b2i (isl x (q 3)))) S I L := by
  have hb := hq.nl
  have e3 : decide (lN 0 ≤ x.toInt64 ∧ x.toInt64 ≤ lN (q 3) - lN 1) = bnd x (q 3) := bnd64 (by omega)
  refine C_of (by decide) (Nat.le_of_ble_eq_true rfl) ?_
  refine V_iload_n (pc := 0) dX12_isLaw_0 rfl ?_
  refine V_iconst (pc := 1) (v := (-1)) dX12_isLaw_1 (by decide) ?_
  refine V_icmp_eq (pc := 2) (tgt := 23) dX12_isLaw_2 (by decide) (fun c2 => ?_) (fun n2 => ?_)
  · skip
    first | (rw [show isl x (q 3) = true from by unfold isl; rw [decide_eq_true c2]; rfl]) | (rw [e3] at n20; rw [show isl x (q 3) = true from by unfold isl; rw [n20, Bool.or_true]])
    refine V_iconst (pc := 23) (v := nI 1) dX12_isLaw_23 (by decide) ?_
    refine V_goto (pc := 24) (tgt := 28) dX12_isLaw_24 (by decide) ?_
    refine V_zretB (pc := 28) (p := true) dX12_isLaw_28 rfl rfl (by first | decide | omega) (by first | decide | omega) ?_
    exact ⟨rfl, rfl, rfl, rfl⟩
  · skip
    refine V_iload_n (pc := 5) dX12_isLaw_5 rfl ?_
    refine V_i2l (pc := 6) dX12_isLaw_6 rfl ?_
    refine V_lconst (pc := 7) (v := lN 0) dX12_isLaw_7 (by decide) ?_
    refine V_aload_n (pc := 8) dX12_isLaw_8 rfl ?_
    refine V_getR (pc := 9) 12 3 dX12_isLaw_9 flX12_13 (by decide) h12.o h12.R3 ?_
    refine V_iconst (pc := 12) (v := nI 3) dX12_isLaw_12 (by decide) ?_
    refine V_ialoadE (pc := 13) dX12_isLaw_13 h12.A3 (by first | decide | omega) (by omega) (hr.n (by omega)) ?_
    refine V_i2lN (pc := 14) dX12_isLaw_14 (by omega) ?_
    refine V_lconst (pc := 15) (v := lN 1) dX12_isLaw_15 (by decide) ?_
    refine V_lsub (pc := 16) dX12_isLaw_16 ?_
    refine V_callSd (pc := 17) (c_X12_in) dX12_isLaw_17 mlX12_195 mkX12_in rfl rfl ⟨Nat.le_of_ble_eq_true rfl, Nat.le_of_ble_eq_true rfl⟩ (Nat.le_of_ble_eq_true rfl) ⟨Nat.le_of_ble_eq_true rfl, Nat.le_of_ble_eq_true rfl⟩ ?_
    refine V_if_eqB (pc := 20) (tgt := 27) dX12_isLaw_20 (by decide) (fun c20 => ?_) (fun n20 => ?_)
    · skip
      rw [e3] at c20
      rw [show isl x (q 3) = false from by unfold isl; rw [c20, decide_eq_false n2]; rfl]
      refine V_iconst (pc := 27) (v := nI 0) dX12_isLaw_27 (by decide) ?_
      refine V_zretB (pc := 28) (p := false) dX12_isLaw_28 rfl rfl (by first | decide | omega) (by first | decide | omega) ?_
      exact ⟨rfl, rfl, rfl, rfl⟩
    · skip
      first | (rw [show isl x (q 3) = true from by unfold isl; rw [decide_eq_true c2]; rfl]) | (rw [e3] at n20; rw [show isl x (q 3) = true from by unfold isl; rw [n20, Bool.or_true]])
      refine V_iconst (pc := 23) (v := nI 1) dX12_isLaw_23 (by decide) ?_
      refine V_goto (pc := 24) (tgt := 28) dX12_isLaw_24 (by decide) ?_
      refine V_zretB (pc := 28) (p := true) dX12_isLaw_28 rfl rfl (by first | decide | omega) (by first | decide | omega) ?_
      exact ⟨rfl, rfl, rfl, rfl⟩
def spForce (A : AT) (x : Int32) : Int32 × AT := if isl x (aq A 3) = true then (pred1 (aq A 4), ok0 (sq A (setq (aq A) 4 (suc1 x)))) else (-(nI 2), rfs A 2)
theorem c_X12_force (h12 : Lay12 E S o) (hM : MR o I L A) (hA : wfA A) {x : Int32} : Cm E kX12_force 2 [.ref o, .int x] S I L o (.int (spForce A x).1) (spForce A x).2 := by
  have hq := hA.q
  have hnl := hq.nl
  refine C_of (by decide) (Nat.le_of_ble_eq_true rfl) ?_
  refine V_aload_n (pc := 0) dX12_force_0 rfl ?_
  refine V_iconst (pc := 1) (v := nI 0) dX12_force_1 (by decide) ?_
  refine V_putI (pc := 2) 12 0 dX12_force_2 flX12_175 (by decide) (by decide) (Or.inl rfl) rfl rfl h12.o ?_
  have hM := hM.thrown (v := nI 0)
  have hF : FrM o (up2 I o 0 (nI 0)) I L L := FrM.rf.up (by omega)
  generalize up2 I o 0 (nI 0) = I0 at hM hF ⊢
  have hr := hM.row
  refine V_aload_n (pc := 5) dX12_force_5 rfl ?_
  refine V_iload_n (pc := 6) dX12_force_6 rfl ?_
  refine V_callVd (pc := 7) (ci := 12) (c_X12_isLaw (by first | assumption | omega | exact h12) (by first | assumption | omega | exact h12) (by first | assumption | omega | exact h12)) dX12_force_7 mlX12_421 mkX12_isLaw rfl rfl h12.o ⟨by decide, rfl⟩ ⟨Nat.le_of_ble_eq_true rfl, Nat.le_of_ble_eq_true rfl⟩ (Nat.le_of_ble_eq_true rfl) ⟨Nat.le_of_ble_eq_true rfl, Nat.le_of_ble_eq_true rfl⟩ ?_
  refine V_if_eqB (pc := 10) (tgt := 22) dX12_force_10 (by decide) (fun c10 => ?_) (fun n10 => ?_)
  · skip
    rw [spForce, if_neg (by rw [c10]; decide)]
    refine V_aload_n (pc := 22) dX12_force_22 rfl ?_
    refine V_bipush (pc := 23) (v := (-2)) dX12_force_23 (by decide) ?_
    refine V_callVd (pc := 25) (ci := 12) (c_X12_tellv (r := 2) h12 (by decide) (by decide) (by decide)) dX12_force_25 mlX12_184 mkX12_tell rfl rfl h12.o ⟨by decide, rfl⟩ ⟨Nat.le_of_ble_eq_true rfl, Nat.le_of_ble_eq_true rfl⟩ (Nat.le_of_ble_eq_true rfl) ⟨Nat.le_of_ble_eq_true rfl, Nat.le_of_ble_eq_true rfl⟩ ?_
    refine V_iret (pc := 28) dX12_force_28 rfl (by first | decide | omega) (by first | decide | omega) ?_
    first | exact ⟨rfl, rfl, hM.hrf, hF.hrf⟩ | exact ⟨rfl, rfl, (hM.st (n := suc1 x) (by omega) (hx.2.trans (enc_w (by omega)))).hok, (hF.up (by omega)).up (by omega)⟩
  · skip
    rw [spForce, if_pos n10]
    have hx := isl_ex (by omega) n10
    refine V_aload_n (pc := 13) dX12_force_13 rfl ?_
    refine V_iconst (pc := 14) (v := nI 4) dX12_force_14 (by decide) ?_
    refine V_iload_n (pc := 15) dX12_force_15 rfl ?_
    refine V_callVd (pc := 16) (ci := 12) (c_X12_change (w := pred1 (aq A 4)) h12 (by omega) hr.f) dX12_force_16 mlX12_233 mkX12_change rfl rfl h12.o ⟨by decide, rfl⟩ ⟨Nat.le_of_ble_eq_true rfl, Nat.le_of_ble_eq_true rfl⟩ (Nat.le_of_ble_eq_true rfl) ⟨Nat.le_of_ble_eq_true rfl, Nat.le_of_ble_eq_true rfl⟩ ?_
    refine V_goto (pc := 19) (tgt := 28) dX12_force_19 (by decide) ?_
    refine V_iret (pc := 28) dX12_force_28 rfl (by first | decide | omega) (by first | decide | omega) ?_
    first | exact ⟨rfl, rfl, hM.hrf, hF.hrf⟩ | exact ⟨rfl, rfl, (hM.st (n := suc1 x) (by omega) (hx.2.trans (enc_w (by omega)))).hok, (hF.up (by omega)).up (by omega)⟩
def spHear (A : AT) (x y z : Int32) : Int32 × AT := if bnd x 8 = true ∧ bnd y 8 = true ∧ bnd z 2 = true then (if aq A 2 = 8 then (-(nI 5), rfs A 5) else (nI (aq A 2 + 1), ok0 (sq A (setq (setq (setq (setq (aq A) (92 + 3 * aq A 2) (cln x)) (92 + 3 * aq A 2 + 1) (cln y)) (92 + 3 * aq A 2 + 2) (cln z)) 2 (aq A 2 + 1))))) else (-(nI 1), rfs A 1)
theorem c_X12_hear (h12 : Lay12 E S o) (hM : MR o I L A) (hA : wfA A) {x y z : Int32} : Cm E kX12_hear 2 [.ref o, .int x, .int y, .int z] S I L o (.int (spHear A x y z).1) (spHear A x y z).2 := by
  have hq := hA.q
  have hnh := hq.nh
  have e1 : decide (lN 0 ≤ z.toInt64 ∧ z.toInt64 ≤ lN 1) = bnd z 2 := bnd64' (n := 1) (by omega)
  refine C_of (by decide) (Nat.le_of_ble_eq_true rfl) ?_
  refine V_aload_n (pc := 0) dX12_hear_0 rfl ?_
  refine V_iconst (pc := 1) (v := nI 0) dX12_hear_1 (by decide) ?_
  refine V_putI (pc := 2) 12 0 dX12_hear_2 flX12_175 (by decide) (by decide) (Or.inl rfl) rfl rfl h12.o ?_
  have hM := hM.thrown (v := nI 0)
  have hF : FrM o (up2 I o 0 (nI 0)) I L L := FrM.rf.up (by omega)
  generalize up2 I o 0 (nI 0) = I0 at hM hF ⊢
  have hr := hM.row
  refine V_iload_n (pc := 5) dX12_hear_5 rfl ?_
  refine V_callSd (pc := 6) (c_X12_isBar) dX12_hear_6 mlX12_228 mkX12_isBar rfl rfl ⟨Nat.le_of_ble_eq_true rfl, Nat.le_of_ble_eq_true rfl⟩ (Nat.le_of_ble_eq_true rfl) ⟨Nat.le_of_ble_eq_true rfl, Nat.le_of_ble_eq_true rfl⟩ ?_
  refine V_if_eqB (pc := 9) (tgt := 29) dX12_hear_9 (by decide) (fun c9 => ?_) (fun n9 => ?_)
  · skip
    refine V_aload_n (pc := 29) dX12_hear_29 rfl ?_
    refine V_iconst (pc := 30) (v := (-1)) dX12_hear_30 (by decide) ?_
    refine V_callVd (pc := 31) (ci := 12) (c_X12_tellv (r := 1) h12 (by decide) (by decide) (by decide)) dX12_hear_31 mlX12_184 mkX12_tell rfl rfl h12.o ⟨by decide, rfl⟩ ⟨Nat.le_of_ble_eq_true rfl, Nat.le_of_ble_eq_true rfl⟩ (Nat.le_of_ble_eq_true rfl) ⟨Nat.le_of_ble_eq_true rfl, Nat.le_of_ble_eq_true rfl⟩ ?_
    refine V_iret (pc := 34) dX12_hear_34 rfl (by first | decide | omega) (by first | decide | omega) ?_
    first | (rw [spHear, if_neg (fun w => by rw [w.1] at c9; exact absurd c9 (by decide))]; exact ⟨rfl, rfl, hM.hrf, hF.hrf⟩) | (rw [spHear, if_neg (fun w => by rw [w.2.1] at c16; exact absurd c16 (by decide))]; exact ⟨rfl, rfl, hM.hrf, hF.hrf⟩) | (rw [e1] at n26; rw [spHear, if_neg (fun w => by rw [w.2.2] at n26; exact absurd n26 (by decide))]; exact ⟨rfl, rfl, hM.hrf, hF.hrf⟩)
  · skip
    refine V_iload_n (pc := 12) dX12_hear_12 rfl ?_
    refine V_callSd (pc := 13) (c_X12_isTooth) dX12_hear_13 mlX12_236 mkX12_isTooth rfl rfl ⟨Nat.le_of_ble_eq_true rfl, Nat.le_of_ble_eq_true rfl⟩ (Nat.le_of_ble_eq_true rfl) ⟨Nat.le_of_ble_eq_true rfl, Nat.le_of_ble_eq_true rfl⟩ ?_
    refine V_if_eqB (pc := 16) (tgt := 29) dX12_hear_16 (by decide) (fun c16 => ?_) (fun n16 => ?_)
    · skip
      refine V_aload_n (pc := 29) dX12_hear_29 rfl ?_
      refine V_iconst (pc := 30) (v := (-1)) dX12_hear_30 (by decide) ?_
      refine V_callVd (pc := 31) (ci := 12) (c_X12_tellv (r := 1) h12 (by decide) (by decide) (by decide)) dX12_hear_31 mlX12_184 mkX12_tell rfl rfl h12.o ⟨by decide, rfl⟩ ⟨Nat.le_of_ble_eq_true rfl, Nat.le_of_ble_eq_true rfl⟩ (Nat.le_of_ble_eq_true rfl) ⟨Nat.le_of_ble_eq_true rfl, Nat.le_of_ble_eq_true rfl⟩ ?_
      refine V_iret (pc := 34) dX12_hear_34 rfl (by first | decide | omega) (by first | decide | omega) ?_
      first | (rw [spHear, if_neg (fun w => by rw [w.1] at c9; exact absurd c9 (by decide))]; exact ⟨rfl, rfl, hM.hrf, hF.hrf⟩) | (rw [spHear, if_neg (fun w => by rw [w.2.1] at c16; exact absurd c16 (by decide))]; exact ⟨rfl, rfl, hM.hrf, hF.hrf⟩) | (rw [e1] at n26; rw [spHear, if_neg (fun w => by rw [w.2.2] at n26; exact absurd n26 (by decide))]; exact ⟨rfl, rfl, hM.hrf, hF.hrf⟩)
    · skip
      refine V_iload_n (pc := 19) dX12_hear_19 rfl ?_
      refine V_i2l (pc := 20) dX12_hear_20 rfl ?_
      refine V_lconst (pc := 21) (v := lN 0) dX12_hear_21 (by decide) ?_
      refine V_lconst (pc := 22) (v := lN 1) dX12_hear_22 (by decide) ?_
      refine V_callSd (pc := 23) (c_X12_in) dX12_hear_23 mlX12_195 mkX12_in rfl rfl ⟨Nat.le_of_ble_eq_true rfl, Nat.le_of_ble_eq_true rfl⟩ (Nat.le_of_ble_eq_true rfl) ⟨Nat.le_of_ble_eq_true rfl, Nat.le_of_ble_eq_true rfl⟩ ?_
      refine V_if_neB (pc := 26) (tgt := 35) dX12_hear_26 (by decide) (fun c26 => ?_) (fun n26 => ?_)
      · skip
        rw [e1] at c26
        obtain ⟨j, hj, hx⟩ := bnd_ex (by omega) n9
        obtain ⟨t, ht, hy⟩ := bnd_ex (by omega) n16
        obtain ⟨u, hu, hz⟩ := bnd_ex (by omega) c26
        rw [spHear, if_pos ⟨n9, n16, c26⟩]
        subst hx hy hz
        rw [cln_nI (by omega), cln_nI (by omega), cln_nI (by omega)]
        refine V_aload_n (pc := 35) dX12_hear_35 rfl ?_
        refine V_getR (pc := 36) 12 3 dX12_hear_36 flX12_13 (by decide) h12.o h12.R3 ?_
        refine V_iconst (pc := 39) (v := nI 2) dX12_hear_39 (by decide) ?_
        refine V_ialoadE (pc := 40) dX12_hear_40 h12.A3 (by first | decide | omega) (by omega) (hr.n (by omega)) ?_
        refine V_istore (pc := 41) (ls' := [(0, _), (1, _), (2, _), (3, _), (4, _)]) dX12_hear_41 (by decide) rfl ?_
        refine V_iload (pc := 43) dX12_hear_43 rfl ?_
        refine V_bipush (pc := 45) (v := nI 8) dX12_hear_45 (by decide) ?_
        refine V_icmp_neN (pc := 47) (tgt := 57) dX12_hear_47 (by decide) (by omega) (by omega) (fun c47 => ?_) (fun n47 => ?_)
        · skip
          rw [if_neg c47]
          refine V_aload_n (pc := 57) dX12_hear_57 rfl ?_
          refine V_getR (pc := 58) 12 3 dX12_hear_58 flX12_13 (by decide) h12.o h12.R3 ?_
          refine V_bipush (pc := 61) (v := nI 92) dX12_hear_61 (by decide) ?_
          refine V_iconst (pc := 63) (v := nI 3) dX12_hear_63 (by decide) ?_
          refine V_iload (pc := 64) dX12_hear_64 rfl ?_
          refine V_imulN (pc := 66) dX12_hear_66 ?_
          refine V_iaddN (pc := 67) dX12_hear_67 ?_
          refine V_iload_n (pc := 68) dX12_hear_68 rfl ?_
          refine V_iastore (pc := 69) dX12_hear_69 h12.A3 (by first | decide | omega) (by omega) ?_
          refine V_aload_n (pc := 70) dX12_hear_70 rfl ?_
          refine V_getR (pc := 71) 12 3 dX12_hear_71 flX12_13 (by decide) h12.o h12.R3 ?_
          refine V_bipush (pc := 74) (v := nI 92) dX12_hear_74 (by decide) ?_
          refine V_iconst (pc := 76) (v := nI 3) dX12_hear_76 (by decide) ?_
          refine V_iload (pc := 77) dX12_hear_77 rfl ?_
          refine V_imulN (pc := 79) dX12_hear_79 ?_
          refine V_iaddN (pc := 80) dX12_hear_80 ?_
          refine V_iconst (pc := 81) (v := nI 1) dX12_hear_81 (by decide) ?_
          refine V_iaddN (pc := 82) dX12_hear_82 ?_
          refine V_iload_n (pc := 83) dX12_hear_83 rfl ?_
          refine V_iastore (pc := 84) dX12_hear_84 h12.A3 (by first | decide | omega) (by omega) ?_
          refine V_aload_n (pc := 85) dX12_hear_85 rfl ?_
          refine V_getR (pc := 86) 12 3 dX12_hear_86 flX12_13 (by decide) h12.o h12.R3 ?_
          refine V_bipush (pc := 89) (v := nI 92) dX12_hear_89 (by decide) ?_
          refine V_iconst (pc := 91) (v := nI 3) dX12_hear_91 (by decide) ?_
          refine V_iload (pc := 92) dX12_hear_92 rfl ?_
          refine V_imulN (pc := 94) dX12_hear_94 ?_
          refine V_iaddN (pc := 95) dX12_hear_95 ?_
          refine V_iconst (pc := 96) (v := nI 2) dX12_hear_96 (by decide) ?_
          refine V_iaddN (pc := 97) dX12_hear_97 ?_
          refine V_iload_n (pc := 98) dX12_hear_98 rfl ?_
          refine V_iastore (pc := 99) dX12_hear_99 h12.A3 (by first | decide | omega) (by omega) ?_
          refine V_aload_n (pc := 100) dX12_hear_100 rfl ?_
          refine V_getR (pc := 101) 12 3 dX12_hear_101 flX12_13 (by decide) h12.o h12.R3 ?_
          refine V_iconst (pc := 104) (v := nI 2) dX12_hear_104 (by decide) ?_
          refine V_dup2 (pc := 105) dX12_hear_105 rfl rfl ?_
          refine V_ialoadE (pc := 106) dX12_hear_106 h12.A3 (by first | decide | omega) (by omega) (show (_ : Int32) = nI (aq A 2) by rw [up2_nej (by omega), up2_nej (by omega), up2_nej (by omega)]; exact hr.n (by omega)) ?_
          refine V_iconst (pc := 107) (v := nI 1) dX12_hear_107 (by decide) ?_
          refine V_iaddN (pc := 108) dX12_hear_108 ?_
          refine V_iastore (pc := 109) dX12_hear_109 h12.A3 (by first | decide | omega) (by omega) ?_
          refine V_aload_n (pc := 110) dX12_hear_110 rfl ?_
          refine V_iload (pc := 111) dX12_hear_111 rfl ?_
          refine V_iconst (pc := 113) (v := nI 1) dX12_hear_113 (by decide) ?_
          refine V_iaddN (pc := 114) dX12_hear_114 ?_
          refine V_callVd (pc := 115) (ci := 12) (c_X12_tell (by first | assumption | omega | exact h12) (by first | assumption | omega | exact h12)) dX12_hear_115 mlX12_184 mkX12_tell rfl rfl h12.o ⟨by decide, rfl⟩ ⟨Nat.le_of_ble_eq_true rfl, Nat.le_of_ble_eq_true rfl⟩ (Nat.le_of_ble_eq_true rfl) ⟨Nat.le_of_ble_eq_true rfl, Nat.le_of_ble_eq_true rfl⟩ ?_
          refine V_iret (pc := 118) dX12_hear_118 rfl (by first | decide | omega) (by first | decide | omega) ?_
          exact ⟨rfl, rfl, ((((hM.st (i := 92 + 3 * aq A 2) (n := j) (by omega) (enc_n (by omega))).st (i := 92 + 3 * aq A 2 + 1) (n := t) (by omega) (enc_n (by omega))).st (i := 92 + 3 * aq A 2 + 2) (n := u) (by omega) (enc_n (by omega))).st (i := 2) (n := aq A 2 + 1) (by omega) (enc_n (by omega))).hok, ((((hF.up (by omega)).up (by omega)).up (by omega)).up (by omega)).up (by omega)⟩
        · skip
          refine V_aload_n (pc := 50) dX12_hear_50 rfl ?_
          refine V_bipush (pc := 51) (v := (-5)) dX12_hear_51 (by decide) ?_
          refine V_callVd (pc := 53) (ci := 12) (c_X12_tellv (r := 5) h12 (by decide) (by decide) (by decide)) dX12_hear_53 mlX12_184 mkX12_tell rfl rfl h12.o ⟨by decide, rfl⟩ ⟨Nat.le_of_ble_eq_true rfl, Nat.le_of_ble_eq_true rfl⟩ (Nat.le_of_ble_eq_true rfl) ⟨Nat.le_of_ble_eq_true rfl, Nat.le_of_ble_eq_true rfl⟩ ?_
          refine V_iret (pc := 56) dX12_hear_56 rfl (by first | decide | omega) (by first | decide | omega) ?_
          rw [if_pos n47]
          exact ⟨rfl, rfl, hM.hrf, hF.hrf⟩
      · skip
        refine V_aload_n (pc := 29) dX12_hear_29 rfl ?_
        refine V_iconst (pc := 30) (v := (-1)) dX12_hear_30 (by decide) ?_
        refine V_callVd (pc := 31) (ci := 12) (c_X12_tellv (r := 1) h12 (by decide) (by decide) (by decide)) dX12_hear_31 mlX12_184 mkX12_tell rfl rfl h12.o ⟨by decide, rfl⟩ ⟨Nat.le_of_ble_eq_true rfl, Nat.le_of_ble_eq_true rfl⟩ (Nat.le_of_ble_eq_true rfl) ⟨Nat.le_of_ble_eq_true rfl, Nat.le_of_ble_eq_true rfl⟩ ?_
        refine V_iret (pc := 34) dX12_hear_34 rfl (by first | decide | omega) (by first | decide | omega) ?_
        first | (rw [spHear, if_neg (fun w => by rw [w.1] at c9; exact absurd c9 (by decide))]; exact ⟨rfl, rfl, hM.hrf, hF.hrf⟩) | (rw [spHear, if_neg (fun w => by rw [w.2.1] at c16; exact absurd c16 (by decide))]; exact ⟨rfl, rfl, hM.hrf, hF.hrf⟩) | (rw [e1] at n26; rw [spHear, if_neg (fun w => by rw [w.2.2] at n26; exact absurd n26 (by decide))]; exact ⟨rfl, rfl, hM.hrf, hF.hrf⟩)
theorem c_X12_forget (h12 : Lay12 E S o) (hM : MR o I L A) (hA : wfA A) : Cm E kX12_forget 0 [.ref o] S I L o (.int (nI (aq A 2))) (sq A (setq (aq A) 2 0)) := by
  refine C_of (by decide) (Nat.le_of_ble_eq_true rfl) ?_
  refine V_aload_n (pc := 0) dX12_forget_0 rfl ?_
  refine V_iconst (pc := 1) (v := nI 0) dX12_forget_1 (by decide) ?_
  refine V_putI (pc := 2) 12 0 dX12_forget_2 flX12_175 (by decide) (by decide) (Or.inl rfl) rfl rfl h12.o ?_
  have hM := hM.thrown (v := nI 0)
  have hF : FrM o (up2 I o 0 (nI 0)) I L L := FrM.rf.up (by omega)
  generalize up2 I o 0 (nI 0) = I0 at hM hF ⊢
  have hr := hM.row
  refine V_aload_n (pc := 5) dX12_forget_5 rfl ?_
  refine V_getR (pc := 6) 12 3 dX12_forget_6 flX12_13 (by decide) h12.o h12.R3 ?_
  refine V_iconst (pc := 9) (v := nI 2) dX12_forget_9 (by decide) ?_
  refine V_ialoadE (pc := 10) dX12_forget_10 h12.A3 (by first | decide | omega) (by omega) (hr.n (by omega)) ?_
  refine V_istore_n (pc := 11) (ls' := [(0, _), (1, _)]) dX12_forget_11 (by decide) rfl ?_
  refine V_aload_n (pc := 12) dX12_forget_12 rfl ?_
  refine V_getR (pc := 13) 12 3 dX12_forget_13 flX12_13 (by decide) h12.o h12.R3 ?_
  refine V_iconst (pc := 16) (v := nI 2) dX12_forget_16 (by decide) ?_
  refine V_iconst (pc := 17) (v := nI 0) dX12_forget_17 (by decide) ?_
  refine V_iastore (pc := 18) dX12_forget_18 h12.A3 (by first | decide | omega) (by omega) ?_
  refine V_iload_n (pc := 19) dX12_forget_19 rfl ?_
  refine V_iret (pc := 20) dX12_forget_20 rfl (by first | decide | omega) (by first | decide | omega) ?_
  exact ⟨rfl, rfl, hM.st (n := 0) (by omega) (enc_n (by omega)), hF.up (by omega)⟩
/-! the tape -/
def byt (v : Int32) (j : Nat) : Nat := v.toBitVec.toNat / 2 ^ (24 - 8 * j) % 256
def shf (j : Nat) : Int32 := nI 24 - nI (8 * j)
theorem byt_lt (v : Int32) (j : Nat) : byt v j < 256 := Nat.mod_lt _ (by decide)
theorem byt_bv (x : BitVec 32) (n : Nat) (hn : n ≤ 24) : (x.sshiftRight n) &&& 255#32 = BitVec.ofNat 32 (x.toNat / 2 ^ n % 256) := by
  apply BitVec.eq_of_getLsbD_eq
  intro i hi
  have e255 : (255#32).getLsbD i = decide (i < 8) := by
    rw [show (255#32) = BitVec.ofNat 32 (2 ^ 8 - 1) from rfl, BitVec.getLsbD_ofNat, Nat.testBit_two_pow_sub_one]
    simp [hi]
  rw [BitVec.getLsbD_and, BitVec.getLsbD_sshiftRight, e255, BitVec.getLsbD_ofNat]
  rw [show (256 : Nat) = 2 ^ 8 from rfl, Nat.testBit_mod_two_pow, Nat.testBit_div_two_pow]
  by_cases h8 : i < 8
  · simp only [h8, decide_true, Bool.and_true, Bool.true_and, hi]
    rw [decide_eq_false (by omega), if_pos (by omega)]
    simp only [Bool.not_false, Bool.true_and]
    rw [Nat.add_comm]
    rfl
  · simp [h8]
theorem byt_ok (v : Int32) : ∀ j, j < 4 → (v >>> (shf j &&& 31)) &&& nI 255 = nI (byt v j) := by
  intro j hj
  apply Int32.toBitVec_inj.1
  have e := byt_bv v.toBitVec (24 - 8 * j) (by omega)
  have e2 : ((shf j &&& 31).toBitVec.smod 32).toNat = 24 - 8 * j := by
    rcases (by omega : j = 0 ∨ j = 1 ∨ j = 2 ∨ j = 3) with rfl | rfl | rfl | rfl <;> decide
  show (v.toBitVec.sshiftRight (((shf j &&& 31).toBitVec.smod 32).toNat)) &&& 255#32 = _
  rw [e2]
  exact e
def fourI (I : IT) (o n : Nat) (v : Int32) (j : Nat) : IT := up2 (upr I (o + 9) (cpy (fun i => nI (byt v i)) (I (o + 9)) 0 n j)) o 13 (nI (n + j))
theorem fourI_step {I : IT} {o n j : Nat} {v : Int32} : up2 (up2 (fourI I o n v j) (o + 9) (n + j) (nI (byt v j))) o 13 (nI (n + j + 1)) = fourI I o n v (j + 1) := by
  unfold fourI
  rw [up2_comm (a := o) (b := o + 9) (by omega), up2_up2]
  have e := upr_cpy_step (I := I) (a := o + 9) (fun i => nI (byt v i)) (I (o + 9)) 0 n j
  simp only [Nat.zero_add] at e
  rw [e]
  rfl
theorem c_X12_four (h12 : Lay12 E S o) {n : Nat} {v : Int32} (hn : n + 4 ≤ 400) (h13 : I o 13 = nI n) : Cn E kX12_four 0 0 0 [.ref o, .int v] S I L S (fourI I o n v 4) L := by
  refine C_of (by decide) (Nat.le_of_ble_eq_true rfl) ?_
  have e0 : I = fourI I o n v 0 := by unfold fourI; rw [cpy_0, upr_same, Nat.add_zero, up2_same h13]
  refine V_bipush (pc := 0) (v := nI 24) dX12_four_0 (by decide) ?_
  refine V_istore_n (pc := 2) (ls' := [(0, _), (1, _), (2, _)]) dX12_four_2 (by decide) rfl ?_
  refine (show V E _ _ _ _ _ _ (fourI I o n v 0) _ _ _ _ → V _ _ _ _ _ _ _ I _ _ _ _ from fun h => by rw [← e0] at h; exact h) ?_
  refine loopUp (P := fun j => V E kX12_four (rmOf 0 0 0) (Qn E S (fourI I o n v 4) L) 0 0 S (fourI I o n v j) L 3 [(0, .ref o), (1, .int v), (2, .int (shf j))] []) (n := 4) ?_ ?_ 0 (by omega)
  · skip
    refine V_iload_n (pc := 3) dX12_four_3 rfl ?_
    refine V_if_lt (pc := 4) (tgt := 39) dX12_four_4 (by decide) (fun c4 => ?_) (fun n4 => absurd n4 (by decide))
    refine V_vret (pc := 39) dX12_four_39 rfl (by first | decide | omega) (by first | decide | omega) ?_
    exact ⟨rfl, rfl, rfl, rfl⟩
  · intro j hj ih
    have hs : ¬ shf j < 0 := by rcases (by omega : j = 0 ∨ j = 1 ∨ j = 2 ∨ j = 3) with rfl | rfl | rfl | rfl <;> decide
    have hs2 : shf j + Int32.ofInt (-8) = shf (j + 1) := by rcases (by omega : j = 0 ∨ j = 1 ∨ j = 2 ∨ j = 3) with rfl | rfl | rfl | rfl <;> decide
    refine V_iload_n (pc := 3) dX12_four_3 rfl ?_
    refine V_if_lt (pc := 4) (tgt := 39) dX12_four_4 (by decide) (fun c4 => absurd c4 (by exact hs)) (fun n4 => ?_)
    refine V_aload_n (pc := 7) dX12_four_7 rfl ?_
    refine V_getR (pc := 8) 12 12 dX12_four_8 flX12_35 (by decide) h12.o h12.R12 ?_
    refine V_aload_n (pc := 11) dX12_four_11 rfl ?_
    refine V_getIE (pc := 12) 12 13 dX12_four_12 flX12_263 (by decide) h12.o (show fourI I o n v j o 13 = nI (n + j) from up2_self) ?_
    refine V_iload_n (pc := 15) dX12_four_15 rfl ?_
    refine V_iload_n (pc := 16) dX12_four_16 rfl ?_
    refine V_ishr (pc := 17) dX12_four_17 ?_
    refine V_sipush (pc := 18) (v := nI 255) dX12_four_18 (by decide) ?_
    refine V_iand (pc := 21) dX12_four_21 ?_
    rw [byt_ok v j hj]
    refine V_iastore (pc := 22) dX12_four_22 h12.A12 (by first | decide | omega) (by omega) ?_
    refine V_aload_n (pc := 23) dX12_four_23 rfl ?_
    refine V_dup (pc := 24) dX12_four_24 rfl ?_
    refine V_getIE (pc := 25) 12 13 dX12_four_25 flX12_263 (by decide) h12.o (show up2 (fourI I o n v j) (o + 9) (n + j) (nI (byt v j)) o 13 = nI (n + j) by rw [up2_ne (by omega)]; exact up2_self) ?_
    refine V_iconst (pc := 28) (v := nI 1) dX12_four_28 (by decide) ?_
    refine V_iaddN (pc := 29) dX12_four_29 ?_
    refine V_putI (pc := 30) 12 13 dX12_four_30 flX12_263 (by decide) (by decide) (Or.inl rfl) rfl rfl h12.o ?_
    refine V_iinc (pc := 33) (ls' := [(0, _), (1, _), (2, _)]) dX12_four_33 rfl hs2 (by decide) rfl ?_
    rw [fourI_step]
    refine V_goto (pc := 36) (tgt := 3) dX12_four_36 (by decide) ?_
    exact ih
def put4 (t : Nat × (Nat → Nat)) (v : Int32) : Nat × (Nat → Nat) := (t.1 + 4, fun i => if t.1 ≤ i ∧ i < t.1 + 4 then byt v (i - t.1) else t.2 i)
theorem MR.four {o : Nat} {I : IT} {L : LT} {A : AT} {v : Int32} (h : MR o I L A) : MR o (fourI I o (atp A).1 v 4) L (stp A (put4 (atp A) v)) := by
  refine h.tpm (fun a h1 h2 => ?_) (fun i hi => ?_) ⟨up2_self, fun i hi => ?_⟩
  · unfold fourI; rw [up2_row h1, upr_row h2]
  · unfold fourI; rw [up2_nej hi, upr_row (by omega)]
  · unfold fourI
    rw [up2_ne (by omega), upr_self]
    unfold cpy
    have hi' : i < (atp A).1 + 4 := hi
    show _ = nI (if _ then _ else _)
    by_cases c : (atp A).1 ≤ i ∧ i < (atp A).1 + 4
    · rw [if_pos c, if_pos c, Nat.zero_add]
    · rw [if_neg c, if_neg c]; exact h.tap.2 i (by omega)
theorem FrM.four {o n j : Nat} {I I' : IT} {L L' : LT} {v : Int32} (h : FrM o I' I L' L) : FrM o (fourI I' o n v j) I L' L := (h.upr (by omega)).up (by omega)
def spFeed (A : AT) (a b c d e : Int32) : Int32 × AT := if (atp A).1 + 20 ≤ 400 then (nI ((atp A).1 + 20), stp A (put4 (put4 (put4 (put4 (put4 (atp A) a) b) c) d) e)) else (-1, A)
theorem c_X12_feed (h12 : Lay12 E S o) (hM : MR o I L A) (hA : wfA A) {a b c d e : Int32} : Cm E kX12_feed 1 [.ref o, .int a, .int b, .int c, .int d, .int e] S I L o (.int (spFeed A a b c d e).1) (spFeed A a b c d e).2 := by
  have ht : (atp A).1 ≤ 400 := hA.2.2.2.2.2.1
  refine C_of (by decide) (Nat.le_of_ble_eq_true rfl) ?_
  refine V_aload_n (pc := 0) dX12_feed_0 rfl ?_
  refine V_iconst (pc := 1) (v := nI 0) dX12_feed_1 (by decide) ?_
  refine V_putI (pc := 2) 12 0 dX12_feed_2 flX12_175 (by decide) (by decide) (Or.inl rfl) rfl rfl h12.o ?_
  have hM := hM.thrown (v := nI 0)
  have hF : FrM o (up2 I o 0 (nI 0)) I L L := FrM.rf.up (by omega)
  generalize up2 I o 0 (nI 0) = I0 at hM hF ⊢
  have hr := hM.row
  refine V_aload_n (pc := 5) dX12_feed_5 rfl ?_
  refine V_getIE (pc := 6) 12 13 dX12_feed_6 flX12_263 (by decide) h12.o (hM.tap.1) ?_
  refine V_bipush (pc := 9) (v := nI 20) dX12_feed_9 (by decide) ?_
  refine V_iaddN (pc := 11) dX12_feed_11 ?_
  refine V_sipush (pc := 12) (v := nI 400) dX12_feed_12 (by decide) ?_
  refine V_icmp_leN (pc := 15) (tgt := 20) dX12_feed_15 (by decide) (by omega) (by omega) (fun c15 => ?_) (fun n15 => ?_)
  · skip
    rw [spFeed, if_pos c15]
    have m1 := hM.four (v := a)
    have m2 := m1.four (v := b)
    have m3 := m2.four (v := c)
    have m4 := m3.four (v := d)
    have m5 := m4.four (v := e)
    refine V_aload_n (pc := 20) dX12_feed_20 rfl ?_
    refine V_iload_n (pc := 21) dX12_feed_21 rfl ?_
    refine V_callVn (pc := 22) (ci := 12) (c_X12_four h12 (by omega) hM.tap.1) dX12_feed_22 mlX12_269 mkX12_four rfl rfl h12.o ⟨by decide, rfl⟩ ⟨Nat.le_of_ble_eq_true rfl, Nat.le_of_ble_eq_true rfl⟩ (Nat.le_of_ble_eq_true rfl) ⟨Nat.le_of_ble_eq_true rfl, Nat.le_of_ble_eq_true rfl⟩ ?_
    refine V_aload_n (pc := 25) dX12_feed_25 rfl ?_
    refine V_iload_n (pc := 26) dX12_feed_26 rfl ?_
    refine V_callVn (pc := 27) (ci := 12) (c_X12_four (n := (put4 (atp A) a).1) h12 (by show (atp A).1 + 4 + 4 ≤ 400; omega) m1.tap.1) dX12_feed_27 mlX12_269 mkX12_four rfl rfl h12.o ⟨by decide, rfl⟩ ⟨Nat.le_of_ble_eq_true rfl, Nat.le_of_ble_eq_true rfl⟩ (Nat.le_of_ble_eq_true rfl) ⟨Nat.le_of_ble_eq_true rfl, Nat.le_of_ble_eq_true rfl⟩ ?_
    refine V_aload_n (pc := 30) dX12_feed_30 rfl ?_
    refine V_iload_n (pc := 31) dX12_feed_31 rfl ?_
    refine V_callVn (pc := 32) (ci := 12) (c_X12_four (n := (put4 (put4 (atp A) a) b).1) h12 (by show (atp A).1 + 4 + 4 + 4 ≤ 400; omega) m2.tap.1) dX12_feed_32 mlX12_269 mkX12_four rfl rfl h12.o ⟨by decide, rfl⟩ ⟨Nat.le_of_ble_eq_true rfl, Nat.le_of_ble_eq_true rfl⟩ (Nat.le_of_ble_eq_true rfl) ⟨Nat.le_of_ble_eq_true rfl, Nat.le_of_ble_eq_true rfl⟩ ?_
    refine V_aload_n (pc := 35) dX12_feed_35 rfl ?_
    refine V_iload (pc := 36) dX12_feed_36 rfl ?_
    refine V_callVn (pc := 38) (ci := 12) (c_X12_four (n := (put4 (put4 (put4 (atp A) a) b) c).1) h12 (by show (atp A).1 + 4 + 4 + 4 + 4 ≤ 400; omega) m3.tap.1) dX12_feed_38 mlX12_269 mkX12_four rfl rfl h12.o ⟨by decide, rfl⟩ ⟨Nat.le_of_ble_eq_true rfl, Nat.le_of_ble_eq_true rfl⟩ (Nat.le_of_ble_eq_true rfl) ⟨Nat.le_of_ble_eq_true rfl, Nat.le_of_ble_eq_true rfl⟩ ?_
    refine V_aload_n (pc := 41) dX12_feed_41 rfl ?_
    refine V_iload (pc := 42) dX12_feed_42 rfl ?_
    refine V_callVn (pc := 44) (ci := 12) (c_X12_four (n := (put4 (put4 (put4 (put4 (atp A) a) b) c) d).1) h12 (by show (atp A).1 + 4 + 4 + 4 + 4 + 4 ≤ 400; omega) m4.tap.1) dX12_feed_44 mlX12_269 mkX12_four rfl rfl h12.o ⟨by decide, rfl⟩ ⟨Nat.le_of_ble_eq_true rfl, Nat.le_of_ble_eq_true rfl⟩ (Nat.le_of_ble_eq_true rfl) ⟨Nat.le_of_ble_eq_true rfl, Nat.le_of_ble_eq_true rfl⟩ ?_
    refine V_aload_n (pc := 47) dX12_feed_47 rfl ?_
    refine V_getIE (pc := 48) 12 13 dX12_feed_48 flX12_263 (by decide) h12.o (m5.tap.1) ?_
    refine V_iret (pc := 51) dX12_feed_51 rfl (by first | decide | omega) (by first | decide | omega) ?_
    exact ⟨rfl, rfl, m5, hF.four.four.four.four.four⟩
  · skip
    refine V_iconst (pc := 18) (v := (-1)) dX12_feed_18 (by decide) ?_
    refine V_iret (pc := 19) dX12_feed_19 rfl (by first | decide | omega) (by first | decide | omega) ?_
    rw [spFeed, if_neg n15]
    exact ⟨rfl, rfl, hM, hF⟩
def spEnd (A : AT) (x : Int32) : Int32 × AT := if bnd x ((atp A).1 + 1) = true then (x, stp A (cln x, (atp A).2)) else (-1, A)
theorem c_X12_end (h12 : Lay12 E S o) (hM : MR o I L A) (hA : wfA A) {x : Int32} : Cm E kX12_end 0 [.ref o, .int x] S I L o (.int (spEnd A x).1) (spEnd A x).2 := by
  have ht : (atp A).1 ≤ 400 := hA.2.2.2.2.2.1
  refine C_of (by decide) (Nat.le_of_ble_eq_true rfl) ?_
  by_cases hx : bnd x ((atp A).1 + 1) = true
  · obtain ⟨j, hj, e⟩ := bnd_ex (by omega) hx
    rw [spEnd, if_pos hx]
    subst e
    rw [cln_nI (by omega)]
    refine V_aload_n (pc := 0) dX12_end_0 rfl ?_
    refine V_iconst (pc := 1) (v := nI 0) dX12_end_1 (by decide) ?_
    refine V_putI (pc := 2) 12 0 dX12_end_2 flX12_175 (by decide) (by decide) (Or.inl rfl) rfl rfl h12.o ?_
    have hM := hM.thrown (v := nI 0)
    have hF : FrM o (up2 I o 0 (nI 0)) I L L := FrM.rf.up (by omega)
    generalize up2 I o 0 (nI 0) = I0 at hM hF ⊢
    have hr := hM.row
    refine V_iload_n (pc := 5) dX12_end_5 rfl ?_
    refine V_if_ltN (pc := 6) (tgt := 17) dX12_end_6 (by decide) (by omega) ?_
    refine V_iload_n (pc := 9) dX12_end_9 rfl ?_
    refine V_aload_n (pc := 10) dX12_end_10 rfl ?_
    refine V_getIE (pc := 11) 12 13 dX12_end_11 flX12_263 (by decide) h12.o (hM.tap.1) ?_
    refine V_icmp_leN (pc := 14) (tgt := 19) dX12_end_14 (by decide) (by omega) (by omega) (fun c14 => ?_) (fun n14 => absurd n14 (by omega))
    refine V_aload_n (pc := 19) dX12_end_19 rfl ?_
    refine V_iload_n (pc := 20) dX12_end_20 rfl ?_
    refine V_putI (pc := 21) 12 13 dX12_end_21 flX12_263 (by decide) (by decide) (Or.inl rfl) rfl rfl h12.o ?_
    refine V_iload_n (pc := 24) dX12_end_24 rfl ?_
    refine V_iret (pc := 25) dX12_end_25 rfl (by first | decide | omega) (by first | decide | omega) ?_
    refine ⟨rfl, rfl, hM.tpm (fun a h1 h2 => up2_row h1) (fun i hi => up2_nej hi) ⟨up2_self, fun i hi => ?_⟩, hF.up (by omega)⟩
    rw [up2_ne (by omega)]
    exact hM.tap.2 i (by have hi' : i < j := hi; omega)
  · rw [spEnd, if_neg hx]
    refine V_aload_n (pc := 0) dX12_end_0 rfl ?_
    refine V_iconst (pc := 1) (v := nI 0) dX12_end_1 (by decide) ?_
    refine V_putI (pc := 2) 12 0 dX12_end_2 flX12_175 (by decide) (by decide) (Or.inl rfl) rfl rfl h12.o ?_
    have hM := hM.thrown (v := nI 0)
    have hF : FrM o (up2 I o 0 (nI 0)) I L L := FrM.rf.up (by omega)
    generalize up2 I o 0 (nI 0) = I0 at hM hF ⊢
    have hr := hM.row
    refine V_iload_n (pc := 5) dX12_end_5 rfl ?_
    refine V_if_lt (pc := 6) (tgt := 17) dX12_end_6 (by decide) (fun c6 => ?_) (fun n6 => ?_)
    · skip
      refine V_iconst (pc := 17) (v := (-1)) dX12_end_17 (by decide) ?_
      refine V_iret (pc := 18) dX12_end_18 rfl (by first | decide | omega) (by first | decide | omega) ?_
      exact ⟨rfl, rfl, hM, hF⟩
    · skip
      refine V_iload_n (pc := 9) dX12_end_9 rfl ?_
      refine V_aload_n (pc := 10) dX12_end_10 rfl ?_
      refine V_getIE (pc := 11) 12 13 dX12_end_11 flX12_263 (by decide) h12.o (hM.tap.1) ?_
      refine V_icmp_le (pc := 14) (tgt := 19) dX12_end_14 (by decide) (fun c14 => absurd c14 (by exact fun z => hx (bnd_in (by omega) n6 (fun w => absurd ((nI_leI (by omega) (by omega)).mp (Int32.le_trans w z)) (by omega))))) (fun n14 => ?_)
      refine V_iconst (pc := 17) (v := (-1)) dX12_end_17 (by decide) ?_
      refine V_iret (pc := 18) dX12_end_18 rfl (by first | decide | omega) (by first | decide | omega) ?_
      exact ⟨rfl, rfl, hM, hF⟩
end MI3
