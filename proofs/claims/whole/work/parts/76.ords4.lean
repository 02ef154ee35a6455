/-! THE REFERENCE: orders, IV -/
theorem wfA.tB {A : AT} (h : wfA A) {v w : Int32} : wfA (sfl (tp0 (sst A v)) w) := by
  obtain ⟨h1, h2, h3, h4, h5, h6, h7, h8⟩ := h
  exact ⟨h1, h2, h3, h4, h5, Nat.zero_le _, fun i hi => absurd hi (Nat.not_lt_zero i), h8⟩
section RI
variable {E : EnT} {S : ST} {I : IT} {L : LT} {o : Nat} {A : AT}
theorem c_X12_orders (h12 : Lay12 E S o) (hM : MR o I L A) (hA : wfA A) : Cm E kX12_orders 11 [.ref o] S I L o (.int (spOrders A).1) (spOrders A).2 := by
  have hq := hA.q
  refine C_of (by decide) (Nat.le_of_ble_eq_true rfl) ?_
  rw [spOrders]
  have hTP : ∀ {I2 : IT} {L2 : LT}, MR o I2 L2 (sst A (-1)) → TP o (atp A).2 (atp A).1 I2 := fun h => ⟨h.tap.1, h.tap.2, hA.2.2.2.2.2.1, hA.2.2.2.2.2.2.1⟩
  generalize ht : (atp A).2 = t at hTP
  generalize hn : (atp A).1 = n at hTP
  generalize hR : orR t n = R
  refine V_aload_n (pc := 0) dX12_orders_0 rfl ?_
  refine V_iconst (pc := 1) (v := nI 0) dX12_orders_1 (by decide) ?_
  refine V_putI (pc := 2) 12 0 dX12_orders_2 flX12_175 (by decide) (by decide) (Or.inl rfl) rfl rfl h12.o ?_
  have hM := hM.thrown (v := nI 0)
  have hF : FrM o (up2 I o 0 (nI 0)) I L L := FrM.rf.up (by omega)
  generalize up2 I o 0 (nI 0) = I0 at hM hF ⊢
  have hr := hM.row
  refine V_aload_n (pc := 5) dX12_orders_5 rfl ?_
  refine V_iconst (pc := 6) (v := (-1)) dX12_orders_6 (by decide) ?_
  refine V_putI (pc := 7) 12 57 dX12_orders_7 flX12_166 (by decide) (by decide) (Or.inl rfl) rfl rfl h12.o ?_
  skip
  have hM := hM.s57 (v := -1)
  have hF := hF.up (a := o) (i := 57) (v := -1) (by omega)
  generalize up2 I0 o 57 (-1) = I1 at hM hF ⊢
  have hTP0 := hTP hM
  have hn4 : n ≤ 400 := hTP0.2.2.1
  have hwB : wfA (sfl (tp0 (sst A (-1))) (-1)) := hA.tB
  generalize hB : sfl (tp0 (sst A (-1))) (-1) = B at hwB
  have hE : EndO E (QM E (fun r S' I' L' => r = some (.int ((match R.2 with | none => (-(nI 6), rfs (sfl (tp0 (sst A (-1))) (nI R.1)) 6) | some od => orE B od : Int32 × AT)).1) ∧ S = S' ∧ MR o I' L' ((match R.2 with | none => (-(nI 6), rfs (sfl (tp0 (sst A (-1))) (nI R.1)) 6) | some od => orE B od : Int32 × AT)).2 ∧ FrM o I' I L' L) 0 0) S o t n I1 L R := by
    refine ⟨fun hn2 J K b s hFT hP hb => ?_, fun od hl J K l' d' P' c' hFT hP h92 h21 hl12 hCM hc4 hG => ?_⟩
    · rw [hn2]
      refine V_aload_n (pc := 46) dX12_orders_46 rfl ?_
      refine V_callV (pc := 47) (ci := 12) (c_X12_endText h12 hP) dX12_orders_47 mlX12_418 mkX12_endText rfl rfl h12.o ⟨by decide, rfl⟩ ⟨Nat.le_of_ble_eq_true rfl, Nat.le_of_ble_eq_true rfl⟩ (Nat.le_of_ble_eq_true rfl) ⟨Nat.le_of_ble_eq_true rfl, Nat.le_of_ble_eq_true rfl⟩ (fun r S' I' L' hp => ?_)
      obtain ⟨rfl, rfl, hF2, g13, g20, _, _, _, gA, gB, _⟩ := hp
      have h18 : I' o 18 = nI R.1 ∧ I' o 19 = nI 1 := by
        rcases hb with e | ⟨e, e2, e3⟩
        · exact gB _ e
        · rw [← e2]; exact gA ⟨e, e3⟩
      refine V_aload_n (pc := 50) dX12_orders_50 rfl ?_
      refine V_getIE (pc := 51) 12 19 dX12_orders_51 flX12_275 (by decide) h12.o (h18.2) ?_
      refine V_if_eqN (pc := 54) (tgt := 64) dX12_orders_54 (by decide) (by omega) (fun c54 => absurd c54 (by omega)) (fun n54 => ?_)
      refine V_aload_n (pc := 57) dX12_orders_57 rfl ?_
      refine V_bipush (pc := 58) (v := (-6)) dX12_orders_58 (by decide) ?_
      refine V_callVd (pc := 60) (ci := 12) (c_X12_tellv (r := 6) h12 (by decide) (by decide) (by decide)) dX12_orders_60 mlX12_184 mkX12_tell rfl rfl h12.o ⟨by decide, rfl⟩ ⟨Nat.le_of_ble_eq_true rfl, Nat.le_of_ble_eq_true rfl⟩ (Nat.le_of_ble_eq_true rfl) ⟨Nat.le_of_ble_eq_true rfl, Nat.le_of_ble_eq_true rfl⟩ ?_
      refine V_iret (pc := 63) dX12_orders_63 rfl (by first | decide | omega) (by first | decide | omega) ?_
      exact ⟨rfl, rfl, (hM.ft (hF2.tr hFT) g13 g20 h18.1).hrf, (FrM.tr (hF2.tr hFT).fr hF).hrf⟩
    · rw [hl]
      have hun := hwB.2.2.1
      refine V_aload_n (pc := 46) dX12_orders_46 rfl ?_
      refine V_callV (pc := 47) (ci := 12) (c_X12_endText h12 hP) dX12_orders_47 mlX12_418 mkX12_endText rfl rfl h12.o ⟨by decide, rfl⟩ ⟨Nat.le_of_ble_eq_true rfl, Nat.le_of_ble_eq_true rfl⟩ (Nat.le_of_ble_eq_true rfl) ⟨Nat.le_of_ble_eq_true rfl, Nat.le_of_ble_eq_true rfl⟩ (fun r S' I' L' hp => ?_)
      obtain ⟨rfl, rfl, hF2, g13, g20, g21, _, g34, _, _, gC⟩ := hp
      obtain ⟨g18, g19, gcd⟩ := gC ⟨rfl, h92⟩
      have hM2 := hM.ft (hF2.tr hFT) g13 g20 g18
      rw [hB] at hM2
      have hF3 := FrM.tr (hF2.tr hFT).fr hF
      refine V_aload_n (pc := 50) dX12_orders_50 rfl ?_
      refine V_getIE (pc := 51) 12 19 dX12_orders_51 flX12_275 (by decide) h12.o (g19) ?_
      refine V_if_eqN (pc := 54) (tgt := 64) dX12_orders_54 (by decide) (by omega) (fun c54 => ?_) (fun n54 => absurd n54 (by omega))
      refine V_aload_n (pc := 64) dX12_orders_64 rfl ?_
      refine V_bipush (pc := 65) (v := nI 17) dX12_orders_65 (by decide) ?_
      refine V_callVn (pc := 67) (ci := 12) (c_X12_keepAll h12 (k := 17) (by omega)) dX12_orders_67 mlX12_188 mkX12_keepAll rfl rfl h12.o ⟨by decide, rfl⟩ ⟨Nat.le_of_ble_eq_true rfl, Nat.le_of_ble_eq_true rfl⟩ (Nat.le_of_ble_eq_true rfl) ⟨Nat.le_of_ble_eq_true rfl, Nat.le_of_ble_eq_true rfl⟩ ?_
      refine V_aload_n (pc := 70) dX12_orders_70 rfl ?_
      refine V_getIE (pc := 71) 12 8 dX12_orders_71 flX12_181 (by decide) h12.o (show (_ : Int32) = nI (aun B).1 by rw [upr_row (by omega)]; exact hM2.und.1) ?_
      refine V_istore_n (pc := 74) (ls' := [(0, _), (1, _)]) dX12_orders_74 (by decide) rfl ?_
      refine V_iconst (pc := 75) (v := nI 0) dX12_orders_75 (by decide) ?_
      refine V_istore_n (pc := 76) (ls' := [(0, _), (1, _), (2, _)]) dX12_orders_76 (by decide) rfl ?_
      refine lp_or1 h12 (fun I4 hW => ?_) 1200 0 _ rfl ⟨fun _ _ => rfl, fun _ _ => rfl, fun i hi => absurd hi (Nat.not_lt_zero i)⟩
      refine V_iconst (pc := 102) (v := nI 0) dX12_orders_102 (by decide) ?_
      refine V_istore_n (pc := 103) (ls' := [(0, _), (1, _), (2, _)]) dX12_orders_103 (by decide) rfl ?_
      refine lp_or2 h12 (fun I5 hW2 => ?_) 16 0 _ rfl ⟨fun _ _ => rfl, fun _ _ => rfl, fun i hi => absurd hi (Nat.not_lt_zero i)⟩
      have e5 : ∀ a, a ≠ o + 5 → a ≠ o + 7 → a ≠ o + 8 → I5 a = I' a := fun a h1 h2 h3 => by rw [hW2.1 a h3, hW.1 a h2, upr_row h1]
      have e55 : I5 (o + 5) = cpy (I' (o + 2)) (I' (o + 5)) 5 (75 * 17) 75 := by rw [hW2.1 _ (by omega), hW.1 _ (by omega), upr_self]
      have hv : Sv o I5 I' := by
        refine ⟨fun i hi => ?_, fun i hi => ?_, fun i hi => ?_⟩
        · rw [e55]; unfold cpy; rw [if_pos (by omega), show 5 + (1275 + i - 75 * 17) = 5 + i from by omega]
        · rw [hW2.1 _ (by omega), hW.2.2 i hi, upr_self]; unfold cpy; rw [if_neg (by omega)]
        · rw [hW2.2.2 i hi, hW.1 _ (by omega), upr_row (by omega)]
      refine V_aload_n (pc := 128) dX12_orders_128 rfl ?_
      refine V_iconst (pc := 129) (v := nI 0) dX12_orders_129 (by decide) ?_
      refine V_putI (pc := 130) 12 55 dX12_orders_130 flX12_542 (by decide) (by decide) (Or.inl rfl) rfl rfl h12.o ?_
      refine V_aload_n (pc := 133) dX12_orders_133 rfl ?_
      refine V_iconst (pc := 134) (v := (-1)) dX12_orders_134 (by decide) ?_
      refine V_putI (pc := 135) 12 56 dX12_orders_135 flX12_545 (by decide) (by decide) (Or.inl rfl) rfl rfl h12.o ?_
      refine V_iconst (pc := 138) (v := nI 0) dX12_orders_138 (by decide) ?_
      refine V_istore_n (pc := 139) (ls' := [(0, _), (1, _), (2, _)]) dX12_orders_139 (by decide) rfl ?_
      skip
      have f6 : ∀ i, i ≠ 55 → i ≠ 56 → up2 (up2 I5 o 55 (nI 0)) o 56 (-1) o i = I' o i := fun i h1 h2 => by rw [up2_nej h2, up2_nej h1, e5 o (by omega) (by omega) (by omega)]
      have e6 : ∀ a, a ≠ o → up2 (up2 I5 o 55 (nI 0)) o 56 (-1) a = I5 a := fun a ha => by rw [up2_row ha, up2_row ha]
      have hM6 : MR o (up2 (up2 I5 o 55 (nI 0)) o 56 (-1)) L' B := hM2.o5 hun (fun a h1 h2 h3 h4 => by rw [e6 a h4]; exact e5 a h1 h2 h3) f6 (fun i hi => by rw [e6 _ (by omega), e55]; unfold cpy; rw [if_neg (by omega)])
      have hF6 : FrM o (up2 (up2 I5 o 55 (nI 0)) o 56 (-1)) I L' L := fun a ha => ⟨by rw [e6 a (by omega), e5 a (by omega) (by omega) (by omega)]; exact (hF3 a ha).1, (hF3 a ha).2⟩
      have hO : ORS o I L I' B c' od (B, 0, 0) (up2 (up2 I5 o 55 (nI 0)) o 56 (-1)) L' := by
        refine ⟨hM6, hwB, SmO.rf, (up2_nej (by omega)).trans up2_self, up2_self.trans pred1_0.symm, Nat.zero_le _, ⟨fun k hk => ?_, hG, hc4⟩, ?_, ?_, ⟨fun i hi => ?_, fun i hi => ?_, fun i hi => ?_⟩, hF6⟩
        · rw [e6 _ (by omega), e6 _ (by omega), e5 _ (by omega) (by omega) (by omega), e5 _ (by omega) (by omega) (by omega)]; exact gcd.2 k hk
        · rw [e6 _ (by omega), e5 _ (by omega) (by omega) (by omega), g34]; exact hCM
        · rw [f6 _ (by omega) (by omega)]; exact g21.trans h21
        · rw [e6 _ (by omega)]; exact hv.1 i hi
        · rw [e6 _ (by omega)]; exact hv.2.1 i hi
        · rw [e6 _ (by omega)]; exact hv.2.2 i hi
      refine lp_or4 (J := I') (B := B) (c := c') (od := od) h12 hl12 od.1 0 (B, 0, 0) _ _ _ (by omega) (Nat.zero_le _) hO (Or.inl rfl) (fun hnn I7 L7 A2 t' hM7 hS7 hv7 hF7 => ?_) (fun s2 hs I7 L7 hO7 hd7 => ?_)
      · have hoE : orE B od = (-(nI 3), rfs (sst B (nI (rnC od.2 od.1 0 (B, 0, 0)).1)) 3) := by unfold orE; rw [hnn]
        show V E _ _ (QM E (fun r S' I' L' => r = some (.int (orE B od).1) ∧ S = S' ∧ MR o I' L' (orE B od).2 ∧ FrM o I' I L' L) 0 0) _ _ _ _ _ _ _ _
        rw [hoE]
        refine V_aload_n (pc := 177) dX12_orders_177 rfl ?_
        refine V_iload_n (pc := 178) dX12_orders_178 rfl ?_
        refine V_callV (pc := 179) (ci := 12) (c_X12_giveBack h12 hM7 hS7 hM2 hwB hv7) dX12_orders_179 mlX12_563 mkX12_giveBack rfl rfl h12.o ⟨by decide, rfl⟩ ⟨Nat.le_of_ble_eq_true rfl, Nat.le_of_ble_eq_true rfl⟩ (Nat.le_of_ble_eq_true rfl) ⟨Nat.le_of_ble_eq_true rfl, Nat.le_of_ble_eq_true rfl⟩ (fun r S' I' L' hp => ?_)
        obtain ⟨rfl, rfl, rfl, hM8, hF8⟩ := hp
        refine V_aload_n (pc := 182) dX12_orders_182 rfl ?_
        refine V_iload_n (pc := 183) dX12_orders_183 rfl ?_
        refine V_putI (pc := 184) 12 57 dX12_orders_184 flX12_166 (by decide) (by decide) (Or.inl rfl) rfl rfl h12.o ?_
        refine V_aload_n (pc := 187) dX12_orders_187 rfl ?_
        refine V_bipush (pc := 188) (v := (-3)) dX12_orders_188 (by decide) ?_
        refine V_callVd (pc := 190) (ci := 12) (c_X12_tellv (r := 3) h12 (by decide) (by decide) (by decide)) dX12_orders_190 mlX12_184 mkX12_tell rfl rfl h12.o ⟨by decide, rfl⟩ ⟨Nat.le_of_ble_eq_true rfl, Nat.le_of_ble_eq_true rfl⟩ (Nat.le_of_ble_eq_true rfl) ⟨Nat.le_of_ble_eq_true rfl, Nat.le_of_ble_eq_true rfl⟩ ?_
        refine V_iret (pc := 193) dX12_orders_193 rfl (by first | decide | omega) (by first | decide | omega) ?_
        exact ⟨rfl, rfl, hM8.s57.hrf, ((FrM.tr hF8 hF7).up (by omega)).hrf⟩
      · have hoE : orE B od = (nI s2.2.1, ok0 s2.1) := by unfold orE; rw [hs]
        show V E _ _ (QM E (fun r S' I' L' => r = some (.int (orE B od).1) ∧ S = S' ∧ MR o I' L' (orE B od).2 ∧ FrM o I' I L' L) 0 0) _ _ _ _ _ _ _ _
        rw [hoE]
        refine V_aload_n (pc := 206) dX12_orders_206 rfl ?_
        refine V_aload_n (pc := 207) dX12_orders_207 rfl ?_
        refine V_getIE (pc := 208) 12 55 dX12_orders_208 flX12_542 (by decide) h12.o (hO7.2.2.2.1) ?_
        refine V_callVd (pc := 211) (ci := 12) (c_X12_tell h12 (v := s2.2.1) (by omega)) dX12_orders_211 mlX12_184 mkX12_tell rfl rfl h12.o ⟨by decide, rfl⟩ ⟨Nat.le_of_ble_eq_true rfl, Nat.le_of_ble_eq_true rfl⟩ (Nat.le_of_ble_eq_true rfl) ⟨Nat.le_of_ble_eq_true rfl, Nat.le_of_ble_eq_true rfl⟩ ?_
        refine V_iret (pc := 214) dX12_orders_214 rfl (by first | decide | omega) (by first | decide | omega) ?_
        exact ⟨rfl, rfl, hO7.1.hok, hO7.2.2.2.2.2.2.2.2.2.2.up (by omega)⟩
  refine V_aload_n (pc := 10) dX12_orders_10 rfl ?_
  refine V_iconst (pc := 11) (v := nI 1) dX12_orders_11 (by decide) ?_
  refine V_callV (pc := 12) (ci := 12) (c_X12_beginText (od := true) h12 hTP0) dX12_orders_12 mlX12_412 mkX12_beginText rfl rfl h12.o ⟨by decide, rfl⟩ ⟨Nat.le_of_ble_eq_true rfl, Nat.le_of_ble_eq_true rfl⟩ (Nat.le_of_ble_eq_true rfl) ⟨Nat.le_of_ble_eq_true rfl, Nat.le_of_ble_eq_true rfl⟩ (fun r S' I' L' hp => ?_)
  obtain ⟨rfl, rfl, ⟨d, P, hP⟩, h20, h21, hFT⟩ := hp
  refine V_aload_n (pc := 15) dX12_orders_15 rfl ?_
  refine V_callV (pc := 16) (ci := 12) (c_X12_readOrder (k := 0) h12 h20 (hFT.kl hM.2.2.2.2.2.2.2.2) hP h21 (by omega) (Nat.zero_le _) (Nat.zero_le _) (fun k hk => absurd hk (Nat.not_lt_zero k))) dX12_orders_16 mlX12_557 mkX12_readOrder rfl rfl h12.o ⟨by decide, rfl⟩ ⟨Nat.le_of_ble_eq_true rfl, Nat.le_of_ble_eq_true rfl⟩ (Nat.le_of_ble_eq_true rfl) ⟨Nat.le_of_ble_eq_true rfl, Nat.le_of_ble_eq_true rfl⟩ (fun r S' I' L' hp => ?_)
  obtain ⟨rfl, rfl, hz⟩ := hp
  rw [if_pos (by omega)] at hz
  obtain ⟨hFQ, hz1, hz2⟩ := hz
  have hFT2 := hFQ.t.tr hFT
  skip
  rcases hcl : (clO t n (skp t n 0) 0).2.2 with _ | x
  · have hR2 : R = ((clO t n (skp t n 0) 0).1, none) := by rw [← hR, orR, orP_n hcl]
    obtain ⟨s, hs⟩ := hz1 hcl
    have e19 := hs.2.2.2.2.2.2.1
    refine V_aload_n (pc := 19) dX12_orders_19 rfl ?_
    refine V_getIE (pc := 20) 12 19 dX12_orders_20 flX12_275 (by decide) h12.o (e19) ?_
    refine V_if_neB (pc := 23) (tgt := 46) dX12_orders_23 (by decide) (fun c23 => ?_) (fun n23 => absurd n23 (by simp))
    exact hE.1 (by rw [hR2]) _ _ _ s hFT2 hs (Or.inl (by rw [hR2]))
  · have hR2 : R = if tc t n (clO t n (skp t n 0) 0).1 = 159 then orP t n 11 (nxt t n (clO t n (skp t n 0) 0).1) (clO t n (skp t n 0) 0).2.1 (addo ord0 x) else if tc t n (clO t n (skp t n 0) 0).1 = 92 then ((clO t n (skp t n 0) 0).1, some (addo ord0 x)) else ((clO t n (skp t n 0) 0).1, none) := by rw [← hR, orR, orP_s hcl]
    obtain ⟨q1, q2, d', P', c', q3, q4, q5, q6, q7, q8, q9⟩ := hz2 x hcl
    refine lp_ords (I0 := I1) (L0 := L) h12 11 1 (addo ord0 x) _ _ d' P' c' _ _ (by omega) rfl hFT2 ?_ (hFT2.kl hM.2.2.2.2.2.2.2.2) q3 q1 q4 q5 q6 (OMs.add (d := ord0) (f := fun _ => 0) (c := c00) (fun j hj => absurd hj (Nat.not_lt_zero j)) (fun i hi => absurd hi (Nat.not_lt_zero i)) q7 q8 q9) R hR2 hE
    rw [hFQ.2.1 20 (by omega)]; exact h20
end RI
