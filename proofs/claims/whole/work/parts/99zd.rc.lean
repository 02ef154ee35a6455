/-! THE READER: readClause -/
section SD
variable {E : EnT} {S : ST} {L : LT} {o n m cl : Nat} {t : Nat → Nat} {od : Bool}
theorem rc_main {k l s ah : Nat} {c : CT} {I : IT} (h5 : Lay5 E S o) (hb : ∀ i, i < n → t i < 256) (hn : n ≤ 400) (hcl : cl < 12) (hR : RS I o t n m od k l c) (hc : c.2.2 ≤ k + s) (hs : s ≤ 44) (hl : l ≤ 50) (hah : (if od = true then 12 else 8) = ah) : V E kX5_readClause (rmOf 31 0 0) (QM E (PCl o t n m od S L I cl k c (rdC t n od (pk t n k) l)) 0 0) 0 0 S I L 15 [(0, .ref o), (1, .int (nI cl)), (2, .int (nI ah))] [] := by
  have hah2 : ah = 12 ∨ ah = 8 := by rw [← hah]; split <;> omega
  have h400 := hR.1.2.2.1
  have h4 := hR.2.2.1
  have htk := hR.tk
  have hkm := hR.2.1
  have hlt := tc_lt (n := n) hb (hR.1.pn hkm)
  unfold rdC
  rw [hah]
  by_cases hw : ah ≤ tc t n (pk t n k) ∧ tc t n (pk t n k) < ah + 4
  · rw [if_pos hw]
    have hk := hR.lt (by omega)
    have hkd : tc t n (pk t n k) - ah < 4 := by omega
    generalize hkde : tc t n (pk t n k) - ah = kd at hkd
    have hsm : sms od kd ≤ 3 := by unfold sms; split; split; omega; split <;> omega; split <;> omega
    have hR2 := (hR.row (r := o + 4) (i := cl) (v := nI kd) (by omega)).row (r := o + 5) (i := cl) (v := nI 1) (by omega)
    have hR1 := hR2.go hk
    have hK1 : up2 (up2 (up2 I (o + 4) cl (nI kd)) (o + 5) cl (nI 1)) o 4 (nI (k + 1)) (o + 4) cl = nI kd := by rw [up2_ne (by omega), up2_ne (by omega), up2_self]
    have hT1 : up2 (up2 (up2 I (o + 4) cl (nI kd)) (o + 5) cl (nI 1)) o 4 (nI (k + 1)) (o + 5) cl = nI 1 := by rw [up2_ne (by omega), up2_self]
    have hF1 : FrA5 o (up2 (up2 (up2 I (o + 4) cl (nI kd)) (o + 5) cl (nI 1)) o 4 (nI (k + 1))) I := ((FrA5.rf.ur (by omega)).ur (by omega)).u4
    have z4 : ∀ z, z ≠ cl → up2 (up2 (up2 I (o + 4) cl (nI kd)) (o + 5) cl (nI 1)) o 4 (nI (k + 1)) (o + 4) z = I (o + 4) z := fun z hz => by rw [up2_ne (by omega), up2_ne (by omega), up2_nej hz]
    have z5 : ∀ z, z ≠ cl → up2 (up2 (up2 I (o + 4) cl (nI kd)) (o + 5) cl (nI 1)) o 4 (nI (k + 1)) (o + 5) z = I (o + 5) z := fun z hz => by rw [up2_ne (by omega), up2_nej hz, up2_ne (by omega)]
    have z6 : ∀ z, up2 (up2 (up2 I (o + 4) cl (nI kd)) (o + 5) cl (nI 1)) o 4 (nI (k + 1)) (o + 6) z = I (o + 6) z := fun z => by rw [up2_ne (by omega), up2_ne (by omega), up2_ne (by omega)]
    have hC := c_X5_readSums (E := E) (L := L) (kd := kd) (s := s) h5 hb hn hcl hkd hR1 hK1 (by omega) (by omega) hl
    generalize hI1 : up2 (up2 (up2 I (o + 4) cl (nI kd)) (o + 5) cl (nI 1)) o 4 (nI (k + 1)) = I1 at hR1 hK1 hT1 hF1 z4 z5 z6 hC
    have hlen := rdS_len (t := t) (n := n) (od := od) (kd := kd) (sms od kd) 0 (pk t n (k + 1)) l
    rw [show nxt t n (pk t n k) = pk t n (k + 1) from rfl]
    generalize rdS t n od kd (sms od kd) 0 (pk t n (k + 1)) l = r1 at hC hlen ⊢
    refine V_aload_n (pc := 15) dX5_readClause_15 rfl ?_
    refine V_getR (pc := 16) 5 1 dX5_readClause_16 flX5_17 (by decide) h5.o h5.R1 ?_
    refine V_aload_n (pc := 19) dX5_readClause_19 rfl ?_
    refine V_getIE (pc := 20) 5 4 dX5_readClause_20 flX5_27 (by decide) h5.o (h4) ?_
    refine V_ialoadE (pc := 23) dX5_readClause_23 h5.A1 (by first | decide | omega) (by omega) (htk) ?_
    refine V_iload_n (pc := 24) dX5_readClause_24 rfl ?_
    refine V_icmp_ltN (pc := 25) (tgt := 43) dX5_readClause_25 (by decide) (by omega) (by omega) (fun c25 => absurd c25 (by omega)) (fun n25 => ?_)
    refine V_aload_n (pc := 28) dX5_readClause_28 rfl ?_
    refine V_getR (pc := 29) 5 1 dX5_readClause_29 flX5_17 (by decide) h5.o h5.R1 ?_
    refine V_aload_n (pc := 32) dX5_readClause_32 rfl ?_
    refine V_getIE (pc := 33) 5 4 dX5_readClause_33 flX5_27 (by decide) h5.o (h4) ?_
    refine V_ialoadE (pc := 36) dX5_readClause_36 h5.A1 (by first | decide | omega) (by omega) (htk) ?_
    refine V_iload_n (pc := 37) dX5_readClause_37 rfl ?_
    refine V_iconst (pc := 38) (v := nI 4) dX5_readClause_38 (by decide) ?_
    refine V_iaddN (pc := 39) dX5_readClause_39 ?_
    refine V_icmp_ltN (pc := 40) (tgt := 45) dX5_readClause_40 (by decide) (by omega) (by omega) (fun c40 => ?_) (fun n40 => absurd n40 (by omega))
    refine V_aload_n (pc := 45) dX5_readClause_45 rfl ?_
    refine V_getR (pc := 46) 5 7 dX5_readClause_46 flX5_37 (by decide) h5.o h5.R7 ?_
    refine V_iload_n (pc := 49) dX5_readClause_49 rfl ?_
    refine V_aload_n (pc := 50) dX5_readClause_50 rfl ?_
    refine V_getR (pc := 51) 5 1 dX5_readClause_51 flX5_17 (by decide) h5.o h5.R1 ?_
    refine V_aload_n (pc := 54) dX5_readClause_54 rfl ?_
    refine V_getIE (pc := 55) 5 4 dX5_readClause_55 flX5_27 (by decide) h5.o (h4) ?_
    refine V_ialoadE (pc := 58) dX5_readClause_58 h5.A1 (by first | decide | omega) (by omega) (htk) ?_
    refine V_iload_n (pc := 59) dX5_readClause_59 rfl ?_
    refine V_isubN (pc := 60) dX5_readClause_60 (by omega) ?_
    rw [hkde]
    refine V_iastore (pc := 61) dX5_readClause_61 h5.A7 (by first | decide | omega) (by omega) ?_
    refine V_aload_n (pc := 62) dX5_readClause_62 rfl ?_
    refine V_getR (pc := 63) 5 8 dX5_readClause_63 flX5_40 (by decide) h5.o h5.R8 ?_
    refine V_iload_n (pc := 66) dX5_readClause_66 rfl ?_
    refine V_iconst (pc := 67) (v := nI 1) dX5_readClause_67 (by decide) ?_
    refine V_iastore (pc := 68) dX5_readClause_68 h5.A8 (by first | decide | omega) (by omega) ?_
    refine V_aload_n (pc := 69) dX5_readClause_69 rfl ?_
    refine V_callVn (pc := 70) (ci := 5) (c_X5_goOn h5 hR2 hk) dX5_readClause_70 mlX5_78 mkX5_goOn rfl rfl h5.o ⟨by decide, rfl⟩ ⟨Nat.le_of_ble_eq_true rfl, Nat.le_of_ble_eq_true rfl⟩ (Nat.le_of_ble_eq_true rfl) ⟨Nat.le_of_ble_eq_true rfl, Nat.le_of_ble_eq_true rfl⟩ ?_
    rw [hI1]
    refine V_aload_n (pc := 73) dX5_readClause_73 rfl ?_
    refine V_iload_n (pc := 74) dX5_readClause_74 rfl ?_
    refine V_callV (pc := 75) (ci := 5) hC dX5_readClause_75 mlX5_122 mkX5_readSums rfl rfl h5.o ⟨by decide, rfl⟩ ⟨Nat.le_of_ble_eq_true rfl, Nat.le_of_ble_eq_true rfl⟩ (Nat.le_of_ble_eq_true rfl) ⟨Nat.le_of_ble_eq_true rfl, Nat.le_of_ble_eq_true rfl⟩ (fun r S' I' L' hp => ?_)
    skip
    obtain ⟨rfl, rfl, hFy, ⟨g1, rfl, k', hk', h4', hp'⟩ | ⟨fs, g1, rfl, hl1, k1, c1, w1, w2, w3, w4, w5, w6, w7, w8⟩⟩ := hp
    · rw [bq_n g1]
      refine V_if_neB (pc := 78) (tgt := 83) dX5_readClause_78 (by decide) (fun c78 => absurd c78 (by decide)) (fun n78 => ?_)
      refine V_iconst (pc := 81) (v := nI 0) dX5_readClause_81 (by decide) ?_
      refine V_zretB (pc := 82) (p := false) dX5_readClause_82 rfl rfl (by first | decide | omega) (by first | decide | omega) ?_
      exact ⟨rfl, rfl, hFy.a.tr hF1, Or.inl ⟨rfl, rfl, k', hk', h4', hp'⟩⟩
    · rw [bq_s g1]
      have hfs := hlen fs g1
      refine V_if_neB (pc := 78) (tgt := 83) dX5_readClause_78 (by decide) (fun c78 => ?_) (fun n78 => absurd n78 (by decide))
      skip
      rw [← w2]
      have h51 : I' (o + 5) cl = nI 1 := by rw [hFy.1 (o + 5) (by omega) (by omega) (by omega) (by omega)]; exact hT1
      refine rc_tm h5 hb hcl w1 h51 (fun e I3 k3 f1 f2 f3 f4 => ?_) (fun tm I3 k3 e f1 f2 f3 f4 f5 f6 f7 => ?_)
      · rw [bq_n e]
        exact ⟨rfl, rfl, f1.a.tr (hFy.a.tr hF1), Or.inl ⟨rfl, rfl, k3, f2, f3, f4⟩⟩
      · rw [bq_s e, ← f3]
        have el : (rdT t n od (pk t n k1) r1.2.1).2.1 = r1.2.1 := by
          unfold rdT oT; split; split; split; rfl; rfl; rfl; rfl
        rw [el]
        refine rc_if (s := s + fs.length) h5 hb hcl f2 (by omega) (by omega) hl1 (fun r S' I4 L' hq => ?_)
        obtain ⟨q1, q2, q3, ⟨u1, u2, u3⟩ | ⟨T, u1, u2, u3, k4, c4, v1, v2, v3, v4, v5, v6, v7, v8⟩⟩ := hq
        · rw [bq_n u1]
          exact ⟨q1, q2, q3.a.tr (f1.a.tr (hFy.a.tr hF1)), Or.inl ⟨rfl, u2, u3⟩⟩
        · rw [bq_s u1]
          have b6 : ∀ z, z ≠ cl * 4 + 3 → I4 (o + 6) z = I' (o + 6) z := fun z hz => by rw [v8 z hz, f1.1 (o + 6) (by omega) (by omega)]
          have b63 : I3 (o + 6) (cl * 4 + 3) = I (o + 6) (cl * 4 + 3) := by rw [f1.1 (o + 6) (by omega) (by omega), w8 _ (by omega), z6]
          have b4 : I4 (o + 4) = I1 (o + 4) := by rw [q3.1 (o + 4) (by omega) (by omega) (by omega) (by omega), f1.1 (o + 4) (by omega) (by omega), hFy.1 (o + 4) (by omega) (by omega) (by omega) (by omega)]
          have b5 : I4 (o + 5) = I3 (o + 5) := q3.1 (o + 5) (by omega) (by omega) (by omega) (by omega)
          have hFA := q3.a.tr (f1.a.tr (hFy.a.tr hF1))
          refine ⟨q1, q2, hFA, Or.inr ⟨(kd, tm, fs, T), rfl, u2, u3, ⟨hFA.1, hFA.2, fun z hz => ⟨by rw [b4, z4 z hz], by rw [b5, f6 z hz, hFy.1 (o + 5) (by omega) (by omega) (by omega) (by omega), z5 z hz]⟩, fun z hz => by rw [b6 z (by omega), w8 z (by omega), z6]⟩, hkd, f7, hfs, k4, c4, v1, v2, by omega, by omega, fun z hz => ?_, ?_, by rw [b4]; exact hK1, by rw [b5]; exact f5, fun q hq => ?_, fun q hq1 hq2 => ?_, ?_⟩⟩
          · have a1 := v5 z (by omega); have a2 := w5 z hz
            exact ⟨a1.1.trans a2.1, a1.2.trans a2.2⟩
          · show c4.2.2 + k ≤ c.2.2 + k4 + fs.length + 1; omega
          · have hq' : q < fs.length := hq
            obtain ⟨s', e', y1, y2⟩ := w7 q hq'
            exact ⟨s', e', by rw [b6 _ (by omega)]; exact y1, y2.ag v4 v5⟩
          · have hq' : fs.length ≤ q := hq1
            rw [b6 _ (by omega), w8 _ (by omega), z6]
          · rcases v7 with ⟨y1, y2⟩ | ⟨s', e', y1, y2⟩
            · exact Or.inl ⟨y1.trans b63, y2⟩
            · exact Or.inr ⟨s', e', y1, y2⟩
  · rw [if_neg hw]
    refine V_aload_n (pc := 15) dX5_readClause_15 rfl ?_
    refine V_getR (pc := 16) 5 1 dX5_readClause_16 flX5_17 (by decide) h5.o h5.R1 ?_
    refine V_aload_n (pc := 19) dX5_readClause_19 rfl ?_
    refine V_getIE (pc := 20) 5 4 dX5_readClause_20 flX5_27 (by decide) h5.o (h4) ?_
    refine V_ialoadE (pc := 23) dX5_readClause_23 h5.A1 (by first | decide | omega) (by omega) (htk) ?_
    refine V_iload_n (pc := 24) dX5_readClause_24 rfl ?_
    refine V_icmp_ltN (pc := 25) (tgt := 43) dX5_readClause_25 (by decide) (by omega) (by omega) (fun c25 => ?_) (fun n25 => ?_)
    · skip
      refine V_iconst (pc := 43) (v := nI 0) dX5_readClause_43 (by decide) ?_
      refine V_zretB (pc := 44) (p := false) dX5_readClause_44 rfl rfl (by first | decide | omega) (by first | decide | omega) ?_
      exact ⟨rfl, rfl, FrA5.rf, Or.inl ⟨rfl, rfl, k, hkm, h4, rfl⟩⟩
    · skip
      refine V_aload_n (pc := 28) dX5_readClause_28 rfl ?_
      refine V_getR (pc := 29) 5 1 dX5_readClause_29 flX5_17 (by decide) h5.o h5.R1 ?_
      refine V_aload_n (pc := 32) dX5_readClause_32 rfl ?_
      refine V_getIE (pc := 33) 5 4 dX5_readClause_33 flX5_27 (by decide) h5.o (h4) ?_
      refine V_ialoadE (pc := 36) dX5_readClause_36 h5.A1 (by first | decide | omega) (by omega) (htk) ?_
      refine V_iload_n (pc := 37) dX5_readClause_37 rfl ?_
      refine V_iconst (pc := 38) (v := nI 4) dX5_readClause_38 (by decide) ?_
      refine V_iaddN (pc := 39) dX5_readClause_39 ?_
      refine V_icmp_ltN (pc := 40) (tgt := 45) dX5_readClause_40 (by decide) (by omega) (by omega) (fun c40 => absurd c40 (by omega)) (fun n40 => ?_)
      refine V_iconst (pc := 43) (v := nI 0) dX5_readClause_43 (by decide) ?_
      refine V_zretB (pc := 44) (p := false) dX5_readClause_44 rfl rfl (by first | decide | omega) (by first | decide | omega) ?_
      exact ⟨rfl, rfl, FrA5.rf, Or.inl ⟨rfl, rfl, k, hkm, h4, rfl⟩⟩
end SD
