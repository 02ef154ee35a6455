/-! THE READER: numbers and words -/
def sta (od : Bool) (w : Nat) : Bool := if od = true then decide (w = 7 ∨ (9 ≤ w ∧ w ≤ 11)) else decide (w ≤ 8)
theorem wneg : ∀ x, x < 16 → nI x - nI 16 ≠ nI 12 ∧ nI x - nI 16 ≠ nI 2 ∧ nI x - nI 16 ≠ nI 7 ∧ nI x - nI 16 < nI 9 ∧ nI x - nI 16 < 0 := by decide
section RQ
variable {E : EnT} {S : ST} {I : IT} {L : LT} {o n m k l d f s : Nat} {t : Nat → Nat} {od : Bool} {c : CT} {F : SF}
theorem c_X5_standsAlone {w : Nat} (h5 : Lay5 E S o) (h6 : I o 6 = b2i od) (hw : w < 400) : Cd E kX5_standsAlone 0 0 0 [.ref o, .int (nI w)] S I L (.int (b2i (sta od w))) S I L := by
  refine C_of (by decide) (Nat.le_of_ble_eq_true rfl) ?_
  cases od with
  | true =>
    refine V_aload_n (pc := 0) dX5_standsAlone_0 rfl ?_
    refine V_getIE (pc := 1) 5 6 dX5_standsAlone_1 flX5_33 (by decide) h5.o (h6) ?_
    refine V_if_eqB (pc := 4) (tgt := 31) dX5_standsAlone_4 (by decide) (fun c4 => absurd c4 (by decide)) (fun n4 => ?_)
    refine V_iload_n (pc := 7) dX5_standsAlone_7 rfl ?_
    refine V_bipush (pc := 8) (v := nI 7) dX5_standsAlone_8 (by decide) ?_
    refine V_icmp_eqN (pc := 10) (tgt := 25) dX5_standsAlone_10 (by decide) (by omega) (by omega) (fun c10 => ?_) (fun n10 => ?_)
    · skip
      rw [show sta true w = true from by unfold sta; rw [if_pos rfl]; exact decide_eq_true (by omega)]
      refine V_iconst (pc := 25) (v := nI 1) dX5_standsAlone_25 (by decide) ?_
      refine V_goto (pc := 26) (tgt := 30) dX5_standsAlone_26 (by decide) ?_
      refine V_zretB (pc := 30) (p := true) dX5_standsAlone_30 rfl rfl (by first | decide | omega) (by first | decide | omega) ?_
      exact ⟨rfl, rfl, rfl, rfl⟩
    · skip
      refine V_iload_n (pc := 13) dX5_standsAlone_13 rfl ?_
      refine V_bipush (pc := 14) (v := nI 9) dX5_standsAlone_14 (by decide) ?_
      refine V_icmp_ltN (pc := 16) (tgt := 29) dX5_standsAlone_16 (by decide) (by omega) (by omega) (fun c16 => ?_) (fun n16 => ?_)
      · skip
        rw [show sta true w = false from by unfold sta; rw [if_pos rfl]; exact decide_eq_false (by omega)]
        refine V_iconst (pc := 29) (v := nI 0) dX5_standsAlone_29 (by decide) ?_
        refine V_zretB (pc := 30) (p := false) dX5_standsAlone_30 rfl rfl (by first | decide | omega) (by first | decide | omega) ?_
        exact ⟨rfl, rfl, rfl, rfl⟩
      · skip
        refine V_iload_n (pc := 19) dX5_standsAlone_19 rfl ?_
        refine V_bipush (pc := 20) (v := nI 11) dX5_standsAlone_20 (by decide) ?_
        refine V_icmp_gtN (pc := 22) (tgt := 29) dX5_standsAlone_22 (by decide) (by omega) (by omega) (fun c22 => ?_) (fun n22 => ?_)
        · skip
          rw [show sta true w = false from by unfold sta; rw [if_pos rfl]; exact decide_eq_false (by omega)]
          refine V_iconst (pc := 29) (v := nI 0) dX5_standsAlone_29 (by decide) ?_
          refine V_zretB (pc := 30) (p := false) dX5_standsAlone_30 rfl rfl (by first | decide | omega) (by first | decide | omega) ?_
          exact ⟨rfl, rfl, rfl, rfl⟩
        · skip
          rw [show sta true w = true from by unfold sta; rw [if_pos rfl]; exact decide_eq_true (by omega)]
          refine V_iconst (pc := 25) (v := nI 1) dX5_standsAlone_25 (by decide) ?_
          refine V_goto (pc := 26) (tgt := 30) dX5_standsAlone_26 (by decide) ?_
          refine V_zretB (pc := 30) (p := true) dX5_standsAlone_30 rfl rfl (by first | decide | omega) (by first | decide | omega) ?_
          exact ⟨rfl, rfl, rfl, rfl⟩
  | false =>
    refine V_aload_n (pc := 0) dX5_standsAlone_0 rfl ?_
    refine V_getIE (pc := 1) 5 6 dX5_standsAlone_1 flX5_33 (by decide) h5.o (h6) ?_
    refine V_if_eqB (pc := 4) (tgt := 31) dX5_standsAlone_4 (by decide) (fun c4 => ?_) (fun n4 => absurd n4 (by decide))
    refine V_iload_n (pc := 31) dX5_standsAlone_31 rfl ?_
    refine V_if_ltN (pc := 32) (tgt := 45) dX5_standsAlone_32 (by decide) (by omega) ?_
    refine V_iload_n (pc := 35) dX5_standsAlone_35 rfl ?_
    refine V_bipush (pc := 36) (v := nI 8) dX5_standsAlone_36 (by decide) ?_
    refine V_icmp_gtN (pc := 38) (tgt := 45) dX5_standsAlone_38 (by decide) (by omega) (by omega) (fun c38 => ?_) (fun n38 => ?_)
    · skip
      rw [show sta false w = false from by unfold sta; rw [if_neg (by decide)]; exact decide_eq_false (by omega)]
      refine V_iconst (pc := 45) (v := nI 0) dX5_standsAlone_45 (by decide) ?_
      refine V_zretB (pc := 46) (p := false) dX5_standsAlone_46 rfl rfl (by first | decide | omega) (by first | decide | omega) ?_
      exact ⟨rfl, rfl, rfl, rfl⟩
    · skip
      rw [show sta false w = true from by unfold sta; rw [if_neg (by decide)]; exact decide_eq_true (by omega)]
      refine V_iconst (pc := 41) (v := nI 1) dX5_standsAlone_41 (by decide) ?_
      refine V_goto (pc := 42) (tgt := 46) dX5_standsAlone_42 (by decide) ?_
      refine V_zretB (pc := 46) (p := true) dX5_standsAlone_46 rfl rfl (by first | decide | omega) (by first | decide | omega) ?_
      exact ⟨rfl, rfl, rfl, rfl⟩
theorem c_X5_standsNeg {x : Nat} (h5 : Lay5 E S o) (h6 : I o 6 = b2i od) (hx : x < 16) : Cd E kX5_standsAlone 0 0 0 [.ref o, .int (nI x - nI 16)] S I L (.int (b2i false)) S I L := by
  obtain ⟨w1, w2, w3, w4, w5⟩ := wneg x hx
  refine C_of (by decide) (Nat.le_of_ble_eq_true rfl) ?_
  cases od with
  | true =>
    refine V_aload_n (pc := 0) dX5_standsAlone_0 rfl ?_
    refine V_getIE (pc := 1) 5 6 dX5_standsAlone_1 flX5_33 (by decide) h5.o (h6) ?_
    refine V_if_eqB (pc := 4) (tgt := 31) dX5_standsAlone_4 (by decide) (fun c4 => absurd c4 (by decide)) (fun n4 => ?_)
    refine V_iload_n (pc := 7) dX5_standsAlone_7 rfl ?_
    refine V_bipush (pc := 8) (v := nI 7) dX5_standsAlone_8 (by decide) ?_
    refine V_icmp_eq (pc := 10) (tgt := 25) dX5_standsAlone_10 (by decide) (fun c10 => absurd c10 (by exact w3)) (fun n10 => ?_)
    refine V_iload_n (pc := 13) dX5_standsAlone_13 rfl ?_
    refine V_bipush (pc := 14) (v := nI 9) dX5_standsAlone_14 (by decide) ?_
    refine V_icmp_lt (pc := 16) (tgt := 29) dX5_standsAlone_16 (by decide) (fun c16 => ?_) (fun n16 => absurd n16 (by exact not_not_intro w4))
    refine V_iconst (pc := 29) (v := nI 0) dX5_standsAlone_29 (by decide) ?_
    refine V_zretB (pc := 30) (p := false) dX5_standsAlone_30 rfl rfl (by first | decide | omega) (by first | decide | omega) ?_
    exact ⟨rfl, rfl, rfl, rfl⟩
  | false =>
    refine V_aload_n (pc := 0) dX5_standsAlone_0 rfl ?_
    refine V_getIE (pc := 1) 5 6 dX5_standsAlone_1 flX5_33 (by decide) h5.o (h6) ?_
    refine V_if_eqB (pc := 4) (tgt := 31) dX5_standsAlone_4 (by decide) (fun c4 => ?_) (fun n4 => absurd n4 (by decide))
    refine V_iload_n (pc := 31) dX5_standsAlone_31 rfl ?_
    refine V_if_lt (pc := 32) (tgt := 45) dX5_standsAlone_32 (by decide) (fun c32 => ?_) (fun n32 => absurd n32 (by exact not_not_intro w5))
    refine V_iconst (pc := 45) (v := nI 0) dX5_standsAlone_45 (by decide) ?_
    refine V_zretB (pc := 46) (p := false) dX5_standsAlone_46 rfl rfl (by first | decide | omega) (by first | decide | omega) ?_
    exact ⟨rfl, rfl, rfl, rfl⟩
theorem rp_nu (h5 : Lay5 E S o) (hb : ∀ i, i < n → t i < 256) (hd : d ≤ 8) (hR : RS I o t n m od k l c) (hc : c.2.2 ≤ k + s) (hs : s ≤ 47) (hl : l ≤ 50) (hx : tc t n (pk t n k) = 91) : C E kX5_readPart (3 * (8 - d) + 1) 0 0 [.ref o, .int (nI d)] S I L (PO o t n m od S L I k l c 2 (ps t n od (f + 1) 2 d (pk t n k) l F)) := by
  have hk := hR.lt (by omega)
  have h400 := hR.1.2.2.1
  have h4 := hR.2.2.1
  have h5p := hR.2.2.2.1
  have htk := hR.tk
  rw [hx] at htk
  have hnu := hR.nu hx
  have hnm : nm t n (pk t n k) ≤ 1001 := by unfold nm; omega
  rw [ps_2, if_neg (by omega)]
  refine C_of (by decide) (Nat.le_of_ble_eq_true rfl) ?_
  by_cases h50 : 50 ≤ l
  · rw [if_pos h50]
    refine V_aload_n (pc := 0) dX5_readPart_0 rfl ?_
    refine V_bipush (pc := 1) (v := nI 91) dX5_readPart_1 (by decide) ?_
    refine V_callVd (pc := 3) (ci := 5) (c_X5_isSign (x := 91) h5 hR hb (by omega)) dX5_readPart_3 mlX5_74 mkX5_isSign rfl rfl h5.o ⟨by decide, rfl⟩ (rmS (by omega) (Nat.le_of_ble_eq_true rfl)) (Nat.le_of_ble_eq_true rfl) ⟨Nat.le_of_ble_eq_true rfl, Nat.le_of_ble_eq_true rfl⟩ ?_
    refine V_if_eqB (pc := 6) (tgt := 49) dX5_readPart_6 (by decide) (fun c6 => ?_) (fun n6 => absurd n6 (by simp [hx]))
    refine V_aload_n (pc := 49) dX5_readPart_49 rfl ?_
    refine V_getIE (pc := 50) 5 5 dX5_readPart_50 flX5_30 (by decide) h5.o (h5p) ?_
    refine V_bipush (pc := 53) (v := nI 50) dX5_readPart_53 (by decide) ?_
    refine V_icmp_ltN (pc := 55) (tgt := 60) dX5_readPart_55 (by decide) (by omega) (by omega) (fun c55 => absurd c55 (by omega)) (fun n55 => ?_)
    refine V_iconst (pc := 58) (v := nI 0) dX5_readPart_58 (by decide) ?_
    refine V_zretB (pc := 59) (p := false) dX5_readPart_59 rfl rfl (by first | decide | omega) (by first | decide | omega) ?_
    exact ⟨rfl, rfl, FrX5.rf, Or.inl ⟨rfl, rfl, k, hR.2.1, hR.2.2.1, rfl⟩⟩
  rw [if_neg h50, if_pos hx]
  by_cases h1000 : nm t n (pk t n k) ≤ 1000
  · rw [if_pos h1000]
    have hRp := hR.put (a := 1) (x := 0) (b := nm t n (pk t n k)) rfl (Or.inl rfl) h1000 (fun z => absurd z (by decide))
    refine V_aload_n (pc := 0) dX5_readPart_0 rfl ?_
    refine V_bipush (pc := 1) (v := nI 91) dX5_readPart_1 (by decide) ?_
    refine V_callVd (pc := 3) (ci := 5) (c_X5_isSign (x := 91) h5 hR hb (by omega)) dX5_readPart_3 mlX5_74 mkX5_isSign rfl rfl h5.o ⟨by decide, rfl⟩ (rmS (by omega) (Nat.le_of_ble_eq_true rfl)) (Nat.le_of_ble_eq_true rfl) ⟨Nat.le_of_ble_eq_true rfl, Nat.le_of_ble_eq_true rfl⟩ ?_
    refine V_if_eqB (pc := 6) (tgt := 49) dX5_readPart_6 (by decide) (fun c6 => ?_) (fun n6 => absurd n6 (by simp [hx]))
    refine V_aload_n (pc := 49) dX5_readPart_49 rfl ?_
    refine V_getIE (pc := 50) 5 5 dX5_readPart_50 flX5_30 (by decide) h5.o (h5p) ?_
    refine V_bipush (pc := 53) (v := nI 50) dX5_readPart_53 (by decide) ?_
    refine V_icmp_ltN (pc := 55) (tgt := 60) dX5_readPart_55 (by decide) (by omega) (by omega) (fun c55 => ?_) (fun n55 => absurd n55 (by omega))
    refine V_aload_n (pc := 60) dX5_readPart_60 rfl ?_
    refine V_getR (pc := 61) 5 1 dX5_readPart_61 flX5_17 (by decide) h5.o h5.R1 ?_
    refine V_aload_n (pc := 64) dX5_readPart_64 rfl ?_
    refine V_getIE (pc := 65) 5 4 dX5_readPart_65 flX5_27 (by decide) h5.o (h4) ?_
    refine V_ialoadE (pc := 68) dX5_readPart_68 h5.A1 (by first | decide | omega) (by omega) (htk) ?_
    refine V_bipush (pc := 69) (v := nI 16) dX5_readPart_69 (by decide) ?_
    refine V_isubN (pc := 71) dX5_readPart_71 (by omega) ?_
    refine V_istore_n (pc := 72) (ls' := [(0, _), (1, _), (2, _)]) dX5_readPart_72 (by decide) rfl ?_
    refine V_aload_n (pc := 73) dX5_readPart_73 rfl ?_
    refine V_getR (pc := 74) 5 1 dX5_readPart_74 flX5_17 (by decide) h5.o h5.R1 ?_
    refine V_aload_n (pc := 77) dX5_readPart_77 rfl ?_
    refine V_getIE (pc := 78) 5 4 dX5_readPart_78 flX5_27 (by decide) h5.o (h4) ?_
    refine V_ialoadE (pc := 81) dX5_readPart_81 h5.A1 (by first | decide | omega) (by omega) (htk) ?_
    refine V_bipush (pc := 82) (v := nI 91) dX5_readPart_82 (by decide) ?_
    refine V_icmp_neN (pc := 84) (tgt := 128) dX5_readPart_84 (by decide) (by omega) (by omega) (fun c84 => absurd c84 (by omega)) (fun n84 => ?_)
    refine V_aload_n (pc := 87) dX5_readPart_87 rfl ?_
    refine V_getR (pc := 88) 5 2 dX5_readPart_88 flX5_20 (by decide) h5.o h5.R2 ?_
    refine V_aload_n (pc := 91) dX5_readPart_91 rfl ?_
    refine V_getIE (pc := 92) 5 4 dX5_readPart_92 flX5_27 (by decide) h5.o (h4) ?_
    refine V_ialoadE (pc := 95) dX5_readPart_95 h5.A2 (by first | decide | omega) (by omega) (hnu) ?_
    refine V_sipush (pc := 96) (v := nI 1000) dX5_readPart_96 (by decide) ?_
    refine V_icmp_gtN (pc := 99) (tgt := 123) dX5_readPart_99 (by decide) (by omega) (by omega) (fun c99 => absurd c99 (by omega)) (fun n99 => ?_)
    refine V_aload_n (pc := 102) dX5_readPart_102 rfl ?_
    refine V_iconst (pc := 103) (v := nI 1) dX5_readPart_103 (by decide) ?_
    refine V_aload_n (pc := 104) dX5_readPart_104 rfl ?_
    refine V_getR (pc := 105) 5 2 dX5_readPart_105 flX5_20 (by decide) h5.o h5.R2 ?_
    refine V_aload_n (pc := 108) dX5_readPart_108 rfl ?_
    refine V_getIE (pc := 109) 5 4 dX5_readPart_109 flX5_27 (by decide) h5.o (h4) ?_
    refine V_ialoadE (pc := 112) dX5_readPart_112 h5.A2 (by first | decide | omega) (by omega) (hnu) ?_
    refine V_callVd (pc := 113) (ci := 5) (c_X5_put (a := 1) h5 hR (by omega)) dX5_readPart_113 mlX5_131 mkX5_put rfl rfl h5.o ⟨by decide, rfl⟩ (rmS (by omega) (Nat.le_of_ble_eq_true rfl)) (Nat.le_of_ble_eq_true rfl) ⟨Nat.le_of_ble_eq_true rfl, Nat.le_of_ble_eq_true rfl⟩ ?_
    refine V_if_eqB (pc := 116) (tgt := 123) dX5_readPart_116 (by decide) (fun c116 => absurd c116 (by decide)) (fun n116 => ?_)
    refine V_iconst (pc := 119) (v := nI 1) dX5_readPart_119 (by decide) ?_
    refine V_goto (pc := 120) (tgt := 124) dX5_readPart_120 (by decide) ?_
    refine V_istore_n (pc := 124) (ls' := [(0, _), (1, _), (2, _), (3, _)]) dX5_readPart_124 (by decide) rfl ?_
    refine V_goto (pc := 125) (tgt := 245) dX5_readPart_125 (by decide) ?_
    refine V_iload_n (pc := 245) dX5_readPart_245 rfl ?_
    refine V_if_eqN (pc := 246) (tgt := 263) dX5_readPart_246 (by decide) (by omega) (fun c246 => absurd c246 (by omega)) (fun n246 => ?_)
    refine V_aload_n (pc := 249) dX5_readPart_249 rfl ?_
    refine V_dup (pc := 250) dX5_readPart_250 rfl ?_
    refine V_getIE (pc := 251) 5 5 dX5_readPart_251 flX5_30 (by decide) h5.o (hRp.2.2.2.1) ?_
    refine V_iconst (pc := 254) (v := nI 1) dX5_readPart_254 (by decide) ?_
    refine V_iaddN (pc := 255) dX5_readPart_255 ?_
    refine V_putI (pc := 256) 5 5 dX5_readPart_256 flX5_30 (by decide) (by decide) (Or.inl rfl) rfl rfl h5.o ?_
    refine V_aload_n (pc := 259) dX5_readPart_259 rfl ?_
    refine V_callVn (pc := 260) (ci := 5) (c_X5_goOn h5 hRp.pt hk) dX5_readPart_260 mlX5_78 mkX5_goOn rfl rfl h5.o ⟨by decide, rfl⟩ (rmS (by omega) (Nat.le_of_ble_eq_true rfl)) (Nat.le_of_ble_eq_true rfl) ⟨Nat.le_of_ble_eq_true rfl, Nat.le_of_ble_eq_true rfl⟩ ?_
    refine V_iload_n (pc := 263) dX5_readPart_263 rfl ?_
    refine V_zretB (pc := 264) (p := true) dX5_readPart_264 rfl rfl (by first | decide | omega) (by first | decide | omega) ?_
    refine ⟨rfl, rfl, (FrX5.rf.pw.u (by omega)).u (by omega), Or.inr ⟨_, rfl, rfl, k + 1, _, hRp.pt.go hk, rfl, by omega, ?_, SgR.leaf (by decide) (fun w => rfl), fun h => absurd h (by omega)⟩⟩
    show c.2.2 + 1 + k ≤ c.2.2 + (k + 1); omega
  · rw [if_neg h1000]
    refine V_aload_n (pc := 0) dX5_readPart_0 rfl ?_
    refine V_bipush (pc := 1) (v := nI 91) dX5_readPart_1 (by decide) ?_
    refine V_callVd (pc := 3) (ci := 5) (c_X5_isSign (x := 91) h5 hR hb (by omega)) dX5_readPart_3 mlX5_74 mkX5_isSign rfl rfl h5.o ⟨by decide, rfl⟩ (rmS (by omega) (Nat.le_of_ble_eq_true rfl)) (Nat.le_of_ble_eq_true rfl) ⟨Nat.le_of_ble_eq_true rfl, Nat.le_of_ble_eq_true rfl⟩ ?_
    refine V_if_eqB (pc := 6) (tgt := 49) dX5_readPart_6 (by decide) (fun c6 => ?_) (fun n6 => absurd n6 (by simp [hx]))
    refine V_aload_n (pc := 49) dX5_readPart_49 rfl ?_
    refine V_getIE (pc := 50) 5 5 dX5_readPart_50 flX5_30 (by decide) h5.o (h5p) ?_
    refine V_bipush (pc := 53) (v := nI 50) dX5_readPart_53 (by decide) ?_
    refine V_icmp_ltN (pc := 55) (tgt := 60) dX5_readPart_55 (by decide) (by omega) (by omega) (fun c55 => ?_) (fun n55 => absurd n55 (by omega))
    refine V_aload_n (pc := 60) dX5_readPart_60 rfl ?_
    refine V_getR (pc := 61) 5 1 dX5_readPart_61 flX5_17 (by decide) h5.o h5.R1 ?_
    refine V_aload_n (pc := 64) dX5_readPart_64 rfl ?_
    refine V_getIE (pc := 65) 5 4 dX5_readPart_65 flX5_27 (by decide) h5.o (h4) ?_
    refine V_ialoadE (pc := 68) dX5_readPart_68 h5.A1 (by first | decide | omega) (by omega) (htk) ?_
    refine V_bipush (pc := 69) (v := nI 16) dX5_readPart_69 (by decide) ?_
    refine V_isubN (pc := 71) dX5_readPart_71 (by omega) ?_
    refine V_istore_n (pc := 72) (ls' := [(0, _), (1, _), (2, _)]) dX5_readPart_72 (by decide) rfl ?_
    refine V_aload_n (pc := 73) dX5_readPart_73 rfl ?_
    refine V_getR (pc := 74) 5 1 dX5_readPart_74 flX5_17 (by decide) h5.o h5.R1 ?_
    refine V_aload_n (pc := 77) dX5_readPart_77 rfl ?_
    refine V_getIE (pc := 78) 5 4 dX5_readPart_78 flX5_27 (by decide) h5.o (h4) ?_
    refine V_ialoadE (pc := 81) dX5_readPart_81 h5.A1 (by first | decide | omega) (by omega) (htk) ?_
    refine V_bipush (pc := 82) (v := nI 91) dX5_readPart_82 (by decide) ?_
    refine V_icmp_neN (pc := 84) (tgt := 128) dX5_readPart_84 (by decide) (by omega) (by omega) (fun c84 => absurd c84 (by omega)) (fun n84 => ?_)
    refine V_aload_n (pc := 87) dX5_readPart_87 rfl ?_
    refine V_getR (pc := 88) 5 2 dX5_readPart_88 flX5_20 (by decide) h5.o h5.R2 ?_
    refine V_aload_n (pc := 91) dX5_readPart_91 rfl ?_
    refine V_getIE (pc := 92) 5 4 dX5_readPart_92 flX5_27 (by decide) h5.o (h4) ?_
    refine V_ialoadE (pc := 95) dX5_readPart_95 h5.A2 (by first | decide | omega) (by omega) (hnu) ?_
    refine V_sipush (pc := 96) (v := nI 1000) dX5_readPart_96 (by decide) ?_
    refine V_icmp_gtN (pc := 99) (tgt := 123) dX5_readPart_99 (by decide) (by omega) (by omega) (fun c99 => ?_) (fun n99 => absurd n99 (by omega))
    refine V_iconst (pc := 123) (v := nI 0) dX5_readPart_123 (by decide) ?_
    refine V_istore_n (pc := 124) (ls' := [(0, _), (1, _), (2, _), (3, _)]) dX5_readPart_124 (by decide) rfl ?_
    refine V_goto (pc := 125) (tgt := 245) dX5_readPart_125 (by decide) ?_
    refine V_iload_n (pc := 245) dX5_readPart_245 rfl ?_
    refine V_if_eqN (pc := 246) (tgt := 263) dX5_readPart_246 (by decide) (by omega) (fun c246 => ?_) (fun n246 => absurd n246 (by omega))
    refine V_iload_n (pc := 263) dX5_readPart_263 rfl ?_
    refine V_zretB (pc := 264) (p := false) dX5_readPart_264 rfl rfl (by first | decide | omega) (by first | decide | omega) ?_
    exact ⟨rfl, rfl, FrX5.rf, Or.inl ⟨rfl, rfl, k, hR.2.1, hR.2.2.1, rfl⟩⟩
/-- a word that stands alone -/
theorem rp_wo (h5 : Lay5 E S o) (hb : ∀ i, i < n → t i < 256) (hd : d ≤ 8) (hR : RS I o t n m od k l c) (hc : c.2.2 ≤ k + s) (hs : s ≤ 47) (hl : l ≤ 50) (h191 : tc t n (pk t n k) ≠ 191) (h91 : tc t n (pk t n k) ≠ 91) (hno : ¬ (od = true ∧ (tc t n (pk t n k) = 28 ∨ tc t n (pk t n k) = 18))) : C E kX5_readPart (3 * (8 - d) + 1) 0 0 [.ref o, .int (nI d)] S I L (PO o t n m od S L I k l c 2 (ps t n od (f + 1) 2 d (pk t n k) l F)) := by
  have h400 := hR.1.2.2.1
  have h4 := hR.2.2.1
  have h5p := hR.2.2.2.1
  have h6 := hR.2.2.2.2.1
  have htk := hR.tk
  have hlt := tc_lt (n := n) hb (hR.1.pn hR.2.1)
  have hkm := hR.2.1
  rw [ps_2, if_neg h191]
  refine C_of (by decide) (Nat.le_of_ble_eq_true rfl) ?_
  by_cases h50 : 50 ≤ l
  · rw [if_pos h50]
    refine V_aload_n (pc := 0) dX5_readPart_0 rfl ?_
    refine V_bipush (pc := 1) (v := nI 91) dX5_readPart_1 (by decide) ?_
    refine V_callVd (pc := 3) (ci := 5) (c_X5_isSign (x := 91) h5 hR hb (by omega)) dX5_readPart_3 mlX5_74 mkX5_isSign rfl rfl h5.o ⟨by decide, rfl⟩ (rmS (by omega) (Nat.le_of_ble_eq_true rfl)) (Nat.le_of_ble_eq_true rfl) ⟨Nat.le_of_ble_eq_true rfl, Nat.le_of_ble_eq_true rfl⟩ ?_
    refine V_if_eqB (pc := 6) (tgt := 49) dX5_readPart_6 (by decide) (fun c6 => ?_) (fun n6 => absurd n6 (by simp [h191]))
    refine V_aload_n (pc := 49) dX5_readPart_49 rfl ?_
    refine V_getIE (pc := 50) 5 5 dX5_readPart_50 flX5_30 (by decide) h5.o (h5p) ?_
    refine V_bipush (pc := 53) (v := nI 50) dX5_readPart_53 (by decide) ?_
    refine V_icmp_ltN (pc := 55) (tgt := 60) dX5_readPart_55 (by decide) (by omega) (by omega) (fun c55 => absurd c55 (by omega)) (fun n55 => ?_)
    refine V_iconst (pc := 58) (v := nI 0) dX5_readPart_58 (by decide) ?_
    refine V_zretB (pc := 59) (p := false) dX5_readPart_59 rfl rfl (by first | decide | omega) (by first | decide | omega) ?_
    exact ⟨rfl, rfl, FrX5.rf, Or.inl ⟨rfl, rfl, k, hR.2.1, hR.2.2.1, rfl⟩⟩
  rw [if_neg h50, if_neg h91]
  by_cases h16 : tc t n (pk t n k) < 16
  · have ep : (if od = true then (if tc t n (pk t n k) = 28 ∨ tc t n (pk t n k) = 18 then (if tc t n (nxt t n (pk t n k)) = 91 ∧ nm t n (nxt t n (pk t n k)) < 6 then (nxt t n (nxt t n (pk t n k)), l + 1, some (wordS ((if tc t n (pk t n k) = 28 then 12 else 18) + nm t n (nxt t n (pk t n k))))) else (nxt t n (pk t n k), l + 1, none)) else if tc t n (pk t n k) = 23 ∨ tc t n (pk t n k) = 25 ∨ tc t n (pk t n k) = 26 ∨ tc t n (pk t n k) = 27 then (nxt t n (pk t n k), l + 1, some (wordS (tc t n (pk t n k) - 16))) else (pk t n k, l, none)) else if 16 ≤ tc t n (pk t n k) ∧ tc t n (pk t n k) ≤ 24 then (nxt t n (pk t n k), l + 1, some (wordS (tc t n (pk t n k) - 16))) else ((pk t n k, l, none) : PR)) = (pk t n k, l, none) := by
      rw [if_neg (show ¬ (tc t n (pk t n k) = 28 ∨ tc t n (pk t n k) = 18) by omega), if_neg (show ¬ (tc t n (pk t n k) = 23 ∨ tc t n (pk t n k) = 25 ∨ tc t n (pk t n k) = 26 ∨ tc t n (pk t n k) = 27) by omega), if_neg (show ¬ (16 ≤ tc t n (pk t n k) ∧ tc t n (pk t n k) ≤ 24) by omega)]
      split <;> rfl
    rw [ep]
    obtain ⟨w1, w2, w3, w4, w5⟩ := wneg _ h16
    refine V_aload_n (pc := 0) dX5_readPart_0 rfl ?_
    refine V_bipush (pc := 1) (v := nI 91) dX5_readPart_1 (by decide) ?_
    refine V_callVd (pc := 3) (ci := 5) (c_X5_isSign (x := 91) h5 hR hb (by omega)) dX5_readPart_3 mlX5_74 mkX5_isSign rfl rfl h5.o ⟨by decide, rfl⟩ (rmS (by omega) (Nat.le_of_ble_eq_true rfl)) (Nat.le_of_ble_eq_true rfl) ⟨Nat.le_of_ble_eq_true rfl, Nat.le_of_ble_eq_true rfl⟩ ?_
    refine V_if_eqB (pc := 6) (tgt := 49) dX5_readPart_6 (by decide) (fun c6 => ?_) (fun n6 => absurd n6 (by simp [h191]))
    refine V_aload_n (pc := 49) dX5_readPart_49 rfl ?_
    refine V_getIE (pc := 50) 5 5 dX5_readPart_50 flX5_30 (by decide) h5.o (h5p) ?_
    refine V_bipush (pc := 53) (v := nI 50) dX5_readPart_53 (by decide) ?_
    refine V_icmp_ltN (pc := 55) (tgt := 60) dX5_readPart_55 (by decide) (by omega) (by omega) (fun c55 => ?_) (fun n55 => absurd n55 (by omega))
    refine V_aload_n (pc := 60) dX5_readPart_60 rfl ?_
    refine V_getR (pc := 61) 5 1 dX5_readPart_61 flX5_17 (by decide) h5.o h5.R1 ?_
    refine V_aload_n (pc := 64) dX5_readPart_64 rfl ?_
    refine V_getIE (pc := 65) 5 4 dX5_readPart_65 flX5_27 (by decide) h5.o (h4) ?_
    refine V_ialoadE (pc := 68) dX5_readPart_68 h5.A1 (by first | decide | omega) (by omega) (htk) ?_
    refine V_bipush (pc := 69) (v := nI 16) dX5_readPart_69 (by decide) ?_
    refine V_isub (pc := 71) dX5_readPart_71 ?_
    refine V_istore_n (pc := 72) (ls' := [(0, _), (1, _), (2, _)]) dX5_readPart_72 (by decide) rfl ?_
    refine V_aload_n (pc := 73) dX5_readPart_73 rfl ?_
    refine V_getR (pc := 74) 5 1 dX5_readPart_74 flX5_17 (by decide) h5.o h5.R1 ?_
    refine V_aload_n (pc := 77) dX5_readPart_77 rfl ?_
    refine V_getIE (pc := 78) 5 4 dX5_readPart_78 flX5_27 (by decide) h5.o (h4) ?_
    refine V_ialoadE (pc := 81) dX5_readPart_81 h5.A1 (by first | decide | omega) (by omega) (htk) ?_
    refine V_bipush (pc := 82) (v := nI 91) dX5_readPart_82 (by decide) ?_
    refine V_icmp_neN (pc := 84) (tgt := 128) dX5_readPart_84 (by decide) (by omega) (by omega) (fun c84 => ?_) (fun n84 => absurd n84 (by omega))
    refine V_aload_n (pc := 128) dX5_readPart_128 rfl ?_
    refine V_getIE (pc := 129) 5 6 dX5_readPart_129 flX5_33 (by decide) h5.o (h6) ?_
    refine V_if_eqB (pc := 132) (tgt := 222) dX5_readPart_132 (by decide) (fun c132 => ?_) (fun n132 => ?_)
    · skip
      refine V_aload_n (pc := 222) dX5_readPart_222 rfl ?_
      refine V_iload_n (pc := 223) dX5_readPart_223 rfl ?_
      refine V_callVd (pc := 224) (ci := 5) (c_X5_standsNeg h5 h6 h16) dX5_readPart_224 mlX5_156 mkX5_standsAlone rfl rfl h5.o ⟨by decide, rfl⟩ (rmS (by omega) (Nat.le_of_ble_eq_true rfl)) (Nat.le_of_ble_eq_true rfl) ⟨Nat.le_of_ble_eq_true rfl, Nat.le_of_ble_eq_true rfl⟩ ?_
      refine V_if_eqB (pc := 227) (tgt := 243) dX5_readPart_227 (by decide) (fun c227 => ?_) (fun n227 => absurd n227 (by decide))
      refine V_iconst (pc := 243) (v := nI 0) dX5_readPart_243 (by decide) ?_
      refine V_istore_n (pc := 244) (ls' := [(0, _), (1, _), (2, _), (3, _)]) dX5_readPart_244 (by decide) rfl ?_
      refine V_iload_n (pc := 245) dX5_readPart_245 rfl ?_
      refine V_if_eqN (pc := 246) (tgt := 263) dX5_readPart_246 (by decide) (by omega) (fun c246 => ?_) (fun n246 => absurd n246 (by omega))
      refine V_iload_n (pc := 263) dX5_readPart_263 rfl ?_
      refine V_zretB (pc := 264) (p := false) dX5_readPart_264 rfl rfl (by first | decide | omega) (by first | decide | omega) ?_
      exact ⟨rfl, rfl, FrX5.rf, Or.inl ⟨rfl, rfl, k, hR.2.1, hR.2.2.1, rfl⟩⟩
    · skip
      refine V_iload_n (pc := 135) dX5_readPart_135 rfl ?_
      refine V_bipush (pc := 136) (v := nI 12) dX5_readPart_136 (by decide) ?_
      refine V_icmp_eq (pc := 138) (tgt := 146) dX5_readPart_138 (by decide) (fun c138 => absurd c138 (by exact w1)) (fun n138 => ?_)
      refine V_iload_n (pc := 141) dX5_readPart_141 rfl ?_
      refine V_iconst (pc := 142) (v := nI 2) dX5_readPart_142 (by decide) ?_
      refine V_icmp_ne (pc := 143) (tgt := 222) dX5_readPart_143 (by decide) (fun c143 => ?_) (fun n143 => absurd n143 (by exact w2))
      refine V_aload_n (pc := 222) dX5_readPart_222 rfl ?_
      refine V_iload_n (pc := 223) dX5_readPart_223 rfl ?_
      refine V_callVd (pc := 224) (ci := 5) (c_X5_standsNeg h5 h6 h16) dX5_readPart_224 mlX5_156 mkX5_standsAlone rfl rfl h5.o ⟨by decide, rfl⟩ (rmS (by omega) (Nat.le_of_ble_eq_true rfl)) (Nat.le_of_ble_eq_true rfl) ⟨Nat.le_of_ble_eq_true rfl, Nat.le_of_ble_eq_true rfl⟩ ?_
      refine V_if_eqB (pc := 227) (tgt := 243) dX5_readPart_227 (by decide) (fun c227 => ?_) (fun n227 => absurd n227 (by decide))
      refine V_iconst (pc := 243) (v := nI 0) dX5_readPart_243 (by decide) ?_
      refine V_istore_n (pc := 244) (ls' := [(0, _), (1, _), (2, _), (3, _)]) dX5_readPart_244 (by decide) rfl ?_
      refine V_iload_n (pc := 245) dX5_readPart_245 rfl ?_
      refine V_if_eqN (pc := 246) (tgt := 263) dX5_readPart_246 (by decide) (by omega) (fun c246 => ?_) (fun n246 => absurd n246 (by omega))
      refine V_iload_n (pc := 263) dX5_readPart_263 rfl ?_
      refine V_zretB (pc := 264) (p := false) dX5_readPart_264 rfl rfl (by first | decide | omega) (by first | decide | omega) ?_
      exact ⟨rfl, rfl, FrX5.rf, Or.inl ⟨rfl, rfl, k, hR.2.1, hR.2.2.1, rfl⟩⟩
  · have ep : (if od = true then (if tc t n (pk t n k) = 28 ∨ tc t n (pk t n k) = 18 then (if tc t n (nxt t n (pk t n k)) = 91 ∧ nm t n (nxt t n (pk t n k)) < 6 then (nxt t n (nxt t n (pk t n k)), l + 1, some (wordS ((if tc t n (pk t n k) = 28 then 12 else 18) + nm t n (nxt t n (pk t n k))))) else (nxt t n (pk t n k), l + 1, none)) else if tc t n (pk t n k) = 23 ∨ tc t n (pk t n k) = 25 ∨ tc t n (pk t n k) = 26 ∨ tc t n (pk t n k) = 27 then (nxt t n (pk t n k), l + 1, some (wordS (tc t n (pk t n k) - 16))) else (pk t n k, l, none)) else if 16 ≤ tc t n (pk t n k) ∧ tc t n (pk t n k) ≤ 24 then (nxt t n (pk t n k), l + 1, some (wordS (tc t n (pk t n k) - 16))) else ((pk t n k, l, none) : PR)) = if sta od (tc t n (pk t n k) - 16) = true then (nxt t n (pk t n k), l + 1, some (wordS (tc t n (pk t n k) - 16))) else (pk t n k, l, none) := by
      unfold sta
      by_cases ho : od = true
      · rw [if_pos ho, if_pos ho, if_neg (fun z => hno ⟨ho, z⟩)]
        by_cases hq : tc t n (pk t n k) = 23 ∨ tc t n (pk t n k) = 25 ∨ tc t n (pk t n k) = 26 ∨ tc t n (pk t n k) = 27
        · rw [if_pos hq, if_pos (decide_eq_true (by omega))]
        · rw [if_neg hq, if_neg (by rw [decide_eq_false (by omega)]; decide)]
      · rw [if_neg ho, if_neg ho]
        by_cases hq : 16 ≤ tc t n (pk t n k) ∧ tc t n (pk t n k) ≤ 24
        · rw [if_pos hq, if_pos (decide_eq_true (by omega))]
        · rw [if_neg hq, if_neg (by rw [decide_eq_false (by omega)]; decide)]
    rw [ep]
    have h12 : od = true → tc t n (pk t n k) - 16 ≠ 12 ∧ tc t n (pk t n k) - 16 ≠ 2 := fun z => ⟨fun y => hno ⟨z, Or.inl (by omega)⟩, fun y => hno ⟨z, Or.inr (by omega)⟩⟩
    cases hst : sta od (tc t n (pk t n k) - 16) with
    | false =>
      rw [if_neg (by decide)]
      refine V_aload_n (pc := 0) dX5_readPart_0 rfl ?_
      refine V_bipush (pc := 1) (v := nI 91) dX5_readPart_1 (by decide) ?_
      refine V_callVd (pc := 3) (ci := 5) (c_X5_isSign (x := 91) h5 hR hb (by omega)) dX5_readPart_3 mlX5_74 mkX5_isSign rfl rfl h5.o ⟨by decide, rfl⟩ (rmS (by omega) (Nat.le_of_ble_eq_true rfl)) (Nat.le_of_ble_eq_true rfl) ⟨Nat.le_of_ble_eq_true rfl, Nat.le_of_ble_eq_true rfl⟩ ?_
      refine V_if_eqB (pc := 6) (tgt := 49) dX5_readPart_6 (by decide) (fun c6 => ?_) (fun n6 => absurd n6 (by simp [h191]))
      refine V_aload_n (pc := 49) dX5_readPart_49 rfl ?_
      refine V_getIE (pc := 50) 5 5 dX5_readPart_50 flX5_30 (by decide) h5.o (h5p) ?_
      refine V_bipush (pc := 53) (v := nI 50) dX5_readPart_53 (by decide) ?_
      refine V_icmp_ltN (pc := 55) (tgt := 60) dX5_readPart_55 (by decide) (by omega) (by omega) (fun c55 => ?_) (fun n55 => absurd n55 (by omega))
      refine V_aload_n (pc := 60) dX5_readPart_60 rfl ?_
      refine V_getR (pc := 61) 5 1 dX5_readPart_61 flX5_17 (by decide) h5.o h5.R1 ?_
      refine V_aload_n (pc := 64) dX5_readPart_64 rfl ?_
      refine V_getIE (pc := 65) 5 4 dX5_readPart_65 flX5_27 (by decide) h5.o (h4) ?_
      refine V_ialoadE (pc := 68) dX5_readPart_68 h5.A1 (by first | decide | omega) (by omega) (htk) ?_
      refine V_bipush (pc := 69) (v := nI 16) dX5_readPart_69 (by decide) ?_
      refine V_isubN (pc := 71) dX5_readPart_71 (by omega) ?_
      refine V_istore_n (pc := 72) (ls' := [(0, _), (1, _), (2, _)]) dX5_readPart_72 (by decide) rfl ?_
      refine V_aload_n (pc := 73) dX5_readPart_73 rfl ?_
      refine V_getR (pc := 74) 5 1 dX5_readPart_74 flX5_17 (by decide) h5.o h5.R1 ?_
      refine V_aload_n (pc := 77) dX5_readPart_77 rfl ?_
      refine V_getIE (pc := 78) 5 4 dX5_readPart_78 flX5_27 (by decide) h5.o (h4) ?_
      refine V_ialoadE (pc := 81) dX5_readPart_81 h5.A1 (by first | decide | omega) (by omega) (htk) ?_
      refine V_bipush (pc := 82) (v := nI 91) dX5_readPart_82 (by decide) ?_
      refine V_icmp_neN (pc := 84) (tgt := 128) dX5_readPart_84 (by decide) (by omega) (by omega) (fun c84 => ?_) (fun n84 => absurd n84 (by omega))
      refine V_aload_n (pc := 128) dX5_readPart_128 rfl ?_
      refine V_getIE (pc := 129) 5 6 dX5_readPart_129 flX5_33 (by decide) h5.o (h6) ?_
      refine V_if_eqB (pc := 132) (tgt := 222) dX5_readPart_132 (by decide) (fun c132 => ?_) (fun n132 => ?_)
      · skip
        refine V_aload_n (pc := 222) dX5_readPart_222 rfl ?_
        refine V_iload_n (pc := 223) dX5_readPart_223 rfl ?_
        refine V_callVd (pc := 224) (ci := 5) (c_X5_standsAlone h5 h6 (by omega)) dX5_readPart_224 mlX5_156 mkX5_standsAlone rfl rfl h5.o ⟨by decide, rfl⟩ (rmS (by omega) (Nat.le_of_ble_eq_true rfl)) (Nat.le_of_ble_eq_true rfl) ⟨Nat.le_of_ble_eq_true rfl, Nat.le_of_ble_eq_true rfl⟩ ?_
        refine V_if_eqB (pc := 227) (tgt := 243) dX5_readPart_227 (by decide) (fun c227 => ?_) (fun n227 => absurd n227 (by rw [hst]; decide))
        refine V_iconst (pc := 243) (v := nI 0) dX5_readPart_243 (by decide) ?_
        refine V_istore_n (pc := 244) (ls' := [(0, _), (1, _), (2, _), (3, _)]) dX5_readPart_244 (by decide) rfl ?_
        refine V_iload_n (pc := 245) dX5_readPart_245 rfl ?_
        refine V_if_eqN (pc := 246) (tgt := 263) dX5_readPart_246 (by decide) (by omega) (fun c246 => ?_) (fun n246 => absurd n246 (by omega))
        refine V_iload_n (pc := 263) dX5_readPart_263 rfl ?_
        refine V_zretB (pc := 264) (p := false) dX5_readPart_264 rfl rfl (by first | decide | omega) (by first | decide | omega) ?_
        exact ⟨rfl, rfl, FrX5.rf, Or.inl ⟨rfl, rfl, k, hR.2.1, hR.2.2.1, rfl⟩⟩
      · skip
        have h13 := h12 n132
        refine V_iload_n (pc := 135) dX5_readPart_135 rfl ?_
        refine V_bipush (pc := 136) (v := nI 12) dX5_readPart_136 (by decide) ?_
        refine V_icmp_eqN (pc := 138) (tgt := 146) dX5_readPart_138 (by decide) (by omega) (by omega) (fun c138 => absurd c138 (by omega)) (fun n138 => ?_)
        refine V_iload_n (pc := 141) dX5_readPart_141 rfl ?_
        refine V_iconst (pc := 142) (v := nI 2) dX5_readPart_142 (by decide) ?_
        refine V_icmp_neN (pc := 143) (tgt := 222) dX5_readPart_143 (by decide) (by omega) (by omega) (fun c143 => ?_) (fun n143 => absurd n143 (by omega))
        refine V_aload_n (pc := 222) dX5_readPart_222 rfl ?_
        refine V_iload_n (pc := 223) dX5_readPart_223 rfl ?_
        refine V_callVd (pc := 224) (ci := 5) (c_X5_standsAlone h5 h6 (by omega)) dX5_readPart_224 mlX5_156 mkX5_standsAlone rfl rfl h5.o ⟨by decide, rfl⟩ (rmS (by omega) (Nat.le_of_ble_eq_true rfl)) (Nat.le_of_ble_eq_true rfl) ⟨Nat.le_of_ble_eq_true rfl, Nat.le_of_ble_eq_true rfl⟩ ?_
        refine V_if_eqB (pc := 227) (tgt := 243) dX5_readPart_227 (by decide) (fun c227 => ?_) (fun n227 => absurd n227 (by rw [hst]; decide))
        refine V_iconst (pc := 243) (v := nI 0) dX5_readPart_243 (by decide) ?_
        refine V_istore_n (pc := 244) (ls' := [(0, _), (1, _), (2, _), (3, _)]) dX5_readPart_244 (by decide) rfl ?_
        refine V_iload_n (pc := 245) dX5_readPart_245 rfl ?_
        refine V_if_eqN (pc := 246) (tgt := 263) dX5_readPart_246 (by decide) (by omega) (fun c246 => ?_) (fun n246 => absurd n246 (by omega))
        refine V_iload_n (pc := 263) dX5_readPart_263 rfl ?_
        refine V_zretB (pc := 264) (p := false) dX5_readPart_264 rfl rfl (by first | decide | omega) (by first | decide | omega) ?_
        exact ⟨rfl, rfl, FrX5.rf, Or.inl ⟨rfl, rfl, k, hR.2.1, hR.2.2.1, rfl⟩⟩
    | true =>
      rw [if_pos rfl]
      have hws : wdk od (tc t n (pk t n k) - 16) ∧ tc t n (pk t n k) ≠ 92 ∧ tc t n (pk t n k) - 16 ≤ 1000 := by
        unfold sta at hst
        unfold wdk
        by_cases ho : od = true
        · rw [if_pos ho] at hst ⊢; have := of_decide_eq_true hst; omega
        · rw [if_neg ho] at hst ⊢; have := of_decide_eq_true hst; omega
      have hk := hR.lt hws.2.1
      have hRp := hR.put (a := 2) (x := 1) (b := tc t n (pk t n k) - 16) rfl (Or.inr (Or.inl rfl)) hws.2.2 (fun _ => hws.1)
      refine V_aload_n (pc := 0) dX5_readPart_0 rfl ?_
      refine V_bipush (pc := 1) (v := nI 91) dX5_readPart_1 (by decide) ?_
      refine V_callVd (pc := 3) (ci := 5) (c_X5_isSign (x := 91) h5 hR hb (by omega)) dX5_readPart_3 mlX5_74 mkX5_isSign rfl rfl h5.o ⟨by decide, rfl⟩ (rmS (by omega) (Nat.le_of_ble_eq_true rfl)) (Nat.le_of_ble_eq_true rfl) ⟨Nat.le_of_ble_eq_true rfl, Nat.le_of_ble_eq_true rfl⟩ ?_
      refine V_if_eqB (pc := 6) (tgt := 49) dX5_readPart_6 (by decide) (fun c6 => ?_) (fun n6 => absurd n6 (by simp [h191]))
      refine V_aload_n (pc := 49) dX5_readPart_49 rfl ?_
      refine V_getIE (pc := 50) 5 5 dX5_readPart_50 flX5_30 (by decide) h5.o (h5p) ?_
      refine V_bipush (pc := 53) (v := nI 50) dX5_readPart_53 (by decide) ?_
      refine V_icmp_ltN (pc := 55) (tgt := 60) dX5_readPart_55 (by decide) (by omega) (by omega) (fun c55 => ?_) (fun n55 => absurd n55 (by omega))
      refine V_aload_n (pc := 60) dX5_readPart_60 rfl ?_
      refine V_getR (pc := 61) 5 1 dX5_readPart_61 flX5_17 (by decide) h5.o h5.R1 ?_
      refine V_aload_n (pc := 64) dX5_readPart_64 rfl ?_
      refine V_getIE (pc := 65) 5 4 dX5_readPart_65 flX5_27 (by decide) h5.o (h4) ?_
      refine V_ialoadE (pc := 68) dX5_readPart_68 h5.A1 (by first | decide | omega) (by omega) (htk) ?_
      refine V_bipush (pc := 69) (v := nI 16) dX5_readPart_69 (by decide) ?_
      refine V_isubN (pc := 71) dX5_readPart_71 (by omega) ?_
      refine V_istore_n (pc := 72) (ls' := [(0, _), (1, _), (2, _)]) dX5_readPart_72 (by decide) rfl ?_
      refine V_aload_n (pc := 73) dX5_readPart_73 rfl ?_
      refine V_getR (pc := 74) 5 1 dX5_readPart_74 flX5_17 (by decide) h5.o h5.R1 ?_
      refine V_aload_n (pc := 77) dX5_readPart_77 rfl ?_
      refine V_getIE (pc := 78) 5 4 dX5_readPart_78 flX5_27 (by decide) h5.o (h4) ?_
      refine V_ialoadE (pc := 81) dX5_readPart_81 h5.A1 (by first | decide | omega) (by omega) (htk) ?_
      refine V_bipush (pc := 82) (v := nI 91) dX5_readPart_82 (by decide) ?_
      refine V_icmp_neN (pc := 84) (tgt := 128) dX5_readPart_84 (by decide) (by omega) (by omega) (fun c84 => ?_) (fun n84 => absurd n84 (by omega))
      refine V_aload_n (pc := 128) dX5_readPart_128 rfl ?_
      refine V_getIE (pc := 129) 5 6 dX5_readPart_129 flX5_33 (by decide) h5.o (h6) ?_
      refine V_if_eqB (pc := 132) (tgt := 222) dX5_readPart_132 (by decide) (fun c132 => ?_) (fun n132 => ?_)
      · skip
        refine V_aload_n (pc := 222) dX5_readPart_222 rfl ?_
        refine V_iload_n (pc := 223) dX5_readPart_223 rfl ?_
        refine V_callVd (pc := 224) (ci := 5) (c_X5_standsAlone h5 h6 (by omega)) dX5_readPart_224 mlX5_156 mkX5_standsAlone rfl rfl h5.o ⟨by decide, rfl⟩ (rmS (by omega) (Nat.le_of_ble_eq_true rfl)) (Nat.le_of_ble_eq_true rfl) ⟨Nat.le_of_ble_eq_true rfl, Nat.le_of_ble_eq_true rfl⟩ ?_
        refine V_if_eqB (pc := 227) (tgt := 243) dX5_readPart_227 (by decide) (fun c227 => absurd c227 (by rw [hst]; decide)) (fun n227 => ?_)
        refine V_aload_n (pc := 230) dX5_readPart_230 rfl ?_
        refine V_iconst (pc := 231) (v := nI 2) dX5_readPart_231 (by decide) ?_
        refine V_iload_n (pc := 232) dX5_readPart_232 rfl ?_
        refine V_callVd (pc := 233) (ci := 5) (c_X5_put (a := 2) h5 hR (by omega)) dX5_readPart_233 mlX5_131 mkX5_put rfl rfl h5.o ⟨by decide, rfl⟩ (rmS (by omega) (Nat.le_of_ble_eq_true rfl)) (Nat.le_of_ble_eq_true rfl) ⟨Nat.le_of_ble_eq_true rfl, Nat.le_of_ble_eq_true rfl⟩ ?_
        refine V_if_eqB (pc := 236) (tgt := 243) dX5_readPart_236 (by decide) (fun c236 => absurd c236 (by decide)) (fun n236 => ?_)
        refine V_iconst (pc := 239) (v := nI 1) dX5_readPart_239 (by decide) ?_
        refine V_goto (pc := 240) (tgt := 244) dX5_readPart_240 (by decide) ?_
        refine V_istore_n (pc := 244) (ls' := [(0, _), (1, _), (2, _), (3, _)]) dX5_readPart_244 (by decide) rfl ?_
        refine V_iload_n (pc := 245) dX5_readPart_245 rfl ?_
        refine V_if_eqN (pc := 246) (tgt := 263) dX5_readPart_246 (by decide) (by omega) (fun c246 => absurd c246 (by omega)) (fun n246 => ?_)
        refine V_aload_n (pc := 249) dX5_readPart_249 rfl ?_
        refine V_dup (pc := 250) dX5_readPart_250 rfl ?_
        refine V_getIE (pc := 251) 5 5 dX5_readPart_251 flX5_30 (by decide) h5.o (hRp.2.2.2.1) ?_
        refine V_iconst (pc := 254) (v := nI 1) dX5_readPart_254 (by decide) ?_
        refine V_iaddN (pc := 255) dX5_readPart_255 ?_
        refine V_putI (pc := 256) 5 5 dX5_readPart_256 flX5_30 (by decide) (by decide) (Or.inl rfl) rfl rfl h5.o ?_
        refine V_aload_n (pc := 259) dX5_readPart_259 rfl ?_
        refine V_callVn (pc := 260) (ci := 5) (c_X5_goOn h5 hRp.pt hk) dX5_readPart_260 mlX5_78 mkX5_goOn rfl rfl h5.o ⟨by decide, rfl⟩ (rmS (by omega) (Nat.le_of_ble_eq_true rfl)) (Nat.le_of_ble_eq_true rfl) ⟨Nat.le_of_ble_eq_true rfl, Nat.le_of_ble_eq_true rfl⟩ ?_
        refine V_iload_n (pc := 263) dX5_readPart_263 rfl ?_
        refine V_zretB (pc := 264) (p := true) dX5_readPart_264 rfl rfl (by first | decide | omega) (by first | decide | omega) ?_
        refine ⟨rfl, rfl, (FrX5.rf.pw.u (by omega)).u (by omega), Or.inr ⟨_, rfl, rfl, k + 1, _, hRp.pt.go hk, rfl, by omega, ?_, SgR.leaf (by decide) (fun w => rfl), fun h => absurd h (by omega)⟩⟩
        show c.2.2 + 1 + k ≤ c.2.2 + (k + 1); omega
      · skip
        have h13 := h12 n132
        refine V_iload_n (pc := 135) dX5_readPart_135 rfl ?_
        refine V_bipush (pc := 136) (v := nI 12) dX5_readPart_136 (by decide) ?_
        refine V_icmp_eqN (pc := 138) (tgt := 146) dX5_readPart_138 (by decide) (by omega) (by omega) (fun c138 => absurd c138 (by omega)) (fun n138 => ?_)
        refine V_iload_n (pc := 141) dX5_readPart_141 rfl ?_
        refine V_iconst (pc := 142) (v := nI 2) dX5_readPart_142 (by decide) ?_
        refine V_icmp_neN (pc := 143) (tgt := 222) dX5_readPart_143 (by decide) (by omega) (by omega) (fun c143 => ?_) (fun n143 => absurd n143 (by omega))
        refine V_aload_n (pc := 222) dX5_readPart_222 rfl ?_
        refine V_iload_n (pc := 223) dX5_readPart_223 rfl ?_
        refine V_callVd (pc := 224) (ci := 5) (c_X5_standsAlone h5 h6 (by omega)) dX5_readPart_224 mlX5_156 mkX5_standsAlone rfl rfl h5.o ⟨by decide, rfl⟩ (rmS (by omega) (Nat.le_of_ble_eq_true rfl)) (Nat.le_of_ble_eq_true rfl) ⟨Nat.le_of_ble_eq_true rfl, Nat.le_of_ble_eq_true rfl⟩ ?_
        refine V_if_eqB (pc := 227) (tgt := 243) dX5_readPart_227 (by decide) (fun c227 => absurd c227 (by rw [hst]; decide)) (fun n227 => ?_)
        refine V_aload_n (pc := 230) dX5_readPart_230 rfl ?_
        refine V_iconst (pc := 231) (v := nI 2) dX5_readPart_231 (by decide) ?_
        refine V_iload_n (pc := 232) dX5_readPart_232 rfl ?_
        refine V_callVd (pc := 233) (ci := 5) (c_X5_put (a := 2) h5 hR (by omega)) dX5_readPart_233 mlX5_131 mkX5_put rfl rfl h5.o ⟨by decide, rfl⟩ (rmS (by omega) (Nat.le_of_ble_eq_true rfl)) (Nat.le_of_ble_eq_true rfl) ⟨Nat.le_of_ble_eq_true rfl, Nat.le_of_ble_eq_true rfl⟩ ?_
        refine V_if_eqB (pc := 236) (tgt := 243) dX5_readPart_236 (by decide) (fun c236 => absurd c236 (by decide)) (fun n236 => ?_)
        refine V_iconst (pc := 239) (v := nI 1) dX5_readPart_239 (by decide) ?_
        refine V_goto (pc := 240) (tgt := 244) dX5_readPart_240 (by decide) ?_
        refine V_istore_n (pc := 244) (ls' := [(0, _), (1, _), (2, _), (3, _)]) dX5_readPart_244 (by decide) rfl ?_
        refine V_iload_n (pc := 245) dX5_readPart_245 rfl ?_
        refine V_if_eqN (pc := 246) (tgt := 263) dX5_readPart_246 (by decide) (by omega) (fun c246 => absurd c246 (by omega)) (fun n246 => ?_)
        refine V_aload_n (pc := 249) dX5_readPart_249 rfl ?_
        refine V_dup (pc := 250) dX5_readPart_250 rfl ?_
        refine V_getIE (pc := 251) 5 5 dX5_readPart_251 flX5_30 (by decide) h5.o (hRp.2.2.2.1) ?_
        refine V_iconst (pc := 254) (v := nI 1) dX5_readPart_254 (by decide) ?_
        refine V_iaddN (pc := 255) dX5_readPart_255 ?_
        refine V_putI (pc := 256) 5 5 dX5_readPart_256 flX5_30 (by decide) (by decide) (Or.inl rfl) rfl rfl h5.o ?_
        refine V_aload_n (pc := 259) dX5_readPart_259 rfl ?_
        refine V_callVn (pc := 260) (ci := 5) (c_X5_goOn h5 hRp.pt hk) dX5_readPart_260 mlX5_78 mkX5_goOn rfl rfl h5.o ⟨by decide, rfl⟩ (rmS (by omega) (Nat.le_of_ble_eq_true rfl)) (Nat.le_of_ble_eq_true rfl) ⟨Nat.le_of_ble_eq_true rfl, Nat.le_of_ble_eq_true rfl⟩ ?_
        refine V_iload_n (pc := 263) dX5_readPart_263 rfl ?_
        refine V_zretB (pc := 264) (p := true) dX5_readPart_264 rfl rfl (by first | decide | omega) (by first | decide | omega) ?_
        refine ⟨rfl, rfl, (FrX5.rf.pw.u (by omega)).u (by omega), Or.inr ⟨_, rfl, rfl, k + 1, _, hRp.pt.go hk, rfl, by omega, ?_, SgR.leaf (by decide) (fun w => rfl), fun h => absurd h (by omega)⟩⟩
        show c.2.2 + 1 + k ≤ c.2.2 + (k + 1); omega
end RQ
