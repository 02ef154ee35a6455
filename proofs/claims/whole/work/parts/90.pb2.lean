/-! THE CLASS's public methods, II -/
section CK
variable {E : EnT} {S : ST} {I : IT} {L : LT} {B : Nat} {A : AT}
theorem c_X11_pins (h11 : Lay11 E S B) (hR : CR E S B I A) (hA : wfA A) {x y z : Int32} : Cc E kX11_pins 2 [.ref B, .int x, .int y, .int z] S I L B (.int (spPins A x y z).1) (spPins A x y z).2 := by
  have hq := hA.q
  have hnb := hq.nb
  have hv := hR.1
  refine C_of (by decide) (Nat.le_of_ble_eq_true rfl) ?_
  refine V_iload_n (pc := 0) dX11_pins_0 rfl ?_
  refine V_callSd (pc := 1) (c_X11_isBar) dX11_pins_1 mlX11_166 mkX11_isBar rfl rfl ⟨Nat.le_of_ble_eq_true rfl, Nat.le_of_ble_eq_true rfl⟩ (Nat.le_of_ble_eq_true rfl) ⟨Nat.le_of_ble_eq_true rfl, Nat.le_of_ble_eq_true rfl⟩ ?_
  refine V_if_eqB (pc := 4) (tgt := 18) dX11_pins_4 (by decide) (fun c4 => ?_) (fun n4 => ?_)
  · skip
    have hb : ¬ (bnd y 8 = true ∧ bnd z 256 = true) := by
      first
        | exact fun w => by rw [w.1] at c4; exact absurd c4 (by decide)
        | exact fun w => by rw [bnd_lo c8] at w; exact absurd w.2 (by decide)
        | exact fun w => by rw [bnd_nlt (by omega) n15] at w; exact absurd w.2 (by decide)
    rw [spPins, if_neg hb]
    refine V_aload_n (pc := 18) dX11_pins_18 rfl ?_
    refine V_iconst (pc := 19) (v := (-1)) dX11_pins_19 (by decide) ?_
    refine V_callVd (pc := 20) (ci := 11) (c_X11_refuse (r := 1) h11 (by decide) (by decide) (by decide)) dX11_pins_20 mlX11_112 mkX11_refuse rfl rfl h11.o ⟨by decide, rfl⟩ ⟨Nat.le_of_ble_eq_true rfl, Nat.le_of_ble_eq_true rfl⟩ (Nat.le_of_ble_eq_true rfl) ⟨Nat.le_of_ble_eq_true rfl, Nat.le_of_ble_eq_true rfl⟩ ?_
    refine V_iret (pc := 23) dX11_pins_23 rfl (by first | decide | omega) (by first | decide | omega) ?_
    exact ⟨rfl, rfl, hR.hrf, rfuC_Fr FrC.rf⟩
  · skip
    refine V_iload_n (pc := 7) dX11_pins_7 rfl ?_
    refine V_if_lt (pc := 8) (tgt := 18) dX11_pins_8 (by decide) (fun c8 => ?_) (fun n8 => ?_)
    · skip
      have hb : ¬ (bnd y 8 = true ∧ bnd z 256 = true) := by
        first
          | exact fun w => by rw [w.1] at c4; exact absurd c4 (by decide)
          | exact fun w => by rw [bnd_lo c8] at w; exact absurd w.2 (by decide)
          | exact fun w => by rw [bnd_nlt (by omega) n15] at w; exact absurd w.2 (by decide)
      rw [spPins, if_neg hb]
      refine V_aload_n (pc := 18) dX11_pins_18 rfl ?_
      refine V_iconst (pc := 19) (v := (-1)) dX11_pins_19 (by decide) ?_
      refine V_callVd (pc := 20) (ci := 11) (c_X11_refuse (r := 1) h11 (by decide) (by decide) (by decide)) dX11_pins_20 mlX11_112 mkX11_refuse rfl rfl h11.o ⟨by decide, rfl⟩ ⟨Nat.le_of_ble_eq_true rfl, Nat.le_of_ble_eq_true rfl⟩ (Nat.le_of_ble_eq_true rfl) ⟨Nat.le_of_ble_eq_true rfl, Nat.le_of_ble_eq_true rfl⟩ ?_
      refine V_iret (pc := 23) dX11_pins_23 rfl (by first | decide | omega) (by first | decide | omega) ?_
      exact ⟨rfl, rfl, hR.hrf, rfuC_Fr FrC.rf⟩
    · skip
      refine V_iload_n (pc := 11) dX11_pins_11 rfl ?_
      refine V_sipush (pc := 12) (v := nI 256) dX11_pins_12 (by decide) ?_
      refine V_icmp_lt (pc := 15) (tgt := 24) dX11_pins_15 (by decide) (fun c15 => ?_) (fun n15 => ?_)
      · skip
        have hb : bnd z 256 = true := bnd_ltx (by omega) n8 c15
        obtain ⟨j, hj, hy⟩ := bnd_ex (by omega) n4
        obtain ⟨t, ht, hz⟩ := bnd_ex (by omega) hb
        rw [spPins, if_pos ⟨n4, hb⟩]
        subst hy hz
        rw [cln_nI (by omega), cln_nI (by omega)]
        refine V_aload_n (pc := 24) dX11_pins_24 rfl ?_
        refine V_getR (pc := 25) 11 0 dX11_pins_25 flX11_91 (by decide) h11.o h11.R0 ?_
        refine V_getR (pc := 28) 10 0 dX11_pins_28 flX11_116 (by decide) h11.O0.o h11.O0.R0 ?_
        refine V_astore (pc := 31) (ls' := [(0, _), (1, _), (2, _), (3, _), (4, _)]) dX11_pins_31 (by decide) rfl ?_
        refine V_aload (pc := 33) dX11_pins_33 rfl ?_
        refine V_iload_n (pc := 35) dX11_pins_35 rfl ?_
        refine V_callVd (pc := 36) (ci := 9) (c_X9_hasBox h11.O0.O0 hv.1 hq) dX11_pins_36 mlX11_140 mkX9_hasBox rfl rfl h11.O0.O0.o ⟨by decide, rfl⟩ ⟨Nat.le_of_ble_eq_true rfl, Nat.le_of_ble_eq_true rfl⟩ (Nat.le_of_ble_eq_true rfl) ⟨Nat.le_of_ble_eq_true rfl, Nat.le_of_ble_eq_true rfl⟩ ?_
        refine V_if_neB (pc := 39) (tgt := 49) dX11_pins_39 (by decide) (fun c39 => ?_) (fun n39 => ?_)
        · skip
          obtain ⟨b, hb, hx⟩ := bnd_ex (by omega) c39
          rw [if_pos c39]
          subst hx
          rw [cln_nI (by omega)]
          have e8 : 8 + 8 * b + j = 8 + (b * 8 + j) := by omega
          refine V_aload_n (pc := 49) dX11_pins_49 rfl ?_
          refine V_getR (pc := 50) 11 4 dX11_pins_50 flX11_99 (by decide) h11.o h11.R4 ?_
          refine V_getR (pc := 53) 0 3 dX11_pins_53 flX11_125 (by decide) h11.O4.o h11.O4.R3 ?_
          refine V_callV (pc := 56) (ci := 2) (c_X2_clear h11.O4.O3 hR.2.2.1) dX11_pins_56 mlX11_129 mkX2_clear rfl rfl h11.O4.O3.o ⟨by decide, rfl⟩ ⟨Nat.le_of_ble_eq_true rfl, Nat.le_of_ble_eq_true rfl⟩ (Nat.le_of_ble_eq_true rfl) ⟨Nat.le_of_ble_eq_true rfl, Nat.le_of_ble_eq_true rfl⟩ (fun r S' I' L' hp => ?_)
          obtain ⟨rfl, rfl, rfl, hh, hf⟩ := hp
          have hR1 := hR.un hh hf
          have hv1 : VgM I' (B + 36) (aq A) := hR1.1
          have hF := FrC.rf (L := L) |>.h hf
          refine V_aload (pc := 59) dX11_pins_59 rfl ?_
          refine V_getR (pc := 61) 9 1 dX11_pins_61 flX11_169 (by decide) h11.O0.O0.o h11.O0.O0.R1 ?_
          refine V_iload_n (pc := 64) dX11_pins_64 rfl ?_
          refine V_bipush (pc := 65) (v := nI 8) dX11_pins_65 (by decide) ?_
          refine V_imulN (pc := 67) dX11_pins_67 ?_
          refine V_iload_n (pc := 68) dX11_pins_68 rfl ?_
          refine V_iaddN (pc := 69) dX11_pins_69 ?_
          refine V_ialoadE (pc := 70) dX11_pins_70 h11.O0.O0.A1 (by first | decide | omega) (by omega) (hv1.1.pi (by omega) hj) ?_
          refine V_istore (pc := 71) (ls' := [(0, _), (1, _), (2, _), (3, _), (4, _), (5, _)]) dX11_pins_71 (by decide) rfl ?_
          refine V_aload (pc := 73) dX11_pins_73 rfl ?_
          refine V_getR (pc := 75) 9 1 dX11_pins_75 flX11_169 (by decide) h11.O0.O0.o h11.O0.O0.R1 ?_
          refine V_iload_n (pc := 78) dX11_pins_78 rfl ?_
          refine V_bipush (pc := 79) (v := nI 8) dX11_pins_79 (by decide) ?_
          refine V_imulN (pc := 81) dX11_pins_81 ?_
          refine V_iload_n (pc := 82) dX11_pins_82 rfl ?_
          refine V_iaddN (pc := 83) dX11_pins_83 ?_
          refine V_iload_n (pc := 84) dX11_pins_84 rfl ?_
          refine V_iastore (pc := 85) dX11_pins_85 h11.O0.O0.A1 (by first | decide | omega) (by omega) ?_
          refine V_aload_n (pc := 86) dX11_pins_86 rfl ?_
          refine V_iload (pc := 87) dX11_pins_87 rfl ?_
          refine V_callVd (pc := 89) (ci := 11) (c_X11_grant h11) dX11_pins_89 mlX11_137 mkX11_grant rfl rfl h11.o ⟨by decide, rfl⟩ ⟨Nat.le_of_ble_eq_true rfl, Nat.le_of_ble_eq_true rfl⟩ (Nat.le_of_ble_eq_true rfl) ⟨Nat.le_of_ble_eq_true rfl, Nat.le_of_ble_eq_true rfl⟩ ?_
          refine V_iret (pc := 92) dX11_pins_92 rfl (by first | decide | omega) (by first | decide | omega) ?_
          have hq1 := hv1.vl (hv1.1.u1 (b := b * 8 + j) (n := t) (by omega)) (fun a a1 a2 => by rw [up2_row (by omega)]) (fun i hi => by rw [setq_n (by omega)])
          refine ⟨rfl, rfl, ?_, (hF.up (by omega)).up (by omega)⟩
          rw [e8]
          exact (hR1.tq (fun x hx => by rw [up2_row (by omega)]) hq1 (setq_n (by omega)) (Or.inr rfl)).hok
        · skip
          refine V_aload_n (pc := 42) dX11_pins_42 rfl ?_
          refine V_bipush (pc := 43) (v := (-2)) dX11_pins_43 (by decide) ?_
          refine V_callVd (pc := 45) (ci := 11) (c_X11_refuse (r := 2) h11 (by decide) (by decide) (by decide)) dX11_pins_45 mlX11_112 mkX11_refuse rfl rfl h11.o ⟨by decide, rfl⟩ ⟨Nat.le_of_ble_eq_true rfl, Nat.le_of_ble_eq_true rfl⟩ (Nat.le_of_ble_eq_true rfl) ⟨Nat.le_of_ble_eq_true rfl, Nat.le_of_ble_eq_true rfl⟩ ?_
          refine V_iret (pc := 48) dX11_pins_48 rfl (by first | decide | omega) (by first | decide | omega) ?_
          rw [if_neg (by rw [n39]; decide)]
          exact ⟨rfl, rfl, hR.hrf, rfuC_Fr FrC.rf⟩
      · skip
        have hb : ¬ (bnd y 8 = true ∧ bnd z 256 = true) := by
          first
            | exact fun w => by rw [w.1] at c4; exact absurd c4 (by decide)
            | exact fun w => by rw [bnd_lo c8] at w; exact absurd w.2 (by decide)
            | exact fun w => by rw [bnd_nlt (by omega) n15] at w; exact absurd w.2 (by decide)
        rw [spPins, if_neg hb]
        refine V_aload_n (pc := 18) dX11_pins_18 rfl ?_
        refine V_iconst (pc := 19) (v := (-1)) dX11_pins_19 (by decide) ?_
        refine V_callVd (pc := 20) (ci := 11) (c_X11_refuse (r := 1) h11 (by decide) (by decide) (by decide)) dX11_pins_20 mlX11_112 mkX11_refuse rfl rfl h11.o ⟨by decide, rfl⟩ ⟨Nat.le_of_ble_eq_true rfl, Nat.le_of_ble_eq_true rfl⟩ (Nat.le_of_ble_eq_true rfl) ⟨Nat.le_of_ble_eq_true rfl, Nat.le_of_ble_eq_true rfl⟩ ?_
        refine V_iret (pc := 23) dX11_pins_23 rfl (by first | decide | omega) (by first | decide | omega) ?_
        exact ⟨rfl, rfl, hR.hrf, rfuC_Fr FrC.rf⟩
theorem c_X11_suitor (h11 : Lay11 E S B) (hR : CR E S B I A) (hA : wfA A) {x y : Int32} : Cc E kX11_suitor 2 [.ref B, .int x, .int y] S I L B (.int (spSuitor A x y).1) (spSuitor A x y).2 := by
  have hq := hA.q
  have hns := hq.ns
  have hv := hR.1
  refine C_of (by decide) (Nat.le_of_ble_eq_true rfl) ?_
  refine V_iload_n (pc := 0) dX11_suitor_0 rfl ?_
  refine V_callSd (pc := 1) (c_X11_isTooth) dX11_suitor_1 mlX11_172 mkX11_isTooth rfl rfl ⟨Nat.le_of_ble_eq_true rfl, Nat.le_of_ble_eq_true rfl⟩ (Nat.le_of_ble_eq_true rfl) ⟨Nat.le_of_ble_eq_true rfl, Nat.le_of_ble_eq_true rfl⟩ ?_
  refine V_if_eqB (pc := 4) (tgt := 14) dX11_suitor_4 (by decide) (fun c4 => ?_) (fun n4 => ?_)
  · skip
    have hb : ¬ (bnd x 8 = true ∧ bnd y 61 = true) := by
      first
        | exact fun w => by rw [w.1] at c4; exact absurd c4 (by decide)
        | exact fun w => by rw [w.2] at n11; exact absurd n11 (by decide)
    rw [spSuitor, if_neg hb]
    refine V_aload_n (pc := 14) dX11_suitor_14 rfl ?_
    refine V_iconst (pc := 15) (v := (-1)) dX11_suitor_15 (by decide) ?_
    refine V_callVd (pc := 16) (ci := 11) (c_X11_refuse (r := 1) h11 (by decide) (by decide) (by decide)) dX11_suitor_16 mlX11_112 mkX11_refuse rfl rfl h11.o ⟨by decide, rfl⟩ ⟨Nat.le_of_ble_eq_true rfl, Nat.le_of_ble_eq_true rfl⟩ (Nat.le_of_ble_eq_true rfl) ⟨Nat.le_of_ble_eq_true rfl, Nat.le_of_ble_eq_true rfl⟩ ?_
    refine V_iret (pc := 19) dX11_suitor_19 rfl (by first | decide | omega) (by first | decide | omega) ?_
    exact ⟨rfl, rfl, hR.hrf, rfuC_Fr FrC.rf⟩
  · skip
    refine V_iload_n (pc := 7) dX11_suitor_7 rfl ?_
    refine V_callSd (pc := 8) (c_X11_isYears) dX11_suitor_8 mlX11_175 mkX11_isYears rfl rfl ⟨Nat.le_of_ble_eq_true rfl, Nat.le_of_ble_eq_true rfl⟩ (Nat.le_of_ble_eq_true rfl) ⟨Nat.le_of_ble_eq_true rfl, Nat.le_of_ble_eq_true rfl⟩ ?_
    refine V_if_neB (pc := 11) (tgt := 20) dX11_suitor_11 (by decide) (fun c11 => ?_) (fun n11 => ?_)
    · skip
      obtain ⟨j, hj, hx⟩ := bnd_ex (by omega) n4
      obtain ⟨t, ht, hy⟩ := bnd_ex (by omega) c11
      rw [spSuitor, if_pos ⟨n4, c11⟩]
      subst hx hy
      rw [cln_nI (by omega), cln_nI (by omega)]
      refine V_aload_n (pc := 20) dX11_suitor_20 rfl ?_
      refine V_getR (pc := 21) 11 0 dX11_suitor_21 flX11_91 (by decide) h11.o h11.R0 ?_
      refine V_getIE (pc := 24) 10 1 dX11_suitor_24 flX11_178 (by decide) h11.O0.o (hv.2.1) ?_
      refine V_bipush (pc := 27) (v := nI 6) dX11_suitor_27 (by decide) ?_
      refine V_icmp_ltN (pc := 29) (tgt := 39) dX11_suitor_29 (by decide) (by omega) (by omega) (fun c29 => ?_) (fun n29 => ?_)
      · skip
        rw [if_neg (by omega)]
        refine V_aload_n (pc := 39) dX11_suitor_39 rfl ?_
        refine V_getR (pc := 40) 11 4 dX11_suitor_40 flX11_99 (by decide) h11.o h11.R4 ?_
        refine V_getR (pc := 43) 0 3 dX11_suitor_43 flX11_125 (by decide) h11.O4.o h11.O4.R3 ?_
        refine V_callV (pc := 46) (ci := 2) (c_X2_clear h11.O4.O3 hR.2.2.1) dX11_suitor_46 mlX11_129 mkX2_clear rfl rfl h11.O4.O3.o ⟨by decide, rfl⟩ ⟨Nat.le_of_ble_eq_true rfl, Nat.le_of_ble_eq_true rfl⟩ (Nat.le_of_ble_eq_true rfl) ⟨Nat.le_of_ble_eq_true rfl, Nat.le_of_ble_eq_true rfl⟩ (fun r S' I' L' hp => ?_)
        obtain ⟨rfl, rfl, rfl, hh, hf⟩ := hp
        have hR1 := hR.un hh hf
        have hv1 : VgM I' (B + 36) (aq A) := hR1.1
        have hF := FrC.rf (L := L) |>.h hf
        refine V_aload_n (pc := 49) dX11_suitor_49 rfl ?_
        refine V_getR (pc := 50) 11 0 dX11_suitor_50 flX11_91 (by decide) h11.o h11.R0 ?_
        refine V_getIE (pc := 53) 10 1 dX11_suitor_53 flX11_178 (by decide) h11.O0.o (hv1.2.1) ?_
        refine V_istore_n (pc := 56) (ls' := [(0, _), (1, _), (2, _), (3, _)]) dX11_suitor_56 (by decide) rfl ?_
        refine V_aload_n (pc := 57) dX11_suitor_57 rfl ?_
        refine V_getR (pc := 58) 11 0 dX11_suitor_58 flX11_91 (by decide) h11.o h11.R0 ?_
        refine V_dup (pc := 61) dX11_suitor_61 rfl ?_
        refine V_getIE (pc := 62) 10 1 dX11_suitor_62 flX11_178 (by decide) h11.O0.o (hv1.2.1) ?_
        refine V_iconst (pc := 65) (v := nI 1) dX11_suitor_65 (by decide) ?_
        refine V_iaddN (pc := 66) dX11_suitor_66 ?_
        refine V_putI (pc := 67) 10 1 dX11_suitor_67 flX11_178 (by decide) (by decide) (Or.inl rfl) rfl rfl h11.O0.o ?_
        refine V_aload_n (pc := 70) dX11_suitor_70 rfl ?_
        refine V_getR (pc := 71) 11 0 dX11_suitor_71 flX11_91 (by decide) h11.o h11.R0 ?_
        refine V_getR (pc := 74) 10 2 dX11_suitor_74 flX11_181 (by decide) h11.O0.o h11.O0.R2 ?_
        refine V_iload_n (pc := 77) dX11_suitor_77 rfl ?_
        refine V_iload_n (pc := 78) dX11_suitor_78 rfl ?_
        refine V_iastore (pc := 79) dX11_suitor_79 h11.O0.A2 (by first | decide | omega) (by omega) ?_
        refine V_aload_n (pc := 80) dX11_suitor_80 rfl ?_
        refine V_getR (pc := 81) 11 0 dX11_suitor_81 flX11_91 (by decide) h11.o h11.R0 ?_
        refine V_getR (pc := 84) 10 3 dX11_suitor_84 flX11_184 (by decide) h11.O0.o h11.O0.R3 ?_
        refine V_iload_n (pc := 87) dX11_suitor_87 rfl ?_
        refine V_iload_n (pc := 88) dX11_suitor_88 rfl ?_
        refine V_iastore (pc := 89) dX11_suitor_89 h11.O0.A3 (by first | decide | omega) (by omega) ?_
        refine V_aload_n (pc := 90) dX11_suitor_90 rfl ?_
        refine V_iload_n (pc := 91) dX11_suitor_91 rfl ?_
        refine V_callVd (pc := 92) (ci := 11) (c_X11_grant h11) dX11_suitor_92 mlX11_137 mkX11_grant rfl rfl h11.o ⟨by decide, rfl⟩ ⟨Nat.le_of_ble_eq_true rfl, Nat.le_of_ble_eq_true rfl⟩ (Nat.le_of_ble_eq_true rfl) ⟨Nat.le_of_ble_eq_true rfl, Nat.le_of_ble_eq_true rfl⟩ ?_
        refine V_iret (pc := 95) dX11_suitor_95 rfl (by first | decide | omega) (by first | decide | omega) ?_
        obtain ⟨v1, v2, v3, v4, v5, v6, v7, v8⟩ := hv1
        refine ⟨rfl, rfl, (hR1.tq (q' := setq (setq (setq (aq A) (80 + aq A 1) j) (86 + aq A 1) t) 1 (aq A 1 + 1)) (fun x hx => by rw [up2_row (by omega), up2_row (by omega), up2_row (by omega)]) ⟨?_, ?_, fun s hs => ?_, fun s hs => ?_, ?_, fun k hk => ?_, ?_, ?_⟩ ((setq_n (by omega)).trans ((setq_n (by omega)).trans (setq_n (by omega)))) (Or.inr rfl)).hok, (((hF.up (by omega)).up (by omega)).up (by omega)).up (by omega)⟩
        · exact (v1.cg fun a a1 a2 => by rw [up2_row (by omega), up2_row (by omega), up2_row (by omega)]).ext fun i hi => by rw [setq_n (by omega), setq_n (by omega), setq_n (by omega)]
        · rw [up2_ne (by omega), up2_ne (by omega), up2_self, setq_s]
        · rw [up2_ne (by omega), setq_n (by omega), setq_n (by omega)]
          by_cases z : s = aq A 1
          · rw [z, up2_self, setq_s]
          · rw [up2_nej z, up2_ne (by omega), setq_n (by omega)]; exact v3 s hs
        · rw [setq_n (by omega)]
          by_cases z : s = aq A 1
          · rw [z, up2_self, setq_s]
          · rw [up2_nej z, up2_ne (by omega), up2_ne (by omega), setq_n (by omega), setq_n (by omega)]; exact v4 s hs
        · rw [up2_ne (by omega), up2_ne (by omega), up2_nej (by omega), setq_n (by omega), setq_n (by omega), setq_n (by omega)]; exact v5
        · rw [up2_ne (by omega), up2_ne (by omega), up2_ne (by omega), up2_ne (by omega), up2_ne (by omega), up2_ne (by omega), up2_ne (by omega), up2_ne (by omega), up2_ne (by omega), setq_n (by omega), setq_n (by omega), setq_n (by omega), setq_n (by omega), setq_n (by omega), setq_n (by omega), setq_n (by omega), setq_n (by omega), setq_n (by omega)]; exact v6 k hk
        · rw [up2_ne (by omega), up2_ne (by omega), up2_nej (by omega), setq_n (by omega), setq_n (by omega), setq_n (by omega)]; exact v7
        · rw [up2_ne (by omega), up2_ne (by omega), up2_nej (by omega), setq_n (by omega), setq_n (by omega), setq_n (by omega)]; exact v8
      · skip
        refine V_aload_n (pc := 32) dX11_suitor_32 rfl ?_
        refine V_bipush (pc := 33) (v := (-5)) dX11_suitor_33 (by decide) ?_
        refine V_callVd (pc := 35) (ci := 11) (c_X11_refuse (r := 5) h11 (by decide) (by decide) (by decide)) dX11_suitor_35 mlX11_112 mkX11_refuse rfl rfl h11.o ⟨by decide, rfl⟩ ⟨Nat.le_of_ble_eq_true rfl, Nat.le_of_ble_eq_true rfl⟩ (Nat.le_of_ble_eq_true rfl) ⟨Nat.le_of_ble_eq_true rfl, Nat.le_of_ble_eq_true rfl⟩ ?_
        refine V_iret (pc := 38) dX11_suitor_38 rfl (by first | decide | omega) (by first | decide | omega) ?_
        rw [if_pos (by omega)]
        exact ⟨rfl, rfl, hR.hrf, rfuC_Fr FrC.rf⟩
    · skip
      have hb : ¬ (bnd x 8 = true ∧ bnd y 61 = true) := by
        first
          | exact fun w => by rw [w.1] at c4; exact absurd c4 (by decide)
          | exact fun w => by rw [w.2] at n11; exact absurd n11 (by decide)
      rw [spSuitor, if_neg hb]
      refine V_aload_n (pc := 14) dX11_suitor_14 rfl ?_
      refine V_iconst (pc := 15) (v := (-1)) dX11_suitor_15 (by decide) ?_
      refine V_callVd (pc := 16) (ci := 11) (c_X11_refuse (r := 1) h11 (by decide) (by decide) (by decide)) dX11_suitor_16 mlX11_112 mkX11_refuse rfl rfl h11.o ⟨by decide, rfl⟩ ⟨Nat.le_of_ble_eq_true rfl, Nat.le_of_ble_eq_true rfl⟩ (Nat.le_of_ble_eq_true rfl) ⟨Nat.le_of_ble_eq_true rfl, Nat.le_of_ble_eq_true rfl⟩ ?_
      refine V_iret (pc := 19) dX11_suitor_19 rfl (by first | decide | omega) (by first | decide | omega) ?_
      exact ⟨rfl, rfl, hR.hrf, rfuC_Fr FrC.rf⟩
theorem c_X11_at (h11 : Lay11 E S B) (hR : CR E S B I A) (hA : wfA A) {x y : Int32} : Cc E kX11_at 1 [.ref B, .int x, .int y] S I L B (.int (spAt A x y)) A := by
  have hq := hA.q
  have hns := hq.ns
  have hv := hR.1
  refine C_of (by decide) (Nat.le_of_ble_eq_true rfl) ?_
  by_cases hx : bnd x (aq A 1) = true
  · obtain ⟨b, hb, rfl⟩ := bnd_ex (by omega) hx
    by_cases hy : bnd y 3 = true
    · obtain ⟨j, hj, rfl⟩ := bnd_ex (by omega) hy
      rw [spAt, if_pos ⟨hx, hy⟩, cln_nI (by omega), cln_nI (by omega)]
      have hc : j = 0 ∨ j = 1 ∨ j = 2 := by omega
      rcases hc with rfl | rfl | rfl
      · skip
        refine V_aload_n (pc := 0) dX11_at_0 rfl ?_
        refine V_getR (pc := 1) 11 0 dX11_at_1 flX11_91 (by decide) h11.o h11.R0 ?_
        refine V_iload_n (pc := 4) dX11_at_4 rfl ?_
        refine V_callVd (pc := 5) (ci := 10) (c_X10_hasSuitor h11.O0 hv hq) dX11_at_5 mlX11_187 mkX10_hasSuitor rfl rfl h11.O0.o ⟨by decide, rfl⟩ ⟨Nat.le_of_ble_eq_true rfl, Nat.le_of_ble_eq_true rfl⟩ (Nat.le_of_ble_eq_true rfl) ⟨Nat.le_of_ble_eq_true rfl, Nat.le_of_ble_eq_true rfl⟩ ?_
        refine V_if_neB (pc := 8) (tgt := 13) dX11_at_8 (by decide) (fun c8 => ?_) (fun n8 => absurd n8 (by rw [hx]; decide))
        refine V_iload_n (pc := 13) dX11_at_13 rfl ?_
        refine V_tableIn (pc := 14) (off := 26) (tgt := 40) dX11_at_14 (by decide) (by decide) (by decide) (by decide) ?_
        refine V_aload_n (pc := 40) dX11_at_40 rfl ?_
        refine V_getR (pc := 41) 11 0 dX11_at_41 flX11_91 (by decide) h11.o h11.R0 ?_
        refine V_getR (pc := 44) 10 2 dX11_at_44 flX11_181 (by decide) h11.O0.o h11.O0.R2 ?_
        refine V_iload_n (pc := 47) dX11_at_47 rfl ?_
        refine V_ialoadE (pc := 48) dX11_at_48 h11.O0.A2 (by first | decide | omega) (by omega) (hv.2.2.1 b (by omega)) ?_
        refine V_iret (pc := 49) dX11_at_49 rfl (by first | decide | omega) (by first | decide | omega) ?_
        exact ⟨rfl, rfl, hR, FrC.rf⟩
      · skip
        refine V_aload_n (pc := 0) dX11_at_0 rfl ?_
        refine V_getR (pc := 1) 11 0 dX11_at_1 flX11_91 (by decide) h11.o h11.R0 ?_
        refine V_iload_n (pc := 4) dX11_at_4 rfl ?_
        refine V_callVd (pc := 5) (ci := 10) (c_X10_hasSuitor h11.O0 hv hq) dX11_at_5 mlX11_187 mkX10_hasSuitor rfl rfl h11.O0.o ⟨by decide, rfl⟩ ⟨Nat.le_of_ble_eq_true rfl, Nat.le_of_ble_eq_true rfl⟩ (Nat.le_of_ble_eq_true rfl) ⟨Nat.le_of_ble_eq_true rfl, Nat.le_of_ble_eq_true rfl⟩ ?_
        refine V_if_neB (pc := 8) (tgt := 13) dX11_at_8 (by decide) (fun c8 => ?_) (fun n8 => absurd n8 (by rw [hx]; decide))
        refine V_iload_n (pc := 13) dX11_at_13 rfl ?_
        refine V_tableIn (pc := 14) (off := 36) (tgt := 50) dX11_at_14 (by decide) (by decide) (by decide) (by decide) ?_
        refine V_aload_n (pc := 50) dX11_at_50 rfl ?_
        refine V_getR (pc := 51) 11 0 dX11_at_51 flX11_91 (by decide) h11.o h11.R0 ?_
        refine V_getR (pc := 54) 10 3 dX11_at_54 flX11_184 (by decide) h11.O0.o h11.O0.R3 ?_
        refine V_iload_n (pc := 57) dX11_at_57 rfl ?_
        refine V_ialoadE (pc := 58) dX11_at_58 h11.O0.A3 (by first | decide | omega) (by omega) (hv.2.2.2.1 b (by omega)) ?_
        refine V_iret (pc := 59) dX11_at_59 rfl (by first | decide | omega) (by first | decide | omega) ?_
        exact ⟨rfl, rfl, hR, FrC.rf⟩
      · skip
        refine V_aload_n (pc := 0) dX11_at_0 rfl ?_
        refine V_getR (pc := 1) 11 0 dX11_at_1 flX11_91 (by decide) h11.o h11.R0 ?_
        refine V_iload_n (pc := 4) dX11_at_4 rfl ?_
        refine V_callVd (pc := 5) (ci := 10) (c_X10_hasSuitor h11.O0 hv hq) dX11_at_5 mlX11_187 mkX10_hasSuitor rfl rfl h11.O0.o ⟨by decide, rfl⟩ ⟨Nat.le_of_ble_eq_true rfl, Nat.le_of_ble_eq_true rfl⟩ (Nat.le_of_ble_eq_true rfl) ⟨Nat.le_of_ble_eq_true rfl, Nat.le_of_ble_eq_true rfl⟩ ?_
        refine V_if_neB (pc := 8) (tgt := 13) dX11_at_8 (by decide) (fun c8 => ?_) (fun n8 => absurd n8 (by rw [hx]; decide))
        refine V_iload_n (pc := 13) dX11_at_13 rfl ?_
        refine V_tableIn (pc := 14) (off := 46) (tgt := 60) dX11_at_14 (by decide) (by decide) (by decide) (by decide) ?_
        refine V_aload_n (pc := 60) dX11_at_60 rfl ?_
        refine V_getR (pc := 61) 11 0 dX11_at_61 flX11_91 (by decide) h11.o h11.R0 ?_
        refine V_getR (pc := 64) 10 0 dX11_at_64 flX11_116 (by decide) h11.O0.o h11.O0.R0 ?_
        refine V_iload_n (pc := 67) dX11_at_67 rfl ?_
        refine V_callVd (pc := 68) (ci := 9) (c_X9_boxOf h11.O0.O0 hv.1 hq (by omega)) dX11_at_68 mlX11_190 mkX9_boxOf rfl rfl h11.O0.O0.o ⟨by decide, rfl⟩ ⟨Nat.le_of_ble_eq_true rfl, Nat.le_of_ble_eq_true rfl⟩ (Nat.le_of_ble_eq_true rfl) ⟨Nat.le_of_ble_eq_true rfl, Nat.le_of_ble_eq_true rfl⟩ ?_
        refine V_iret (pc := 71) dX11_at_71 rfl (by first | decide | omega) (by first | decide | omega) ?_
        exact ⟨rfl, rfl, hR, FrC.rf⟩
    · rw [spAt, if_neg (fun z => hy z.2)]
      refine V_aload_n (pc := 0) dX11_at_0 rfl ?_
      refine V_getR (pc := 1) 11 0 dX11_at_1 flX11_91 (by decide) h11.o h11.R0 ?_
      refine V_iload_n (pc := 4) dX11_at_4 rfl ?_
      refine V_callVd (pc := 5) (ci := 10) (c_X10_hasSuitor h11.O0 hv hq) dX11_at_5 mlX11_187 mkX10_hasSuitor rfl rfl h11.O0.o ⟨by decide, rfl⟩ ⟨Nat.le_of_ble_eq_true rfl, Nat.le_of_ble_eq_true rfl⟩ (Nat.le_of_ble_eq_true rfl) ⟨Nat.le_of_ble_eq_true rfl, Nat.le_of_ble_eq_true rfl⟩ ?_
      refine V_if_neB (pc := 8) (tgt := 13) dX11_at_8 (by decide) (fun c8 => ?_) (fun n8 => absurd n8 (by rw [hx]; decide))
      refine V_iload_n (pc := 13) dX11_at_13 rfl ?_
      refine V_tableOut (pc := 14) (tgt := 72) dX11_at_14 (out_of (m := 2) hy (by omega)) (by decide) ?_
      refine V_iconst (pc := 72) (v := (-1)) dX11_at_72 (by decide) ?_
      refine V_iret (pc := 73) dX11_at_73 rfl (by first | decide | omega) (by first | decide | omega) ?_
      exact ⟨rfl, rfl, hR, FrC.rf⟩
  · rw [spAt, if_neg (fun z => hx z.1)]
    refine V_aload_n (pc := 0) dX11_at_0 rfl ?_
    refine V_getR (pc := 1) 11 0 dX11_at_1 flX11_91 (by decide) h11.o h11.R0 ?_
    refine V_iload_n (pc := 4) dX11_at_4 rfl ?_
    refine V_callVd (pc := 5) (ci := 10) (c_X10_hasSuitor h11.O0 hv hq) dX11_at_5 mlX11_187 mkX10_hasSuitor rfl rfl h11.O0.o ⟨by decide, rfl⟩ ⟨Nat.le_of_ble_eq_true rfl, Nat.le_of_ble_eq_true rfl⟩ (Nat.le_of_ble_eq_true rfl) ⟨Nat.le_of_ble_eq_true rfl, Nat.le_of_ble_eq_true rfl⟩ ?_
    refine V_if_neB (pc := 8) (tgt := 13) dX11_at_8 (by decide) (fun c8 => absurd c8 (by exact fun z => hx z)) (fun n8 => ?_)
    refine V_iconst (pc := 11) (v := (-1)) dX11_at_11 (by decide) ?_
    refine V_iret (pc := 12) dX11_at_12 rfl (by first | decide | omega) (by first | decide | omega) ?_
    exact ⟨rfl, rfl, hR, FrC.rf⟩
theorem c_X11_asks (h11 : Lay11 E S B) (hR : CR E S B I A) (hA : wfA A) {x y z : Int32} : Cc E kX11_asks 5 [.ref B, .int x, .int y, .int z] S I L B (.int (spAsks A x y z)) A := by
  have hq := hA.q
  have hnb := hq.nb
  have hns := hq.ns
  have hv := hR.1
  have hl := hR.2.1
  have hlw := hA.law
  refine C_of (by decide) (Nat.le_of_ble_eq_true rfl) ?_
  by_cases hx : bnd x (aq A 0) = true
  · obtain ⟨b, hb, rfl⟩ := bnd_ex (by omega) hx
    by_cases hy : bnd y (aq A 1) = true
    · obtain ⟨s, hs, rfl⟩ := bnd_ex (by omega) hy
      by_cases hz : bnd z 3 = true
      · obtain ⟨j, hj, rfl⟩ := bnd_ex (by omega) hz
        rw [spAsks, if_pos ⟨hx, hy, hz⟩, cln_nI (by omega), cln_nI (by omega), cln_nI (by omega)]
        have hc : j = 0 ∨ j = 1 ∨ j = 2 := by omega
        rcases hc with rfl | rfl | rfl
        · skip
          refine V_aload_n (pc := 0) dX11_asks_0 rfl ?_
          refine V_getR (pc := 1) 11 0 dX11_asks_1 flX11_91 (by decide) h11.o h11.R0 ?_
          refine V_getR (pc := 4) 10 0 dX11_asks_4 flX11_116 (by decide) h11.O0.o h11.O0.R0 ?_
          refine V_iload_n (pc := 7) dX11_asks_7 rfl ?_
          refine V_callVd (pc := 8) (ci := 9) (c_X9_hasBox h11.O0.O0 hv.1 hq) dX11_asks_8 mlX11_140 mkX9_hasBox rfl rfl h11.O0.O0.o ⟨by decide, rfl⟩ ⟨Nat.le_of_ble_eq_true rfl, Nat.le_of_ble_eq_true rfl⟩ (Nat.le_of_ble_eq_true rfl) ⟨Nat.le_of_ble_eq_true rfl, Nat.le_of_ble_eq_true rfl⟩ ?_
          refine V_if_eqB (pc := 11) (tgt := 25) dX11_asks_11 (by decide) (fun c11 => absurd c11 (by rw [hx]; decide)) (fun n11 => ?_)
          refine V_aload_n (pc := 14) dX11_asks_14 rfl ?_
          refine V_getR (pc := 15) 11 0 dX11_asks_15 flX11_91 (by decide) h11.o h11.R0 ?_
          refine V_iload_n (pc := 18) dX11_asks_18 rfl ?_
          refine V_callVd (pc := 19) (ci := 10) (c_X10_hasSuitor h11.O0 hv hq) dX11_asks_19 mlX11_187 mkX10_hasSuitor rfl rfl h11.O0.o ⟨by decide, rfl⟩ ⟨Nat.le_of_ble_eq_true rfl, Nat.le_of_ble_eq_true rfl⟩ (Nat.le_of_ble_eq_true rfl) ⟨Nat.le_of_ble_eq_true rfl, Nat.le_of_ble_eq_true rfl⟩ ?_
          refine V_if_neB (pc := 22) (tgt := 27) dX11_asks_22 (by decide) (fun c22 => ?_) (fun n22 => absurd n22 (by rw [hy]; decide))
          refine V_iload_n (pc := 27) dX11_asks_27 rfl ?_
          refine V_tableIn (pc := 28) (off := 28) (tgt := 56) dX11_asks_28 (by decide) (by decide) (by decide) (by decide) ?_
          refine V_aload_n (pc := 56) dX11_asks_56 rfl ?_
          refine V_getR (pc := 57) 11 0 dX11_asks_57 flX11_91 (by decide) h11.o h11.R0 ?_
          refine V_getR (pc := 60) 10 0 dX11_asks_60 flX11_116 (by decide) h11.O0.o h11.O0.R0 ?_
          refine V_iload_n (pc := 63) dX11_asks_63 rfl ?_
          refine V_aload_n (pc := 64) dX11_asks_64 rfl ?_
          refine V_getR (pc := 65) 11 0 dX11_asks_65 flX11_91 (by decide) h11.o h11.R0 ?_
          refine V_getR (pc := 68) 10 2 dX11_asks_68 flX11_181 (by decide) h11.O0.o h11.O0.R2 ?_
          refine V_iload_n (pc := 71) dX11_asks_71 rfl ?_
          refine V_ialoadE (pc := 72) dX11_asks_72 h11.O0.A2 (by first | decide | omega) (by omega) (hv.2.2.1 s (by omega)) ?_
          refine V_callVd (pc := 73) (ci := 9) (c_X9_barsWith h11.O0.O0 hv.1 hq (by omega) (by omega)) dX11_asks_73 mlX11_193 mkX9_barsWith rfl rfl h11.O0.O0.o ⟨by decide, rfl⟩ ⟨Nat.le_of_ble_eq_true rfl, Nat.le_of_ble_eq_true rfl⟩ (Nat.le_of_ble_eq_true rfl) ⟨Nat.le_of_ble_eq_true rfl, Nat.le_of_ble_eq_true rfl⟩ ?_
          refine V_iret (pc := 76) dX11_asks_76 rfl (by first | decide | omega) (by first | decide | omega) ?_
          exact ⟨rfl, rfl, hR, FrC.rf⟩
        · skip
          refine V_aload_n (pc := 0) dX11_asks_0 rfl ?_
          refine V_getR (pc := 1) 11 0 dX11_asks_1 flX11_91 (by decide) h11.o h11.R0 ?_
          refine V_getR (pc := 4) 10 0 dX11_asks_4 flX11_116 (by decide) h11.O0.o h11.O0.R0 ?_
          refine V_iload_n (pc := 7) dX11_asks_7 rfl ?_
          refine V_callVd (pc := 8) (ci := 9) (c_X9_hasBox h11.O0.O0 hv.1 hq) dX11_asks_8 mlX11_140 mkX9_hasBox rfl rfl h11.O0.O0.o ⟨by decide, rfl⟩ ⟨Nat.le_of_ble_eq_true rfl, Nat.le_of_ble_eq_true rfl⟩ (Nat.le_of_ble_eq_true rfl) ⟨Nat.le_of_ble_eq_true rfl, Nat.le_of_ble_eq_true rfl⟩ ?_
          refine V_if_eqB (pc := 11) (tgt := 25) dX11_asks_11 (by decide) (fun c11 => absurd c11 (by rw [hx]; decide)) (fun n11 => ?_)
          refine V_aload_n (pc := 14) dX11_asks_14 rfl ?_
          refine V_getR (pc := 15) 11 0 dX11_asks_15 flX11_91 (by decide) h11.o h11.R0 ?_
          refine V_iload_n (pc := 18) dX11_asks_18 rfl ?_
          refine V_callVd (pc := 19) (ci := 10) (c_X10_hasSuitor h11.O0 hv hq) dX11_asks_19 mlX11_187 mkX10_hasSuitor rfl rfl h11.O0.o ⟨by decide, rfl⟩ ⟨Nat.le_of_ble_eq_true rfl, Nat.le_of_ble_eq_true rfl⟩ (Nat.le_of_ble_eq_true rfl) ⟨Nat.le_of_ble_eq_true rfl, Nat.le_of_ble_eq_true rfl⟩ ?_
          refine V_if_neB (pc := 22) (tgt := 27) dX11_asks_22 (by decide) (fun c22 => ?_) (fun n22 => absurd n22 (by rw [hy]; decide))
          refine V_iload_n (pc := 27) dX11_asks_27 rfl ?_
          refine V_tableIn (pc := 28) (off := 49) (tgt := 77) dX11_asks_28 (by decide) (by decide) (by decide) (by decide) ?_
          refine V_aload_n (pc := 77) dX11_asks_77 rfl ?_
          refine V_getR (pc := 78) 11 3 dX11_asks_78 flX11_95 (by decide) h11.o h11.R3 ?_
          refine V_aload_n (pc := 81) dX11_asks_81 rfl ?_
          refine V_getR (pc := 82) 11 0 dX11_asks_82 flX11_91 (by decide) h11.o h11.R0 ?_
          refine V_iload_n (pc := 85) dX11_asks_85 rfl ?_
          refine V_iload_n (pc := 86) dX11_asks_86 rfl ?_
          refine V_callV (pc := 87) (ci := 3) (c_X3_liking h11.O3 h11.O0 hv hq hl hlw.1 (fun z z1 z2 => by omega) (by omega) (by omega) (by omega)) dX11_asks_87 mlX11_197 mkX3_liking rfl rfl h11.O3.o ⟨by decide, rfl⟩ ⟨Nat.le_of_ble_eq_true rfl, Nat.le_of_ble_eq_true rfl⟩ (Nat.le_of_ble_eq_true rfl) ⟨Nat.le_of_ble_eq_true rfl, Nat.le_of_ble_eq_true rfl⟩ (fun r S' I' L' hp => ?_)
          obtain ⟨rfl, rfl, rfl, hf⟩ := hp
          refine V_iret (pc := 90) dX11_asks_90 rfl (by first | decide | omega) (by first | decide | omega) ?_
          exact ⟨rfl, rfl, hR.dd (DdC.ofj hf), (DdC.ofj hf).Fr⟩
        · skip
          refine V_aload_n (pc := 0) dX11_asks_0 rfl ?_
          refine V_getR (pc := 1) 11 0 dX11_asks_1 flX11_91 (by decide) h11.o h11.R0 ?_
          refine V_getR (pc := 4) 10 0 dX11_asks_4 flX11_116 (by decide) h11.O0.o h11.O0.R0 ?_
          refine V_iload_n (pc := 7) dX11_asks_7 rfl ?_
          refine V_callVd (pc := 8) (ci := 9) (c_X9_hasBox h11.O0.O0 hv.1 hq) dX11_asks_8 mlX11_140 mkX9_hasBox rfl rfl h11.O0.O0.o ⟨by decide, rfl⟩ ⟨Nat.le_of_ble_eq_true rfl, Nat.le_of_ble_eq_true rfl⟩ (Nat.le_of_ble_eq_true rfl) ⟨Nat.le_of_ble_eq_true rfl, Nat.le_of_ble_eq_true rfl⟩ ?_
          refine V_if_eqB (pc := 11) (tgt := 25) dX11_asks_11 (by decide) (fun c11 => absurd c11 (by rw [hx]; decide)) (fun n11 => ?_)
          refine V_aload_n (pc := 14) dX11_asks_14 rfl ?_
          refine V_getR (pc := 15) 11 0 dX11_asks_15 flX11_91 (by decide) h11.o h11.R0 ?_
          refine V_iload_n (pc := 18) dX11_asks_18 rfl ?_
          refine V_callVd (pc := 19) (ci := 10) (c_X10_hasSuitor h11.O0 hv hq) dX11_asks_19 mlX11_187 mkX10_hasSuitor rfl rfl h11.O0.o ⟨by decide, rfl⟩ ⟨Nat.le_of_ble_eq_true rfl, Nat.le_of_ble_eq_true rfl⟩ (Nat.le_of_ble_eq_true rfl) ⟨Nat.le_of_ble_eq_true rfl, Nat.le_of_ble_eq_true rfl⟩ ?_
          refine V_if_neB (pc := 22) (tgt := 27) dX11_asks_22 (by decide) (fun c22 => ?_) (fun n22 => absurd n22 (by rw [hy]; decide))
          refine V_iload_n (pc := 27) dX11_asks_27 rfl ?_
          refine V_tableIn (pc := 28) (off := 63) (tgt := 91) dX11_asks_28 (by decide) (by decide) (by decide) (by decide) ?_
          refine V_aload_n (pc := 91) dX11_asks_91 rfl ?_
          refine V_getR (pc := 92) 11 3 dX11_asks_92 flX11_95 (by decide) h11.o h11.R3 ?_
          refine V_aload_n (pc := 95) dX11_asks_95 rfl ?_
          refine V_getR (pc := 96) 11 0 dX11_asks_96 flX11_91 (by decide) h11.o h11.R0 ?_
          refine V_iload_n (pc := 99) dX11_asks_99 rfl ?_
          refine V_iload_n (pc := 100) dX11_asks_100 rfl ?_
          refine V_callV (pc := 101) (ci := 3) (c_X3_isBarred h11.O3 h11.O0 hv hq hl hlw.1 hlw.2.2 (fun z z1 z2 => by omega) (by omega) (by omega) (by omega)) dX11_asks_101 mlX11_201 mkX3_isBarred rfl rfl h11.O3.o ⟨by decide, rfl⟩ ⟨Nat.le_of_ble_eq_true rfl, Nat.le_of_ble_eq_true rfl⟩ (Nat.le_of_ble_eq_true rfl) ⟨Nat.le_of_ble_eq_true rfl, Nat.le_of_ble_eq_true rfl⟩ (fun r S' I' L' hp => ?_)
          obtain ⟨rfl, rfl, rfl, hf⟩ := hp
          refine V_if_eqB (pc := 104) (tgt := 111) dX11_asks_104 (by decide) (fun c104 => ?_) (fun n104 => ?_)
          · skip
            refine V_iconst (pc := 111) (v := nI 0) dX11_asks_111 (by decide) ?_
            refine V_iret (pc := 112) dX11_asks_112 rfl (by first | decide | omega) (by first | decide | omega) ?_
            refine ⟨?_, rfl, hR.dd (DdC.ofj hf), (DdC.ofj hf).Fr⟩
            first
              | (rw [show brd (lwf A) (aq A) b s = true from n104]; rfl)
              | (rw [show brd (lwf A) (aq A) b s = false from c104]; rfl)
          · skip
            refine V_iconst (pc := 107) (v := nI 1) dX11_asks_107 (by decide) ?_
            refine V_goto (pc := 108) (tgt := 112) dX11_asks_108 (by decide) ?_
            refine V_iret (pc := 112) dX11_asks_112 rfl (by first | decide | omega) (by first | decide | omega) ?_
            refine ⟨?_, rfl, hR.dd (DdC.ofj hf), (DdC.ofj hf).Fr⟩
            first
              | (rw [show brd (lwf A) (aq A) b s = true from n104]; rfl)
              | (rw [show brd (lwf A) (aq A) b s = false from c104]; rfl)
      · rw [spAsks, if_neg (fun w => hz w.2.2)]
        refine V_aload_n (pc := 0) dX11_asks_0 rfl ?_
        refine V_getR (pc := 1) 11 0 dX11_asks_1 flX11_91 (by decide) h11.o h11.R0 ?_
        refine V_getR (pc := 4) 10 0 dX11_asks_4 flX11_116 (by decide) h11.O0.o h11.O0.R0 ?_
        refine V_iload_n (pc := 7) dX11_asks_7 rfl ?_
        refine V_callVd (pc := 8) (ci := 9) (c_X9_hasBox h11.O0.O0 hv.1 hq) dX11_asks_8 mlX11_140 mkX9_hasBox rfl rfl h11.O0.O0.o ⟨by decide, rfl⟩ ⟨Nat.le_of_ble_eq_true rfl, Nat.le_of_ble_eq_true rfl⟩ (Nat.le_of_ble_eq_true rfl) ⟨Nat.le_of_ble_eq_true rfl, Nat.le_of_ble_eq_true rfl⟩ ?_
        refine V_if_eqB (pc := 11) (tgt := 25) dX11_asks_11 (by decide) (fun c11 => absurd c11 (by rw [hx]; decide)) (fun n11 => ?_)
        refine V_aload_n (pc := 14) dX11_asks_14 rfl ?_
        refine V_getR (pc := 15) 11 0 dX11_asks_15 flX11_91 (by decide) h11.o h11.R0 ?_
        refine V_iload_n (pc := 18) dX11_asks_18 rfl ?_
        refine V_callVd (pc := 19) (ci := 10) (c_X10_hasSuitor h11.O0 hv hq) dX11_asks_19 mlX11_187 mkX10_hasSuitor rfl rfl h11.O0.o ⟨by decide, rfl⟩ ⟨Nat.le_of_ble_eq_true rfl, Nat.le_of_ble_eq_true rfl⟩ (Nat.le_of_ble_eq_true rfl) ⟨Nat.le_of_ble_eq_true rfl, Nat.le_of_ble_eq_true rfl⟩ ?_
        refine V_if_neB (pc := 22) (tgt := 27) dX11_asks_22 (by decide) (fun c22 => ?_) (fun n22 => absurd n22 (by rw [hy]; decide))
        refine V_iload_n (pc := 27) dX11_asks_27 rfl ?_
        refine V_tableOut (pc := 28) (tgt := 113) dX11_asks_28 (out_of (m := 2) hz (by omega)) (by decide) ?_
        refine V_iconst (pc := 113) (v := (-1)) dX11_asks_113 (by decide) ?_
        refine V_iret (pc := 114) dX11_asks_114 rfl (by first | decide | omega) (by first | decide | omega) ?_
        exact ⟨rfl, rfl, hR, FrC.rf⟩
    · rw [spAsks, if_neg (fun w => hy w.2.1)]
      refine V_aload_n (pc := 0) dX11_asks_0 rfl ?_
      refine V_getR (pc := 1) 11 0 dX11_asks_1 flX11_91 (by decide) h11.o h11.R0 ?_
      refine V_getR (pc := 4) 10 0 dX11_asks_4 flX11_116 (by decide) h11.O0.o h11.O0.R0 ?_
      refine V_iload_n (pc := 7) dX11_asks_7 rfl ?_
      refine V_callVd (pc := 8) (ci := 9) (c_X9_hasBox h11.O0.O0 hv.1 hq) dX11_asks_8 mlX11_140 mkX9_hasBox rfl rfl h11.O0.O0.o ⟨by decide, rfl⟩ ⟨Nat.le_of_ble_eq_true rfl, Nat.le_of_ble_eq_true rfl⟩ (Nat.le_of_ble_eq_true rfl) ⟨Nat.le_of_ble_eq_true rfl, Nat.le_of_ble_eq_true rfl⟩ ?_
      refine V_if_eqB (pc := 11) (tgt := 25) dX11_asks_11 (by decide) (fun c11 => absurd c11 (by rw [hx]; decide)) (fun n11 => ?_)
      refine V_aload_n (pc := 14) dX11_asks_14 rfl ?_
      refine V_getR (pc := 15) 11 0 dX11_asks_15 flX11_91 (by decide) h11.o h11.R0 ?_
      refine V_iload_n (pc := 18) dX11_asks_18 rfl ?_
      refine V_callVd (pc := 19) (ci := 10) (c_X10_hasSuitor h11.O0 hv hq) dX11_asks_19 mlX11_187 mkX10_hasSuitor rfl rfl h11.O0.o ⟨by decide, rfl⟩ ⟨Nat.le_of_ble_eq_true rfl, Nat.le_of_ble_eq_true rfl⟩ (Nat.le_of_ble_eq_true rfl) ⟨Nat.le_of_ble_eq_true rfl, Nat.le_of_ble_eq_true rfl⟩ ?_
      refine V_if_neB (pc := 22) (tgt := 27) dX11_asks_22 (by decide) (fun c22 => absurd c22 (by exact fun z => hy z)) (fun n22 => ?_)
      refine V_iconst (pc := 25) (v := (-1)) dX11_asks_25 (by decide) ?_
      refine V_iret (pc := 26) dX11_asks_26 rfl (by first | decide | omega) (by first | decide | omega) ?_
      exact ⟨rfl, rfl, hR, FrC.rf⟩
  · rw [spAsks, if_neg (fun w => hx w.1)]
    refine V_aload_n (pc := 0) dX11_asks_0 rfl ?_
    refine V_getR (pc := 1) 11 0 dX11_asks_1 flX11_91 (by decide) h11.o h11.R0 ?_
    refine V_getR (pc := 4) 10 0 dX11_asks_4 flX11_116 (by decide) h11.O0.o h11.O0.R0 ?_
    refine V_iload_n (pc := 7) dX11_asks_7 rfl ?_
    refine V_callVd (pc := 8) (ci := 9) (c_X9_hasBox h11.O0.O0 hv.1 hq) dX11_asks_8 mlX11_140 mkX9_hasBox rfl rfl h11.O0.O0.o ⟨by decide, rfl⟩ ⟨Nat.le_of_ble_eq_true rfl, Nat.le_of_ble_eq_true rfl⟩ (Nat.le_of_ble_eq_true rfl) ⟨Nat.le_of_ble_eq_true rfl, Nat.le_of_ble_eq_true rfl⟩ ?_
    refine V_if_eqB (pc := 11) (tgt := 25) dX11_asks_11 (by decide) (fun c11 => ?_) (fun n11 => absurd n11 (by exact fun z => hx z))
    refine V_iconst (pc := 25) (v := (-1)) dX11_asks_25 (by decide) ?_
    refine V_iret (pc := 26) dX11_asks_26 rfl (by first | decide | omega) (by first | decide | omega) ?_
    exact ⟨rfl, rfl, hR, FrC.rf⟩
theorem c_X11_rust (h11 : Lay11 E S B) (hR : CR E S B I A) : Cc E kX11_rust 0 [.ref B] S I L B (.int ((ax A).1)) A := by
  refine C_of (by decide) (Nat.le_of_ble_eq_true rfl) ?_
  refine V_aload_n (pc := 0) dX11_rust_0 rfl ?_
  refine V_getIE (pc := 1) 11 11 dX11_rust_1 flX11_41 (by decide) h11.o (hR.2.2.2.2.2.1.1) ?_
  refine V_iret (pc := 4) dX11_rust_4 rfl (by first | decide | omega) (by first | decide | omega) ?_
  exact ⟨rfl, rfl, hR, FrC.rf⟩
theorem c_X11_fault (h11 : Lay11 E S B) (hR : CR E S B I A) : Cc E kX11_fault 0 [.ref B] S I L B (.int ((ax A).2.1)) A := by
  refine C_of (by decide) (Nat.le_of_ble_eq_true rfl) ?_
  refine V_aload_n (pc := 0) dX11_fault_0 rfl ?_
  refine V_getR (pc := 1) 11 8 dX11_fault_1 flX11_87 (by decide) h11.o h11.R8 ?_
  refine V_getIE (pc := 4) 5 13 dX11_fault_4 flX11_245 (by decide) h11.O8.o (hR.2.2.2.2.2.1.2.1) ?_
  refine V_iret (pc := 7) dX11_fault_7 rfl (by first | decide | omega) (by first | decide | omega) ?_
  exact ⟨rfl, rfl, hR, FrC.rf⟩
theorem c_X11_stopped (h11 : Lay11 E S B) (hR : CR E S B I A) : Cc E kX11_stopped 0 [.ref B] S I L B (.int ((ax A).2.2.1)) A := by
  refine C_of (by decide) (Nat.le_of_ble_eq_true rfl) ?_
  refine V_aload_n (pc := 0) dX11_stopped_0 rfl ?_
  refine V_getIE (pc := 1) 11 12 dX11_stopped_1 flX11_44 (by decide) h11.o (hR.2.2.2.2.2.1.2.2.1) ?_
  refine V_iret (pc := 4) dX11_stopped_4 rfl (by first | decide | omega) (by first | decide | omega) ?_
  exact ⟨rfl, rfl, hR, FrC.rf⟩
theorem c_X11_status (h11 : Lay11 E S B) (hR : CR E S B I A) : Cc E kX11_status 0 [.ref B] S I L B (.int ((ax A).2.2.2.1)) A := by
  refine C_of (by decide) (Nat.le_of_ble_eq_true rfl) ?_
  refine V_aload_n (pc := 0) dX11_status_0 rfl ?_
  refine V_getIE (pc := 1) 11 13 dX11_status_1 flX11_47 (by decide) h11.o (hR.2.2.2.2.2.1.2.2.2.1) ?_
  refine V_iret (pc := 4) dX11_status_4 rfl (by first | decide | omega) (by first | decide | omega) ?_
  exact ⟨rfl, rfl, hR, FrC.rf⟩
theorem c_X11_which (h11 : Lay11 E S B) (hR : CR E S B I A) (hA : wfA A) : Cc E kX11_which 3 [.ref B] S I L B (.int (nI (whc (aq A)))) A := by
  refine C_of (by decide) (Nat.le_of_ble_eq_true rfl) ?_
  refine V_aload_n (pc := 0) dX11_which_0 rfl ?_
  refine V_getR (pc := 1) 11 0 dX11_which_1 flX11_91 (by decide) h11.o h11.R0 ?_
  refine V_callVd (pc := 4) (ci := 10) (c_X10_boxesHeard h11.O0 hR.1 hA.q) dX11_which_4 mlX11_287 mkX10_boxesHeard rfl rfl h11.O0.o ⟨by decide, rfl⟩ ⟨Nat.le_of_ble_eq_true rfl, Nat.le_of_ble_eq_true rfl⟩ (Nat.le_of_ble_eq_true rfl) ⟨Nat.le_of_ble_eq_true rfl, Nat.le_of_ble_eq_true rfl⟩ ?_
  refine V_iret (pc := 7) dX11_which_7 rfl (by first | decide | omega) (by first | decide | omega) ?_
  exact ⟨rfl, rfl, hR, FrC.rf⟩
theorem VgM.uh {g n : Nat} {q : Nat → Nat} (h : VgM I g q) : VgM (up2 I g 4 (nI n)) g (setq q 2 n) := by
  obtain ⟨v1, v2, v3, v4, v5, v6, v7, v8⟩ := h
  refine ⟨(v1.cg fun a a1 a2 => up2_row (by omega)).ext fun i hi => setq_n (by omega), by rw [up2_nej (by omega), setq_n (by omega)]; exact v2, fun s hs => by rw [up2_ne (by omega), setq_n (by omega)]; exact v3 s hs, fun s hs => by rw [up2_ne (by omega), setq_n (by omega)]; exact v4 s hs, by rw [up2_self, setq_s], fun k hk => ?_, by rw [up2_nej (by omega), setq_n (by omega)]; exact v7, by rw [up2_nej (by omega), setq_n (by omega)]; exact v8⟩
  rw [up2_ne (by omega), up2_ne (by omega), up2_ne (by omega), setq_n (by omega), setq_n (by omega), setq_n (by omega)]; exact v6 k hk
theorem VgM.uf {g n : Nat} {q : Nat → Nat} (h : VgM I g q) : VgM (up2 I g 11 (pred1 n)) g (setq q 4 n) := by
  obtain ⟨v1, v2, v3, v4, v5, v6, v7, v8⟩ := h
  refine ⟨(v1.cg fun a a1 a2 => up2_row (by omega)).ext fun i hi => setq_n (by omega), by rw [up2_nej (by omega), setq_n (by omega)]; exact v2, fun s hs => by rw [up2_ne (by omega), setq_n (by omega)]; exact v3 s hs, fun s hs => by rw [up2_ne (by omega), setq_n (by omega)]; exact v4 s hs, by rw [up2_nej (by omega), setq_n (by omega)]; exact v5, fun k hk => ?_, by rw [up2_nej (by omega), setq_n (by omega)]; exact v7, by rw [up2_self, setq_s]⟩
  rw [up2_ne (by omega), up2_ne (by omega), up2_ne (by omega), setq_n (by omega), setq_n (by omega), setq_n (by omega)]; exact v6 k hk
theorem VgM.ue {g n a b d : Nat} {q : Nat → Nat} (h : VgM I g q) (hn : n < 8) : VgM (up2 (up2 (up2 I (g + 10) n (nI a)) (g + 11) n (nI b)) (g + 12) n (nI d)) g (setq (setq (setq q (92 + 3 * n) a) (92 + 3 * n + 1) b) (92 + 3 * n + 2) d) := by
  obtain ⟨v1, v2, v3, v4, v5, v6, v7, v8⟩ := h
  have e : ∀ x, x ≠ g + 10 → x ≠ g + 11 → x ≠ g + 12 → up2 (up2 (up2 I (g + 10) n (nI a)) (g + 11) n (nI b)) (g + 12) n (nI d) x = I x := fun x a1 a2 a3 => by rw [up2_row a3, up2_row a2, up2_row a1]
  have f : ∀ i, i < 92 → setq (setq (setq q (92 + 3 * n) a) (92 + 3 * n + 1) b) (92 + 3 * n + 2) d i = q i := fun i hi => by rw [setq_n (by omega), setq_n (by omega), setq_n (by omega)]
  refine ⟨(v1.cg fun a a1 a2 => e a (by omega) (by omega) (by omega)).ext fun i hi => f i (by omega), by rw [e g (by omega) (by omega) (by omega), f 1 (by omega)]; exact v2, fun s hs => by rw [e _ (by omega) (by omega) (by omega), f _ (by omega)]; exact v3 s hs, fun s hs => by rw [e _ (by omega) (by omega) (by omega), f _ (by omega)]; exact v4 s hs, by rw [e g (by omega) (by omega) (by omega), f 2 (by omega)]; exact v5, fun k hk => ?_, by rw [e g (by omega) (by omega) (by omega), f 3 (by omega)]; exact v7, by rw [e g (by omega) (by omega) (by omega), f 4 (by omega)]; exact v8⟩
  by_cases z : k = n
  · subst z
    rw [up2_ne (by omega), up2_ne (by omega), up2_self, up2_ne (by omega), up2_self, up2_self, setq_n (by omega), setq_n (by omega), setq_s, setq_n (by omega), setq_s, setq_s]
    exact ⟨rfl, rfl, rfl⟩
  · rw [up2_ne (by omega), up2_ne (by omega), up2_nej z, up2_ne (by omega), up2_nej z, up2_ne (by omega), up2_nej z, up2_ne (by omega), up2_ne (by omega), setq_n (by omega), setq_n (by omega), setq_n (by omega), setq_n (by omega), setq_n (by omega), setq_n (by omega), setq_n (by omega), setq_n (by omega), setq_n (by omega)]
    exact v6 k hk
theorem c_X11_forget (h11 : Lay11 E S B) (hR : CR E S B I A) (hA : wfA A) : Cc E kX11_forget 0 [.ref B] S I L B (.int (nI (aq A 2))) (sq A (setq (aq A) 2 0)) := by
  have hv := hR.1
  refine C_of (by decide) (Nat.le_of_ble_eq_true rfl) ?_
  refine V_aload_n (pc := 0) dX11_forget_0 rfl ?_
  refine V_getR (pc := 1) 11 0 dX11_forget_1 flX11_91 (by decide) h11.o h11.R0 ?_
  refine V_getIE (pc := 4) 10 4 dX11_forget_4 flX11_275 (by decide) h11.O0.o (hv.2.2.2.2.1) ?_
  refine V_istore_n (pc := 7) (ls' := [(0, _), (1, _)]) dX11_forget_7 (by decide) rfl ?_
  refine V_aload_n (pc := 8) dX11_forget_8 rfl ?_
  refine V_getR (pc := 9) 11 0 dX11_forget_9 flX11_91 (by decide) h11.o h11.R0 ?_
  refine V_iconst (pc := 12) (v := nI 0) dX11_forget_12 (by decide) ?_
  refine V_putI (pc := 13) 10 4 dX11_forget_13 flX11_275 (by decide) (by decide) (Or.inl rfl) rfl rfl h11.O0.o ?_
  refine V_iload_n (pc := 16) dX11_forget_16 rfl ?_
  refine V_iret (pc := 17) dX11_forget_17 rfl (by first | decide | omega) (by first | decide | omega) ?_
  exact ⟨rfl, rfl, hR.tq (fun x hx => up2_row (by omega)) hv.uh (setq_n (by omega)) (Or.inl (setq_n (by omega))), FrC.rf.up (by omega)⟩
theorem c_X11_force (h11 : Lay11 E S B) (hR : CR E S B I A) (hA : wfA A) {x : Int32} : Cc E kX11_force 1 [.ref B, .int x] S I L B (.int (spForce A x).1) (spForce A x).2 := by
  have hq := hA.q
  have hnl := hq.nl
  have hv := hR.1
  refine C_of (by decide) (Nat.le_of_ble_eq_true rfl) ?_
  refine V_iload_n (pc := 0) dX11_force_0 rfl ?_
  refine V_iconst (pc := 1) (v := (-1)) dX11_force_1 (by decide) ?_
  refine V_icmp_eq (pc := 2) (tgt := 23) dX11_force_2 (by decide) (fun c2 => ?_) (fun n2 => ?_)
  · skip
    have hb : isl x (aq A 3) = true := by
      unfold isl
      first
        | (rw [decide_eq_true c2]; rfl)
        | (rw [c13]; simp)
    have hx := isl_ex (by omega) hb
    rw [spForce, if_pos hb]
    refine V_aload_n (pc := 23) dX11_force_23 rfl ?_
    refine V_getR (pc := 24) 11 0 dX11_force_24 flX11_91 (by decide) h11.o h11.R0 ?_
    refine V_getIE (pc := 27) 10 11 dX11_force_27 flX11_251 (by decide) h11.O0.o (hv.2.2.2.2.2.2.2) ?_
    refine V_istore_n (pc := 30) (ls' := [(0, _), (1, _), (2, _)]) dX11_force_30 (by decide) rfl ?_
    refine V_aload_n (pc := 31) dX11_force_31 rfl ?_
    refine V_getR (pc := 32) 11 0 dX11_force_32 flX11_91 (by decide) h11.o h11.R0 ?_
    refine V_iload_n (pc := 35) dX11_force_35 rfl ?_
    refine V_putI (pc := 36) 10 11 dX11_force_36 flX11_251 (by decide) (by decide) (Or.inl rfl) rfl rfl h11.O0.o ?_
    refine V_aload_n (pc := 39) dX11_force_39 rfl ?_
    refine V_iload_n (pc := 40) dX11_force_40 rfl ?_
    refine V_callVd (pc := 41) (ci := 11) (c_X11_grant h11) dX11_force_41 mlX11_137 mkX11_grant rfl rfl h11.o ⟨by decide, rfl⟩ ⟨Nat.le_of_ble_eq_true rfl, Nat.le_of_ble_eq_true rfl⟩ (Nat.le_of_ble_eq_true rfl) ⟨Nat.le_of_ble_eq_true rfl, Nat.le_of_ble_eq_true rfl⟩ ?_
    refine V_iret (pc := 44) dX11_force_44 rfl (by first | decide | omega) (by first | decide | omega) ?_
    refine ⟨rfl, rfl, (hR.tq (fun x hx => up2_row (by omega)) ?_ (setq_n (by omega)) (Or.inl (setq_n (by omega)))).hok, (FrC.rf.up (by omega)).up (by omega)⟩
    have h1 := hv.uf (n := suc1 x)
    rw [← hx.2] at h1
    exact h1
  · skip
    refine V_aload_n (pc := 5) dX11_force_5 rfl ?_
    refine V_getR (pc := 6) 11 0 dX11_force_6 flX11_91 (by decide) h11.o h11.R0 ?_
    refine V_iload_n (pc := 9) dX11_force_9 rfl ?_
    refine V_callVd (pc := 10) (ci := 10) (c_X10_hasLaw h11.O0 hv hq) dX11_force_10 mlX11_248 mkX10_hasLaw rfl rfl h11.O0.o ⟨by decide, rfl⟩ ⟨Nat.le_of_ble_eq_true rfl, Nat.le_of_ble_eq_true rfl⟩ (Nat.le_of_ble_eq_true rfl) ⟨Nat.le_of_ble_eq_true rfl, Nat.le_of_ble_eq_true rfl⟩ ?_
    refine V_if_neB (pc := 13) (tgt := 23) dX11_force_13 (by decide) (fun c13 => ?_) (fun n13 => ?_)
    · skip
      have hb : isl x (aq A 3) = true := by
        unfold isl
        first
          | (rw [decide_eq_true c2]; rfl)
          | (rw [c13]; simp)
      have hx := isl_ex (by omega) hb
      rw [spForce, if_pos hb]
      refine V_aload_n (pc := 23) dX11_force_23 rfl ?_
      refine V_getR (pc := 24) 11 0 dX11_force_24 flX11_91 (by decide) h11.o h11.R0 ?_
      refine V_getIE (pc := 27) 10 11 dX11_force_27 flX11_251 (by decide) h11.O0.o (hv.2.2.2.2.2.2.2) ?_
      refine V_istore_n (pc := 30) (ls' := [(0, _), (1, _), (2, _)]) dX11_force_30 (by decide) rfl ?_
      refine V_aload_n (pc := 31) dX11_force_31 rfl ?_
      refine V_getR (pc := 32) 11 0 dX11_force_32 flX11_91 (by decide) h11.o h11.R0 ?_
      refine V_iload_n (pc := 35) dX11_force_35 rfl ?_
      refine V_putI (pc := 36) 10 11 dX11_force_36 flX11_251 (by decide) (by decide) (Or.inl rfl) rfl rfl h11.O0.o ?_
      refine V_aload_n (pc := 39) dX11_force_39 rfl ?_
      refine V_iload_n (pc := 40) dX11_force_40 rfl ?_
      refine V_callVd (pc := 41) (ci := 11) (c_X11_grant h11) dX11_force_41 mlX11_137 mkX11_grant rfl rfl h11.o ⟨by decide, rfl⟩ ⟨Nat.le_of_ble_eq_true rfl, Nat.le_of_ble_eq_true rfl⟩ (Nat.le_of_ble_eq_true rfl) ⟨Nat.le_of_ble_eq_true rfl, Nat.le_of_ble_eq_true rfl⟩ ?_
      refine V_iret (pc := 44) dX11_force_44 rfl (by first | decide | omega) (by first | decide | omega) ?_
      refine ⟨rfl, rfl, (hR.tq (fun x hx => up2_row (by omega)) ?_ (setq_n (by omega)) (Or.inl (setq_n (by omega)))).hok, (FrC.rf.up (by omega)).up (by omega)⟩
      have h1 := hv.uf (n := suc1 x)
      rw [← hx.2] at h1
      exact h1
    · skip
      have hb : isl x (aq A 3) = false := by unfold isl; rw [n13, decide_eq_false n2]; rfl
      rw [spForce, if_neg (by rw [hb]; decide)]
      refine V_aload_n (pc := 16) dX11_force_16 rfl ?_
      refine V_bipush (pc := 17) (v := (-2)) dX11_force_17 (by decide) ?_
      refine V_callVd (pc := 19) (ci := 11) (c_X11_refuse (r := 2) h11 (by decide) (by decide) (by decide)) dX11_force_19 mlX11_112 mkX11_refuse rfl rfl h11.o ⟨by decide, rfl⟩ ⟨Nat.le_of_ble_eq_true rfl, Nat.le_of_ble_eq_true rfl⟩ (Nat.le_of_ble_eq_true rfl) ⟨Nat.le_of_ble_eq_true rfl, Nat.le_of_ble_eq_true rfl⟩ ?_
      refine V_iret (pc := 22) dX11_force_22 rfl (by first | decide | omega) (by first | decide | omega) ?_
      exact ⟨rfl, rfl, hR.hrf, rfuC_Fr FrC.rf⟩
theorem c_X11_hear (h11 : Lay11 E S B) (hR : CR E S B I A) (hA : wfA A) {x y z : Int32} : Cc E kX11_hear 1 [.ref B, .int x, .int y, .int z] S I L B (.int (spHear A x y z).1) (spHear A x y z).2 := by
  have hq := hA.q
  have hnh := hq.nh
  have hv := hR.1
  refine C_of (by decide) (Nat.le_of_ble_eq_true rfl) ?_
  refine V_iload_n (pc := 0) dX11_hear_0 rfl ?_
  refine V_callSd (pc := 1) (c_X11_isBar) dX11_hear_1 mlX11_166 mkX11_isBar rfl rfl ⟨Nat.le_of_ble_eq_true rfl, Nat.le_of_ble_eq_true rfl⟩ (Nat.le_of_ble_eq_true rfl) ⟨Nat.le_of_ble_eq_true rfl, Nat.le_of_ble_eq_true rfl⟩ ?_
  refine V_if_eqB (pc := 4) (tgt := 23) dX11_hear_4 (by decide) (fun c4 => ?_) (fun n4 => ?_)
  · skip
    have hb : ¬ (bnd x 8 = true ∧ bnd y 8 = true ∧ bnd z 2 = true) := by
      first
        | exact fun w => by rw [w.1] at c4; exact absurd c4 (by decide)
        | exact fun w => by rw [w.2.1] at c11; exact absurd c11 (by decide)
        | exact fun w => by rw [bnd_lo c15] at w; exact absurd w.2.2 (by decide)
        | exact fun w => by rw [bnd_nle (n := 1) (by omega) n20] at w; exact absurd w.2.2 (by decide)
    rw [spHear, if_neg hb]
    refine V_aload_n (pc := 23) dX11_hear_23 rfl ?_
    refine V_iconst (pc := 24) (v := (-1)) dX11_hear_24 (by decide) ?_
    refine V_callVd (pc := 25) (ci := 11) (c_X11_refuse (r := 1) h11 (by decide) (by decide) (by decide)) dX11_hear_25 mlX11_112 mkX11_refuse rfl rfl h11.o ⟨by decide, rfl⟩ ⟨Nat.le_of_ble_eq_true rfl, Nat.le_of_ble_eq_true rfl⟩ (Nat.le_of_ble_eq_true rfl) ⟨Nat.le_of_ble_eq_true rfl, Nat.le_of_ble_eq_true rfl⟩ ?_
    refine V_iret (pc := 28) dX11_hear_28 rfl (by first | decide | omega) (by first | decide | omega) ?_
    exact ⟨rfl, rfl, hR.hrf, rfuC_Fr FrC.rf⟩
  · skip
    refine V_iload_n (pc := 7) dX11_hear_7 rfl ?_
    refine V_callSd (pc := 8) (c_X11_isTooth) dX11_hear_8 mlX11_172 mkX11_isTooth rfl rfl ⟨Nat.le_of_ble_eq_true rfl, Nat.le_of_ble_eq_true rfl⟩ (Nat.le_of_ble_eq_true rfl) ⟨Nat.le_of_ble_eq_true rfl, Nat.le_of_ble_eq_true rfl⟩ ?_
    refine V_if_eqB (pc := 11) (tgt := 23) dX11_hear_11 (by decide) (fun c11 => ?_) (fun n11 => ?_)
    · skip
      have hb : ¬ (bnd x 8 = true ∧ bnd y 8 = true ∧ bnd z 2 = true) := by
        first
          | exact fun w => by rw [w.1] at c4; exact absurd c4 (by decide)
          | exact fun w => by rw [w.2.1] at c11; exact absurd c11 (by decide)
          | exact fun w => by rw [bnd_lo c15] at w; exact absurd w.2.2 (by decide)
          | exact fun w => by rw [bnd_nle (n := 1) (by omega) n20] at w; exact absurd w.2.2 (by decide)
      rw [spHear, if_neg hb]
      refine V_aload_n (pc := 23) dX11_hear_23 rfl ?_
      refine V_iconst (pc := 24) (v := (-1)) dX11_hear_24 (by decide) ?_
      refine V_callVd (pc := 25) (ci := 11) (c_X11_refuse (r := 1) h11 (by decide) (by decide) (by decide)) dX11_hear_25 mlX11_112 mkX11_refuse rfl rfl h11.o ⟨by decide, rfl⟩ ⟨Nat.le_of_ble_eq_true rfl, Nat.le_of_ble_eq_true rfl⟩ (Nat.le_of_ble_eq_true rfl) ⟨Nat.le_of_ble_eq_true rfl, Nat.le_of_ble_eq_true rfl⟩ ?_
      refine V_iret (pc := 28) dX11_hear_28 rfl (by first | decide | omega) (by first | decide | omega) ?_
      exact ⟨rfl, rfl, hR.hrf, rfuC_Fr FrC.rf⟩
    · skip
      refine V_iload_n (pc := 14) dX11_hear_14 rfl ?_
      refine V_if_lt (pc := 15) (tgt := 23) dX11_hear_15 (by decide) (fun c15 => ?_) (fun n15 => ?_)
      · skip
        have hb : ¬ (bnd x 8 = true ∧ bnd y 8 = true ∧ bnd z 2 = true) := by
          first
            | exact fun w => by rw [w.1] at c4; exact absurd c4 (by decide)
            | exact fun w => by rw [w.2.1] at c11; exact absurd c11 (by decide)
            | exact fun w => by rw [bnd_lo c15] at w; exact absurd w.2.2 (by decide)
            | exact fun w => by rw [bnd_nle (n := 1) (by omega) n20] at w; exact absurd w.2.2 (by decide)
        rw [spHear, if_neg hb]
        refine V_aload_n (pc := 23) dX11_hear_23 rfl ?_
        refine V_iconst (pc := 24) (v := (-1)) dX11_hear_24 (by decide) ?_
        refine V_callVd (pc := 25) (ci := 11) (c_X11_refuse (r := 1) h11 (by decide) (by decide) (by decide)) dX11_hear_25 mlX11_112 mkX11_refuse rfl rfl h11.o ⟨by decide, rfl⟩ ⟨Nat.le_of_ble_eq_true rfl, Nat.le_of_ble_eq_true rfl⟩ (Nat.le_of_ble_eq_true rfl) ⟨Nat.le_of_ble_eq_true rfl, Nat.le_of_ble_eq_true rfl⟩ ?_
        refine V_iret (pc := 28) dX11_hear_28 rfl (by first | decide | omega) (by first | decide | omega) ?_
        exact ⟨rfl, rfl, hR.hrf, rfuC_Fr FrC.rf⟩
      · skip
        refine V_iload_n (pc := 18) dX11_hear_18 rfl ?_
        refine V_iconst (pc := 19) (v := nI 1) dX11_hear_19 (by decide) ?_
        refine V_icmp_le (pc := 20) (tgt := 29) dX11_hear_20 (by decide) (fun c20 => ?_) (fun n20 => ?_)
        · skip
          have hb : bnd z 2 = true := bnd_le (n := 1) (by omega) n15 c20
          obtain ⟨j, hj, hx⟩ := bnd_ex (by omega) n4
          obtain ⟨t, ht, hy⟩ := bnd_ex (by omega) n11
          obtain ⟨u, hu, hz⟩ := bnd_ex (by omega) hb
          rw [spHear, if_pos ⟨n4, n11, hb⟩]
          subst hx hy hz
          rw [cln_nI (by omega), cln_nI (by omega), cln_nI (by omega)]
          refine V_aload_n (pc := 29) dX11_hear_29 rfl ?_
          refine V_getR (pc := 30) 11 0 dX11_hear_30 flX11_91 (by decide) h11.o h11.R0 ?_
          refine V_getIE (pc := 33) 10 4 dX11_hear_33 flX11_275 (by decide) h11.O0.o (hv.2.2.2.2.1) ?_
          refine V_bipush (pc := 36) (v := nI 8) dX11_hear_36 (by decide) ?_
          refine V_icmp_ltN (pc := 38) (tgt := 48) dX11_hear_38 (by decide) (by omega) (by omega) (fun c38 => ?_) (fun n38 => ?_)
          · skip
            rw [if_neg (by omega)]
            refine V_aload_n (pc := 48) dX11_hear_48 rfl ?_
            refine V_getR (pc := 49) 11 0 dX11_hear_49 flX11_91 (by decide) h11.o h11.R0 ?_
            refine V_getR (pc := 52) 10 5 dX11_hear_52 flX11_278 (by decide) h11.O0.o h11.O0.R5 ?_
            refine V_aload_n (pc := 55) dX11_hear_55 rfl ?_
            refine V_getR (pc := 56) 11 0 dX11_hear_56 flX11_91 (by decide) h11.o h11.R0 ?_
            refine V_getIE (pc := 59) 10 4 dX11_hear_59 flX11_275 (by decide) h11.O0.o (hv.2.2.2.2.1) ?_
            refine V_iload_n (pc := 62) dX11_hear_62 rfl ?_
            refine V_iastore (pc := 63) dX11_hear_63 h11.O0.A5 (by first | decide | omega) (by omega) ?_
            refine V_aload_n (pc := 64) dX11_hear_64 rfl ?_
            refine V_getR (pc := 65) 11 0 dX11_hear_65 flX11_91 (by decide) h11.o h11.R0 ?_
            refine V_getR (pc := 68) 10 6 dX11_hear_68 flX11_281 (by decide) h11.O0.o h11.O0.R6 ?_
            refine V_aload_n (pc := 71) dX11_hear_71 rfl ?_
            refine V_getR (pc := 72) 11 0 dX11_hear_72 flX11_91 (by decide) h11.o h11.R0 ?_
            refine V_getIE (pc := 75) 10 4 dX11_hear_75 flX11_275 (by decide) h11.O0.o ((up2_ne (by omega)).trans hv.2.2.2.2.1) ?_
            refine V_iload_n (pc := 78) dX11_hear_78 rfl ?_
            refine V_iastore (pc := 79) dX11_hear_79 h11.O0.A6 (by first | decide | omega) (by omega) ?_
            refine V_aload_n (pc := 80) dX11_hear_80 rfl ?_
            refine V_getR (pc := 81) 11 0 dX11_hear_81 flX11_91 (by decide) h11.o h11.R0 ?_
            refine V_getR (pc := 84) 10 7 dX11_hear_84 flX11_284 (by decide) h11.O0.o h11.O0.R7 ?_
            refine V_aload_n (pc := 87) dX11_hear_87 rfl ?_
            refine V_getR (pc := 88) 11 0 dX11_hear_88 flX11_91 (by decide) h11.o h11.R0 ?_
            refine V_getIE (pc := 91) 10 4 dX11_hear_91 flX11_275 (by decide) h11.O0.o ((up2_ne (by omega)).trans ((up2_ne (by omega)).trans hv.2.2.2.2.1)) ?_
            refine V_iload_n (pc := 94) dX11_hear_94 rfl ?_
            refine V_iastore (pc := 95) dX11_hear_95 h11.O0.A7 (by first | decide | omega) (by omega) ?_
            refine V_aload_n (pc := 96) dX11_hear_96 rfl ?_
            refine V_getR (pc := 97) 11 0 dX11_hear_97 flX11_91 (by decide) h11.o h11.R0 ?_
            refine V_dup (pc := 100) dX11_hear_100 rfl ?_
            refine V_getIE (pc := 101) 10 4 dX11_hear_101 flX11_275 (by decide) h11.O0.o ((up2_ne (by omega)).trans ((up2_ne (by omega)).trans ((up2_ne (by omega)).trans hv.2.2.2.2.1))) ?_
            refine V_iconst (pc := 104) (v := nI 1) dX11_hear_104 (by decide) ?_
            refine V_iaddN (pc := 105) dX11_hear_105 ?_
            refine V_putI (pc := 106) 10 4 dX11_hear_106 flX11_275 (by decide) (by decide) (Or.inl rfl) rfl rfl h11.O0.o ?_
            refine V_aload_n (pc := 109) dX11_hear_109 rfl ?_
            refine V_aload_n (pc := 110) dX11_hear_110 rfl ?_
            refine V_getR (pc := 111) 11 0 dX11_hear_111 flX11_91 (by decide) h11.o h11.R0 ?_
            refine V_getIE (pc := 114) 10 4 dX11_hear_114 flX11_275 (by decide) h11.O0.o (up2_self) ?_
            refine V_callVd (pc := 117) (ci := 11) (c_X11_grant h11) dX11_hear_117 mlX11_137 mkX11_grant rfl rfl h11.o ⟨by decide, rfl⟩ ⟨Nat.le_of_ble_eq_true rfl, Nat.le_of_ble_eq_true rfl⟩ (Nat.le_of_ble_eq_true rfl) ⟨Nat.le_of_ble_eq_true rfl, Nat.le_of_ble_eq_true rfl⟩ ?_
            refine V_iret (pc := 120) dX11_hear_120 rfl (by first | decide | omega) (by first | decide | omega) ?_
            exact ⟨rfl, rfl, (hR.tq (fun x hx => by rw [up2_row (by omega), up2_row (by omega), up2_row (by omega), up2_row (by omega)]) (hv.ue (by omega)).uh (by rw [setq_n (by omega), setq_n (by omega), setq_n (by omega), setq_n (by omega)]) (Or.inl (by rw [setq_n (by omega), setq_n (by omega), setq_n (by omega), setq_n (by omega)]))).hok, ((((FrC.rf.up (by omega)).up (by omega)).up (by omega)).up (by omega)).up (by omega)⟩
          · skip
            refine V_aload_n (pc := 41) dX11_hear_41 rfl ?_
            refine V_bipush (pc := 42) (v := (-5)) dX11_hear_42 (by decide) ?_
            refine V_callVd (pc := 44) (ci := 11) (c_X11_refuse (r := 5) h11 (by decide) (by decide) (by decide)) dX11_hear_44 mlX11_112 mkX11_refuse rfl rfl h11.o ⟨by decide, rfl⟩ ⟨Nat.le_of_ble_eq_true rfl, Nat.le_of_ble_eq_true rfl⟩ (Nat.le_of_ble_eq_true rfl) ⟨Nat.le_of_ble_eq_true rfl, Nat.le_of_ble_eq_true rfl⟩ ?_
            refine V_iret (pc := 47) dX11_hear_47 rfl (by first | decide | omega) (by first | decide | omega) ?_
            rw [if_pos (by omega)]
            exact ⟨rfl, rfl, hR.hrf, rfuC_Fr FrC.rf⟩
        · skip
          have hb : ¬ (bnd x 8 = true ∧ bnd y 8 = true ∧ bnd z 2 = true) := by
            first
              | exact fun w => by rw [w.1] at c4; exact absurd c4 (by decide)
              | exact fun w => by rw [w.2.1] at c11; exact absurd c11 (by decide)
              | exact fun w => by rw [bnd_lo c15] at w; exact absurd w.2.2 (by decide)
              | exact fun w => by rw [bnd_nle (n := 1) (by omega) n20] at w; exact absurd w.2.2 (by decide)
          rw [spHear, if_neg hb]
          refine V_aload_n (pc := 23) dX11_hear_23 rfl ?_
          refine V_iconst (pc := 24) (v := (-1)) dX11_hear_24 (by decide) ?_
          refine V_callVd (pc := 25) (ci := 11) (c_X11_refuse (r := 1) h11 (by decide) (by decide) (by decide)) dX11_hear_25 mlX11_112 mkX11_refuse rfl rfl h11.o ⟨by decide, rfl⟩ ⟨Nat.le_of_ble_eq_true rfl, Nat.le_of_ble_eq_true rfl⟩ (Nat.le_of_ble_eq_true rfl) ⟨Nat.le_of_ble_eq_true rfl, Nat.le_of_ble_eq_true rfl⟩ ?_
          refine V_iret (pc := 28) dX11_hear_28 rfl (by first | decide | omega) (by first | decide | omega) ?_
          exact ⟨rfl, rfl, hR.hrf, rfuC_Fr FrC.rf⟩
theorem c_X11_end (h11 : Lay11 E S B) (hR : CR E S B I A) (hA : wfA A) {x : Int32} : Cc E kX11_end 0 [.ref B, .int x] S I L B (.int (spEnd A x).1) (spEnd A x).2 := by
  have ht : (atp A).1 ≤ 400 := hA.2.2.2.2.2.1
  obtain ⟨t1, t2⟩ := hR.2.2.2.2.1
  refine C_of (by decide) (Nat.le_of_ble_eq_true rfl) ?_
  refine V_iload_n (pc := 0) dX11_end_0 rfl ?_
  refine V_if_lt (pc := 1) (tgt := 12) dX11_end_1 (by decide) (fun c1 => ?_) (fun n1 => ?_)
  · skip
    have hb : bnd x ((atp A).1 + 1) = false := by first | exact bnd_lo c1 | exact bnd_nle (by omega) n9
    rw [spEnd, if_neg (by rw [hb]; decide)]
    refine V_iconst (pc := 12) (v := (-1)) dX11_end_12 (by decide) ?_
    refine V_iret (pc := 13) dX11_end_13 rfl (by first | decide | omega) (by first | decide | omega) ?_
    exact ⟨rfl, rfl, hR, FrC.rf⟩
  · skip
    refine V_iload_n (pc := 4) dX11_end_4 rfl ?_
    refine V_aload_n (pc := 5) dX11_end_5 rfl ?_
    refine V_getIE (pc := 6) 11 10 dX11_end_6 flX11_37 (by decide) h11.o (t1) ?_
    refine V_icmp_le (pc := 9) (tgt := 14) dX11_end_9 (by decide) (fun c9 => ?_) (fun n9 => ?_)
    · skip
      have hb : bnd x ((atp A).1 + 1) = true := bnd_le (by omega) n1 c9
      obtain ⟨j, hj, hx⟩ := bnd_ex (by omega) hb
      rw [spEnd, if_pos hb]
      subst hx
      rw [cln_nI (by omega)]
      refine V_aload_n (pc := 14) dX11_end_14 rfl ?_
      refine V_iload_n (pc := 15) dX11_end_15 rfl ?_
      refine V_putI (pc := 16) 11 10 dX11_end_16 flX11_37 (by decide) (by decide) (Or.inl rfl) rfl rfl h11.o ?_
      refine V_iload_n (pc := 19) dX11_end_19 rfl ?_
      refine V_iret (pc := 20) dX11_end_20 rfl (by first | decide | omega) (by first | decide | omega) ?_
      refine ⟨rfl, rfl, hR.tt (fun a h1 h2 => up2_row h1) (fun i hi hj => up2_nej (by omega)) ⟨up2_self, fun i hi => ?_⟩, FrC.rf.up (by omega)⟩
      rw [up2_ne (by omega)]
      exact t2 i (by have hi' : i < j := hi; omega)
    · skip
      have hb : bnd x ((atp A).1 + 1) = false := by first | exact bnd_lo c1 | exact bnd_nle (by omega) n9
      rw [spEnd, if_neg (by rw [hb]; decide)]
      refine V_iconst (pc := 12) (v := (-1)) dX11_end_12 (by decide) ?_
      refine V_iret (pc := 13) dX11_end_13 rfl (by first | decide | omega) (by first | decide | omega) ?_
      exact ⟨rfl, rfl, hR, FrC.rf⟩
end CK
