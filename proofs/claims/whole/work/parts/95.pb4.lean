/-! THE CLASS's public methods, IV -/
section CO
variable {E : EnT} {S : ST} {I : IT} {L : LT} {B : Nat} {A : AT}
theorem c_X11_terms (h11 : Lay11 E S B) (hR : CR E S B I A) (hA : wfA A) {x y : Int32} : Cc E kX11_terms 1 [.ref B, .int x, .int y] S I L B (.int (spTerms A x y).1) (spTerms A x y).2 := by
  have hq := hA.q
  refine C_of (by decide) (Nat.le_of_ble_eq_true rfl) ?_
  refine V_iload_n (pc := 0) dX11_terms_0 rfl ?_
  refine V_if_lt (pc := 1) (tgt := 22) dX11_terms_1 (by decide) (fun c1 => ?_) (fun n1 => ?_)
  · skip
    first
      | (rw [spTerms, if_neg (fun w => by rw [bnd_lo c1] at w; exact absurd w.1 (by decide))])
      | (rw [spTerms, if_neg (fun w => by rw [bnd_hi (by omega) c6] at w; exact absurd w.1 (by decide))])
      | (rw [spTerms, if_neg (fun w => by rw [bnd_lo c10] at w; exact absurd w.2 (by decide))])
      | (rw [spTerms, if_neg (fun w => by rw [cln_nI (by omega), ← hmt.1, bnd_nle (by omega) n19] at w; exact absurd w.2 (by decide))])
      | fail
    refine V_aload_n (pc := 22) dX11_terms_22 rfl ?_
    refine V_iconst (pc := 23) (v := (-1)) dX11_terms_23 (by decide) ?_
    refine V_callVd (pc := 24) (ci := 11) (c_X11_refuse (r := 1) h11 (by decide) (by decide) (by decide)) dX11_terms_24 mlX11_112 mkX11_refuse rfl rfl h11.o ⟨by decide, rfl⟩ ⟨Nat.le_of_ble_eq_true rfl, Nat.le_of_ble_eq_true rfl⟩ (Nat.le_of_ble_eq_true rfl) ⟨Nat.le_of_ble_eq_true rfl, Nat.le_of_ble_eq_true rfl⟩ ?_
    refine V_iret (pc := 27) dX11_terms_27 rfl (by first | decide | omega) (by first | decide | omega) ?_
    exact ⟨rfl, rfl, hR.hrf, rfuC_Fr FrC.rf⟩
  · skip
    refine V_iload_n (pc := 4) dX11_terms_4 rfl ?_
    refine V_iconst (pc := 5) (v := nI 3) dX11_terms_5 (by decide) ?_
    refine V_icmp_ge (pc := 6) (tgt := 22) dX11_terms_6 (by decide) (fun c6 => ?_) (fun n6 => ?_)
    · skip
      first
        | (rw [spTerms, if_neg (fun w => by rw [bnd_lo c1] at w; exact absurd w.1 (by decide))])
        | (rw [spTerms, if_neg (fun w => by rw [bnd_hi (by omega) c6] at w; exact absurd w.1 (by decide))])
        | (rw [spTerms, if_neg (fun w => by rw [bnd_lo c10] at w; exact absurd w.2 (by decide))])
        | (rw [spTerms, if_neg (fun w => by rw [cln_nI (by omega), ← hmt.1, bnd_nle (by omega) n19] at w; exact absurd w.2 (by decide))])
        | fail
      refine V_aload_n (pc := 22) dX11_terms_22 rfl ?_
      refine V_iconst (pc := 23) (v := (-1)) dX11_terms_23 (by decide) ?_
      refine V_callVd (pc := 24) (ci := 11) (c_X11_refuse (r := 1) h11 (by decide) (by decide) (by decide)) dX11_terms_24 mlX11_112 mkX11_refuse rfl rfl h11.o ⟨by decide, rfl⟩ ⟨Nat.le_of_ble_eq_true rfl, Nat.le_of_ble_eq_true rfl⟩ (Nat.le_of_ble_eq_true rfl) ⟨Nat.le_of_ble_eq_true rfl, Nat.le_of_ble_eq_true rfl⟩ ?_
      refine V_iret (pc := 27) dX11_terms_27 rfl (by first | decide | omega) (by first | decide | omega) ?_
      exact ⟨rfl, rfl, hR.hrf, rfuC_Fr FrC.rf⟩
    · skip
      have hb1 : bnd x 3 = true := bnd_in (by omega) n1 n6
      obtain ⟨k, hk, hxk⟩ := bnd_ex (by omega) hb1
      subst hxk
      have hmt : mot k + 1 = tmx k ∧ mot k < 1000 := by
        have hc : k = 0 ∨ k = 1 ∨ k = 2 := by omega
        rcases hc with rfl | rfl | rfl <;> decide
      refine V_iload_n (pc := 9) dX11_terms_9 rfl ?_
      refine V_if_lt (pc := 10) (tgt := 22) dX11_terms_10 (by decide) (fun c10 => ?_) (fun n10 => ?_)
      · skip
        first
          | (rw [spTerms, if_neg (fun w => by rw [bnd_lo c1] at w; exact absurd w.1 (by decide))])
          | (rw [spTerms, if_neg (fun w => by rw [bnd_hi (by omega) c6] at w; exact absurd w.1 (by decide))])
          | (rw [spTerms, if_neg (fun w => by rw [bnd_lo c10] at w; exact absurd w.2 (by decide))])
          | (rw [spTerms, if_neg (fun w => by rw [cln_nI (by omega), ← hmt.1, bnd_nle (by omega) n19] at w; exact absurd w.2 (by decide))])
          | fail
        refine V_aload_n (pc := 22) dX11_terms_22 rfl ?_
        refine V_iconst (pc := 23) (v := (-1)) dX11_terms_23 (by decide) ?_
        refine V_callVd (pc := 24) (ci := 11) (c_X11_refuse (r := 1) h11 (by decide) (by decide) (by decide)) dX11_terms_24 mlX11_112 mkX11_refuse rfl rfl h11.o ⟨by decide, rfl⟩ ⟨Nat.le_of_ble_eq_true rfl, Nat.le_of_ble_eq_true rfl⟩ (Nat.le_of_ble_eq_true rfl) ⟨Nat.le_of_ble_eq_true rfl, Nat.le_of_ble_eq_true rfl⟩ ?_
        refine V_iret (pc := 27) dX11_terms_27 rfl (by first | decide | omega) (by first | decide | omega) ?_
        exact ⟨rfl, rfl, hR.hrf, rfuC_Fr FrC.rf⟩
      · skip
        refine V_iload_n (pc := 13) dX11_terms_13 rfl ?_
        refine V_getsM (pc := 14) dX11_terms_14 flX11_205 ?_
        refine V_iload_n (pc := 17) dX11_terms_17 rfl ?_
        refine V_iaT (pc := 18) dX11_terms_18 hk ?_
        refine V_icmp_le (pc := 19) (tgt := 28) dX11_terms_19 (by decide) (fun c19 => ?_) (fun n19 => ?_)
        · skip
          have hb2 : bnd y (tmx k) = true := by rw [← hmt.1]; exact bnd_le (by omega) n10 c19
          obtain ⟨j, hj, hyj⟩ := bnd_ex (by omega) hb2
          rw [spTerms, if_pos ⟨hb1, by rw [cln_nI (by omega)]; exact hb2⟩]
          subst hyj
          rw [cln_nI (by omega), cln_nI (by omega)]
          refine V_aload_n (pc := 28) dX11_terms_28 rfl ?_
          refine V_getR (pc := 29) 11 4 dX11_terms_29 flX11_99 (by decide) h11.o h11.R4 ?_
          refine V_getR (pc := 32) 0 3 dX11_terms_32 flX11_125 (by decide) h11.O4.o h11.O4.R3 ?_
          refine V_callV (pc := 35) (ci := 2) (c_X2_clear h11.O4.O3 hR.2.2.1) dX11_terms_35 mlX11_129 mkX2_clear rfl rfl h11.O4.O3.o ⟨by decide, rfl⟩ ⟨Nat.le_of_ble_eq_true rfl, Nat.le_of_ble_eq_true rfl⟩ (Nat.le_of_ble_eq_true rfl) ⟨Nat.le_of_ble_eq_true rfl, Nat.le_of_ble_eq_true rfl⟩ (fun r S' I' L' hp => ?_)
          obtain ⟨rfl, rfl, rfl, hh, hf⟩ := hp
          have hR1 := hR.un hh hf
          have hv1 : VgM I' (B + 36) (aq A) := hR1.1
          have hF := FrC.rf (L := L) |>.h hf
          refine V_aload_n (pc := 38) dX11_terms_38 rfl ?_
          refine V_getR (pc := 39) 11 0 dX11_terms_39 flX11_91 (by decide) h11.o h11.R0 ?_
          refine V_getR (pc := 42) 10 0 dX11_terms_42 flX11_116 (by decide) h11.O0.o h11.O0.R0 ?_
          refine V_getR (pc := 45) 9 6 dX11_terms_45 flX11_208 (by decide) h11.O0.O0.o h11.O0.O0.R6 ?_
          refine V_iload_n (pc := 48) dX11_terms_48 rfl ?_
          refine V_ialoadE (pc := 49) dX11_terms_49 h11.O0.O0.A6 (by first | decide | omega) (by omega) (hv1.1.2.2.2.2.2.2 k hk) ?_
          refine V_istore_n (pc := 50) (ls' := [(0, _), (1, _), (2, _), (3, _)]) dX11_terms_50 (by decide) rfl ?_
          refine V_aload_n (pc := 51) dX11_terms_51 rfl ?_
          refine V_getR (pc := 52) 11 0 dX11_terms_52 flX11_91 (by decide) h11.o h11.R0 ?_
          refine V_getR (pc := 55) 10 0 dX11_terms_55 flX11_116 (by decide) h11.O0.o h11.O0.R0 ?_
          refine V_getR (pc := 58) 9 6 dX11_terms_58 flX11_208 (by decide) h11.O0.O0.o h11.O0.O0.R6 ?_
          refine V_iload_n (pc := 61) dX11_terms_61 rfl ?_
          refine V_iload_n (pc := 62) dX11_terms_62 rfl ?_
          refine V_iastore (pc := 63) dX11_terms_63 h11.O0.O0.A6 (by first | decide | omega) (by omega) ?_
          refine V_aload_n (pc := 64) dX11_terms_64 rfl ?_
          refine V_iload_n (pc := 65) dX11_terms_65 rfl ?_
          refine V_callVd (pc := 66) (ci := 11) (c_X11_grant h11) dX11_terms_66 mlX11_137 mkX11_grant rfl rfl h11.o ⟨by decide, rfl⟩ ⟨Nat.le_of_ble_eq_true rfl, Nat.le_of_ble_eq_true rfl⟩ (Nat.le_of_ble_eq_true rfl) ⟨Nat.le_of_ble_eq_true rfl, Nat.le_of_ble_eq_true rfl⟩ ?_
          refine V_iret (pc := 69) dX11_terms_69 rfl (by first | decide | omega) (by first | decide | omega) ?_
          have hq1 := hv1.vl (hv1.1.u6 (b := k) (n := j) hk) (fun a a1 a2 => up2_row (by omega)) (fun i hi => setq_n (by omega))
          exact ⟨rfl, rfl, (hR1.tq (fun x hx => up2_row (by omega)) hq1 (setq_n (by omega)) (Or.inr rfl)).hok, (hF.up (by omega)).up (by omega)⟩
        · skip
          first
            | (rw [spTerms, if_neg (fun w => by rw [bnd_lo c1] at w; exact absurd w.1 (by decide))])
            | (rw [spTerms, if_neg (fun w => by rw [bnd_hi (by omega) c6] at w; exact absurd w.1 (by decide))])
            | (rw [spTerms, if_neg (fun w => by rw [bnd_lo c10] at w; exact absurd w.2 (by decide))])
            | (rw [spTerms, if_neg (fun w => by rw [cln_nI (by omega), ← hmt.1, bnd_nle (by omega) n19] at w; exact absurd w.2 (by decide))])
            | fail
          refine V_aload_n (pc := 22) dX11_terms_22 rfl ?_
          refine V_iconst (pc := 23) (v := (-1)) dX11_terms_23 (by decide) ?_
          refine V_callVd (pc := 24) (ci := 11) (c_X11_refuse (r := 1) h11 (by decide) (by decide) (by decide)) dX11_terms_24 mlX11_112 mkX11_refuse rfl rfl h11.o ⟨by decide, rfl⟩ ⟨Nat.le_of_ble_eq_true rfl, Nat.le_of_ble_eq_true rfl⟩ (Nat.le_of_ble_eq_true rfl) ⟨Nat.le_of_ble_eq_true rfl, Nat.le_of_ble_eq_true rfl⟩ ?_
          refine V_iret (pc := 27) dX11_terms_27 rfl (by first | decide | omega) (by first | decide | omega) ?_
          exact ⟨rfl, rfl, hR.hrf, rfuC_Fr FrC.rf⟩
end CO
