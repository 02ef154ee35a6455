/-! THE REFERENCE runs a clause, III -/
section RE
variable {E : EnT} {S : ST} {I : IT} {L : LT} {o : Nat} {c : CT} {x : OC} {s : RT} {j : Nat}
theorem c_X12_run (h12 : Lay12 E S o) (hA : wfA s.1) (hj : j < 12) (hM : MR o I L s.1) (h55 : I o 55 = nI s.2.1) (h56 : I o 56 = pred1 s.2.2) (hd : s.2.1 ≤ 100000) (hlt : s.2.2 ≤ 1001) (hC : CdR I o c) (hO : OM1 (I (o + 34)) c j x) : C E kX12_run 10 0 0 [.ref o, .int (nI (10 * j))] S I L (RnP o I L S x s) := by
  have hq := hA.q
  have hye := hq.ye
  have hcp := cpl_le (aq s.1)
  have hnb := hq.nb
  have hwo : wok (wdR s) := wdO_ok hq (by omega) hlt
  have hO0 := hO
  obtain ⟨o1, o2, _, _, _, t1, t2, b1, b2, b3, b4, b5, b6⟩ := hO
  have hcn := hC.2.2
  refine C_of (by decide) (Nat.le_of_ble_eq_true rfl) ?_
  refine V_aload_n (pc := 0) dX12_run_0 rfl ?_
  refine V_getR (pc := 1) 12 36 dX12_run_1 flX12_104 (by decide) h12.o h12.R36 ?_
  refine V_iconst (pc := 4) (v := nI 1) dX12_run_4 (by decide) ?_
  refine V_aload_n (pc := 5) dX12_run_5 rfl ?_
  refine V_getR (pc := 6) 12 3 dX12_run_6 flX12_13 (by decide) h12.o h12.R3 ?_
  refine V_iconst (pc := 9) (v := nI 5) dX12_run_9 (by decide) ?_
  refine V_ialoadE (pc := 10) dX12_run_10 h12.A3 (by first | decide | omega) (by omega) (hM.row.n (by omega)) ?_
  refine V_i2lN (pc := 11) dX12_run_11 (by omega) ?_
  refine V_lastore (pc := 12) dX12_run_12 h12.A36 (by first | decide | omega) (by omega) ?_
  refine V_aload_n (pc := 13) dX12_run_13 rfl ?_
  refine V_getR (pc := 14) 12 36 dX12_run_14 flX12_104 (by decide) h12.o h12.R36 ?_
  refine V_iconst (pc := 17) (v := nI 2) dX12_run_17 (by decide) ?_
  refine V_aload_n (pc := 18) dX12_run_18 rfl ?_
  refine V_getIE (pc := 19) 12 55 dX12_run_19 flX12_542 (by decide) h12.o (h55) ?_
  refine V_i2lN (pc := 22) dX12_run_22 (by omega) ?_
  refine V_lastore (pc := 23) dX12_run_23 h12.A36 (by first | decide | omega) (by omega) ?_
  refine V_aload_n (pc := 24) dX12_run_24 rfl ?_
  refine V_getR (pc := 25) 12 36 dX12_run_25 flX12_104 (by decide) h12.o h12.R36 ?_
  refine V_iconst (pc := 28) (v := nI 3) dX12_run_28 (by decide) ?_
  refine V_aload_n (pc := 29) dX12_run_29 rfl ?_
  refine V_getIE (pc := 30) 12 56 dX12_run_30 flX12_545 (by decide) h12.o (h56) ?_
  refine V_i2l (pc := 33) dX12_run_33 rfl ?_
  rw [pred1_l (by omega)]
  refine V_lastore (pc := 34) dX12_run_34 h12.A36 (by first | decide | omega) (by omega) ?_
  refine V_aload_n (pc := 35) dX12_run_35 rfl ?_
  refine V_getR (pc := 36) 12 36 dX12_run_36 flX12_104 (by decide) h12.o h12.R36 ?_
  refine V_iconst (pc := 39) (v := nI 4) dX12_run_39 (by decide) ?_
  refine V_aload_n (pc := 40) dX12_run_40 rfl ?_
  refine V_callVd (pc := 41) (ci := 12) (c_X12_couples h12 hM.row hq) dX12_run_41 mlX12_548 mkX12_couples rfl rfl h12.o ⟨by decide, rfl⟩ ⟨Nat.le_of_ble_eq_true rfl, Nat.le_of_ble_eq_true rfl⟩ (Nat.le_of_ble_eq_true rfl) ⟨Nat.le_of_ble_eq_true rfl, Nat.le_of_ble_eq_true rfl⟩ ?_
  refine V_i2lN (pc := 44) dX12_run_44 (by omega) ?_
  refine V_lastore (pc := 45) dX12_run_45 h12.A36 (by first | decide | omega) (by omega) ?_
  refine V_aload_n (pc := 46) dX12_run_46 rfl ?_
  refine V_iconst (pc := 47) (v := nI 0) dX12_run_47 (by decide) ?_
  refine V_putI (pc := 48) 12 58 dX12_run_48 flX12_539 (by decide) (by decide) (Or.inl rfl) rfl rfl h12.o ?_
  skip
  generalize hL1 : up2 (up2 (up2 (up2 L (o + 19) 1 (lN (aq s.1 5))) (o + 19) 2 (lN s.2.1)) (o + 19) 3 (i64 ((s.2.2 : Int) - 1))) (o + 19) 4 (lN (cpl (aq s.1))) = L1
  have hN : NwR L1 o (wdR s) := by
    intro k h1 h2
    rw [← hL1]
    rcases (show k = 1 ∨ k = 2 ∨ k = 3 ∨ k = 4 by omega) with e | e | e | e
    · subst e; rw [up2_nej (by omega), up2_nej (by omega), up2_nej (by omega), up2_self, i64_lN]; rfl
    · subst e; rw [up2_nej (by omega), up2_nej (by omega), up2_self, i64_lN]; rfl
    · subst e; rw [up2_nej (by omega), up2_self]; rfl
    · subst e; rw [up2_self, i64_lN]; rfl
  have hLf : ∀ a, a ≠ o + 19 → L1 a = L a := fun a ha => by rw [← hL1, up2_row ha, up2_row ha, up2_row ha, up2_row ha]
  have hM1 : MR o (up2 I o 58 (nI 0)) L1 s.1 := hM.dead ⟨fun a ha => up2_row (by simp at ha; omega), fun i hi => up2_nej (by simp at hi; omega), fun a ha => hLf a (by simp at ha; omega)⟩
  have hF1 : FrO o (up2 I o 58 (nI 0)) I L1 L := ⟨fun a ha => ⟨up2_row (by omega), hLf a (by omega)⟩, fun a ha => up2_row (by omega), fun i hi => up2_nej (by omega), fun i _ => up2_ne (by omega)⟩
  have e34 : up2 I o 58 (nI 0) (o + 34) = I (o + 34) := up2_row (by omega)
  have hC1 : CdR (up2 I o 58 (nI 0)) o c := hC.cg (up2_row (by omega)) (up2_row (by omega))
  have e58 : up2 I o 58 (nI 0) o 58 = b2i false := up2_self
  have e55 : up2 I o 58 (nI 0) o 55 = nI s.2.1 := (up2_nej (by omega)).trans h55
  have e56 : up2 I o 58 (nI 0) o 56 = pred1 s.2.2 := (up2_nej (by omega)).trans h56
  generalize up2 I o 58 (nI 0) = I1 at hM1 hF1 e34 hC1 e58 e55 e56 ⊢
  by_cases hse : t1 < t2
  · obtain ⟨⟨m, m1, m2⟩, hTF⟩ := b5 hse
    have hsu : SU (I1 (o + 34)) c (10 * j + 7) x.2.2.2 := ⟨t1, t2, m, by rw [e34]; exact b3, by rw [e34]; exact b4, hse, b2, m1, m2⟩
    refine V_aload_n (pc := 51) dX12_run_51 rfl ?_
    refine V_getR (pc := 52) 12 54 dX12_run_52 flX12_163 (by decide) h12.o h12.R54 ?_
    refine V_iload_n (pc := 55) dX12_run_55 rfl ?_
    refine V_bipush (pc := 56) (v := nI 7) dX12_run_56 (by decide) ?_
    refine V_iaddN (pc := 58) dX12_run_58 ?_
    refine V_ialoadE (pc := 59) dX12_run_59 h12.A54 (by first | decide | omega) (by omega) ((congrFun e34 _).trans b3) ?_
    refine V_aload_n (pc := 60) dX12_run_60 rfl ?_
    refine V_getR (pc := 61) 12 54 dX12_run_61 flX12_163 (by decide) h12.o h12.R54 ?_
    refine V_iload_n (pc := 64) dX12_run_64 rfl ?_
    refine V_bipush (pc := 65) (v := nI 8) dX12_run_65 (by decide) ?_
    refine V_iaddN (pc := 67) dX12_run_67 ?_
    refine V_ialoadE (pc := 68) dX12_run_68 h12.A54 (by first | decide | omega) (by omega) ((congrFun e34 _).trans b4) ?_
    refine V_icmp_geN (pc := 69) (tgt := 94) dX12_run_69 (by decide) (by omega) (by omega) (fun c69 => absurd c69 (by omega)) (fun n69 => ?_)
    refine V_aload_n (pc := 72) dX12_run_72 rfl ?_
    refine V_iload_n (pc := 73) dX12_run_73 rfl ?_
    refine V_bipush (pc := 74) (v := nI 7) dX12_run_74 (by decide) ?_
    refine V_iaddN (pc := 76) dX12_run_76 ?_
    refine V_callV (pc := 77) (ci := 12) (c_X12_sumOf h12 hM1 hq (by omega) hC1 hwo hN (fun a ha => wdO_l ha) (fun a ha => wdO_n ha) e58 hsu) dX12_run_77 mlX12_551 mkX12_sumOf rfl rfl h12.o ⟨by decide, rfl⟩ ⟨Nat.le_of_ble_eq_true rfl, Nat.le_of_ble_eq_true rfl⟩ (Nat.le_of_ble_eq_true rfl) ⟨Nat.le_of_ble_eq_true rfl, Nat.le_of_ble_eq_true rfl⟩ (fun r S' I' L' hp => ?_)
    obtain ⟨v, rfl, rfl, f1, e1, g1⟩ := hp
    skip
    have fin0 : x.2.2.2 (wdR s) ≠ some 1 → RnP o I L S x s (some (.int (nI 0))) S I' L' := fun h0 => ⟨rfl, f1.o.tr hF1, (fun z => by rw [rn1_f h0] at z; cases z), fun s' hs => by
      rw [rn1_f h0] at hs
      cases hs
      exact ⟨rfl, f1.mr hM1, (f1.2.1 55 (by omega) (by omega)).trans e55, (f1.2.1 56 (by omega) (by omega)).trans e56⟩⟩
    rcases hT : x.2.2.2 (wdR s) with _ | tv
    · rw [hT] at e1
      refine V_istore_n (pc := 80) (ls' := [(0, _), (1, _), (2, _)]) dX12_run_80 (by decide) rfl ?_
      refine V_aload_n (pc := 81) dX12_run_81 rfl ?_
      refine V_getIE (pc := 82) 12 58 dX12_run_82 flX12_539 (by decide) h12.o (e1) ?_
      refine V_if_neB (pc := 85) (tgt := 92) dX12_run_85 (by decide) (fun c85 => ?_) (fun n85 => absurd n85 (by decide))
      refine V_iconst (pc := 92) (v := nI 0) dX12_run_92 (by decide) ?_
      refine V_iret (pc := 93) dX12_run_93 rfl (by first | decide | omega) (by first | decide | omega) ?_
      exact fin0 (by rw [hT]; simp)
    · rw [hT] at e1
      have hv := g1 tv hT
      rcases hTF _ hwo tv hT with e | e
      · subst e
        rw [show v = nI 0 from hv]
        refine V_istore_n (pc := 80) (ls' := [(0, _), (1, _), (2, _)]) dX12_run_80 (by decide) rfl ?_
        refine V_aload_n (pc := 81) dX12_run_81 rfl ?_
        refine V_getIE (pc := 82) 12 58 dX12_run_82 flX12_539 (by decide) h12.o (e1) ?_
        refine V_if_neB (pc := 85) (tgt := 92) dX12_run_85 (by decide) (fun c85 => absurd c85 (by decide)) (fun n85 => ?_)
        refine V_iload_n (pc := 88) dX12_run_88 rfl ?_
        refine V_if_neN (pc := 89) (tgt := 94) dX12_run_89 (by decide) (by omega) (fun c89 => absurd c89 (by omega)) (fun n89 => ?_)
        refine V_iconst (pc := 92) (v := nI 0) dX12_run_92 (by decide) ?_
        refine V_iret (pc := 93) dX12_run_93 rfl (by first | decide | omega) (by first | decide | omega) ?_
        exact fin0 (by rw [hT]; simp)
      · subst e
        rw [show v = nI 1 from hv]
        refine V_istore_n (pc := 80) (ls' := [(0, _), (1, _), (2, _)]) dX12_run_80 (by decide) rfl ?_
        refine V_aload_n (pc := 81) dX12_run_81 rfl ?_
        refine V_getIE (pc := 82) 12 58 dX12_run_82 flX12_539 (by decide) h12.o (e1) ?_
        refine V_if_neB (pc := 85) (tgt := 92) dX12_run_85 (by decide) (fun c85 => absurd c85 (by decide)) (fun n85 => ?_)
        refine V_iload_n (pc := 88) dX12_run_88 rfl ?_
        refine V_if_neN (pc := 89) (tgt := 94) dX12_run_89 (by decide) (by omega) (fun c89 => ?_) (fun n89 => absurd n89 (by omega))
        refine V_loc [0, 1] rfl ?_
        exact run94 h12 hA hj (f1.o.tr hF1) (f1.mr hM1) ((f1.2.1 55 (by omega) (by omega)).trans e55) ((f1.2.1 56 (by omega) (by omega)).trans e56) hd (hC1.cg (f1.1 _ (by omega)) (f1.1 _ (by omega))) (by rw [f1.1 (o + 34) (by omega), e34]; exact hO0) (fun k h1 h2 => by rw [f1.2.2 _ (by omega) (by omega)]; exact hN k h1 h2) hwo e1 hT
  · have hT : x.2.2.2 (wdR s) = some 1 := by rw [b6 hse]; rfl
    refine V_aload_n (pc := 51) dX12_run_51 rfl ?_
    refine V_getR (pc := 52) 12 54 dX12_run_52 flX12_163 (by decide) h12.o h12.R54 ?_
    refine V_iload_n (pc := 55) dX12_run_55 rfl ?_
    refine V_bipush (pc := 56) (v := nI 7) dX12_run_56 (by decide) ?_
    refine V_iaddN (pc := 58) dX12_run_58 ?_
    refine V_ialoadE (pc := 59) dX12_run_59 h12.A54 (by first | decide | omega) (by omega) ((congrFun e34 _).trans b3) ?_
    refine V_aload_n (pc := 60) dX12_run_60 rfl ?_
    refine V_getR (pc := 61) 12 54 dX12_run_61 flX12_163 (by decide) h12.o h12.R54 ?_
    refine V_iload_n (pc := 64) dX12_run_64 rfl ?_
    refine V_bipush (pc := 65) (v := nI 8) dX12_run_65 (by decide) ?_
    refine V_iaddN (pc := 67) dX12_run_67 ?_
    refine V_ialoadE (pc := 68) dX12_run_68 h12.A54 (by first | decide | omega) (by omega) ((congrFun e34 _).trans b4) ?_
    refine V_icmp_geN (pc := 69) (tgt := 94) dX12_run_69 (by decide) (by omega) (by omega) (fun c69 => ?_) (fun n69 => absurd n69 (by omega))
    exact run94 h12 hA hj hF1 hM1 e55 e56 hd hC1 (by rw [e34]; exact hO0) hN hwo e58 hT
end RE
