/-! THE REFERENCE: law, II -/
theorem lfA_f (w : WT) : lfA false w = lfM w := by
  funext p a
  unfold lfA
  rw [if_neg (by decide)]
theorem LawM_of {f g : Nat → Int32} {lb : Nat} {c : CT} {law : LawT} (hC : CMs g c law) (hG : CG c) (hn : c.2.2 ≤ 400) (h12 : law.1 ≤ 12) (h1 : f (lb + 1) = nI law.1) (h2 : ∀ i, i < 8 * law.1 → f (lb + 2 + i) = g i) (h3 : ∀ k, k < c.2.2 → f (lb + 98 + 2 * k) = nI (c.1 k) ∧ f (lb + 98 + 2 * k + 1) = nI (c.2.1 k)) : LawM f lb law := by
  refine ⟨h12, h1, c.2.2, c.1, c.2.1, hn, fun k hk => ⟨(h3 k hk).1, (hG k hk).1, (hG k hk).2.1, (h3 k hk).2, (hG k hk).2.2⟩, fun j hj => ?_⟩
  obtain ⟨b1, b2, s1, e1, s2, e2, c1, c2, c3, c4, c5, c6, c7, c8, c9, c10, c11, c12⟩ := hC j hj
  have e0 : f (lb + 2 + 8 * j) = g (8 * j) := h2 (8 * j) (by omega)
  have e3 : f (lb + 2 + 8 * j + 3) = g (8 * j + 3) := h2 (8 * j + 3) (by omega)
  have e4 : f (lb + 2 + 8 * j + 4) = g (8 * j + 4) := h2 (8 * j + 4) (by omega)
  have e5 : f (lb + 2 + 8 * j + 5) = g (8 * j + 5) := h2 (8 * j + 5) (by omega)
  have e6 : f (lb + 2 + 8 * j + 6) = g (8 * j + 6) := h2 (8 * j + 6) (by omega)
  refine ⟨b1, e0.trans b2, s1, e1, s2, e2, c1, c2, c3, c4, e3.trans c5, e4.trans c6, e5.trans c7, e6.trans c8, fun w hw => ⟨?_, fun z => ?_, fun z => ?_, fun z => ?_, fun z => ?_⟩⟩
  · by_cases z : s2 < e2
    · have hT := (c11 z).2 w hw
      cases hv : law.2.2.2 j w with
      | none => exact Or.inl rfl
      | some v =>
        rcases hT v hv with e | e
        · subst e; exact Or.inr (Or.inl rfl)
        · subst e; exact Or.inr (Or.inr rfl)
    · rw [c12 z]; exact Or.inr (Or.inr rfl)
  · obtain ⟨⟨m, m1, m2⟩, _⟩ := c11 z
    rw [← lfA_f]
    exact m2.ev (by omega) hw
  · rw [c12 z]; rfl
  · obtain ⟨m, m1, m2⟩ := c9 z
    rw [← lfA_f]
    exact m2.ev (by omega) hw
  · rw [c10 z]; rfl
theorem MR.addlaw {o : Nat} {I I' : IT} {L : LT} {B : AT} {law : LawT} (h : MR o I L B) (hI : ∀ a, a ≠ o + 2 → I' a = I a) (hr : ∀ i, i ≠ 3 → i < 116 + 900 * aq B 3 → I' (o + 2) i = I (o + 2) i) (h3 : I' (o + 2) 3 = nI (aq B 3 + 1)) (hl : LawM (I' (o + 2)) (116 + 900 * aq B 3) law) : MR o I' L (sq (sla B (setf (alw B) (aq B 3) law)) (setq (aq B) 3 (aq B 3 + 1))) := by
  obtain ⟨h1, h2, h3', h4, h5, h6, h7, h8, h9⟩ := h
  have e := hI
  have q0 : setq (aq B) 3 (aq B 3 + 1) 0 = aq B 0 := setq_n (by omega)
  refine ⟨fun i hi hw => ?_, fun l hl2 => ?_, ?_, ?_, ?_, ?_, ?_, (congrFun (e o (by omega)) 20).trans h8, h9⟩
  · show _ = enc (setq (aq B) 3 (aq B 3 + 1)) i
    have hw : 68 ≤ i ∧ i < 74 → i < 68 + aq B 0 := by rw [← q0]; exact hw
    by_cases e3 : i = 3
    · subst e3; unfold enc; rw [if_neg (by omega), setq_s]; exact h3
    · rw [hr i e3 (by omega), h1 i hi hw]; unfold enc; rw [setq_n e3]
  · have hl2 : l < aq B 3 + 1 := by have := hl2; rw [show aq (sq (sla B (setf (alw B) (aq B 3) law)) (setq (aq B) 3 (aq B 3 + 1))) 3 = aq B 3 + 1 from setq_s (aq B) 3 (aq B 3 + 1)] at this; exact this
    show LawM (I' (o + 2)) (116 + 900 * l) (setf (alw B) (aq B 3) law l)
    by_cases e3 : l = aq B 3
    · subst e3; rw [setf_s]; exact hl
    · rw [setf_n e3]
      exact (h2 l (by omega)).cg fun i a1 a2 => hr i (by omega) (by omega)
  · refine ⟨(congrFun (e o (by omega)) 8).trans h3'.1, fun k hk => ?_⟩
    have h5' := h3'.2 k hk
    refine ⟨fun i a1 a2 a3 => ?_, by rw [e (o + 6) (by omega)]; exact h5'.2⟩
    rw [e (o + 5) (by omega)]
    exact h5'.1 i a1 a2 (fun z => by have := a3 z; rw [show aq (sq (sla B (setf (alw B) (aq B 3) law)) (setq (aq B) 3 (aq B 3 + 1))) 0 = aq B 0 from q0] at this; exact this)
  · unfold ImgM at h4 ⊢; rw [e (o + 3) (by omega), e (o + 4) (by omega)]; exact h4
  · unfold TapM at h5 ⊢; rw [e (o + 9) (by omega), e o (by omega)]; exact h5
  · unfold XM at h6 ⊢; rw [e (o + 1) (by omega), e o (by omega)]; exact h6
  · unfold DrM at h7 ⊢; rw [e (o + 35) (by omega), e o (by omega)]; exact h7
section PN
variable {E : EnT} {S : ST} {I : IT} {L : LT} {o : Nat} {A : AT}
theorem c_X12_law (h12 : Lay12 E S o) (hM : MR o I L A) (hA : wfA A) : Cm E kX12_law 8 [.ref o] S I L o (.int (spLaw A).1) (spLaw A).2 := by
  have hq := hA.q
  have hnl := hq.nl
  refine C_of (by decide) (Nat.le_of_ble_eq_true rfl) ?_
  by_cases h6 : aq A 3 = 6
  · rw [spLaw, if_pos h6]
    refine V_aload_n (pc := 0) dX12_law_0 rfl ?_
    refine V_iconst (pc := 1) (v := nI 0) dX12_law_1 (by decide) ?_
    refine V_putI (pc := 2) 12 0 dX12_law_2 flX12_175 (by decide) (by decide) (Or.inl rfl) rfl rfl h12.o ?_
    have hM := hM.thrown (v := nI 0)
    have hF : FrM o (up2 I o 0 (nI 0)) I L L := FrM.rf.up (by omega)
    generalize up2 I o 0 (nI 0) = I0 at hM hF ⊢
    have hr := hM.row
    refine V_aload_n (pc := 5) dX12_law_5 rfl ?_
    refine V_getR (pc := 6) 12 3 dX12_law_6 flX12_13 (by decide) h12.o h12.R3 ?_
    refine V_iconst (pc := 9) (v := nI 3) dX12_law_9 (by decide) ?_
    refine V_ialoadE (pc := 10) dX12_law_10 h12.A3 (by first | decide | omega) (by omega) (hr.n (by omega)) ?_
    refine V_bipush (pc := 11) (v := nI 6) dX12_law_11 (by decide) ?_
    refine V_icmp_neN (pc := 13) (tgt := 28) dX12_law_13 (by decide) (by omega) (by omega) (fun c13 => absurd c13 (by omega)) (fun n13 => ?_)
    refine V_aload_n (pc := 16) dX12_law_16 rfl ?_
    refine V_iconst (pc := 17) (v := nI 0) dX12_law_17 (by decide) ?_
    refine V_putI (pc := 18) 12 13 dX12_law_18 flX12_263 (by decide) (by decide) (Or.inl rfl) rfl rfl h12.o ?_
    refine V_aload_n (pc := 21) dX12_law_21 rfl ?_
    refine V_bipush (pc := 22) (v := (-5)) dX12_law_22 (by decide) ?_
    refine V_callVd (pc := 24) (ci := 12) (c_X12_tellv (r := 5) h12 (by decide) (by decide) (by decide)) dX12_law_24 mlX12_184 mkX12_tell rfl rfl h12.o ⟨by decide, rfl⟩ ⟨Nat.le_of_ble_eq_true rfl, Nat.le_of_ble_eq_true rfl⟩ (Nat.le_of_ble_eq_true rfl) ⟨Nat.le_of_ble_eq_true rfl, Nat.le_of_ble_eq_true rfl⟩ ?_
    refine V_iret (pc := 27) dX12_law_27 rfl (by first | decide | omega) (by first | decide | omega) ?_
    refine ⟨rfl, rfl, ?_, (hF.up (by omega)).hrf⟩
    have h9 := hM.ft (FT.rf.fld (i := 13) (v := nI 0) (by omega)) up2_self ((up2_nej (by omega)).trans hM.od) ((up2_nej (by omega)).trans hM.x.2.1)
    exact h9.hrf
  · rw [spLaw, if_neg h6]
    have hTP : ∀ {I2 : IT} {L2 : LT}, MR o I2 L2 A → TP o (atp A).2 (atp A).1 I2 := fun h => ⟨h.tap.1, h.tap.2, hA.2.2.2.2.2.1, hA.2.2.2.2.2.2.1⟩
    generalize ht : (atp A).2 = t at hTP
    generalize hn : (atp A).1 = n at hTP
    generalize hR : lwR t n = R
    refine V_aload_n (pc := 0) dX12_law_0 rfl ?_
    refine V_iconst (pc := 1) (v := nI 0) dX12_law_1 (by decide) ?_
    refine V_putI (pc := 2) 12 0 dX12_law_2 flX12_175 (by decide) (by decide) (Or.inl rfl) rfl rfl h12.o ?_
    have hM := hM.thrown (v := nI 0)
    have hF : FrM o (up2 I o 0 (nI 0)) I L L := FrM.rf.up (by omega)
    generalize up2 I o 0 (nI 0) = I0 at hM hF ⊢
    have hr := hM.row
    refine V_aload_n (pc := 5) dX12_law_5 rfl ?_
    refine V_getR (pc := 6) 12 3 dX12_law_6 flX12_13 (by decide) h12.o h12.R3 ?_
    refine V_iconst (pc := 9) (v := nI 3) dX12_law_9 (by decide) ?_
    refine V_ialoadE (pc := 10) dX12_law_10 h12.A3 (by first | decide | omega) (by omega) (hr.n (by omega)) ?_
    refine V_bipush (pc := 11) (v := nI 6) dX12_law_11 (by decide) ?_
    refine V_icmp_neN (pc := 13) (tgt := 28) dX12_law_13 (by decide) (by omega) (by omega) (fun c13 => ?_) (fun n13 => absurd n13 (by omega))
    skip
    have hTP0 := hTP hM
    have hn4 : n ≤ 400 := hTP0.2.2.1
    have hE : EndL E (QM E (fun r S' I' L' => r = some (.int ((match R.2 with | none => (-(nI 6), rfs (sfl (tp0 A) (nI R.1)) 6) | some law => (nI (aq A 3), ok0 (sq (sla (sfl (tp0 A) (-1)) (setf (alw A) (aq A 3) law)) (setq (aq A) 3 (aq A 3 + 1)))) : Int32 × AT)).1) ∧ S = S' ∧ MR o I' L' ((match R.2 with | none => (-(nI 6), rfs (sfl (tp0 A) (nI R.1)) 6) | some law => (nI (aq A 3), ok0 (sq (sla (sfl (tp0 A) (-1)) (setf (alw A) (aq A 3) law)) (setq (aq A) 3 (aq A 3 + 1)))) : Int32 × AT)).2 ∧ FrM o I' I L' L) 0 0) S o t n I0 L R := by
      refine ⟨fun hn2 J K b s hFT hP hb => ?_, fun law hl J K l' d' P' c' hFT hP h92 h21 hl12 hCM hc4 hG => ?_⟩
      · rw [hn2]
        refine V_aload_n (pc := 64) dX12_law_64 rfl ?_
        refine V_callV (pc := 65) (ci := 12) (c_X12_endText h12 hP) dX12_law_65 mlX12_418 mkX12_endText rfl rfl h12.o ⟨by decide, rfl⟩ ⟨Nat.le_of_ble_eq_true rfl, Nat.le_of_ble_eq_true rfl⟩ (Nat.le_of_ble_eq_true rfl) ⟨Nat.le_of_ble_eq_true rfl, Nat.le_of_ble_eq_true rfl⟩ (fun r S' I' L' hp => ?_)
        obtain ⟨rfl, rfl, hF2, g13, g20, _, _, _, gA, gB, _⟩ := hp
        have h18 : I' o 18 = nI R.1 ∧ I' o 19 = nI 1 := by
          rcases hb with e | ⟨e, e2, e3⟩
          · exact gB _ e
          · rw [← e2]; exact gA ⟨e, e3⟩
        refine V_aload_n (pc := 68) dX12_law_68 rfl ?_
        refine V_getIE (pc := 69) 12 19 dX12_law_69 flX12_275 (by decide) h12.o (h18.2) ?_
        refine V_if_eqN (pc := 72) (tgt := 82) dX12_law_72 (by decide) (by omega) (fun c72 => absurd c72 (by omega)) (fun n72 => ?_)
        refine V_aload_n (pc := 75) dX12_law_75 rfl ?_
        refine V_bipush (pc := 76) (v := (-6)) dX12_law_76 (by decide) ?_
        refine V_callVd (pc := 78) (ci := 12) (c_X12_tellv (r := 6) h12 (by decide) (by decide) (by decide)) dX12_law_78 mlX12_184 mkX12_tell rfl rfl h12.o ⟨by decide, rfl⟩ ⟨Nat.le_of_ble_eq_true rfl, Nat.le_of_ble_eq_true rfl⟩ (Nat.le_of_ble_eq_true rfl) ⟨Nat.le_of_ble_eq_true rfl, Nat.le_of_ble_eq_true rfl⟩ ?_
        refine V_iret (pc := 81) dX12_law_81 rfl (by first | decide | omega) (by first | decide | omega) ?_
        exact ⟨rfl, rfl, (hM.ft (hF2.tr hFT) g13 g20 h18.1).hrf, ((hF2.tr hFT).fr.tr2 hF).hrf⟩
      · rw [hl]
        refine V_aload_n (pc := 64) dX12_law_64 rfl ?_
        refine V_callV (pc := 65) (ci := 12) (c_X12_endText h12 hP) dX12_law_65 mlX12_418 mkX12_endText rfl rfl h12.o ⟨by decide, rfl⟩ ⟨Nat.le_of_ble_eq_true rfl, Nat.le_of_ble_eq_true rfl⟩ (Nat.le_of_ble_eq_true rfl) ⟨Nat.le_of_ble_eq_true rfl, Nat.le_of_ble_eq_true rfl⟩ (fun r S' I' L' hp => ?_)
        obtain ⟨rfl, rfl, hF2, g13, g20, g21, g10, _, _, _, gC⟩ := hp
        obtain ⟨g18, g19, gcd⟩ := gC ⟨rfl, h92⟩
        have hM2 := hM.ft (hF2.tr hFT) g13 g20 g18
        have hF3 := (hF2.tr hFT).fr.tr2 hF
        refine V_aload_n (pc := 68) dX12_law_68 rfl ?_
        refine V_getIE (pc := 69) 12 19 dX12_law_69 flX12_275 (by decide) h12.o (g19) ?_
        refine V_if_eqN (pc := 72) (tgt := 82) dX12_law_72 (by decide) (by omega) (fun c72 => ?_) (fun n72 => absurd n72 (by omega))
        refine V_bipush (pc := 82) (v := nI 116) dX12_law_82 (by decide) ?_
        refine V_sipush (pc := 84) (v := nI 900) dX12_law_84 (by decide) ?_
        refine V_aload_n (pc := 87) dX12_law_87 rfl ?_
        refine V_getR (pc := 88) 12 3 dX12_law_88 flX12_13 (by decide) h12.o h12.R3 ?_
        refine V_iconst (pc := 91) (v := nI 3) dX12_law_91 (by decide) ?_
        refine V_ialoadE (pc := 92) dX12_law_92 h12.A3 (by first | decide | omega) (by omega) (hM2.row.n (q := aq A) (by omega)) ?_
        refine V_imulN (pc := 93) dX12_law_93 ?_
        refine V_iaddN (pc := 94) dX12_law_94 ?_
        refine V_istore_n (pc := 95) (ls' := [(0, _), (1, _)]) dX12_law_95 (by decide) rfl ?_
        refine V_aload_n (pc := 96) dX12_law_96 rfl ?_
        refine V_getR (pc := 97) 12 3 dX12_law_97 flX12_13 (by decide) h12.o h12.R3 ?_
        refine V_iload_n (pc := 100) dX12_law_100 rfl ?_
        refine V_iconst (pc := 101) (v := nI 1) dX12_law_101 (by decide) ?_
        refine V_iaddN (pc := 102) dX12_law_102 ?_
        refine V_aload_n (pc := 103) dX12_law_103 rfl ?_
        refine V_getIE (pc := 104) 12 21 dX12_law_104 flX12_404 (by decide) h12.o (g21.trans h21) ?_
        refine V_iastore (pc := 107) dX12_law_107 h12.A3 (by first | decide | omega) (by omega) ?_
        refine V_iconst (pc := 108) (v := nI 0) dX12_law_108 (by decide) ?_
        refine V_istore_n (pc := 109) (ls' := [(0, _), (1, _), (2, _)]) dX12_law_109 (by decide) rfl ?_
        refine lp_cp1 (I := up2 I' (o + 2) (116 + 900 * aq A 3 + 1) (nI law.1)) (at1 := 116 + 900 * aq A 3) (k := law.1) h12 (by omega) hl12 ((up2_ne (by omega)).trans (g21.trans h21)) (fun I4 hW => ?_) (8 * law.1) 0 _ (by omega) ⟨fun _ _ => rfl, fun _ _ => rfl, fun i hi => absurd hi (Nat.not_lt_zero i)⟩
        refine V_iconst (pc := 143) (v := nI 0) dX12_law_143 (by decide) ?_
        refine V_istore_n (pc := 144) (ls' := [(0, _), (1, _), (2, _)]) dX12_law_144 (by decide) rfl ?_
        refine lp_cp2 (I := I4) (at1 := 116 + 900 * aq A 3) (k := c'.2.2) h12 (by omega) hc4 (by rw [hW.1 o (by omega), up2_ne (by omega)]; exact gcd.1) (fun I5 hW2 => ?_) c'.2.2 0 I4 (by omega) ⟨fun _ _ => rfl, fun _ _ => rfl, fun i hi => absurd hi (Nat.not_lt_zero i)⟩
        have r3 : I5 (o + 2) 3 = nI (aq A 3) := by
          rw [hW2.2.1 3 (by omega), hW.2.1 3 (by omega), up2_nej (by omega)]
          exact hM2.row.n (q := aq A) (by omega)
        refine V_aload_n (pc := 199) dX12_law_199 rfl ?_
        refine V_getR (pc := 200) 12 3 dX12_law_200 flX12_13 (by decide) h12.o h12.R3 ?_
        refine V_iconst (pc := 203) (v := nI 3) dX12_law_203 (by decide) ?_
        refine V_dup2 (pc := 204) dX12_law_204 rfl rfl ?_
        refine V_ialoadE (pc := 205) dX12_law_205 h12.A3 (by first | decide | omega) (by omega) (r3) ?_
        refine V_iconst (pc := 206) (v := nI 1) dX12_law_206 (by decide) ?_
        refine V_iaddN (pc := 207) dX12_law_207 ?_
        refine V_iastore (pc := 208) dX12_law_208 h12.A3 (by first | decide | omega) (by omega) ?_
        refine V_aload_n (pc := 209) dX12_law_209 rfl ?_
        refine V_aload_n (pc := 210) dX12_law_210 rfl ?_
        refine V_getR (pc := 211) 12 3 dX12_law_211 flX12_13 (by decide) h12.o h12.R3 ?_
        refine V_iconst (pc := 214) (v := nI 3) dX12_law_214 (by decide) ?_
        refine V_ialoadE (pc := 215) dX12_law_215 h12.A3 (by first | decide | omega) (by omega) (up2_self) ?_
        refine V_iconst (pc := 216) (v := nI 1) dX12_law_216 (by decide) ?_
        refine V_isubN (pc := 217) dX12_law_217 (by omega) ?_
        refine V_callVd (pc := 218) (ci := 12) (c_X12_tell h12 (v := aq A 3) (by omega)) dX12_law_218 mlX12_184 mkX12_tell rfl rfl h12.o ⟨by decide, rfl⟩ ⟨Nat.le_of_ble_eq_true rfl, Nat.le_of_ble_eq_true rfl⟩ (Nat.le_of_ble_eq_true rfl) ⟨Nat.le_of_ble_eq_true rfl, Nat.le_of_ble_eq_true rfl⟩ ?_
        refine V_iret (pc := 221) dX12_law_221 rfl (by first | decide | omega) (by first | decide | omega) ?_
        have e5 : ∀ a, a ≠ o + 2 → I5 a = I' a := fun a ha => by rw [hW2.1 a ha, hW.1 a ha, up2_row ha]
        have hlow : ∀ i, i < 116 + 900 * aq A 3 → I5 (o + 2) i = I' (o + 2) i := fun i hi => by rw [hW2.2.1 i (by omega), hW.2.1 i (by omega), up2_nej (by omega)]
        have hL : LawM (up2 I5 (o + 2) 3 (nI (aq A 3 + 1)) (o + 2)) (116 + 900 * aq A 3) law := by
          refine LawM_of hCM hG hc4 hl12 ?_ (fun i hi => ?_) (fun k hk => ?_)
          · rw [up2_nej (by omega), hW2.2.1 _ (by omega), hW.2.1 _ (by omega), up2_self]
          · rw [up2_nej (by omega), hW2.2.1 _ (by omega), hW.2.2 i hi, up2_ne (by omega), g10]
          · rw [up2_nej (by omega), up2_nej (by omega), (hW2.2.2 k hk).1, (hW2.2.2 k hk).2, hW.1 _ (by omega), hW.1 _ (by omega), up2_row (by omega), up2_row (by omega)]
            exact gcd.2 k hk
        refine ⟨rfl, rfl, (MR.addlaw (B := sfl (tp0 A) (-1)) (law := law) hM2 (fun a ha => by rw [up2_row ha]; exact e5 a ha) (fun i h1 h2 => by rw [up2_nej h1]; exact hlow i h2) up2_self hL).hok, ?_⟩
        exact ((show FrM o I5 I L' L from fun a ha => ⟨(e5 a (by omega)).trans (hF3 a ha).1, (hF3 a ha).2⟩).up (by omega)).up (by omega)
    refine V_aload_n (pc := 28) dX12_law_28 rfl ?_
    refine V_iconst (pc := 29) (v := nI 0) dX12_law_29 (by decide) ?_
    refine V_callV (pc := 30) (ci := 12) (c_X12_beginText (od := false) h12 hTP0) dX12_law_30 mlX12_412 mkX12_beginText rfl rfl h12.o ⟨by decide, rfl⟩ ⟨Nat.le_of_ble_eq_true rfl, Nat.le_of_ble_eq_true rfl⟩ (Nat.le_of_ble_eq_true rfl) ⟨Nat.le_of_ble_eq_true rfl, Nat.le_of_ble_eq_true rfl⟩ (fun r S' I' L' hp => ?_)
    obtain ⟨rfl, rfl, ⟨d, P, hP⟩, h20, h21, hFT⟩ := hp
    refine V_aload_n (pc := 33) dX12_law_33 rfl ?_
    refine V_callV (pc := 34) (ci := 12) (c_X12_readLaw (k := 0) h12 h20 (hFT.kl hM.2.2.2.2.2.2.2.2) hP h21 (by omega) (Nat.zero_le _) (Nat.zero_le _) (fun k hk => absurd hk (Nat.not_lt_zero k))) dX12_law_34 mlX12_415 mkX12_readLaw rfl rfl h12.o ⟨by decide, rfl⟩ ⟨Nat.le_of_ble_eq_true rfl, Nat.le_of_ble_eq_true rfl⟩ (Nat.le_of_ble_eq_true rfl) ⟨Nat.le_of_ble_eq_true rfl, Nat.le_of_ble_eq_true rfl⟩ (fun r S' I' L' hp => ?_)
    obtain ⟨rfl, rfl, hz⟩ := hp
    rw [if_pos (by omega)] at hz
    obtain ⟨hFQ, hz1, hz2⟩ := hz
    have hFT2 := hFQ.t.tr hFT
    skip
    rcases hcl : (clL t n (skp t n 0) 0).2.2 with _ | x
    · have hR2 : R = ((clL t n (skp t n 0) 0).1, none) := by rw [← hR, lwR, lwP_n hcl]
      obtain ⟨s, hs⟩ := hz1 hcl
      have e19 := hs.2.2.2.2.2.2.1
      refine V_aload_n (pc := 37) dX12_law_37 rfl ?_
      refine V_getIE (pc := 38) 12 19 dX12_law_38 flX12_275 (by decide) h12.o (e19) ?_
      refine V_if_neB (pc := 41) (tgt := 64) dX12_law_41 (by decide) (fun c41 => ?_) (fun n41 => absurd n41 (by simp))
      exact hE.1 (by rw [hR2]) _ _ _ s hFT2 hs (Or.inl (by rw [hR2]))
    · have hR2 : R = if tc t n (clL t n (skp t n 0) 0).1 = 159 then lwP t n 11 (nxt t n (clL t n (skp t n 0) 0).1) (clL t n (skp t n 0) 0).2.1 (addc law0 x) else if tc t n (clL t n (skp t n 0) 0).1 = 92 then ((clL t n (skp t n 0) 0).1, some (addc law0 x)) else ((clL t n (skp t n 0) 0).1, none) := by rw [← hR, lwR, lwP_s hcl]
      obtain ⟨q1, q2, d', P', c', q3, q4, q5, q6, q7, q8, q9⟩ := hz2 x.1 x.2.1 x.2.2 hcl
      refine lp_law (I0 := I0) (L0 := L) h12 11 1 (addc law0 x) _ _ d' P' c' _ _ (by omega) rfl hFT2 ?_ (hFT2.kl hM.2.2.2.2.2.2.2.2) q3 q1 q4 q5 q6 (CMs.add (law := law0) (f := fun _ => 0) (c := c00) (fun j hj => absurd hj (Nat.not_lt_zero j)) (fun i hi => absurd hi (Nat.not_lt_zero i)) q7 q8 q9) R hR2 hE
      rw [hFQ.2.1 20 (by omega)]; exact h20
end PN
