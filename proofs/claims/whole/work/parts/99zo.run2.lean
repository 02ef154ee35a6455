section RV
variable {E : EnT} {S : ST} {I : IT} {L : LT} {B a j : Nat} {d : RdT} {s : RT}
def PRn (E : EnT) (S : ST) (I : IT) (L : LT) (B : Nat) (x : OC) (s : RT) (r : Option Value) (S' : ST) (I' : IT) (L' : LT) : Prop := S = S' ∧ L = L' ∧ FrN B I' I ∧ (rn1 x s = none → r = some (.int (b2i false)) ∧ CR E S B I' s.1) ∧ ∀ s', rn1 x s = some s' → r = some (.int (b2i true)) ∧ CR E S B I' s'.1 ∧ I' (B + 82) 7 = nI s'.2.1 ∧ I' (B + 82) 8 = pred1 s'.2.2
theorem CR.u82 {I' : IT} {A : AT} (h : CR E S B I A) (e : ∀ x, x ≠ B + 82 → x ≠ B + 79 → x ≠ B + 198 → I' x = I x) : CR E S B I' A := h.dd (DdC.of fun x hx => e x (by unfold lvC at hx; omega) (by unfold lvC at hx; omega) (by unfold lvC at hx; omega))
theorem rn_fin {x : OC} {J : IT} {v2 v3 v4 v5 v6 : Int32} (h11 : Lay11 E S B) (hJ : CR E S B J (rnA x s).2.2) (hF : FrN B J I) (h7 : J (B + 82) 7 = nI s.2.1) (h8 : J (B + 82) 8 = if x.1 = 2 then dv (rnA x s) else pred1 s.2.2) (h1 : x.2.2.2 (wdR s) = some 1) (hb : ¬ brk x (wdR s) = true) (hA : wfA s.1) : V E kX0_runOnce (rmOf 6 0 0) (QM E (PRn E S I L B x s) 0 0) 0 0 S J L 205 [(0, .ref (B + 82)), (1, .ref a), (2, .int v2), (3, .int v3), (4, .int v4), (5, .int v5), (6, .int v6), (7, .int (dv (rnA x s)))] [] := by
  have h0 := h11.O4
  have hD : Dok s.1 (rnA x s) := act1_k hA _ _ _ _
  obtain ⟨d1, d2, d3, d4, d5⟩ := hD
  have hJ2 : CR E S B (up2 J (B + 82) 7 (nI (s.2.1 + 1))) (rnA x s).2.2 := hJ.u82 fun x hx _ _ => up2_row hx
  by_cases h : (rnA x s).1 = 0
  · have e : dv (rnA x s) = nI (rnA x s).2.1 := if_pos h
    have hn := rn1_t h1 (fun z => z.elim hb (fun y => y h))
    have hm := d5 h
    rw [e] at h8 ⊢
    refine V_aload_n (pc := 205) dX0_runOnce_205 rfl ?_
    refine V_dup (pc := 206) dX0_runOnce_206 rfl ?_
    refine V_getIE (pc := 207) 0 7 dX0_runOnce_207 flX0_34 (by decide) h0.o (h7) ?_
    refine V_iconst (pc := 210) (v := nI 1) dX0_runOnce_210 (by decide) ?_
    refine V_iaddN (pc := 211) dX0_runOnce_211 ?_
    refine V_putI (pc := 212) 0 7 dX0_runOnce_212 flX0_34 (by decide) (by decide) (Or.inl rfl) rfl rfl h0.o ?_
    refine V_iload (pc := 215) dX0_runOnce_215 rfl ?_
    refine V_if_ltN (pc := 217) (tgt := 224) dX0_runOnce_217 (by decide) (by omega) ?_
    refine V_iconst (pc := 220) (v := nI 1) dX0_runOnce_220 (by decide) ?_
    refine V_goto (pc := 221) (tgt := 225) dX0_runOnce_221 (by decide) ?_
    refine V_zretB (pc := 225) (p := true) dX0_runOnce_225 rfl rfl (by first | decide | omega) (by first | decide | omega) ?_
    refine ⟨rfl, rfl, hF.u, (fun z => by rw [hn] at z; cases z), fun s' hs => ?_⟩
    rw [hn] at hs
    have es := Option.some.inj hs
    rw [← es]
    refine ⟨rfl, hJ2, up2_self, ?_⟩
    rw [up2_nej (by omega), h8]
    show _ = pred1 (if x.1 = 2 then (rnA x s).2.1 + 1 else s.2.2)
    by_cases k2 : x.1 = 2
    · rw [if_pos k2, if_pos k2, pred1_s]
    · rw [if_neg k2, if_neg k2]
  · have e : dv (rnA x s) = -(nI (rnA x s).1) := if_neg h
    have hn := rn1_b h1 (Or.inr h)
    have hlt : -(nI (rnA x s).1) < 0 := by
      have hc : (rnA x s).1 = 1 ∨ (rnA x s).1 = 2 ∨ (rnA x s).1 = 3 ∨ (rnA x s).1 = 4 ∨ (rnA x s).1 = 5 ∨ (rnA x s).1 = 6 := by omega
      rcases hc with z | z | z | z | z | z <;> (rw [z]; decide)
    rw [d3 h] at hJ2
    rw [e]
    refine V_aload_n (pc := 205) dX0_runOnce_205 rfl ?_
    refine V_dup (pc := 206) dX0_runOnce_206 rfl ?_
    refine V_getIE (pc := 207) 0 7 dX0_runOnce_207 flX0_34 (by decide) h0.o (h7) ?_
    refine V_iconst (pc := 210) (v := nI 1) dX0_runOnce_210 (by decide) ?_
    refine V_iaddN (pc := 211) dX0_runOnce_211 ?_
    refine V_putI (pc := 212) 0 7 dX0_runOnce_212 flX0_34 (by decide) (by decide) (Or.inl rfl) rfl rfl h0.o ?_
    refine V_iload (pc := 215) dX0_runOnce_215 rfl ?_
    refine V_if_lt (pc := 217) (tgt := 224) dX0_runOnce_217 (by decide) (fun c217 => ?_) (fun n217 => absurd n217 (by exact fun z => z hlt))
    refine V_iconst (pc := 224) (v := nI 0) dX0_runOnce_224 (by decide) ?_
    refine V_zretB (pc := 225) (p := false) dX0_runOnce_225 rfl rfl (by first | decide | omega) (by first | decide | omega) ?_
    refine ⟨rfl, rfl, hF.u, fun z => ⟨rfl, hJ2⟩, fun s' hs => by rw [hn] at hs; cases hs⟩
theorem rn_act {x : RC4} {J : IT} {m : Nat} (h11 : Lay11 E S B) (hL : Lay7 E S a d.1 m) (hj : j < d.1) (hd : d.1 ≤ 12) (hkd : J (a + 1) j = nI x.1) (hk4 : x.1 < 4) (hJ : CR E S B J s.1) (hF : FrN B J I) (h7 : J (B + 82) 7 = nI s.2.1) (h8 : J (B + 82) 8 = pred1 s.2.2) (h1 : x.2.2.2 (wdR s) = some 1) (hb : ¬ brk (toO x) (wdR s) = true) (hn : cF x 0 (wdR s) ≠ none ∧ cF x 1 (wdR s) ≠ none ∧ cF x 2 (wdR s) ≠ none) (hA : wfA s.1) : V E kX0_runOnce (rmOf 6 0 0) (QM E (PRn E S I L B (toO x) s) 0 0) 0 0 S J L 121 [(0, .ref (B + 82)), (1, .ref a), (2, .int (nI j)), (3, .int (nI (j * 4))), (4, .int (rI (cF x 0 (wdR s)))), (5, .int (rI (cF x 1 (wdR s)))), (6, .int (rI (cF x 2 (wdR s))))] [] := by
  have h0 := h11.O4
  have hl7 := hL
  have fin : ∀ J2, CR E S B J2 (rnA (toO x) s).2.2 → FrN B J2 I → J2 (B + 82) 7 = nI s.2.1 → (J2 (B + 82) 8 = if (toO x).1 = 2 then dv (rnA (toO x) s) else pred1 s.2.2) → V E kX0_runOnce (rmOf 6 0 0) (QM E (PRn E S I L B (toO x) s) 0 0) 0 0 S J2 L 205 [(0, .ref (B + 82)), (1, .ref a), (2, .int (nI j)), (3, .int (nI (j * 4))), (4, .int (rI (cF x 0 (wdR s)))), (5, .int (rI (cF x 1 (wdR s)))), (6, .int (rI (cF x 2 (wdR s)))), (7, .int (dv (rnA (toO x) s)))] [] := fun J2 q1 q2 q3 q4 => rn_fin h11 q1 q2 q3 q4 h1 hb hA
  have eA : rnA (toO x) s = act1 s.1 x.1 (rI (cF x 0 (wdR s))) (rI (cF x 1 (wdR s))) (rI (cF x 2 (wdR s))) := by
    rw [rI_vI hn.1, rI_vI hn.2.1, rI_vI hn.2.2]; rfl
  rw [eA] at fin
  rw [show (toO x).1 = x.1 from rfl] at fin
  have f82 : ∀ {J2}, FdC B J2 J → J2 (B + 82) = J (B + 82) := fun f => f _ (by omega) (by omega) (by omega) (by omega)
  have hc : x.1 = 0 ∨ x.1 = 1 ∨ x.1 = 2 ∨ x.1 = 3 := by omega
  rcases hc with e | e | e | e
  · rw [e] at hkd fin
    refine V_aload_n (pc := 121) dX0_runOnce_121 rfl ?_
    refine V_getR (pc := 122) 7 1 dX0_runOnce_122 flX0_150 (by decide) hl7.o hl7.R1 ?_
    refine V_iload_n (pc := 125) dX0_runOnce_125 rfl ?_
    refine V_ialoadE (pc := 126) dX0_runOnce_126 hl7.A1 (by first | decide | omega) (by omega) (hkd) ?_
    refine V_tableIn (pc := 127) (off := 25) (tgt := 152) dX0_runOnce_127 (by decide) (by decide) (by decide) (by decide) ?_
    refine V_aload_n (pc := 152) dX0_runOnce_152 rfl ?_
    refine V_iload (pc := 153) dX0_runOnce_153 rfl ?_
    refine V_iload (pc := 155) dX0_runOnce_155 rfl ?_
    refine V_iload (pc := 157) dX0_runOnce_157 rfl ?_
    refine V_callV (pc := 159) (ci := 0) (c_X0_pullPin h11 hJ hA) dX0_runOnce_159 mlX0_153 mkX0_pullPin rfl rfl h0.o ⟨by decide, rfl⟩ ⟨Nat.le_of_ble_eq_true rfl, Nat.le_of_ble_eq_true rfl⟩ (Nat.le_of_ble_eq_true rfl) ⟨Nat.le_of_ble_eq_true rfl, Nat.le_of_ble_eq_true rfl⟩ (fun r S' I' L' hp => ?_)
    obtain ⟨rfl, rfl, rfl, hR2, hF2⟩ := hp
    refine V_istore (pc := 162) (ls' := [(0, _), (1, _), (2, _), (3, _), (4, _), (5, _), (6, _), (7, _)]) dX0_runOnce_162 (by decide) rfl ?_
    refine V_goto (pc := 164) (tgt := 205) dX0_runOnce_164 (by decide) ?_
    exact fin _ hR2 (hF2.n.tr hF) (by rw [f82 hF2]; exact h7) (by rw [f82 hF2, if_neg (by decide)]; exact h8)
  · rw [e] at hkd fin
    refine V_aload_n (pc := 121) dX0_runOnce_121 rfl ?_
    refine V_getR (pc := 122) 7 1 dX0_runOnce_122 flX0_150 (by decide) hl7.o hl7.R1 ?_
    refine V_iload_n (pc := 125) dX0_runOnce_125 rfl ?_
    refine V_ialoadE (pc := 126) dX0_runOnce_126 hl7.A1 (by first | decide | omega) (by omega) (hkd) ?_
    refine V_tableIn (pc := 127) (off := 40) (tgt := 167) dX0_runOnce_127 (by decide) (by decide) (by decide) (by decide) ?_
    refine V_aload_n (pc := 167) dX0_runOnce_167 rfl ?_
    refine V_iload (pc := 168) dX0_runOnce_168 rfl ?_
    refine V_iload (pc := 170) dX0_runOnce_170 rfl ?_
    refine V_callV (pc := 172) (ci := 0) (c_X0_snapTooth h11 hJ hA) dX0_runOnce_172 mlX0_157 mkX0_snapTooth rfl rfl h0.o ⟨by decide, rfl⟩ ⟨Nat.le_of_ble_eq_true rfl, Nat.le_of_ble_eq_true rfl⟩ (Nat.le_of_ble_eq_true rfl) ⟨Nat.le_of_ble_eq_true rfl, Nat.le_of_ble_eq_true rfl⟩ (fun r S' I' L' hp => ?_)
    obtain ⟨rfl, rfl, rfl, hR2, hF2⟩ := hp
    refine V_istore (pc := 175) (ls' := [(0, _), (1, _), (2, _), (3, _), (4, _), (5, _), (6, _), (7, _)]) dX0_runOnce_175 (by decide) rfl ?_
    refine V_goto (pc := 177) (tgt := 205) dX0_runOnce_177 (by decide) ?_
    exact fin _ hR2 (hF2.n.tr hF) (by rw [f82 hF2]; exact h7) (by rw [f82 hF2, if_neg (by decide)]; exact h8)
  · rw [e] at hkd fin
    refine V_aload_n (pc := 121) dX0_runOnce_121 rfl ?_
    refine V_getR (pc := 122) 7 1 dX0_runOnce_122 flX0_150 (by decide) hl7.o hl7.R1 ?_
    refine V_iload_n (pc := 125) dX0_runOnce_125 rfl ?_
    refine V_ialoadE (pc := 126) dX0_runOnce_126 hl7.A1 (by first | decide | omega) (by omega) (hkd) ?_
    refine V_tableIn (pc := 127) (off := 53) (tgt := 180) dX0_runOnce_127 (by decide) (by decide) (by decide) (by decide) ?_
    refine V_aload_n (pc := 180) dX0_runOnce_180 rfl ?_
    refine V_iload (pc := 181) dX0_runOnce_181 rfl ?_
    refine V_iload (pc := 183) dX0_runOnce_183 rfl ?_
    refine V_callV (pc := 185) (ci := 0) (c_X0_wedBox h11 hJ hA) dX0_runOnce_185 mlX0_160 mkX0_wedBox rfl rfl h0.o ⟨by decide, rfl⟩ ⟨Nat.le_of_ble_eq_true rfl, Nat.le_of_ble_eq_true rfl⟩ (Nat.le_of_ble_eq_true rfl) ⟨Nat.le_of_ble_eq_true rfl, Nat.le_of_ble_eq_true rfl⟩ (fun r S' I' L' hp => ?_)
    obtain ⟨rfl, rfl, rfl, hR2, hF2⟩ := hp
    refine V_istore (pc := 188) (ls' := [(0, _), (1, _), (2, _), (3, _), (4, _), (5, _), (6, _), (7, _)]) dX0_runOnce_188 (by decide) rfl ?_
    refine V_aload_n (pc := 190) dX0_runOnce_190 rfl ?_
    refine V_iload (pc := 191) dX0_runOnce_191 rfl ?_
    refine V_putI (pc := 193) 0 8 dX0_runOnce_193 flX0_38 (by decide) (by decide) (Or.inl rfl) rfl rfl h0.o ?_
    refine V_goto (pc := 196) (tgt := 205) dX0_runOnce_196 (by decide) ?_
    exact fin _ (hR2.u82 fun x hx _ _ => up2_row hx) (hF2.n.tr hF).u (by rw [up2_nej (by omega), f82 hF2]; exact h7) (by rw [up2_self, if_pos (by decide)]; rfl)
  · rw [e] at hkd fin
    refine V_aload_n (pc := 121) dX0_runOnce_121 rfl ?_
    refine V_getR (pc := 122) 7 1 dX0_runOnce_122 flX0_150 (by decide) hl7.o hl7.R1 ?_
    refine V_iload_n (pc := 125) dX0_runOnce_125 rfl ?_
    refine V_ialoadE (pc := 126) dX0_runOnce_126 hl7.A1 (by first | decide | omega) (by omega) (hkd) ?_
    refine V_tableOut (pc := 127) (tgt := 199) dX0_runOnce_127 (by decide) (by decide) ?_
    refine V_aload_n (pc := 199) dX0_runOnce_199 rfl ?_
    refine V_callV (pc := 200) (ci := 0) (c_X0_passYear h11 hJ hA) dX0_runOnce_200 mlX0_163 mkX0_passYear rfl rfl h0.o ⟨by decide, rfl⟩ ⟨Nat.le_of_ble_eq_true rfl, Nat.le_of_ble_eq_true rfl⟩ (Nat.le_of_ble_eq_true rfl) ⟨Nat.le_of_ble_eq_true rfl, Nat.le_of_ble_eq_true rfl⟩ (fun r S' I' L' hp => ?_)
    obtain ⟨rfl, rfl, rfl, hR2, hF2⟩ := hp
    refine V_istore (pc := 203) (ls' := [(0, _), (1, _), (2, _), (3, _), (4, _), (5, _), (6, _), (7, _)]) dX0_runOnce_203 (by decide) rfl ?_
    exact fin _ hR2 (hF2.n.tr hF) (by rw [f82 hF2]; exact h7) (by rw [f82 hF2, if_neg (by decide)]; exact h8)
theorem c_X0_runOnce (h11 : Lay11 E S B) (hR : CR E S B I s.1) (hA : wfA s.1) (h7 : I (B + 82) 7 = nI s.2.1) (h8 : I (B + 82) 8 = pred1 s.2.2) (hdn : s.2.1 ≤ 1000) (hlt : s.2.2 ≤ 1001) (hT : TxG E S I a true d) (ha : B + 365 ≤ a) (hj : j < d.1) : C E kX0_runOnce 6 0 0 [.ref (B + 82), .ref a, .int (nI j)] S I L (PRn E S I L B (toO (d.2 j)) s) := by
  have h0 := h11.O4
  have h6 := h0.O2
  have hwo : wok (wdR s) := wdO_ok hA.q (by omega) hlt
  have hd12 := hT.1
  obtain ⟨c, hL7, _⟩ := hT.2
  have hX : ∃ c' : CT, CX1 (I (a + 1)) (I (a + 2)) (I (a + 3)) true c' j (d.2 j) := by
    obtain ⟨c', _, _, _, _, h5⟩ := hT.2
    exact ⟨c', h5 j hj⟩
  obtain ⟨c', x1, x2, x3, x4, -⟩ := hX
  have hsm : ∀ q, q < 4 → ∀ v, cF (d.2 j) q (wdR s) = some v → sml v := fun q hq v hv => hT.sm hj hq hwo hv
  have htf : ∀ v, (d.2 j).2.2.2 (wdR s) = some v → v = 0 ∨ v = 1 := fun v hv => hT.tf hj hwo hv
  refine C_of (by decide) (Nat.le_of_ble_eq_true rfl) ?_
  refine V_aload_n (pc := 0) dX0_runOnce_0 rfl ?_
  refine V_callV (pc := 1) (ci := 0) (c_X0_lookAround h11 hR.1.1 hA.q h7 h8) dX0_runOnce_1 mlX0_139 mkX0_lookAround rfl rfl h0.o ⟨by decide, rfl⟩ ⟨Nat.le_of_ble_eq_true rfl, Nat.le_of_ble_eq_true rfl⟩ (Nat.le_of_ble_eq_true rfl) ⟨Nat.le_of_ble_eq_true rfl, Nat.le_of_ble_eq_true rfl⟩ (fun r S' I' L' hp => ?_)
  obtain ⟨rfl, rfl, rfl, hP⟩ := hp
  skip
  have st : ∀ J, (∀ x, x ≠ B + 79 → J x = I' x) → TxG E S J a true d ∧ (∀ z, wdk true z → J (B + 82 + 116) z = Int32.ofInt (wdR s z)) ∧ CR E S B J s.1 ∧ FrN B J I ∧ J (B + 82) = I (B + 82) ∧ J (a + 1) = I (a + 1) := fun J hJ => by
    have e : ∀ x, x ≠ B + 79 → x ≠ B + 198 → J x = I x := fun x y1 y2 => (hJ x y1).trans (hP.1 x y2)
    refine ⟨hT.cg fun x y1 y2 => e x (by omega) (by omega), fun z hz => ?_, hR.u82 fun x y1 y2 y3 => e x y2 y3, fun x y1 y2 y3 y4 => e x y3 (by omega), e _ (by omega) (by omega), e _ (by omega) (by omega)⟩
    rw [hJ _ (by omega)]; exact hP.2 z hz (by have := wdk_t.mp hz; omega)
  have rk : ∀ J, (∀ x, x ≠ B + 79 → J x = I' x) → ∀ q, q < 4 → ∃ b, J (a + 3) (j * 4 + q) = b ∧ C E kX6_reckon 1 0 0 [.ref (B + 78), .ref a, .int b, .ref (B + 82 + 116)] S J L (PRk S J L (B + 78) (rI (cF (d.2 j) q (wdR s)))) := fun J hJ q hq => (st J hJ).1.rk h6 h0.A4 ⟨by omega, by omega, by omega⟩ hwo (st J hJ).2.1 hj hq
  obtain ⟨b3, hb3, hC3⟩ := rk I' (fun _ _ => rfl) 3 (by omega)
  refine V_iload_n (pc := 4) dX0_runOnce_4 rfl ?_
  refine V_iconst (pc := 5) (v := nI 4) dX0_runOnce_5 (by decide) ?_
  refine V_imulN (pc := 6) dX0_runOnce_6 ?_
  refine V_istore_n (pc := 7) (ls' := [(0, _), (1, _), (2, _), (3, _)]) dX0_runOnce_7 (by decide) rfl ?_
  refine V_aload_n (pc := 8) dX0_runOnce_8 rfl ?_
  refine V_getR (pc := 9) 0 2 dX0_runOnce_9 flX0_49 (by decide) h0.o h0.R2 ?_
  refine V_aload_n (pc := 12) dX0_runOnce_12 rfl ?_
  refine V_aload_n (pc := 13) dX0_runOnce_13 rfl ?_
  refine V_getR (pc := 14) 7 3 dX0_runOnce_14 flX0_142 (by decide) hL7.o hL7.R3 ?_
  refine V_iload_n (pc := 17) dX0_runOnce_17 rfl ?_
  refine V_iconst (pc := 18) (v := nI 3) dX0_runOnce_18 (by decide) ?_
  refine V_iaddN (pc := 19) dX0_runOnce_19 ?_
  refine V_ialoadE (pc := 20) dX0_runOnce_20 hL7.A3 (by first | decide | omega) (by omega) (hb3) ?_
  refine V_aload_n (pc := 21) dX0_runOnce_21 rfl ?_
  refine V_getR (pc := 22) 0 4 dX0_runOnce_22 flX0_20 (by decide) h0.o h0.R4 ?_
  refine V_callV (pc := 25) (ci := 6) hC3 dX0_runOnce_25 mlX0_145 mkX6_reckon rfl rfl h0.O2.o ⟨by decide, rfl⟩ ⟨Nat.le_of_ble_eq_true rfl, Nat.le_of_ble_eq_true rfl⟩ (Nat.le_of_ble_eq_true rfl) ⟨Nat.le_of_ble_eq_true rfl, Nat.le_of_ble_eq_true rfl⟩ (fun r S' I' L' hp => ?_)
  obtain ⟨rfl, rfl, rfl, hf1⟩ := hp
  skip
  obtain ⟨t1, t2, t3, t4, t5, t6⟩ := st _ hf1
  by_cases hT1 : (d.2 j).2.2.2 (wdR s) = some 1
  · obtain ⟨b0, hb0, hC0⟩ := rk _ hf1 0 (by omega)
    refine V_iconst (pc := 28) (v := nI 1) dX0_runOnce_28 (by decide) ?_
    refine V_icmp_eq (pc := 29) (tgt := 34) dX0_runOnce_29 (by decide) (fun c29 => ?_) (fun n29 => absurd n29 (by rw [show cF (d.2 j) 3 (wdR s) = some 1 from hT1]; exact fun z => z rfl))
    refine V_aload_n (pc := 34) dX0_runOnce_34 rfl ?_
    refine V_getR (pc := 35) 0 2 dX0_runOnce_35 flX0_49 (by decide) h0.o h0.R2 ?_
    refine V_aload_n (pc := 38) dX0_runOnce_38 rfl ?_
    refine V_aload_n (pc := 39) dX0_runOnce_39 rfl ?_
    refine V_getR (pc := 40) 7 3 dX0_runOnce_40 flX0_142 (by decide) hL7.o hL7.R3 ?_
    refine V_iload_n (pc := 43) dX0_runOnce_43 rfl ?_
    refine V_ialoadE (pc := 44) dX0_runOnce_44 hL7.A3 (by first | decide | omega) (by omega) ((show _ = b0 from hb0)) ?_
    refine V_aload_n (pc := 45) dX0_runOnce_45 rfl ?_
    refine V_getR (pc := 46) 0 4 dX0_runOnce_46 flX0_20 (by decide) h0.o h0.R4 ?_
    refine V_callV (pc := 49) (ci := 6) hC0 dX0_runOnce_49 mlX0_145 mkX6_reckon rfl rfl h0.O2.o ⟨by decide, rfl⟩ ⟨Nat.le_of_ble_eq_true rfl, Nat.le_of_ble_eq_true rfl⟩ (Nat.le_of_ble_eq_true rfl) ⟨Nat.le_of_ble_eq_true rfl, Nat.le_of_ble_eq_true rfl⟩ (fun r S' I' L' hp => ?_)
    obtain ⟨rfl, rfl, rfl, hf2⟩ := hp
    refine V_istore (pc := 52) (ls' := [(0, _), (1, _), (2, _), (3, _), (4, _)]) dX0_runOnce_52 (by decide) rfl ?_
    skip
    have hf2' := fun x hx => (hf2 x hx).trans (hf1 x hx)
    obtain ⟨b1, hb1, hC1⟩ := rk _ hf2' 1 (by omega)
    refine V_aload_n (pc := 54) dX0_runOnce_54 rfl ?_
    refine V_getR (pc := 55) 0 2 dX0_runOnce_55 flX0_49 (by decide) h0.o h0.R2 ?_
    refine V_aload_n (pc := 58) dX0_runOnce_58 rfl ?_
    refine V_aload_n (pc := 59) dX0_runOnce_59 rfl ?_
    refine V_getR (pc := 60) 7 3 dX0_runOnce_60 flX0_142 (by decide) hL7.o hL7.R3 ?_
    refine V_iload_n (pc := 63) dX0_runOnce_63 rfl ?_
    refine V_iconst (pc := 64) (v := nI 1) dX0_runOnce_64 (by decide) ?_
    refine V_iaddN (pc := 65) dX0_runOnce_65 ?_
    refine V_ialoadE (pc := 66) dX0_runOnce_66 hL7.A3 (by first | decide | omega) (by omega) (hb1) ?_
    refine V_aload_n (pc := 67) dX0_runOnce_67 rfl ?_
    refine V_getR (pc := 68) 0 4 dX0_runOnce_68 flX0_20 (by decide) h0.o h0.R4 ?_
    refine V_callV (pc := 71) (ci := 6) hC1 dX0_runOnce_71 mlX0_145 mkX6_reckon rfl rfl h0.O2.o ⟨by decide, rfl⟩ ⟨Nat.le_of_ble_eq_true rfl, Nat.le_of_ble_eq_true rfl⟩ (Nat.le_of_ble_eq_true rfl) ⟨Nat.le_of_ble_eq_true rfl, Nat.le_of_ble_eq_true rfl⟩ (fun r S' I' L' hp => ?_)
    obtain ⟨rfl, rfl, rfl, hf3⟩ := hp
    refine V_istore (pc := 74) (ls' := [(0, _), (1, _), (2, _), (3, _), (4, _), (5, _)]) dX0_runOnce_74 (by decide) rfl ?_
    skip
    have hf3' := fun x hx => (hf3 x hx).trans (hf2' x hx)
    obtain ⟨b2, hb2, hC2⟩ := rk _ hf3' 2 (by omega)
    refine V_aload_n (pc := 76) dX0_runOnce_76 rfl ?_
    refine V_getR (pc := 77) 0 2 dX0_runOnce_77 flX0_49 (by decide) h0.o h0.R2 ?_
    refine V_aload_n (pc := 80) dX0_runOnce_80 rfl ?_
    refine V_aload_n (pc := 81) dX0_runOnce_81 rfl ?_
    refine V_getR (pc := 82) 7 3 dX0_runOnce_82 flX0_142 (by decide) hL7.o hL7.R3 ?_
    refine V_iload_n (pc := 85) dX0_runOnce_85 rfl ?_
    refine V_iconst (pc := 86) (v := nI 2) dX0_runOnce_86 (by decide) ?_
    refine V_iaddN (pc := 87) dX0_runOnce_87 ?_
    refine V_ialoadE (pc := 88) dX0_runOnce_88 hL7.A3 (by first | decide | omega) (by omega) (hb2) ?_
    refine V_aload_n (pc := 89) dX0_runOnce_89 rfl ?_
    refine V_getR (pc := 90) 0 4 dX0_runOnce_90 flX0_20 (by decide) h0.o h0.R4 ?_
    refine V_callV (pc := 93) (ci := 6) hC2 dX0_runOnce_93 mlX0_145 mkX6_reckon rfl rfl h0.O2.o ⟨by decide, rfl⟩ ⟨Nat.le_of_ble_eq_true rfl, Nat.le_of_ble_eq_true rfl⟩ (Nat.le_of_ble_eq_true rfl) ⟨Nat.le_of_ble_eq_true rfl, Nat.le_of_ble_eq_true rfl⟩ (fun r S' I' L' hp => ?_)
    obtain ⟨rfl, rfl, rfl, hf4⟩ := hp
    refine V_istore (pc := 96) (ls' := [(0, _), (1, _), (2, _), (3, _), (4, _), (5, _), (6, _)]) dX0_runOnce_96 (by decide) rfl ?_
    skip
    have hf4' := fun x hx => (hf4 x hx).trans (hf3' x hx)
    obtain ⟨u1, u2, u3, u4, u5, u6⟩ := st _ hf4'
    have m0 := rI_none (hsm 0 (by omega))
    have m1 := rI_none (hsm 1 (by omega))
    have m2 := rI_none (hsm 2 (by omega))
    have hbk := brk_d (w := wdR s) x3 x1
    have bad : ∀ ls, (cF (d.2 j) 0 (wdR s) = none ∨ cF (d.2 j) 1 (wdR s) = none ∨ cF (d.2 j) 2 (wdR s) = none) → V E kX0_runOnce (rmOf 6 0 0) (QM E (PRn E S I L B (toO (d.2 j)) s) 0 0) 0 0 S I' L 119 ls [] := by
      intro ls hz
      have hn := rn1_b (x := toO (d.2 j)) hT1 (Or.inl (hbk.mpr hz))
      refine V_iconst (pc := 119) (v := nI 0) dX0_runOnce_119 (by decide) ?_
      refine V_zretB (pc := 120) (p := false) dX0_runOnce_120 rfl rfl (by first | decide | omega) (by first | decide | omega) ?_
      refine ⟨rfl, rfl, u4, fun z => ⟨rfl, u3⟩, fun s' hs => by rw [hn] at hs; cases hs⟩
    refine V_iload (pc := 98) dX0_runOnce_98 rfl ?_
    refine V_ldc (pc := 100) dX0_runOnce_100 coX0_149 ?_
    refine V_icmp_eq (pc := 102) (tgt := 119) dX0_runOnce_102 (by decide) (fun c102 => ?_) (fun n102 => ?_)
    · skip
      first | exact bad _ (Or.inl (m0.mp c102)) | exact bad _ (Or.inr (Or.inl (m1.mp c109))) | exact bad _ (Or.inr (Or.inr (m2.mp n116))) | fail
    · skip
      refine V_iload (pc := 105) dX0_runOnce_105 rfl ?_
      refine V_ldc (pc := 107) dX0_runOnce_107 coX0_149 ?_
      refine V_icmp_eq (pc := 109) (tgt := 119) dX0_runOnce_109 (by decide) (fun c109 => ?_) (fun n109 => ?_)
      · skip
        first | exact bad _ (Or.inl (m0.mp c102)) | exact bad _ (Or.inr (Or.inl (m1.mp c109))) | exact bad _ (Or.inr (Or.inr (m2.mp n116))) | fail
      · skip
        refine V_iload (pc := 112) dX0_runOnce_112 rfl ?_
        refine V_ldc (pc := 114) dX0_runOnce_114 coX0_149 ?_
        refine V_icmp_ne (pc := 116) (tgt := 121) dX0_runOnce_116 (by decide) (fun c116 => ?_) (fun n116 => ?_)
        · skip
          refine rn_act h11 hL7 hj hd12 (by rw [u6]; exact x4) x1 u3 u4 (by rw [u5]; exact h7) (by rw [u5]; exact h8) hT1 (fun z => ?_) ⟨fun z => n102 (m0.mpr z), fun z => n109 (m1.mpr z), fun z => c116 (m2.mpr z)⟩ hA
          rcases hbk.mp z with z | z | z
          · exact n102 (m0.mpr z)
          · exact n109 (m1.mpr z)
          · exact c116 (m2.mpr z)
        · skip
          first | exact bad _ (Or.inl (m0.mp c102)) | exact bad _ (Or.inr (Or.inl (m1.mp c109))) | exact bad _ (Or.inr (Or.inr (m2.mp n116))) | fail
  · have hn := rn1_f (x := toO (d.2 j)) (s := s) hT1
    have ne1 : ¬ rI (cF (d.2 j) 3 (wdR s)) = nI 1 := by
      show ¬ rI ((d.2 j).2.2.2 (wdR s)) = nI 1
      cases hv : (d.2 j).2.2.2 (wdR s) with
      | none => decide
      | some v =>
        rcases htf v hv with e | e
        · rw [e]; decide
        · rw [hv, e] at hT1; exact absurd rfl hT1
    refine V_iconst (pc := 28) (v := nI 1) dX0_runOnce_28 (by decide) ?_
    refine V_icmp_eq (pc := 29) (tgt := 34) dX0_runOnce_29 (by decide) (fun c29 => absurd c29 (by exact ne1)) (fun n29 => ?_)
    refine V_iconst (pc := 32) (v := nI 1) dX0_runOnce_32 (by decide) ?_
    refine V_zretB (pc := 33) (p := true) dX0_runOnce_33 rfl rfl (by first | decide | omega) (by first | decide | omega) ?_
    refine ⟨rfl, rfl, t4, (fun z => by rw [hn] at z; cases z), fun s' hs => ?_⟩
    rw [hn] at hs
    have es := Option.some.inj hs
    rw [← es]
    exact ⟨rfl, t3, by rw [t5]; exact h7, by rw [t5]; exact h8⟩
end RV
