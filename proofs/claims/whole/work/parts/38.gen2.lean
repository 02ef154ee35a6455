/-! THE REFERENCE: generations, what was drawn -/
section MI9
variable {E : EnT} {S : ST} {I : IT} {L : LT} {o : Nat} {A : AT}
theorem MR.dm {I' : IT} {d : Nat × (Nat → Nat → Nat)} (h : MR o I L A) (hI : ∀ a, a ≠ o → a ≠ o + 35 → I' a = I a) (hf : ∀ i, i ≠ 61 → I' o i = I o i) (ht : DrM I' o (sdr A d)) : MR o I' L (sdr A d) := by
  obtain ⟨h1, h2, h3, h4, h5, h6, h7, h8, h9⟩ := h
  refine ⟨h1.cg (hI _ (by omega) (by omega)), ?_, ?_, ?_, ?_, ?_, ht, (hf 20 (by omega)).trans h8, h9⟩
  · unfold LwsM at h2 ⊢; rw [hI (o + 2) (by omega) (by omega)]; exact h2
  · unfold UndM at h3 ⊢; rw [hI (o + 5) (by omega) (by omega), hI (o + 6) (by omega) (by omega), hf 8 (by omega)]; exact h3
  · unfold ImgM at h4 ⊢; rw [hI (o + 3) (by omega) (by omega), hI (o + 4) (by omega) (by omega)]; exact h4
  · unfold TapM at h5 ⊢; rw [hI (o + 9) (by omega) (by omega), hf 13 (by omega)]; exact h5
  · unfold XM at h6 ⊢; rw [hI (o + 1) (by omega) (by omega), hf 1 (by omega), hf 11 (by omega), hf 18 (by omega), hf 57 (by omega)]; exact h6
def GnI (o : Nat) (I' I0 I : IT) (L' L : LT) : Prop := I' (o + 5) = I0 (o + 5) ∧ FrM o I' I L' L
/-- one generation -/
theorem stp_gen (h12 : Lay12 E S o) {Q : QT} {I0 I1 : IT} {L0 : LT} {n k : Nat} {g : (Nat → Nat) × Nat × Nat} {v1 : Int32} (hg : wq g.1) (h0 : 0 < g.1 0) (he : ∀ i, i < 5 ∨ 80 ≤ i → g.1 i = aq A i) (h5 : g.1 5 < 999) (hs : g.2.1 < 2000000) (hend : g.2.2 ≤ 400) (hA : wfA A) (hk60 : k < n ∧ n ≤ 60) (hM : MR o I L (sq A g.1)) (hG : GnI o I I0 I1 L L0) (h59 : L o 59 = lN g.2.1) (hk : ∀ I' L', MR o I' L' (sq A (gn1 (lwf A) g).1) → GnI o I' I0 I1 L' L0 → L' o 59 = lN (gn1 (lwf A) g).2.1 → V E kX12_generations (rmOf 9 0 0) Q 0 0 S I' L' 68 [(0, .ref o), (1, .int v1), (2, .int (nI n)), (3, .int (nI (gn1 (lwf A) g).2.2)), (4, .int (nI (k + 1)))] []) : V E kX12_generations (rmOf 9 0 0) Q 0 0 S I L 68 [(0, .ref o), (1, .int v1), (2, .int (nI n)), (3, .int (nI g.2.2)), (4, .int (nI k))] [] := by
  have hr : RowM I (o + 2) g.1 := hM.row
  have hnb := hg.nb
  have hd1 := drw_lt g.2.1
  have hd2 := drw_lt (drw g.2.1)
  have hd3 := drw_lt (drw (drw g.2.1))
  have hd4 := drw_lt (drw (drw (drw g.2.1)))
  have hb1 := Nat.mod_lt (drw g.2.1) h0
  have hb2 := Nat.mod_lt (drw (drw g.2.1)) (show 0 < 8 by omega)
  have hb3 := Nat.mod_lt (drw (drw (drw g.2.1))) (show 0 < 8 by omega)
  have hb4 := Nat.mod_lt (drw (drw (drw (drw g.2.1)))) (show 0 < 3 by omega)
  rw [gn1, if_pos h5] at hk
  have ht := tch_ok (how := drw (drw (drw (drw g.2.1))) % 3) hg hb1 hb2 hb3
  have hpl := pse_le (tch g.1 (drw g.2.1 % g.1 0) (drw (drw g.2.1) % 8) (drw (drw (drw g.2.1)) % 8) (drw (drw (drw (drw g.2.1))) % 3))
  have hln : ∀ q', lwf (sq A q') = if q' 4 = 0 then lw0 else alw A (q' 4 - 1) := fun q' => rfl
  have hlq : lwf (sq A (tch g.1 (drw g.2.1 % g.1 0) (drw (drw g.2.1) % 8) (drw (drw (drw g.2.1)) % 8) (drw (drw (drw (drw g.2.1))) % 3))) = lwf A := by
    rw [hln, ht.2 4 (by omega), he 4 (by omega)]; rfl
  generalize hq1 : tch g.1 (drw g.2.1 % g.1 0) (drw (drw g.2.1) % 8) (drw (drw (drw g.2.1)) % 8) (drw (drw (drw (drw g.2.1))) % 3) = q1 at hk ht hpl hlq
  unfold tch at hq1
  have hwf : wfA (sq A q1) := hA.nq ht.1 (fun i hi => (ht.2 i (by omega)).trans (he i hi))
  generalize hb : drw g.2.1 % g.1 0 = b at hb1 hq1
  generalize hj : drw (drw g.2.1) % 8 = j at hb2 hq1
  generalize htt : drw (drw (drw g.2.1)) % 8 = t at hb3 hq1
  generalize hh : drw (drw (drw (drw g.2.1))) % 3 = how at hb4 hq1
  have hpi := hg.pi b j (by omega) hb2
  have hbr := hg.br b (by omega)
  have hsp := hg.sp b (by omega)
  have hp2 := pow8 hb3
  have hcl := clamp_sub (g.1 (62 + b)) (by omega) 1 (by omega)
  have tl : ∀ I2, MR o I2 (up2 L o 59 (lN (drw (drw (drw (drw g.2.1)))))) (sq A q1) → GnI o I2 I0 I1 (up2 L o 59 (lN (drw (drw (drw (drw g.2.1)))))) L0 → ∀ w5 w6 w7 w8, V E kX12_generations (rmOf 9 0 0) Q 0 0 S I2 (up2 L o 59 (lN (drw (drw (drw (drw g.2.1)))))) 220 [(0, .ref o), (1, .int v1), (2, .int (nI n)), (3, .int (nI g.2.2)), (4, .int (nI k)), (5, .int w5), (6, .int w6), (7, .int w7), (8, .int w8)] [] := by
    intro I2 hM2 hG2 w5 w6 w7 w8
    refine V_iload_n (pc := 220) dX12_generations_220 rfl ?_
    refine V_aload_n (pc := 221) dX12_generations_221 rfl ?_
    refine V_callV (pc := 222) (ci := 12) (c_X12_passIt h12 hM2 hwf) dX12_generations_222 mlX12_478 mkX12_passIt rfl rfl h12.o ⟨by decide, rfl⟩ ⟨Nat.le_of_ble_eq_true rfl, Nat.le_of_ble_eq_true rfl⟩ (Nat.le_of_ble_eq_true rfl) ⟨Nat.le_of_ble_eq_true rfl, Nat.le_of_ble_eq_true rfl⟩ (fun r S' I' L' hp => ?_)
    obtain ⟨rfl, rfl, hM3, hF3⟩ := hp
    refine V_iaddN (pc := 225) dX12_generations_225 ?_
    refine V_istore_n (pc := 226) (ls' := [(0, _), (1, _), (2, _), (3, _), (4, _), (5, _), (6, _), (7, _), (8, _)]) dX12_generations_226 (by decide) rfl ?_
    refine V_loc [0, 1, 2, 3, 4] rfl ?_
    refine V_iinc1 (pc := 227) (ls' := [(0, _), (1, _), (2, _), (3, _), (4, _)]) dX12_generations_227 rfl (by decide) rfl ?_
    refine V_goto (pc := 230) (tgt := 68) dX12_generations_230 (by decide) ?_
    rw [hlq] at hM3
    exact hk _ _ hM3 ⟨(hF3.1 (o + 5) (by omega) (by omega) (by omega)).trans hG2.1, FrM.tr hF3.frm hG2.2⟩ ((hF3.2.2.2 59 (by omega) (by omega)).trans up2_self)
  have hM4 : MR o I (up2 L o 59 (lN (drw (drw (drw (drw g.2.1)))))) (sq A g.1) := hM.dead ⟨fun _ _ => rfl, fun _ _ => rfl, fun a ha => up2_row (by simp at ha; omega)⟩
  have hG4 : GnI o I I0 I1 (up2 L o 59 (lN (drw (drw (drw (drw g.2.1)))))) L0 := ⟨hG.1, hG.2.upL (by omega)⟩
  rcases (by omega : how = 0 ∨ how = 1 ∨ how = 2) with rfl | rfl | rfl
  · rw [if_pos rfl] at hq1
    refine V_iload (pc := 68) dX12_generations_68 rfl ?_
    refine V_iload_n (pc := 70) dX12_generations_70 rfl ?_
    refine V_icmp_geN (pc := 71) (tgt := 233) dX12_generations_71 (by decide) (by omega) (by omega) (fun c71 => absurd c71 (by omega)) (fun n71 => ?_)
    refine V_aload_n (pc := 74) dX12_generations_74 rfl ?_
    refine V_getR (pc := 75) 12 3 dX12_generations_75 flX12_13 (by decide) h12.o h12.R3 ?_
    refine V_iconst (pc := 78) (v := nI 5) dX12_generations_78 (by decide) ?_
    refine V_ialoadE (pc := 79) dX12_generations_79 h12.A3 (by first | decide | omega) (by omega) (hr.n (by omega)) ?_
    refine V_sipush (pc := 80) (v := nI 999) dX12_generations_80 (by decide) ?_
    refine V_icmp_geN (pc := 83) (tgt := 233) dX12_generations_83 (by decide) (by omega) (by omega) (fun c83 => absurd c83 (by omega)) (fun n83 => ?_)
    refine V_aload_n (pc := 86) dX12_generations_86 rfl ?_
    refine V_aload_n (pc := 87) dX12_generations_87 rfl ?_
    refine V_getR (pc := 88) 12 3 dX12_generations_88 flX12_13 (by decide) h12.o h12.R3 ?_
    refine V_iconst (pc := 91) (v := nI 0) dX12_generations_91 (by decide) ?_
    refine V_ialoadE (pc := 92) dX12_generations_92 h12.A3 (by first | decide | omega) (by omega) (hr.n (by omega)) ?_
    refine V_callVd (pc := 93) (ci := 12) (c_X12_draw h12 hs ⟨h0, by omega⟩ h59) dX12_generations_93 mlX12_575 mkX12_draw rfl rfl h12.o ⟨by decide, rfl⟩ ⟨Nat.le_of_ble_eq_true rfl, Nat.le_of_ble_eq_true rfl⟩ (Nat.le_of_ble_eq_true rfl) ⟨Nat.le_of_ble_eq_true rfl, Nat.le_of_ble_eq_true rfl⟩ ?_
    refine V_istore (pc := 96) (ls' := [(0, _), (1, _), (2, _), (3, _), (4, _), (5, _)]) dX12_generations_96 (by decide) rfl ?_
    refine V_aload_n (pc := 98) dX12_generations_98 rfl ?_
    refine V_bipush (pc := 99) (v := nI 8) dX12_generations_99 (by decide) ?_
    refine V_callVd (pc := 101) (ci := 12) (c_X12_draw (s := drw g.2.1) h12 (by omega) ⟨by omega, by omega⟩ up2_self) dX12_generations_101 mlX12_575 mkX12_draw rfl rfl h12.o ⟨by decide, rfl⟩ ⟨Nat.le_of_ble_eq_true rfl, Nat.le_of_ble_eq_true rfl⟩ (Nat.le_of_ble_eq_true rfl) ⟨Nat.le_of_ble_eq_true rfl, Nat.le_of_ble_eq_true rfl⟩ ?_
    refine V_istore (pc := 104) (ls' := [(0, _), (1, _), (2, _), (3, _), (4, _), (5, _), (6, _)]) dX12_generations_104 (by decide) rfl ?_
    refine V_aload_n (pc := 106) dX12_generations_106 rfl ?_
    refine V_bipush (pc := 107) (v := nI 8) dX12_generations_107 (by decide) ?_
    refine V_callVd (pc := 109) (ci := 12) (c_X12_draw (s := drw (drw g.2.1)) h12 (by omega) ⟨by omega, by omega⟩ up2_self) dX12_generations_109 mlX12_575 mkX12_draw rfl rfl h12.o ⟨by decide, rfl⟩ ⟨Nat.le_of_ble_eq_true rfl, Nat.le_of_ble_eq_true rfl⟩ (Nat.le_of_ble_eq_true rfl) ⟨Nat.le_of_ble_eq_true rfl, Nat.le_of_ble_eq_true rfl⟩ ?_
    refine V_istore (pc := 112) (ls' := [(0, _), (1, _), (2, _), (3, _), (4, _), (5, _), (6, _), (7, _)]) dX12_generations_112 (by decide) rfl ?_
    refine V_aload_n (pc := 114) dX12_generations_114 rfl ?_
    refine V_iconst (pc := 115) (v := nI 3) dX12_generations_115 (by decide) ?_
    refine V_callVd (pc := 116) (ci := 12) (c_X12_draw (s := drw (drw (drw g.2.1))) h12 (by omega) ⟨by omega, by omega⟩ up2_self) dX12_generations_116 mlX12_575 mkX12_draw rfl rfl h12.o ⟨by decide, rfl⟩ ⟨Nat.le_of_ble_eq_true rfl, Nat.le_of_ble_eq_true rfl⟩ (Nat.le_of_ble_eq_true rfl) ⟨Nat.le_of_ble_eq_true rfl, Nat.le_of_ble_eq_true rfl⟩ ?_
    refine V_istore (pc := 119) (ls' := [(0, _), (1, _), (2, _), (3, _), (4, _), (5, _), (6, _), (7, _), (8, _)]) dX12_generations_119 (by decide) rfl ?_
    rw [hb, hj, htt, hh, up2_up2, up2_up2, up2_up2]
    refine V_iload (pc := 121) dX12_generations_121 rfl ?_
    refine V_if_neN (pc := 123) (tgt := 162) dX12_generations_123 (by decide) (by omega) (fun c123 => absurd c123 (by omega)) (fun n123 => ?_)
    refine V_aload_n (pc := 126) dX12_generations_126 rfl ?_
    refine V_iload (pc := 127) dX12_generations_127 rfl ?_
    refine V_iload (pc := 129) dX12_generations_129 rfl ?_
    refine V_iload (pc := 131) dX12_generations_131 rfl ?_
    refine V_callVd (pc := 133) (ci := 12) (c_X12_canPull h12 hr hg hb3 hb2 (by omega)) dX12_generations_133 mlX12_461 mkX12_canPull rfl rfl h12.o ⟨by decide, rfl⟩ ⟨Nat.le_of_ble_eq_true rfl, Nat.le_of_ble_eq_true rfl⟩ (Nat.le_of_ble_eq_true rfl) ⟨Nat.le_of_ble_eq_true rfl, Nat.le_of_ble_eq_true rfl⟩ ?_
    refine V_if_eqB (pc := 136) (tgt := 162) dX12_generations_136 (by decide) (fun c136 => ?_) (fun n136 => ?_)
    · skip
      refine V_iload (pc := 162) dX12_generations_162 rfl ?_
      refine V_iconst (pc := 164) (v := nI 1) dX12_generations_164 (by decide) ?_
      refine V_icmp_neN (pc := 165) (tgt := 185) dX12_generations_165 (by decide) (by omega) (by omega) (fun c165 => ?_) (fun n165 => absurd n165 (by omega))
      refine V_iload (pc := 185) dX12_generations_185 rfl ?_
      refine V_iconst (pc := 187) (v := nI 2) dX12_generations_187 (by decide) ?_
      refine V_icmp_neN (pc := 188) (tgt := 220) dX12_generations_188 (by decide) (by omega) (by omega) (fun c188 => ?_) (fun n188 => absurd n188 (by omega))
      first
      | (rw [if_neg (of_decide_eq_false c136)] at hq1; subst hq1; exact tl _ hM4 hG4 _ _ _ _)
      | (subst hq1; exact tl _ m5 ⟨by rw [up2_row (by omega)]; exact hG4.1, hG4.2.up (by omega)⟩ _ _ _ _)
    · skip
      rw [if_pos (of_decide_eq_true n136)] at hq1
      have hle := bit_le (of_decide_eq_true n136)
      have m5 := hM4.st (i := 8 + 8 * b + j) (n := g.1 (8 + 8 * b + j) - 1 * 2 ^ t) (by omega) (enc_n (by omega))
      rw [Nat.one_mul] at m5
      refine V_aload_n (pc := 139) dX12_generations_139 rfl ?_
      refine V_getR (pc := 140) 12 3 dX12_generations_140 flX12_13 (by decide) h12.o h12.R3 ?_
      refine V_bipush (pc := 143) (v := nI 8) dX12_generations_143 (by decide) ?_
      refine V_bipush (pc := 145) (v := nI 8) dX12_generations_145 (by decide) ?_
      refine V_iload (pc := 147) dX12_generations_147 rfl ?_
      refine V_imulN (pc := 149) dX12_generations_149 ?_
      refine V_iaddN (pc := 150) dX12_generations_150 ?_
      refine V_iload (pc := 151) dX12_generations_151 rfl ?_
      refine V_iaddN (pc := 153) dX12_generations_153 ?_
      refine V_dup2 (pc := 154) dX12_generations_154 rfl rfl ?_
      refine V_ialoadE (pc := 155) dX12_generations_155 h12.A3 (by first | decide | omega) (by omega) (hr.n (by omega)) ?_
      refine V_iconst (pc := 156) (v := nI 1) dX12_generations_156 (by decide) ?_
      refine V_iload (pc := 157) dX12_generations_157 rfl ?_
      refine V_ishlN (pc := 159) dX12_generations_159 (by omega) (by omega) ?_
      refine V_isubN (pc := 160) dX12_generations_160 (by omega) ?_
      rw [Nat.one_mul]
      refine V_iastore (pc := 161) dX12_generations_161 h12.A3 (by first | decide | omega) (by omega) ?_
      refine V_iload (pc := 162) dX12_generations_162 rfl ?_
      refine V_iconst (pc := 164) (v := nI 1) dX12_generations_164 (by decide) ?_
      refine V_icmp_neN (pc := 165) (tgt := 185) dX12_generations_165 (by decide) (by omega) (by omega) (fun c165 => ?_) (fun n165 => absurd n165 (by omega))
      refine V_iload (pc := 185) dX12_generations_185 rfl ?_
      refine V_iconst (pc := 187) (v := nI 2) dX12_generations_187 (by decide) ?_
      refine V_icmp_neN (pc := 188) (tgt := 220) dX12_generations_188 (by decide) (by omega) (by omega) (fun c188 => ?_) (fun n188 => absurd n188 (by omega))
      first
      | (rw [if_neg (of_decide_eq_false c136)] at hq1; subst hq1; exact tl _ hM4 hG4 _ _ _ _)
      | (subst hq1; exact tl _ m5 ⟨by rw [up2_row (by omega)]; exact hG4.1, hG4.2.up (by omega)⟩ _ _ _ _)
  · rw [if_neg (by omega), if_pos rfl] at hq1
    subst hq1
    have m5 := hM4.st (i := 56 + b) (n := bor (g.1 (56 + b)) t) (by omega) (enc_n (by omega))
    refine V_iload (pc := 68) dX12_generations_68 rfl ?_
    refine V_iload_n (pc := 70) dX12_generations_70 rfl ?_
    refine V_icmp_geN (pc := 71) (tgt := 233) dX12_generations_71 (by decide) (by omega) (by omega) (fun c71 => absurd c71 (by omega)) (fun n71 => ?_)
    refine V_aload_n (pc := 74) dX12_generations_74 rfl ?_
    refine V_getR (pc := 75) 12 3 dX12_generations_75 flX12_13 (by decide) h12.o h12.R3 ?_
    refine V_iconst (pc := 78) (v := nI 5) dX12_generations_78 (by decide) ?_
    refine V_ialoadE (pc := 79) dX12_generations_79 h12.A3 (by first | decide | omega) (by omega) (hr.n (by omega)) ?_
    refine V_sipush (pc := 80) (v := nI 999) dX12_generations_80 (by decide) ?_
    refine V_icmp_geN (pc := 83) (tgt := 233) dX12_generations_83 (by decide) (by omega) (by omega) (fun c83 => absurd c83 (by omega)) (fun n83 => ?_)
    refine V_aload_n (pc := 86) dX12_generations_86 rfl ?_
    refine V_aload_n (pc := 87) dX12_generations_87 rfl ?_
    refine V_getR (pc := 88) 12 3 dX12_generations_88 flX12_13 (by decide) h12.o h12.R3 ?_
    refine V_iconst (pc := 91) (v := nI 0) dX12_generations_91 (by decide) ?_
    refine V_ialoadE (pc := 92) dX12_generations_92 h12.A3 (by first | decide | omega) (by omega) (hr.n (by omega)) ?_
    refine V_callVd (pc := 93) (ci := 12) (c_X12_draw h12 hs ⟨h0, by omega⟩ h59) dX12_generations_93 mlX12_575 mkX12_draw rfl rfl h12.o ⟨by decide, rfl⟩ ⟨Nat.le_of_ble_eq_true rfl, Nat.le_of_ble_eq_true rfl⟩ (Nat.le_of_ble_eq_true rfl) ⟨Nat.le_of_ble_eq_true rfl, Nat.le_of_ble_eq_true rfl⟩ ?_
    refine V_istore (pc := 96) (ls' := [(0, _), (1, _), (2, _), (3, _), (4, _), (5, _)]) dX12_generations_96 (by decide) rfl ?_
    refine V_aload_n (pc := 98) dX12_generations_98 rfl ?_
    refine V_bipush (pc := 99) (v := nI 8) dX12_generations_99 (by decide) ?_
    refine V_callVd (pc := 101) (ci := 12) (c_X12_draw (s := drw g.2.1) h12 (by omega) ⟨by omega, by omega⟩ up2_self) dX12_generations_101 mlX12_575 mkX12_draw rfl rfl h12.o ⟨by decide, rfl⟩ ⟨Nat.le_of_ble_eq_true rfl, Nat.le_of_ble_eq_true rfl⟩ (Nat.le_of_ble_eq_true rfl) ⟨Nat.le_of_ble_eq_true rfl, Nat.le_of_ble_eq_true rfl⟩ ?_
    refine V_istore (pc := 104) (ls' := [(0, _), (1, _), (2, _), (3, _), (4, _), (5, _), (6, _)]) dX12_generations_104 (by decide) rfl ?_
    refine V_aload_n (pc := 106) dX12_generations_106 rfl ?_
    refine V_bipush (pc := 107) (v := nI 8) dX12_generations_107 (by decide) ?_
    refine V_callVd (pc := 109) (ci := 12) (c_X12_draw (s := drw (drw g.2.1)) h12 (by omega) ⟨by omega, by omega⟩ up2_self) dX12_generations_109 mlX12_575 mkX12_draw rfl rfl h12.o ⟨by decide, rfl⟩ ⟨Nat.le_of_ble_eq_true rfl, Nat.le_of_ble_eq_true rfl⟩ (Nat.le_of_ble_eq_true rfl) ⟨Nat.le_of_ble_eq_true rfl, Nat.le_of_ble_eq_true rfl⟩ ?_
    refine V_istore (pc := 112) (ls' := [(0, _), (1, _), (2, _), (3, _), (4, _), (5, _), (6, _), (7, _)]) dX12_generations_112 (by decide) rfl ?_
    refine V_aload_n (pc := 114) dX12_generations_114 rfl ?_
    refine V_iconst (pc := 115) (v := nI 3) dX12_generations_115 (by decide) ?_
    refine V_callVd (pc := 116) (ci := 12) (c_X12_draw (s := drw (drw (drw g.2.1))) h12 (by omega) ⟨by omega, by omega⟩ up2_self) dX12_generations_116 mlX12_575 mkX12_draw rfl rfl h12.o ⟨by decide, rfl⟩ ⟨Nat.le_of_ble_eq_true rfl, Nat.le_of_ble_eq_true rfl⟩ (Nat.le_of_ble_eq_true rfl) ⟨Nat.le_of_ble_eq_true rfl, Nat.le_of_ble_eq_true rfl⟩ ?_
    refine V_istore (pc := 119) (ls' := [(0, _), (1, _), (2, _), (3, _), (4, _), (5, _), (6, _), (7, _), (8, _)]) dX12_generations_119 (by decide) rfl ?_
    rw [hb, hj, htt, hh, up2_up2, up2_up2, up2_up2]
    refine V_iload (pc := 121) dX12_generations_121 rfl ?_
    refine V_if_neN (pc := 123) (tgt := 162) dX12_generations_123 (by decide) (by omega) (fun c123 => ?_) (fun n123 => absurd n123 (by omega))
    refine V_iload (pc := 162) dX12_generations_162 rfl ?_
    refine V_iconst (pc := 164) (v := nI 1) dX12_generations_164 (by decide) ?_
    refine V_icmp_neN (pc := 165) (tgt := 185) dX12_generations_165 (by decide) (by omega) (by omega) (fun c165 => absurd c165 (by omega)) (fun n165 => ?_)
    refine V_aload_n (pc := 168) dX12_generations_168 rfl ?_
    refine V_getR (pc := 169) 12 3 dX12_generations_169 flX12_13 (by decide) h12.o h12.R3 ?_
    refine V_bipush (pc := 172) (v := nI 56) dX12_generations_172 (by decide) ?_
    refine V_iload (pc := 174) dX12_generations_174 rfl ?_
    refine V_iaddN (pc := 176) dX12_generations_176 ?_
    refine V_dup2 (pc := 177) dX12_generations_177 rfl rfl ?_
    refine V_ialoadE (pc := 178) dX12_generations_178 h12.A3 (by first | decide | omega) (by omega) (hr.n (by omega)) ?_
    refine V_iconst (pc := 179) (v := nI 1) dX12_generations_179 (by decide) ?_
    refine V_iload (pc := 180) dX12_generations_180 rfl ?_
    refine V_ishlN (pc := 182) dX12_generations_182 (by omega) (by omega) ?_
    refine V_iorN (pc := 183) dX12_generations_183 ?_
    rw [Nat.one_mul]
    refine V_iastore (pc := 184) dX12_generations_184 h12.A3 (by first | decide | omega) (by omega) ?_
    refine V_iload (pc := 185) dX12_generations_185 rfl ?_
    refine V_iconst (pc := 187) (v := nI 2) dX12_generations_187 (by decide) ?_
    refine V_icmp_neN (pc := 188) (tgt := 220) dX12_generations_188 (by decide) (by omega) (by omega) (fun c188 => ?_) (fun n188 => absurd n188 (by omega))
    exact tl _ m5 ⟨by rw [up2_row (by omega)]; exact hG4.1, hG4.2.up (by omega)⟩ _ _ _ _
  · rw [if_neg (by omega), if_neg (by omega)] at hq1
    subst hq1
    have m5 := hM4.st (i := 62 + b) (n := g.1 (62 + b) - 1) (by omega) (enc_n (by omega))
    refine V_iload (pc := 68) dX12_generations_68 rfl ?_
    refine V_iload_n (pc := 70) dX12_generations_70 rfl ?_
    refine V_icmp_geN (pc := 71) (tgt := 233) dX12_generations_71 (by decide) (by omega) (by omega) (fun c71 => absurd c71 (by omega)) (fun n71 => ?_)
    refine V_aload_n (pc := 74) dX12_generations_74 rfl ?_
    refine V_getR (pc := 75) 12 3 dX12_generations_75 flX12_13 (by decide) h12.o h12.R3 ?_
    refine V_iconst (pc := 78) (v := nI 5) dX12_generations_78 (by decide) ?_
    refine V_ialoadE (pc := 79) dX12_generations_79 h12.A3 (by first | decide | omega) (by omega) (hr.n (by omega)) ?_
    refine V_sipush (pc := 80) (v := nI 999) dX12_generations_80 (by decide) ?_
    refine V_icmp_geN (pc := 83) (tgt := 233) dX12_generations_83 (by decide) (by omega) (by omega) (fun c83 => absurd c83 (by omega)) (fun n83 => ?_)
    refine V_aload_n (pc := 86) dX12_generations_86 rfl ?_
    refine V_aload_n (pc := 87) dX12_generations_87 rfl ?_
    refine V_getR (pc := 88) 12 3 dX12_generations_88 flX12_13 (by decide) h12.o h12.R3 ?_
    refine V_iconst (pc := 91) (v := nI 0) dX12_generations_91 (by decide) ?_
    refine V_ialoadE (pc := 92) dX12_generations_92 h12.A3 (by first | decide | omega) (by omega) (hr.n (by omega)) ?_
    refine V_callVd (pc := 93) (ci := 12) (c_X12_draw h12 hs ⟨h0, by omega⟩ h59) dX12_generations_93 mlX12_575 mkX12_draw rfl rfl h12.o ⟨by decide, rfl⟩ ⟨Nat.le_of_ble_eq_true rfl, Nat.le_of_ble_eq_true rfl⟩ (Nat.le_of_ble_eq_true rfl) ⟨Nat.le_of_ble_eq_true rfl, Nat.le_of_ble_eq_true rfl⟩ ?_
    refine V_istore (pc := 96) (ls' := [(0, _), (1, _), (2, _), (3, _), (4, _), (5, _)]) dX12_generations_96 (by decide) rfl ?_
    refine V_aload_n (pc := 98) dX12_generations_98 rfl ?_
    refine V_bipush (pc := 99) (v := nI 8) dX12_generations_99 (by decide) ?_
    refine V_callVd (pc := 101) (ci := 12) (c_X12_draw (s := drw g.2.1) h12 (by omega) ⟨by omega, by omega⟩ up2_self) dX12_generations_101 mlX12_575 mkX12_draw rfl rfl h12.o ⟨by decide, rfl⟩ ⟨Nat.le_of_ble_eq_true rfl, Nat.le_of_ble_eq_true rfl⟩ (Nat.le_of_ble_eq_true rfl) ⟨Nat.le_of_ble_eq_true rfl, Nat.le_of_ble_eq_true rfl⟩ ?_
    refine V_istore (pc := 104) (ls' := [(0, _), (1, _), (2, _), (3, _), (4, _), (5, _), (6, _)]) dX12_generations_104 (by decide) rfl ?_
    refine V_aload_n (pc := 106) dX12_generations_106 rfl ?_
    refine V_bipush (pc := 107) (v := nI 8) dX12_generations_107 (by decide) ?_
    refine V_callVd (pc := 109) (ci := 12) (c_X12_draw (s := drw (drw g.2.1)) h12 (by omega) ⟨by omega, by omega⟩ up2_self) dX12_generations_109 mlX12_575 mkX12_draw rfl rfl h12.o ⟨by decide, rfl⟩ ⟨Nat.le_of_ble_eq_true rfl, Nat.le_of_ble_eq_true rfl⟩ (Nat.le_of_ble_eq_true rfl) ⟨Nat.le_of_ble_eq_true rfl, Nat.le_of_ble_eq_true rfl⟩ ?_
    refine V_istore (pc := 112) (ls' := [(0, _), (1, _), (2, _), (3, _), (4, _), (5, _), (6, _), (7, _)]) dX12_generations_112 (by decide) rfl ?_
    refine V_aload_n (pc := 114) dX12_generations_114 rfl ?_
    refine V_iconst (pc := 115) (v := nI 3) dX12_generations_115 (by decide) ?_
    refine V_callVd (pc := 116) (ci := 12) (c_X12_draw (s := drw (drw (drw g.2.1))) h12 (by omega) ⟨by omega, by omega⟩ up2_self) dX12_generations_116 mlX12_575 mkX12_draw rfl rfl h12.o ⟨by decide, rfl⟩ ⟨Nat.le_of_ble_eq_true rfl, Nat.le_of_ble_eq_true rfl⟩ (Nat.le_of_ble_eq_true rfl) ⟨Nat.le_of_ble_eq_true rfl, Nat.le_of_ble_eq_true rfl⟩ ?_
    refine V_istore (pc := 119) (ls' := [(0, _), (1, _), (2, _), (3, _), (4, _), (5, _), (6, _), (7, _), (8, _)]) dX12_generations_119 (by decide) rfl ?_
    rw [hb, hj, htt, hh, up2_up2, up2_up2, up2_up2]
    refine V_iload (pc := 121) dX12_generations_121 rfl ?_
    refine V_if_neN (pc := 123) (tgt := 162) dX12_generations_123 (by decide) (by omega) (fun c123 => ?_) (fun n123 => absurd n123 (by omega))
    refine V_iload (pc := 162) dX12_generations_162 rfl ?_
    refine V_iconst (pc := 164) (v := nI 1) dX12_generations_164 (by decide) ?_
    refine V_icmp_neN (pc := 165) (tgt := 185) dX12_generations_165 (by decide) (by omega) (by omega) (fun c165 => ?_) (fun n165 => absurd n165 (by omega))
    refine V_iload (pc := 185) dX12_generations_185 rfl ?_
    refine V_iconst (pc := 187) (v := nI 2) dX12_generations_187 (by decide) ?_
    refine V_icmp_neN (pc := 188) (tgt := 220) dX12_generations_188 (by decide) (by omega) (by omega) (fun c188 => absurd c188 (by omega)) (fun n188 => ?_)
    refine V_aload_n (pc := 191) dX12_generations_191 rfl ?_
    refine V_getR (pc := 192) 12 3 dX12_generations_192 flX12_13 (by decide) h12.o h12.R3 ?_
    refine V_bipush (pc := 195) (v := nI 62) dX12_generations_195 (by decide) ?_
    refine V_iload (pc := 197) dX12_generations_197 rfl ?_
    refine V_iaddN (pc := 199) dX12_generations_199 ?_
    refine V_aload_n (pc := 200) dX12_generations_200 rfl ?_
    refine V_getR (pc := 201) 12 3 dX12_generations_201 flX12_13 (by decide) h12.o h12.R3 ?_
    refine V_bipush (pc := 204) (v := nI 62) dX12_generations_204 (by decide) ?_
    refine V_iload (pc := 206) dX12_generations_206 rfl ?_
    refine V_iaddN (pc := 208) dX12_generations_208 ?_
    refine V_ialoadE (pc := 209) dX12_generations_209 h12.A3 (by first | decide | omega) (by omega) (hr.n (by omega)) ?_
    refine V_iconst (pc := 210) (v := nI 1) dX12_generations_210 (by decide) ?_
    refine V_isub (pc := 211) dX12_generations_211 ?_
    refine V_i2l (pc := 212) dX12_generations_212 rfl ?_
    refine V_iconst (pc := 213) (v := nI 0) dX12_generations_213 (by decide) ?_
    refine V_bipush (pc := 214) (v := nI 20) dX12_generations_214 (by decide) ?_
    refine V_callSd (pc := 216) (c_X12_within) dX12_generations_216 mlX12_454 mkX12_within rfl rfl ⟨Nat.le_of_ble_eq_true rfl, Nat.le_of_ble_eq_true rfl⟩ (Nat.le_of_ble_eq_true rfl) ⟨Nat.le_of_ble_eq_true rfl, Nat.le_of_ble_eq_true rfl⟩ ?_
    rw [hcl]
    refine V_iastore (pc := 219) dX12_generations_219 h12.A3 (by first | decide | omega) (by omega) ?_
    exact tl _ m5 ⟨by rw [up2_row (by omega)]; exact hG4.1, hG4.2.up (by omega)⟩ _ _ _ _
theorem lp_gen (h12 : Lay12 E S o) {Q : QT} {I1 : IT} {L0 : LT} {n s : Nat} {v1 : Int32} (h0 : 0 < aq A 0) (hs : s < 2000000) (hA : wfA A) (hn : n ≤ 60) (hM : MR o I L A) (hG : GnI o I I I1 L L0) (h59 : L o 59 = lN s) (hk : ∀ I' L' w, MR o I' L' (sq A (gnr (lwf A) (aq A) s n).1) → GnI o I' I I1 L' L0 → V E kX12_generations (rmOf 9 0 0) Q 0 0 S I' L' 233 [(0, .ref o), (1, .int v1), (2, .int (nI n)), (3, .int (nI (gnr (lwf A) (aq A) s n).2.2)), (4, .int w)] []) : V E kX12_generations (rmOf 9 0 0) Q 0 0 S I L 68 [(0, .ref o), (1, .int v1), (2, .int (nI n)), (3, .int (nI 0)), (4, .int (nI 0))] [] := by
  have key : ∀ k, k ≤ n → ∀ I' L', MR o I' L' (sq A (gnr (lwf A) (aq A) s k).1) → GnI o I' I I1 L' L0 → L' o 59 = lN (gnr (lwf A) (aq A) s k).2.1 → V E kX12_generations (rmOf 9 0 0) Q 0 0 S I' L' 68 [(0, .ref o), (1, .int v1), (2, .int (nI n)), (3, .int (nI (gnr (lwf A) (aq A) s k).2.2)), (4, .int (nI k))] [] := by
    refine loopUp ?_ ?_
    · intro I' L' hM' hG' h59'
      refine V_iload (pc := 68) dX12_generations_68 rfl ?_
      refine V_iload_n (pc := 70) dX12_generations_70 rfl ?_
      refine V_icmp_geN (pc := 71) (tgt := 233) dX12_generations_71 (by decide) (by omega) (by omega) (fun c71 => ?_) (fun n71 => absurd n71 (by omega))
      exact hk _ _ _ hM' hG'
    · intro k hk2 ih I' L' hM' hG' h59'
      have hok := gnr_ok (law := lwf A) hA.q h0 hs k
      by_cases h5 : (gnr (lwf A) (aq A) s k).1 5 < 999
      · exact stp_gen h12 hok.1 (by rw [hok.2.1 0 (by omega)]; exact h0) hok.2.1 h5 hok.2.2.1 (by have := hok.2.2.2; omega) hA ⟨hk2, hn⟩ hM' hG' h59' ih
      · have hst := gnr_stop h5 (n - k)
        rw [show k + (n - k) = n by omega] at hst
        have hr : RowM I' (o + 2) (gnr (lwf A) (aq A) s k).1 := hM'.row
        have hye := hok.1.ye
        refine V_iload (pc := 68) dX12_generations_68 rfl ?_
        refine V_iload_n (pc := 70) dX12_generations_70 rfl ?_
        refine V_icmp_geN (pc := 71) (tgt := 233) dX12_generations_71 (by decide) (by omega) (by omega) (fun c71 => absurd c71 (by omega)) (fun n71 => ?_)
        refine V_aload_n (pc := 74) dX12_generations_74 rfl ?_
        refine V_getR (pc := 75) 12 3 dX12_generations_75 flX12_13 (by decide) h12.o h12.R3 ?_
        refine V_iconst (pc := 78) (v := nI 5) dX12_generations_78 (by decide) ?_
        refine V_ialoadE (pc := 79) dX12_generations_79 h12.A3 (by first | decide | omega) (by omega) (hr.n (by omega)) ?_
        refine V_sipush (pc := 80) (v := nI 999) dX12_generations_80 (by decide) ?_
        refine V_icmp_geN (pc := 83) (tgt := 233) dX12_generations_83 (by decide) (by omega) (by omega) (fun c83 => ?_) (fun n83 => absurd n83 (by omega))
        have hk' := hk I' L' (nI k)
        rw [hst] at hk'
        exact hk' hM' hG'
  exact key 0 (by omega) I L hM hG h59
def dra (q : Nat → Nat) : Nat → Nat → Nat := fun w b => if w = 0 then nts q b else if w = 1 then q (62 + b) else q (74 + b)
theorem lp_drn (h12 : Lay12 E S o) {Q : QT} {q : Nat → Nat} {v1 v2 v3 : Int32} (hr : RowM I (o + 2) q) (hq : wq q) (h61 : I o 61 = nI (q 0)) (hk : ∀ I', (∀ a, a ≠ o + 35 → I' a = I a) → (∀ w b, w < 3 → b < q 0 → I' (o + 35) (6 * w + b) = nI (dra q w b)) → V E kX12_generations (rmOf 9 0 0) Q 0 0 S I' L 314 [(0, .ref o), (1, .int v1), (2, .int v2), (3, .int v3), (4, .int (nI (q 0)))] []) : V E kX12_generations (rmOf 9 0 0) Q 0 0 S I L 246 [(0, .ref o), (1, .int v1), (2, .int v2), (3, .int v3), (4, .int (nI 0))] [] := by
  have hnb := hq.nb
  have key : ∀ k, k ≤ q 0 → ∀ I', (∀ a, a ≠ o + 35 → I' a = I a) → (∀ w b, w < 3 → b < k → I' (o + 35) (6 * w + b) = nI (dra q w b)) → V E kX12_generations (rmOf 9 0 0) Q 0 0 S I' L 246 [(0, .ref o), (1, .int v1), (2, .int v2), (3, .int v3), (4, .int (nI k))] [] := by
    refine loopUp ?_ ?_
    · intro I' ha hd
      have e61 : I' o 61 = nI (q 0) := by rw [ha o (by omega)]; exact h61
      refine V_iload (pc := 246) dX12_generations_246 rfl ?_
      refine V_aload_n (pc := 248) dX12_generations_248 rfl ?_
      refine V_getIE (pc := 249) 12 61 dX12_generations_249 flX12_172 (by decide) h12.o (e61) ?_
      refine V_icmp_geN (pc := 252) (tgt := 314) dX12_generations_252 (by decide) (by omega) (by omega) (fun c252 => ?_) (fun n252 => absurd n252 (by omega))
      exact hk I' ha hd
    · intro k hk2 ih I' ha hd
      have e61 : I' o 61 = nI (q 0) := by rw [ha o (by omega)]; exact h61
      have hr' := hr.cg (ha (o + 2) (by omega))
      refine V_iload (pc := 246) dX12_generations_246 rfl ?_
      refine V_aload_n (pc := 248) dX12_generations_248 rfl ?_
      refine V_getIE (pc := 249) 12 61 dX12_generations_249 flX12_172 (by decide) h12.o (e61) ?_
      refine V_icmp_geN (pc := 252) (tgt := 314) dX12_generations_252 (by decide) (by omega) (by omega) (fun c252 => absurd c252 (by omega)) (fun n252 => ?_)
      refine V_aload_n (pc := 255) dX12_generations_255 rfl ?_
      refine V_getR (pc := 256) 12 60 dX12_generations_256 flX12_169 (by decide) h12.o h12.R60 ?_
      refine V_iload (pc := 259) dX12_generations_259 rfl ?_
      refine V_aload_n (pc := 261) dX12_generations_261 rfl ?_
      refine V_iload (pc := 262) dX12_generations_262 rfl ?_
      refine V_callVd (pc := 264) (ci := 12) (c_X12_notesOf h12 hr' hq (by omega)) dX12_generations_264 mlX12_219 mkX12_notesOf rfl rfl h12.o ⟨by decide, rfl⟩ ⟨Nat.le_of_ble_eq_true rfl, Nat.le_of_ble_eq_true rfl⟩ (Nat.le_of_ble_eq_true rfl) ⟨Nat.le_of_ble_eq_true rfl, Nat.le_of_ble_eq_true rfl⟩ ?_
      refine V_iastore (pc := 267) dX12_generations_267 h12.A60 (by first | decide | omega) (by omega) ?_
      refine V_aload_n (pc := 268) dX12_generations_268 rfl ?_
      refine V_getR (pc := 269) 12 60 dX12_generations_269 flX12_169 (by decide) h12.o h12.R60 ?_
      refine V_bipush (pc := 272) (v := nI 6) dX12_generations_272 (by decide) ?_
      refine V_iload (pc := 274) dX12_generations_274 rfl ?_
      refine V_iaddN (pc := 276) dX12_generations_276 ?_
      refine V_aload_n (pc := 277) dX12_generations_277 rfl ?_
      refine V_getR (pc := 278) 12 3 dX12_generations_278 flX12_13 (by decide) h12.o h12.R3 ?_
      refine V_bipush (pc := 281) (v := nI 62) dX12_generations_281 (by decide) ?_
      refine V_iload (pc := 283) dX12_generations_283 rfl ?_
      refine V_iaddN (pc := 285) dX12_generations_285 ?_
      refine V_ialoadE (pc := 286) dX12_generations_286 h12.A3 (by first | decide | omega) (by omega) (show (_ : Int32) = nI (q (62 + k)) by rw [up2_ne (by omega)]; exact hr'.n (by omega)) ?_
      refine V_iastore (pc := 287) dX12_generations_287 h12.A60 (by first | decide | omega) (by omega) ?_
      refine V_aload_n (pc := 288) dX12_generations_288 rfl ?_
      refine V_getR (pc := 289) 12 60 dX12_generations_289 flX12_169 (by decide) h12.o h12.R60 ?_
      refine V_bipush (pc := 292) (v := nI 12) dX12_generations_292 (by decide) ?_
      refine V_iload (pc := 294) dX12_generations_294 rfl ?_
      refine V_iaddN (pc := 296) dX12_generations_296 ?_
      refine V_aload_n (pc := 297) dX12_generations_297 rfl ?_
      refine V_getR (pc := 298) 12 3 dX12_generations_298 flX12_13 (by decide) h12.o h12.R3 ?_
      refine V_bipush (pc := 301) (v := nI 74) dX12_generations_301 (by decide) ?_
      refine V_iload (pc := 303) dX12_generations_303 rfl ?_
      refine V_iaddN (pc := 305) dX12_generations_305 ?_
      refine V_ialoadE (pc := 306) dX12_generations_306 h12.A3 (by first | decide | omega) (by omega) (show (_ : Int32) = nI (q (74 + k)) by rw [up2_ne (by omega), up2_ne (by omega)]; exact hr'.n (by omega)) ?_
      refine V_iastore (pc := 307) dX12_generations_307 h12.A60 (by first | decide | omega) (by omega) ?_
      refine V_iinc1 (pc := 308) (ls' := [(0, _), (1, _), (2, _), (3, _), (4, _)]) dX12_generations_308 rfl (by decide) rfl ?_
      refine V_goto (pc := 311) (tgt := 246) dX12_generations_311 (by decide) ?_
      refine ih _ (fun a h => by rw [up2_row h, up2_row h, up2_row h]; exact ha a h) (fun w b hw hb => ?_)
      by_cases e : b = k
      · subst e
        rcases (by omega : w = 0 ∨ w = 1 ∨ w = 2) with rfl | rfl | rfl
        · rw [up2_nej (by omega), up2_nej (by omega), show 6 * 0 + b = b by omega, up2_self]; rfl
        · rw [up2_nej (by omega), up2_self]; rfl
        · rw [show 6 * 2 + b = 12 + b by omega, up2_self]; rfl
      · rw [up2_nej (by omega), up2_nej (by omega), up2_nej (by omega)]; exact hd w b hw (by omega)
  exact key 0 (by omega) I (fun _ _ => rfl) (fun w b _ hb => absurd hb (Nat.not_lt_zero b))
def bn1 (y : Int32) : Bool := decide (1 ≤ y.toInt ∧ y.toInt ≤ 60)
def spGen (A : AT) (x y : Int32) : Int32 × AT := if bnd x 1000001 = true ∧ bn1 y = true then (if aq A 0 = 0 then (-(nI 3), rfs A 3) else (nI (gnr (lwf A) (aq A) (cln x) (cln y)).2.2, ok0 (sdr A (aq A 0 + 1, dra (gnr (lwf A) (aq A) (cln x) (cln y)).1)))) else (-(nI 1), rfs A 1)
theorem bn1_ex {y : Int32} (h : bn1 y = true) : ∃ n, 0 < n ∧ n ≤ 60 ∧ y = nI n := by
  have h1 := of_decide_eq_true h
  have h2 : bnd y 61 = true := decide_eq_true ⟨by omega, by omega⟩
  obtain ⟨n, hn, e⟩ := bnd_ex (by omega) h2
  subst e
  rw [nI_toInt (by omega)] at h1
  exact ⟨n, by omega, by omega, rfl⟩
theorem bn1_64 (y : Int32) : decide (lN 1 ≤ y.toInt64 ∧ y.toInt64 ≤ (60 : Int64)) = bn1 y := by
  unfold bn1
  congr 1
  rw [Int64.le_iff_toInt_le, Int64.le_iff_toInt_le, Int32.toInt_toInt64, lN_toInt (by decide), show (60 : Int64).toInt = 60 from rfl]
  rfl
theorem MR.pb {I' : IT} {q' : Nat → Nat} {n : Nat} {f : Nat → Int32} (h : MR o I' L (sq A q')) (he : ∀ i, i < 5 ∨ 80 ≤ i → q' i = aq A i) (hf : ∀ i, 5 ≤ i → i < 80 → (68 ≤ i ∧ i < 74 → i < 68 + aq A 0) → f (75 * n + (i - 5)) = enc (aq A) i) : MR o (upr I' (o + 2) (cpy f (I' (o + 2)) (75 * n) 5 75)) L A := by
  have hr : RowM I' (o + 2) q' := h.row
  refine MR.srow (A := sq A q') (q' := aq A) h (fun a ha => upr_row ha) (fun i hi => ?_) (fun i hi hw => ?_) (he 3 (by omega)).symm (Or.inl (he 0 (by omega)).symm)
  · rw [upr_self]; unfold cpy; rw [if_neg (by omega)]
  · rw [upr_self]
    unfold cpy
    by_cases c : 5 ≤ i ∧ i < 80
    · rw [if_pos (by omega)]
      exact hf i c.1 c.2 hw
    · rw [if_neg (by omega), hr i hi (by rw [he 0 (by omega)]; exact hw)]
      unfold enc
      rw [he i (by omega)]
theorem c_X12_generations (h12 : Lay12 E S o) (hM : MR o I L A) (hA : wfA A) {x y : Int32} : Cm E kX12_generations 9 [.ref o, .int x, .int y] S I L o (.int (spGen A x y).1) (spGen A x y).2 := by
  have hq := hA.q
  have hnb := hq.nb
  have hun := hA.2.2.1
  have e6 : decide (lN 0 ≤ x.toInt64 ∧ x.toInt64 ≤ (1000000 : Int64)) = bnd x 1000001 := bnd64' (n := 1000000) (by omega)
  have e60 := bn1_64 y
  refine C_of (by decide) (Nat.le_of_ble_eq_true rfl) ?_
  refine V_aload_n (pc := 0) dX12_generations_0 rfl ?_
  refine V_iconst (pc := 1) (v := nI 0) dX12_generations_1 (by decide) ?_
  refine V_putI (pc := 2) 12 0 dX12_generations_2 flX12_175 (by decide) (by decide) (Or.inl rfl) rfl rfl h12.o ?_
  have hM := hM.thrown (v := nI 0)
  have hF : FrM o (up2 I o 0 (nI 0)) I L L := FrM.rf.up (by omega)
  generalize up2 I o 0 (nI 0) = I0 at hM hF ⊢
  have hr := hM.row
  refine V_iload_n (pc := 5) dX12_generations_5 rfl ?_
  refine V_i2l (pc := 6) dX12_generations_6 rfl ?_
  refine V_lconst (pc := 7) (v := lN 0) dX12_generations_7 (by decide) ?_
  refine V_ldc2 (pc := 8) dX12_generations_8 coX12_304 ?_
  refine V_callSd (pc := 11) (c_X12_in) dX12_generations_11 mlX12_195 mkX12_in rfl rfl ⟨Nat.le_of_ble_eq_true rfl, Nat.le_of_ble_eq_true rfl⟩ (Nat.le_of_ble_eq_true rfl) ⟨Nat.le_of_ble_eq_true rfl, Nat.le_of_ble_eq_true rfl⟩ ?_
  refine V_if_eqB (pc := 14) (tgt := 29) dX12_generations_14 (by decide) (fun c14 => ?_) (fun n14 => ?_)
  · skip
    refine V_aload_n (pc := 29) dX12_generations_29 rfl ?_
    refine V_iconst (pc := 30) (v := (-1)) dX12_generations_30 (by decide) ?_
    refine V_callVd (pc := 31) (ci := 12) (c_X12_tellv (r := 1) h12 (by decide) (by decide) (by decide)) dX12_generations_31 mlX12_184 mkX12_tell rfl rfl h12.o ⟨by decide, rfl⟩ ⟨Nat.le_of_ble_eq_true rfl, Nat.le_of_ble_eq_true rfl⟩ (Nat.le_of_ble_eq_true rfl) ⟨Nat.le_of_ble_eq_true rfl, Nat.le_of_ble_eq_true rfl⟩ ?_
    refine V_iret (pc := 34) dX12_generations_34 rfl (by first | decide | omega) (by first | decide | omega) ?_
    first
    | (rw [e6] at c14; rw [spGen, if_neg (fun w => by rw [w.1] at c14; exact absurd c14 (by decide))]; exact ⟨rfl, rfl, hM.hrf, hF.hrf⟩)
    | (rw [e60] at n26; rw [spGen, if_neg (fun w => by rw [w.2] at n26; exact absurd n26 (by decide))]; exact ⟨rfl, rfl, hM.hrf, hF.hrf⟩)
  · skip
    refine V_iload_n (pc := 17) dX12_generations_17 rfl ?_
    refine V_i2l (pc := 18) dX12_generations_18 rfl ?_
    refine V_lconst (pc := 19) (v := lN 1) dX12_generations_19 (by decide) ?_
    refine V_ldc2 (pc := 20) dX12_generations_20 coX12_239 ?_
    refine V_callSd (pc := 23) (c_X12_in) dX12_generations_23 mlX12_195 mkX12_in rfl rfl ⟨Nat.le_of_ble_eq_true rfl, Nat.le_of_ble_eq_true rfl⟩ (Nat.le_of_ble_eq_true rfl) ⟨Nat.le_of_ble_eq_true rfl, Nat.le_of_ble_eq_true rfl⟩ ?_
    refine V_if_neB (pc := 26) (tgt := 35) dX12_generations_26 (by decide) (fun c26 => ?_) (fun n26 => ?_)
    · skip
      rw [e6] at n14
      rw [e60] at c26
      rw [spGen, if_pos ⟨n14, c26⟩]
      obtain ⟨s, hs, hx⟩ := bnd_ex (by omega) n14
      obtain ⟨n, hn0, hn, hy⟩ := bn1_ex c26
      subst hx hy
      rw [cln_nI (by omega), cln_nI (by omega)]
      refine V_aload_n (pc := 35) dX12_generations_35 rfl ?_
      refine V_getR (pc := 36) 12 3 dX12_generations_36 flX12_13 (by decide) h12.o h12.R3 ?_
      refine V_iconst (pc := 39) (v := nI 0) dX12_generations_39 (by decide) ?_
      refine V_ialoadE (pc := 40) dX12_generations_40 h12.A3 (by first | decide | omega) (by omega) (hr.n (by omega)) ?_
      refine V_if_neN (pc := 41) (tgt := 51) dX12_generations_41 (by decide) (by omega) (fun c41 => ?_) (fun n41 => ?_)
      · skip
        rw [if_neg c41]
        have hok := gnr_ok (law := lwf A) hq (by omega) (show s < 2000000 by omega) n
        have hgl := hok.2.2.2
        refine V_aload_n (pc := 51) dX12_generations_51 rfl ?_
        refine V_bipush (pc := 52) (v := nI 16) dX12_generations_52 (by decide) ?_
        refine V_callVn (pc := 54) (ci := 12) (c_X12_keepAll (by first | assumption | omega | exact h12) (by first | assumption | omega | exact h12)) dX12_generations_54 mlX12_188 mkX12_keepAll rfl rfl h12.o ⟨by decide, rfl⟩ ⟨Nat.le_of_ble_eq_true rfl, Nat.le_of_ble_eq_true rfl⟩ (Nat.le_of_ble_eq_true rfl) ⟨Nat.le_of_ble_eq_true rfl, Nat.le_of_ble_eq_true rfl⟩ ?_
        refine V_aload_n (pc := 57) dX12_generations_57 rfl ?_
        refine V_iload_n (pc := 58) dX12_generations_58 rfl ?_
        refine V_i2lN (pc := 59) dX12_generations_59 (by omega) ?_
        refine V_putL (pc := 60) 12 59 dX12_generations_60 flX12_566 (by decide) (by decide) (Or.inl rfl) rfl rfl h12.o ?_
        refine V_iconst (pc := 63) (v := nI 0) dX12_generations_63 (by decide) ?_
        refine V_istore_n (pc := 64) (ls' := [(0, _), (1, _), (2, _), (3, _)]) dX12_generations_64 (by decide) rfl ?_
        refine V_iconst (pc := 65) (v := nI 0) dX12_generations_65 (by decide) ?_
        refine V_istore (pc := 66) (ls' := [(0, _), (1, _), (2, _), (3, _), (4, _)]) dX12_generations_66 (by decide) rfl ?_
        have m1 : MR o (upr I0 (o + 5) (cpy (I0 (o + 2)) (I0 (o + 5)) 5 (75 * 16) 75)) (up2 L o 59 (lN s)) A := by
          have m0 : MR o (upr I0 (o + 5) (cpy (I0 (o + 2)) (I0 (o + 5)) 5 (75 * 16) 75)) L (sun A (aun A)) := by
            refine hM.um (fun a a1 a2 a3 => upr_row a2) (fun i hi => by rw [upr_row (by omega)]) ⟨by rw [upr_row (by omega)]; exact hM.und.1, fun k hk => ?_⟩
            have hk' : k < (aun A).1 := hk
            have hu := hM.und.2 k hk'
            rw [upr_self, upr_row (by omega)]
            refine ⟨fun i i1 i2 i3 => ?_, hu.2⟩
            unfold cpy
            rw [if_neg (by omega)]
            exact hu.1 i i1 i2 i3
          exact MR.dead (I := upr I0 (o + 5) (cpy (I0 (o + 2)) (I0 (o + 5)) 5 (75 * 16) 75)) m0 ⟨fun _ _ => rfl, fun _ _ => rfl, fun a ha => up2_row (by simp at ha; omega)⟩
        refine lp_gen (I1 := I) (L0 := L) h12 (by omega) (by omega) hA hn m1 ⟨rfl, (hF.upr (by omega)).upL (by omega)⟩ up2_self (fun I2 L2 w m2 g2 => ?_)
        have hr2 : RowM I2 (o + 2) (gnr (lwf A) (aq A) s n).1 := m2.row
        have e0 : (gnr (lwf A) (aq A) s n).1 0 = aq A 0 := hok.2.1 0 (by omega)
        refine V_aload_n (pc := 233) dX12_generations_233 rfl ?_
        refine V_aload_n (pc := 234) dX12_generations_234 rfl ?_
        refine V_getR (pc := 235) 12 3 dX12_generations_235 flX12_13 (by decide) h12.o h12.R3 ?_
        refine V_iconst (pc := 238) (v := nI 0) dX12_generations_238 (by decide) ?_
        refine V_ialoadE (pc := 239) dX12_generations_239 h12.A3 (by first | decide | omega) (by omega) (hr2.n (by omega)) ?_
        refine V_putI (pc := 240) 12 61 dX12_generations_240 flX12_172 (by decide) (by decide) (Or.inl rfl) rfl rfl h12.o ?_
        refine V_iconst (pc := 243) (v := nI 0) dX12_generations_243 (by decide) ?_
        refine V_istore (pc := 244) (ls' := [(0, _), (1, _), (2, _), (3, _), (4, _)]) dX12_generations_244 (by decide) rfl ?_
        refine lp_drn (q := (gnr (lwf A) (aq A) s n).1) h12 (hr2.cg (up2_row (by omega))) hok.1 up2_self (fun I3 ha3 hd3 => ?_)
        have m3 : MR o I3 L2 (sdr (sq A (gnr (lwf A) (aq A) s n).1) ((gnr (lwf A) (aq A) s n).1 0 + 1, dra (gnr (lwf A) (aq A) s n).1)) := by
          refine m2.dm (fun a a1 a2 => by rw [ha3 a a2, up2_row a1]) (fun i hi => by rw [ha3 o (by omega), up2_nej hi]) ⟨?_, fun w b hw hb => hd3 w b hw (by have hb' : b + 1 < (gnr (lwf A) (aq A) s n).1 0 + 1 := hb; omega)⟩
          rw [ha3 o (by omega), up2_self]
          exact (pred1_s _).symm
        rw [e0] at m3
        have e5 : I3 (o + 5) = upr I0 (o + 5) (cpy (I0 (o + 2)) (I0 (o + 5)) 5 (75 * 16) 75) (o + 5) := by rw [ha3 (o + 5) (by omega), up2_row (by omega)]; exact g2.1
        rw [upr_self] at e5
        have m4 := MR.pb (A := sdr A (aq A 0 + 1, dra (gnr (lwf A) (aq A) s n).1)) (n := 16) (f := I3 (o + 5)) m3 hok.2.1 (fun i i1 i2 i3 => by
          rw [e5]
          unfold cpy
          rw [if_pos (by omega), show 5 + (75 * 16 + (i - 5) - 75 * 16) = i by omega]
          exact hr i (by omega) i3)
        have f4 : FrM o I3 I L2 L := fun a ha => ⟨by rw [ha3 a (by omega), up2_row (by omega)]; exact (g2.2 a ha).1, (g2.2 a ha).2⟩
        refine V_aload_n (pc := 314) dX12_generations_314 rfl ?_
        refine V_bipush (pc := 315) (v := nI 16) dX12_generations_315 (by decide) ?_
        refine V_callVn (pc := 317) (ci := 12) (c_X12_putBack (by first | assumption | omega | exact h12) (by first | assumption | omega | exact h12)) dX12_generations_317 mlX12_192 mkX12_putBack rfl rfl h12.o ⟨by decide, rfl⟩ ⟨Nat.le_of_ble_eq_true rfl, Nat.le_of_ble_eq_true rfl⟩ (Nat.le_of_ble_eq_true rfl) ⟨Nat.le_of_ble_eq_true rfl, Nat.le_of_ble_eq_true rfl⟩ ?_
        refine V_aload_n (pc := 320) dX12_generations_320 rfl ?_
        refine V_iload_n (pc := 321) dX12_generations_321 rfl ?_
        refine V_callVd (pc := 322) (ci := 12) (c_X12_tell (by first | assumption | omega | exact h12) (by first | assumption | omega | exact h12)) dX12_generations_322 mlX12_184 mkX12_tell rfl rfl h12.o ⟨by decide, rfl⟩ ⟨Nat.le_of_ble_eq_true rfl, Nat.le_of_ble_eq_true rfl⟩ (Nat.le_of_ble_eq_true rfl) ⟨Nat.le_of_ble_eq_true rfl, Nat.le_of_ble_eq_true rfl⟩ ?_
        refine V_iret (pc := 325) dX12_generations_325 rfl (by first | decide | omega) (by first | decide | omega) ?_
        exact ⟨rfl, rfl, m4.hok, (f4.upr (by omega)).up (by omega)⟩
      · skip
        refine V_aload_n (pc := 44) dX12_generations_44 rfl ?_
        refine V_bipush (pc := 45) (v := (-3)) dX12_generations_45 (by decide) ?_
        refine V_callVd (pc := 47) (ci := 12) (c_X12_tellv (r := 3) h12 (by decide) (by decide) (by decide)) dX12_generations_47 mlX12_184 mkX12_tell rfl rfl h12.o ⟨by decide, rfl⟩ ⟨Nat.le_of_ble_eq_true rfl, Nat.le_of_ble_eq_true rfl⟩ (Nat.le_of_ble_eq_true rfl) ⟨Nat.le_of_ble_eq_true rfl, Nat.le_of_ble_eq_true rfl⟩ ?_
        refine V_iret (pc := 50) dX12_generations_50 rfl (by first | decide | omega) (by first | decide | omega) ?_
        rw [if_pos n41]
        exact ⟨rfl, rfl, hM.hrf, hF.hrf⟩
    · skip
      refine V_aload_n (pc := 29) dX12_generations_29 rfl ?_
      refine V_iconst (pc := 30) (v := (-1)) dX12_generations_30 (by decide) ?_
      refine V_callVd (pc := 31) (ci := 12) (c_X12_tellv (r := 1) h12 (by decide) (by decide) (by decide)) dX12_generations_31 mlX12_184 mkX12_tell rfl rfl h12.o ⟨by decide, rfl⟩ ⟨Nat.le_of_ble_eq_true rfl, Nat.le_of_ble_eq_true rfl⟩ (Nat.le_of_ble_eq_true rfl) ⟨Nat.le_of_ble_eq_true rfl, Nat.le_of_ble_eq_true rfl⟩ ?_
      refine V_iret (pc := 34) dX12_generations_34 rfl (by first | decide | omega) (by first | decide | omega) ?_
      first
      | (rw [e6] at c14; rw [spGen, if_neg (fun w => by rw [w.1] at c14; exact absurd c14 (by decide))]; exact ⟨rfl, rfl, hM.hrf, hF.hrf⟩)
      | (rw [e60] at n26; rw [spGen, if_neg (fun w => by rw [w.2] at n26; exact absurd n26 (by decide))]; exact ⟨rfl, rfl, hM.hrf, hF.hrf⟩)
def spDrawn (A : AT) (x y : Int32) : Int32 := if bnd x ((adr A).1 - 1) = true ∧ bnd y 3 = true then nI ((adr A).2 (cln y) (cln x)) else -1
theorem bnd64p {x : Int32} {m : Nat} (hm : m < 2 ^ 31) : decide (lN 0 ≤ x.toInt64 ∧ x.toInt64 ≤ (pred1 m).toInt64 - lN 1) = bnd x (m - 1) := by
  cases m with
  | zero =>
    have h1 : bnd x 0 = false := decide_eq_false (by omega)
    rw [h1]
    refine decide_eq_false (fun z => ?_)
    have h2 := Int64.le_iff_toInt_le.mp z.1
    have h3 := Int64.le_iff_toInt_le.mp z.2
    rw [show (lN 0).toInt = 0 from rfl] at h2
    rw [show ((pred1 0).toInt64 - lN 1).toInt = -2 from by decide] at h3
    omega
  | succ k => rw [pred1_s, nI_l (by omega)]; exact bnd64 (by omega)
theorem c_X12_drawn (h12 : Lay12 E S o) (hM : MR o I L A) (hA : wfA A) {x y : Int32} : Cm E kX12_drawn 1 [.ref o, .int x, .int y] S I L o (.int (spDrawn A x y)) A := by
  have h7 : (adr A).1 ≤ 7 := hA.2.2.2.2.2.2.2.1
  have ep : decide (lN 0 ≤ x.toInt64 ∧ x.toInt64 ≤ (pred1 (adr A).1).toInt64 - lN 1) = bnd x ((adr A).1 - 1) := bnd64p (by omega)
  have e2 : decide (lN 0 ≤ y.toInt64 ∧ y.toInt64 ≤ (2 : Int64)) = bnd y 3 := bnd64' (n := 2) (by omega)
  refine C_of (by decide) (Nat.le_of_ble_eq_true rfl) ?_
  refine V_aload_n (pc := 0) dX12_drawn_0 rfl ?_
  refine V_iconst (pc := 1) (v := nI 0) dX12_drawn_1 (by decide) ?_
  refine V_putI (pc := 2) 12 0 dX12_drawn_2 flX12_175 (by decide) (by decide) (Or.inl rfl) rfl rfl h12.o ?_
  have hM := hM.thrown (v := nI 0)
  have hF : FrM o (up2 I o 0 (nI 0)) I L L := FrM.rf.up (by omega)
  generalize up2 I o 0 (nI 0) = I0 at hM hF ⊢
  have hr := hM.row
  refine V_iload_n (pc := 5) dX12_drawn_5 rfl ?_
  refine V_i2l (pc := 6) dX12_drawn_6 rfl ?_
  refine V_lconst (pc := 7) (v := lN 0) dX12_drawn_7 (by decide) ?_
  refine V_aload_n (pc := 8) dX12_drawn_8 rfl ?_
  refine V_getIE (pc := 9) 12 61 dX12_drawn_9 flX12_172 (by decide) h12.o (hM.dr.1) ?_
  refine V_i2l (pc := 12) dX12_drawn_12 rfl ?_
  refine V_lconst (pc := 13) (v := lN 1) dX12_drawn_13 (by decide) ?_
  refine V_lsub (pc := 14) dX12_drawn_14 ?_
  refine V_callSd (pc := 15) (c_X12_in) dX12_drawn_15 mlX12_195 mkX12_in rfl rfl ⟨Nat.le_of_ble_eq_true rfl, Nat.le_of_ble_eq_true rfl⟩ (Nat.le_of_ble_eq_true rfl) ⟨Nat.le_of_ble_eq_true rfl, Nat.le_of_ble_eq_true rfl⟩ ?_
  refine V_if_eqB (pc := 18) (tgt := 47) dX12_drawn_18 (by decide) (fun c18 => ?_) (fun n18 => ?_)
  · skip
    refine V_iconst (pc := 47) (v := (-1)) dX12_drawn_47 (by decide) ?_
    refine V_iret (pc := 48) dX12_drawn_48 rfl (by first | decide | omega) (by first | decide | omega) ?_
    first
    | exact ⟨rfl, rfl, hM, hF⟩
    | (rw [ep] at c18; rw [spDrawn, if_neg (fun w => by rw [w.1] at c18; exact absurd c18 (by decide))]; exact ⟨rfl, rfl, hM, hF⟩)
    | (rw [e2] at c30; rw [spDrawn, if_neg (fun w => by rw [w.2] at c30; exact absurd c30 (by decide))]; exact ⟨rfl, rfl, hM, hF⟩)
  · skip
    refine V_iload_n (pc := 21) dX12_drawn_21 rfl ?_
    refine V_i2l (pc := 22) dX12_drawn_22 rfl ?_
    refine V_lconst (pc := 23) (v := lN 0) dX12_drawn_23 (by decide) ?_
    refine V_ldc2 (pc := 24) dX12_drawn_24 coX12_522 ?_
    refine V_callSd (pc := 27) (c_X12_in) dX12_drawn_27 mlX12_195 mkX12_in rfl rfl ⟨Nat.le_of_ble_eq_true rfl, Nat.le_of_ble_eq_true rfl⟩ (Nat.le_of_ble_eq_true rfl) ⟨Nat.le_of_ble_eq_true rfl, Nat.le_of_ble_eq_true rfl⟩ ?_
    refine V_if_eqB (pc := 30) (tgt := 47) dX12_drawn_30 (by decide) (fun c30 => ?_) (fun n30 => ?_)
    · skip
      refine V_iconst (pc := 47) (v := (-1)) dX12_drawn_47 (by decide) ?_
      refine V_iret (pc := 48) dX12_drawn_48 rfl (by first | decide | omega) (by first | decide | omega) ?_
      first
      | exact ⟨rfl, rfl, hM, hF⟩
      | (rw [ep] at c18; rw [spDrawn, if_neg (fun w => by rw [w.1] at c18; exact absurd c18 (by decide))]; exact ⟨rfl, rfl, hM, hF⟩)
      | (rw [e2] at c30; rw [spDrawn, if_neg (fun w => by rw [w.2] at c30; exact absurd c30 (by decide))]; exact ⟨rfl, rfl, hM, hF⟩)
    · skip
      rw [ep] at n18
      rw [e2] at n30
      rw [spDrawn, if_pos ⟨n18, n30⟩]
      obtain ⟨b, hb, hx⟩ := bnd_ex (by omega) n18
      obtain ⟨w, hw, hy⟩ := bnd_ex (by omega) n30
      subst hx hy
      rw [cln_nI (by omega), cln_nI (by omega)]
      refine V_aload_n (pc := 33) dX12_drawn_33 rfl ?_
      refine V_getR (pc := 34) 12 60 dX12_drawn_34 flX12_169 (by decide) h12.o h12.R60 ?_
      refine V_bipush (pc := 37) (v := nI 6) dX12_drawn_37 (by decide) ?_
      refine V_iload_n (pc := 39) dX12_drawn_39 rfl ?_
      refine V_imulN (pc := 40) dX12_drawn_40 ?_
      refine V_iload_n (pc := 41) dX12_drawn_41 rfl ?_
      refine V_iaddN (pc := 42) dX12_drawn_42 ?_
      refine V_ialoadE (pc := 43) dX12_drawn_43 h12.A60 (by first | decide | omega) (by omega) (hM.dr.2 w b hw (by omega)) ?_
      refine V_goto (pc := 44) (tgt := 48) dX12_drawn_44 (by decide) ?_
      refine V_iret (pc := 48) dX12_drawn_48 rfl (by first | decide | omega) (by first | decide | omega) ?_
      first
      | exact ⟨rfl, rfl, hM, hF⟩
      | (rw [ep] at c18; rw [spDrawn, if_neg (fun w => by rw [w.1] at c18; exact absurd c18 (by decide))]; exact ⟨rfl, rfl, hM, hF⟩)
      | (rw [e2] at c30; rw [spDrawn, if_neg (fun w => by rw [w.2] at c30; exact absurd c30 (by decide))]; exact ⟨rfl, rfl, hM, hF⟩)
end MI9
