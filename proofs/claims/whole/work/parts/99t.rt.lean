/-! THE READER: words of a box; parts together -/
section RT
variable {E : EnT} {S : ST} {I : IT} {L : LT} {o n m k l d f s : Nat} {t : Nat → Nat} {od : Bool} {c : CT} {F : SF}
theorem rp_lf (h5 : Lay5 E S o) (hb : ∀ i, i < n → t i < 256) (hd : d ≤ 8) (hR : RS I o t n m od k l c) (hc : c.2.2 ≤ k + s) (hs : s ≤ 47) (hl : l ≤ 50) (ho : od = true) (hx : tc t n (pk t n k) = 28 ∨ tc t n (pk t n k) = 18) : C E kX5_readPart (3 * (8 - d) + 1) 0 0 [.ref o, .int (nI d)] S I L (PO o t n m od S L I k l c 2 (ps t n od (f + 1) 2 d (pk t n k) l F)) := by
  have h400 := hR.1.2.2.1
  have h4 := hR.2.2.1
  have h5p := hR.2.2.2.1
  have h6 := hR.2.2.2.2.1
  have htk := hR.tk
  have hkm := hR.2.1
  have hk := hR.lt (by omega)
  have hR1 := hR.go hk
  have h41 := hR1.2.2.1
  have htk1 := hR1.tk
  have hlt1 := tc_lt (n := n) hb (hR1.1.pn hR1.2.1)
  rw [ps_2, if_neg (by omega)]
  refine C_of (by decide) (Nat.le_of_ble_eq_true rfl) ?_
  by_cases h50 : 50 ≤ l
  · rw [if_pos h50]
    refine V_aload_n (pc := 0) dX5_readPart_0 rfl ?_
    refine V_bipush (pc := 1) (v := nI 91) dX5_readPart_1 (by decide) ?_
    refine V_callVd (pc := 3) (ci := 5) (c_X5_isSign (x := 91) h5 hR hb (by omega)) dX5_readPart_3 mlX5_74 mkX5_isSign rfl rfl h5.o ⟨by decide, rfl⟩ (rmS (by omega) (Nat.le_of_ble_eq_true rfl)) (Nat.le_of_ble_eq_true rfl) ⟨Nat.le_of_ble_eq_true rfl, Nat.le_of_ble_eq_true rfl⟩ ?_
    refine V_if_eqB (pc := 6) (tgt := 49) dX5_readPart_6 (by decide) (fun c6 => ?_) (fun n6 => absurd n6 (by rcases hx with hx | hx <;> simp [hx]))
    refine V_aload_n (pc := 49) dX5_readPart_49 rfl ?_
    refine V_getIE (pc := 50) 5 5 dX5_readPart_50 flX5_30 (by decide) h5.o (h5p) ?_
    refine V_bipush (pc := 53) (v := nI 50) dX5_readPart_53 (by decide) ?_
    refine V_icmp_ltN (pc := 55) (tgt := 60) dX5_readPart_55 (by decide) (by omega) (by omega) (fun c55 => absurd c55 (by omega)) (fun n55 => ?_)
    refine V_iconst (pc := 58) (v := nI 0) dX5_readPart_58 (by decide) ?_
    refine V_zretB (pc := 59) (p := false) dX5_readPart_59 rfl rfl (by first | decide | omega) (by first | decide | omega) ?_
    exact ⟨rfl, rfl, FrX5.rf, Or.inl ⟨rfl, rfl, k, hR.2.1, hR.2.2.1, rfl⟩⟩
  rw [if_neg h50, if_neg (by omega), if_pos ho, if_pos hx]
  by_cases h91 : tc t n (nxt t n (pk t n k)) = 91
  · have hnu := hR1.nu h91
    have hk1 := hR1.lt (by rw [pk_s, h91]; decide)
    have hnm : nm t n (pk t n (k + 1)) ≤ 1001 := by unfold nm; omega
    have htk2 : up2 I o 4 (nI (k + 1)) (o + 2) (k + 1) = nI 91 := htk1.trans (by rw [pk_s, h91])
    rw [show nxt t n (pk t n k) = pk t n (k + 1) from rfl] at h91 ⊢
    by_cases h6b : nm t n (pk t n (k + 1)) < 6
    · rw [if_pos ⟨h91, h6b⟩]
      have fin : ∀ (fst : Nat), fst = (if tc t n (pk t n k) = 28 then 12 else 18) → V E kX5_readPart (rmOf (3 * (8 - d) + 1) 0 0) (QM E (PO o t n m od S L I k l c 2 (nxt t n (pk t n (k + 1)), l + 1, some (wordS ((if tc t n (pk t n k) = 28 then 12 else 18) + nm t n (pk t n (k + 1)))))) 0 0) 0 0 S (up2 I o 4 (nI (k + 1))) L 165 [(0, .ref o), (1, .int (nI d)), (2, .int (nI (tc t n (pk t n k) - 16))), (4, .int (nI fst))] [] := by
        intro fst hfst
        rw [← hfst]
        have hf18 : fst ≤ 18 := by rw [hfst]; split <;> omega
        have hf12 : 12 ≤ fst := by rw [hfst]; split <;> omega
        have hRp := hR1.put (a := 2) (x := 1) (b := fst + nm t n (pk t n (k + 1))) rfl (Or.inr (Or.inl rfl)) (by omega) (fun _ => by unfold wdk; rw [if_pos ho]; omega)
        refine V_aload_n (pc := 165) dX5_readPart_165 rfl ?_
        refine V_getR (pc := 166) 5 1 dX5_readPart_166 flX5_17 (by decide) h5.o h5.R1 ?_
        refine V_aload_n (pc := 169) dX5_readPart_169 rfl ?_
        refine V_getIE (pc := 170) 5 4 dX5_readPart_170 flX5_27 (by decide) h5.o (h41) ?_
        refine V_ialoadE (pc := 173) dX5_readPart_173 h5.A1 (by first | decide | omega) (by omega) (htk2) ?_
        refine V_bipush (pc := 174) (v := nI 91) dX5_readPart_174 (by decide) ?_
        refine V_icmp_neN (pc := 176) (tgt := 217) dX5_readPart_176 (by decide) (by omega) (by omega) (fun c176 => absurd c176 (by omega)) (fun n176 => ?_)
        refine V_aload_n (pc := 179) dX5_readPart_179 rfl ?_
        refine V_getR (pc := 180) 5 2 dX5_readPart_180 flX5_20 (by decide) h5.o h5.R2 ?_
        refine V_aload_n (pc := 183) dX5_readPart_183 rfl ?_
        refine V_getIE (pc := 184) 5 4 dX5_readPart_184 flX5_27 (by decide) h5.o (h41) ?_
        refine V_ialoadE (pc := 187) dX5_readPart_187 h5.A2 (by first | decide | omega) (by omega) (hnu) ?_
        refine V_bipush (pc := 188) (v := nI 6) dX5_readPart_188 (by decide) ?_
        refine V_icmp_geN (pc := 190) (tgt := 217) dX5_readPart_190 (by decide) (by omega) (by omega) (fun c190 => absurd c190 (by omega)) (fun n190 => ?_)
        refine V_aload_n (pc := 193) dX5_readPart_193 rfl ?_
        refine V_iconst (pc := 194) (v := nI 2) dX5_readPart_194 (by decide) ?_
        refine V_iload (pc := 195) dX5_readPart_195 rfl ?_
        refine V_aload_n (pc := 197) dX5_readPart_197 rfl ?_
        refine V_getR (pc := 198) 5 2 dX5_readPart_198 flX5_20 (by decide) h5.o h5.R2 ?_
        refine V_aload_n (pc := 201) dX5_readPart_201 rfl ?_
        refine V_getIE (pc := 202) 5 4 dX5_readPart_202 flX5_27 (by decide) h5.o (h41) ?_
        refine V_ialoadE (pc := 205) dX5_readPart_205 h5.A2 (by first | decide | omega) (by omega) (hnu) ?_
        refine V_iaddN (pc := 206) dX5_readPart_206 ?_
        refine V_callVd (pc := 207) (ci := 5) (c_X5_put (a := 2) h5 hR1 (by omega)) dX5_readPart_207 mlX5_131 mkX5_put rfl rfl h5.o ⟨by decide, rfl⟩ (rmS (by omega) (Nat.le_of_ble_eq_true rfl)) (Nat.le_of_ble_eq_true rfl) ⟨Nat.le_of_ble_eq_true rfl, Nat.le_of_ble_eq_true rfl⟩ ?_
        refine V_if_eqB (pc := 210) (tgt := 217) dX5_readPart_210 (by decide) (fun c210 => absurd c210 (by decide)) (fun n210 => ?_)
        refine V_iconst (pc := 213) (v := nI 1) dX5_readPart_213 (by decide) ?_
        refine V_goto (pc := 214) (tgt := 218) dX5_readPart_214 (by decide) ?_
        refine V_istore_n (pc := 218) (ls' := [(0, _), (1, _), (2, _), (3, _), (4, _)]) dX5_readPart_218 (by decide) rfl ?_
        refine V_goto (pc := 219) (tgt := 245) dX5_readPart_219 (by decide) ?_
        refine V_iload_n (pc := 245) dX5_readPart_245 rfl ?_
        refine V_if_eqN (pc := 246) (tgt := 263) dX5_readPart_246 (by decide) (by omega) (fun c246 => absurd c246 (by omega)) (fun n246 => ?_)
        refine V_aload_n (pc := 249) dX5_readPart_249 rfl ?_
        refine V_dup (pc := 250) dX5_readPart_250 rfl ?_
        refine V_getIE (pc := 251) 5 5 dX5_readPart_251 flX5_30 (by decide) h5.o (hRp.2.2.2.1) ?_
        refine V_iconst (pc := 254) (v := nI 1) dX5_readPart_254 (by decide) ?_
        refine V_iaddN (pc := 255) dX5_readPart_255 ?_
        refine V_putI (pc := 256) 5 5 dX5_readPart_256 flX5_30 (by decide) (by decide) (Or.inl rfl) rfl rfl h5.o ?_
        refine V_aload_n (pc := 259) dX5_readPart_259 rfl ?_
        refine V_callVn (pc := 260) (ci := 5) (c_X5_goOn h5 hRp.pt hk1) dX5_readPart_260 mlX5_78 mkX5_goOn rfl rfl h5.o ⟨by decide, rfl⟩ (rmS (by omega) (Nat.le_of_ble_eq_true rfl)) (Nat.le_of_ble_eq_true rfl) ⟨Nat.le_of_ble_eq_true rfl, Nat.le_of_ble_eq_true rfl⟩ ?_
        refine V_iload_n (pc := 263) dX5_readPart_263 rfl ?_
        refine V_zretB (pc := 264) (p := true) dX5_readPart_264 rfl rfl (by first | decide | omega) (by first | decide | omega) ?_
        refine ⟨rfl, rfl, ((FrX5.rf.u (by omega)).pw.u (by omega)).u (by omega), Or.inr ⟨_, rfl, rfl, k + 1 + 1, _, hRp.pt.go hk1, rfl, by omega, ?_, SgR.leaf (by decide) (fun w => rfl), fun h => absurd h (by omega)⟩⟩
        show c.2.2 + 1 + k ≤ c.2.2 + (k + 1 + 1); omega
      rcases hx with hx | hx
      · skip
        refine V_aload_n (pc := 0) dX5_readPart_0 rfl ?_
        refine V_bipush (pc := 1) (v := nI 91) dX5_readPart_1 (by decide) ?_
        refine V_callVd (pc := 3) (ci := 5) (c_X5_isSign (x := 91) h5 hR hb (by omega)) dX5_readPart_3 mlX5_74 mkX5_isSign rfl rfl h5.o ⟨by decide, rfl⟩ (rmS (by omega) (Nat.le_of_ble_eq_true rfl)) (Nat.le_of_ble_eq_true rfl) ⟨Nat.le_of_ble_eq_true rfl, Nat.le_of_ble_eq_true rfl⟩ ?_
        refine V_if_eqB (pc := 6) (tgt := 49) dX5_readPart_6 (by decide) (fun c6 => ?_) (fun n6 => absurd n6 (by simp [hx]))
        refine V_aload_n (pc := 49) dX5_readPart_49 rfl ?_
        refine V_getIE (pc := 50) 5 5 dX5_readPart_50 flX5_30 (by decide) h5.o (h5p) ?_
        refine V_bipush (pc := 53) (v := nI 50) dX5_readPart_53 (by decide) ?_
        refine V_icmp_ltN (pc := 55) (tgt := 60) dX5_readPart_55 (by decide) (by omega) (by omega) (fun c55 => ?_) (fun n55 => absurd n55 (by omega))
        refine V_aload_n (pc := 60) dX5_readPart_60 rfl ?_
        refine V_getR (pc := 61) 5 1 dX5_readPart_61 flX5_17 (by decide) h5.o h5.R1 ?_
        refine V_aload_n (pc := 64) dX5_readPart_64 rfl ?_
        refine V_getIE (pc := 65) 5 4 dX5_readPart_65 flX5_27 (by decide) h5.o (h4) ?_
        refine V_ialoadE (pc := 68) dX5_readPart_68 h5.A1 (by first | decide | omega) (by omega) (htk) ?_
        refine V_bipush (pc := 69) (v := nI 16) dX5_readPart_69 (by decide) ?_
        refine V_isubN (pc := 71) dX5_readPart_71 (by omega) ?_
        refine V_istore_n (pc := 72) (ls' := [(0, _), (1, _), (2, _)]) dX5_readPart_72 (by decide) rfl ?_
        refine V_aload_n (pc := 73) dX5_readPart_73 rfl ?_
        refine V_getR (pc := 74) 5 1 dX5_readPart_74 flX5_17 (by decide) h5.o h5.R1 ?_
        refine V_aload_n (pc := 77) dX5_readPart_77 rfl ?_
        refine V_getIE (pc := 78) 5 4 dX5_readPart_78 flX5_27 (by decide) h5.o (h4) ?_
        refine V_ialoadE (pc := 81) dX5_readPart_81 h5.A1 (by first | decide | omega) (by omega) (htk) ?_
        refine V_bipush (pc := 82) (v := nI 91) dX5_readPart_82 (by decide) ?_
        refine V_icmp_neN (pc := 84) (tgt := 128) dX5_readPart_84 (by decide) (by omega) (by omega) (fun c84 => ?_) (fun n84 => absurd n84 (by omega))
        refine V_aload_n (pc := 128) dX5_readPart_128 rfl ?_
        refine V_getIE (pc := 129) 5 6 dX5_readPart_129 flX5_33 (by decide) h5.o (h6) ?_
        refine V_if_eqB (pc := 132) (tgt := 222) dX5_readPart_132 (by decide) (fun c132 => absurd c132 (by simp [ho])) (fun n132 => ?_)
        refine V_iload_n (pc := 135) dX5_readPart_135 rfl ?_
        refine V_bipush (pc := 136) (v := nI 12) dX5_readPart_136 (by decide) ?_
        refine V_icmp_eqN (pc := 138) (tgt := 146) dX5_readPart_138 (by decide) (by omega) (by omega) (fun c138 => ?_) (fun n138 => absurd n138 (by omega))
        refine V_aload_n (pc := 146) dX5_readPart_146 rfl ?_
        refine V_callVn (pc := 147) (ci := 5) (c_X5_goOn h5 hR hk) dX5_readPart_147 mlX5_78 mkX5_goOn rfl rfl h5.o ⟨by decide, rfl⟩ (rmS (by omega) (Nat.le_of_ble_eq_true rfl)) (Nat.le_of_ble_eq_true rfl) ⟨Nat.le_of_ble_eq_true rfl, Nat.le_of_ble_eq_true rfl⟩ ?_
        refine V_iload_n (pc := 150) dX5_readPart_150 rfl ?_
        refine V_bipush (pc := 151) (v := nI 12) dX5_readPart_151 (by decide) ?_
        refine V_icmp_neN (pc := 153) (tgt := 161) dX5_readPart_153 (by decide) (by omega) (by omega) (fun c153 => absurd c153 (by omega)) (fun n153 => ?_)
        refine V_bipush (pc := 156) (v := nI 12) dX5_readPart_156 (by decide) ?_
        refine V_goto (pc := 158) (tgt := 163) dX5_readPart_158 (by decide) ?_
        refine V_istore (pc := 163) (ls' := [(0, _), (1, _), (2, _), (4, _)]) dX5_readPart_163 (by decide) rfl ?_
        exact fin 12 (by rw [if_pos hx])
      · skip
        refine V_aload_n (pc := 0) dX5_readPart_0 rfl ?_
        refine V_bipush (pc := 1) (v := nI 91) dX5_readPart_1 (by decide) ?_
        refine V_callVd (pc := 3) (ci := 5) (c_X5_isSign (x := 91) h5 hR hb (by omega)) dX5_readPart_3 mlX5_74 mkX5_isSign rfl rfl h5.o ⟨by decide, rfl⟩ (rmS (by omega) (Nat.le_of_ble_eq_true rfl)) (Nat.le_of_ble_eq_true rfl) ⟨Nat.le_of_ble_eq_true rfl, Nat.le_of_ble_eq_true rfl⟩ ?_
        refine V_if_eqB (pc := 6) (tgt := 49) dX5_readPart_6 (by decide) (fun c6 => ?_) (fun n6 => absurd n6 (by simp [hx]))
        refine V_aload_n (pc := 49) dX5_readPart_49 rfl ?_
        refine V_getIE (pc := 50) 5 5 dX5_readPart_50 flX5_30 (by decide) h5.o (h5p) ?_
        refine V_bipush (pc := 53) (v := nI 50) dX5_readPart_53 (by decide) ?_
        refine V_icmp_ltN (pc := 55) (tgt := 60) dX5_readPart_55 (by decide) (by omega) (by omega) (fun c55 => ?_) (fun n55 => absurd n55 (by omega))
        refine V_aload_n (pc := 60) dX5_readPart_60 rfl ?_
        refine V_getR (pc := 61) 5 1 dX5_readPart_61 flX5_17 (by decide) h5.o h5.R1 ?_
        refine V_aload_n (pc := 64) dX5_readPart_64 rfl ?_
        refine V_getIE (pc := 65) 5 4 dX5_readPart_65 flX5_27 (by decide) h5.o (h4) ?_
        refine V_ialoadE (pc := 68) dX5_readPart_68 h5.A1 (by first | decide | omega) (by omega) (htk) ?_
        refine V_bipush (pc := 69) (v := nI 16) dX5_readPart_69 (by decide) ?_
        refine V_isubN (pc := 71) dX5_readPart_71 (by omega) ?_
        refine V_istore_n (pc := 72) (ls' := [(0, _), (1, _), (2, _)]) dX5_readPart_72 (by decide) rfl ?_
        refine V_aload_n (pc := 73) dX5_readPart_73 rfl ?_
        refine V_getR (pc := 74) 5 1 dX5_readPart_74 flX5_17 (by decide) h5.o h5.R1 ?_
        refine V_aload_n (pc := 77) dX5_readPart_77 rfl ?_
        refine V_getIE (pc := 78) 5 4 dX5_readPart_78 flX5_27 (by decide) h5.o (h4) ?_
        refine V_ialoadE (pc := 81) dX5_readPart_81 h5.A1 (by first | decide | omega) (by omega) (htk) ?_
        refine V_bipush (pc := 82) (v := nI 91) dX5_readPart_82 (by decide) ?_
        refine V_icmp_neN (pc := 84) (tgt := 128) dX5_readPart_84 (by decide) (by omega) (by omega) (fun c84 => ?_) (fun n84 => absurd n84 (by omega))
        refine V_aload_n (pc := 128) dX5_readPart_128 rfl ?_
        refine V_getIE (pc := 129) 5 6 dX5_readPart_129 flX5_33 (by decide) h5.o (h6) ?_
        refine V_if_eqB (pc := 132) (tgt := 222) dX5_readPart_132 (by decide) (fun c132 => absurd c132 (by simp [ho])) (fun n132 => ?_)
        refine V_iload_n (pc := 135) dX5_readPart_135 rfl ?_
        refine V_bipush (pc := 136) (v := nI 12) dX5_readPart_136 (by decide) ?_
        refine V_icmp_eqN (pc := 138) (tgt := 146) dX5_readPart_138 (by decide) (by omega) (by omega) (fun c138 => absurd c138 (by omega)) (fun n138 => ?_)
        refine V_iload_n (pc := 141) dX5_readPart_141 rfl ?_
        refine V_iconst (pc := 142) (v := nI 2) dX5_readPart_142 (by decide) ?_
        refine V_icmp_neN (pc := 143) (tgt := 222) dX5_readPart_143 (by decide) (by omega) (by omega) (fun c143 => absurd c143 (by omega)) (fun n143 => ?_)
        refine V_aload_n (pc := 146) dX5_readPart_146 rfl ?_
        refine V_callVn (pc := 147) (ci := 5) (c_X5_goOn h5 hR hk) dX5_readPart_147 mlX5_78 mkX5_goOn rfl rfl h5.o ⟨by decide, rfl⟩ (rmS (by omega) (Nat.le_of_ble_eq_true rfl)) (Nat.le_of_ble_eq_true rfl) ⟨Nat.le_of_ble_eq_true rfl, Nat.le_of_ble_eq_true rfl⟩ ?_
        refine V_iload_n (pc := 150) dX5_readPart_150 rfl ?_
        refine V_bipush (pc := 151) (v := nI 12) dX5_readPart_151 (by decide) ?_
        refine V_icmp_neN (pc := 153) (tgt := 161) dX5_readPart_153 (by decide) (by omega) (by omega) (fun c153 => ?_) (fun n153 => absurd n153 (by omega))
        refine V_bipush (pc := 161) (v := nI 18) dX5_readPart_161 (by decide) ?_
        refine V_istore (pc := 163) (ls' := [(0, _), (1, _), (2, _), (4, _)]) dX5_readPart_163 (by decide) rfl ?_
        exact fin 18 (by rw [if_neg (by omega)])
    · rw [if_neg (fun z => h6b z.2)]
      refine V_aload_n (pc := 0) dX5_readPart_0 rfl ?_
      refine V_bipush (pc := 1) (v := nI 91) dX5_readPart_1 (by decide) ?_
      refine V_callVd (pc := 3) (ci := 5) (c_X5_isSign (x := 91) h5 hR hb (by omega)) dX5_readPart_3 mlX5_74 mkX5_isSign rfl rfl h5.o ⟨by decide, rfl⟩ (rmS (by omega) (Nat.le_of_ble_eq_true rfl)) (Nat.le_of_ble_eq_true rfl) ⟨Nat.le_of_ble_eq_true rfl, Nat.le_of_ble_eq_true rfl⟩ ?_
      refine V_if_eqB (pc := 6) (tgt := 49) dX5_readPart_6 (by decide) (fun c6 => ?_) (fun n6 => absurd n6 (by rcases hx with hx | hx <;> simp [hx]))
      refine V_aload_n (pc := 49) dX5_readPart_49 rfl ?_
      refine V_getIE (pc := 50) 5 5 dX5_readPart_50 flX5_30 (by decide) h5.o (h5p) ?_
      refine V_bipush (pc := 53) (v := nI 50) dX5_readPart_53 (by decide) ?_
      refine V_icmp_ltN (pc := 55) (tgt := 60) dX5_readPart_55 (by decide) (by omega) (by omega) (fun c55 => ?_) (fun n55 => absurd n55 (by omega))
      refine V_aload_n (pc := 60) dX5_readPart_60 rfl ?_
      refine V_getR (pc := 61) 5 1 dX5_readPart_61 flX5_17 (by decide) h5.o h5.R1 ?_
      refine V_aload_n (pc := 64) dX5_readPart_64 rfl ?_
      refine V_getIE (pc := 65) 5 4 dX5_readPart_65 flX5_27 (by decide) h5.o (h4) ?_
      refine V_ialoadE (pc := 68) dX5_readPart_68 h5.A1 (by first | decide | omega) (by omega) (htk) ?_
      refine V_bipush (pc := 69) (v := nI 16) dX5_readPart_69 (by decide) ?_
      refine V_isubN (pc := 71) dX5_readPart_71 (by omega) ?_
      refine V_istore_n (pc := 72) (ls' := [(0, _), (1, _), (2, _)]) dX5_readPart_72 (by decide) rfl ?_
      refine V_aload_n (pc := 73) dX5_readPart_73 rfl ?_
      refine V_getR (pc := 74) 5 1 dX5_readPart_74 flX5_17 (by decide) h5.o h5.R1 ?_
      refine V_aload_n (pc := 77) dX5_readPart_77 rfl ?_
      refine V_getIE (pc := 78) 5 4 dX5_readPart_78 flX5_27 (by decide) h5.o (h4) ?_
      refine V_ialoadE (pc := 81) dX5_readPart_81 h5.A1 (by first | decide | omega) (by omega) (htk) ?_
      refine V_bipush (pc := 82) (v := nI 91) dX5_readPart_82 (by decide) ?_
      refine V_icmp_neN (pc := 84) (tgt := 128) dX5_readPart_84 (by decide) (by omega) (by omega) (fun c84 => ?_) (fun n84 => absurd n84 (by omega))
      refine V_aload_n (pc := 128) dX5_readPart_128 rfl ?_
      refine V_getIE (pc := 129) 5 6 dX5_readPart_129 flX5_33 (by decide) h5.o (h6) ?_
      refine V_if_eqB (pc := 132) (tgt := 222) dX5_readPart_132 (by decide) (fun c132 => absurd c132 (by simp [ho])) (fun n132 => ?_)
      refine V_iload_n (pc := 135) dX5_readPart_135 rfl ?_
      refine V_bipush (pc := 136) (v := nI 12) dX5_readPart_136 (by decide) ?_
      refine V_icmp_eqN (pc := 138) (tgt := 146) dX5_readPart_138 (by decide) (by omega) (by omega) (fun c138 => ?_) (fun n138 => ?_)
      · skip
        refine V_aload_n (pc := 146) dX5_readPart_146 rfl ?_
        refine V_callVn (pc := 147) (ci := 5) (c_X5_goOn h5 hR hk) dX5_readPart_147 mlX5_78 mkX5_goOn rfl rfl h5.o ⟨by decide, rfl⟩ (rmS (by omega) (Nat.le_of_ble_eq_true rfl)) (Nat.le_of_ble_eq_true rfl) ⟨Nat.le_of_ble_eq_true rfl, Nat.le_of_ble_eq_true rfl⟩ ?_
        refine V_iload_n (pc := 150) dX5_readPart_150 rfl ?_
        refine V_bipush (pc := 151) (v := nI 12) dX5_readPart_151 (by decide) ?_
        refine V_icmp_neN (pc := 153) (tgt := 161) dX5_readPart_153 (by decide) (by omega) (by omega) (fun c153 => ?_) (fun n153 => ?_)
        · skip
          refine V_bipush (pc := 161) (v := nI 18) dX5_readPart_161 (by decide) ?_
          refine V_istore (pc := 163) (ls' := [(0, _), (1, _), (2, _), (4, _)]) dX5_readPart_163 (by decide) rfl ?_
          refine V_aload_n (pc := 165) dX5_readPart_165 rfl ?_
          refine V_getR (pc := 166) 5 1 dX5_readPart_166 flX5_17 (by decide) h5.o h5.R1 ?_
          refine V_aload_n (pc := 169) dX5_readPart_169 rfl ?_
          refine V_getIE (pc := 170) 5 4 dX5_readPart_170 flX5_27 (by decide) h5.o (h41) ?_
          refine V_ialoadE (pc := 173) dX5_readPart_173 h5.A1 (by first | decide | omega) (by omega) (htk2) ?_
          refine V_bipush (pc := 174) (v := nI 91) dX5_readPart_174 (by decide) ?_
          refine V_icmp_neN (pc := 176) (tgt := 217) dX5_readPart_176 (by decide) (by omega) (by omega) (fun c176 => absurd c176 (by omega)) (fun n176 => ?_)
          refine V_aload_n (pc := 179) dX5_readPart_179 rfl ?_
          refine V_getR (pc := 180) 5 2 dX5_readPart_180 flX5_20 (by decide) h5.o h5.R2 ?_
          refine V_aload_n (pc := 183) dX5_readPart_183 rfl ?_
          refine V_getIE (pc := 184) 5 4 dX5_readPart_184 flX5_27 (by decide) h5.o (h41) ?_
          refine V_ialoadE (pc := 187) dX5_readPart_187 h5.A2 (by first | decide | omega) (by omega) (hnu) ?_
          refine V_bipush (pc := 188) (v := nI 6) dX5_readPart_188 (by decide) ?_
          refine V_icmp_geN (pc := 190) (tgt := 217) dX5_readPart_190 (by decide) (by omega) (by omega) (fun c190 => ?_) (fun n190 => absurd n190 (by omega))
          refine V_iconst (pc := 217) (v := nI 0) dX5_readPart_217 (by decide) ?_
          refine V_istore_n (pc := 218) (ls' := [(0, _), (1, _), (2, _), (3, _), (4, _)]) dX5_readPart_218 (by decide) rfl ?_
          refine V_goto (pc := 219) (tgt := 245) dX5_readPart_219 (by decide) ?_
          refine V_iload_n (pc := 245) dX5_readPart_245 rfl ?_
          refine V_if_eqN (pc := 246) (tgt := 263) dX5_readPart_246 (by decide) (by omega) (fun c246 => ?_) (fun n246 => absurd n246 (by omega))
          refine V_iload_n (pc := 263) dX5_readPart_263 rfl ?_
          refine V_zretB (pc := 264) (p := false) dX5_readPart_264 rfl rfl (by first | decide | omega) (by first | decide | omega) ?_
          exact ⟨rfl, rfl, FrX5.rf.u (by omega), Or.inl ⟨rfl, rfl, k + 1, hk, h41, rfl⟩⟩
        · skip
          refine V_bipush (pc := 156) (v := nI 12) dX5_readPart_156 (by decide) ?_
          refine V_goto (pc := 158) (tgt := 163) dX5_readPart_158 (by decide) ?_
          refine V_istore (pc := 163) (ls' := [(0, _), (1, _), (2, _), (4, _)]) dX5_readPart_163 (by decide) rfl ?_
          refine V_aload_n (pc := 165) dX5_readPart_165 rfl ?_
          refine V_getR (pc := 166) 5 1 dX5_readPart_166 flX5_17 (by decide) h5.o h5.R1 ?_
          refine V_aload_n (pc := 169) dX5_readPart_169 rfl ?_
          refine V_getIE (pc := 170) 5 4 dX5_readPart_170 flX5_27 (by decide) h5.o (h41) ?_
          refine V_ialoadE (pc := 173) dX5_readPart_173 h5.A1 (by first | decide | omega) (by omega) (htk2) ?_
          refine V_bipush (pc := 174) (v := nI 91) dX5_readPart_174 (by decide) ?_
          refine V_icmp_neN (pc := 176) (tgt := 217) dX5_readPart_176 (by decide) (by omega) (by omega) (fun c176 => absurd c176 (by omega)) (fun n176 => ?_)
          refine V_aload_n (pc := 179) dX5_readPart_179 rfl ?_
          refine V_getR (pc := 180) 5 2 dX5_readPart_180 flX5_20 (by decide) h5.o h5.R2 ?_
          refine V_aload_n (pc := 183) dX5_readPart_183 rfl ?_
          refine V_getIE (pc := 184) 5 4 dX5_readPart_184 flX5_27 (by decide) h5.o (h41) ?_
          refine V_ialoadE (pc := 187) dX5_readPart_187 h5.A2 (by first | decide | omega) (by omega) (hnu) ?_
          refine V_bipush (pc := 188) (v := nI 6) dX5_readPart_188 (by decide) ?_
          refine V_icmp_geN (pc := 190) (tgt := 217) dX5_readPart_190 (by decide) (by omega) (by omega) (fun c190 => ?_) (fun n190 => absurd n190 (by omega))
          refine V_iconst (pc := 217) (v := nI 0) dX5_readPart_217 (by decide) ?_
          refine V_istore_n (pc := 218) (ls' := [(0, _), (1, _), (2, _), (3, _), (4, _)]) dX5_readPart_218 (by decide) rfl ?_
          refine V_goto (pc := 219) (tgt := 245) dX5_readPart_219 (by decide) ?_
          refine V_iload_n (pc := 245) dX5_readPart_245 rfl ?_
          refine V_if_eqN (pc := 246) (tgt := 263) dX5_readPart_246 (by decide) (by omega) (fun c246 => ?_) (fun n246 => absurd n246 (by omega))
          refine V_iload_n (pc := 263) dX5_readPart_263 rfl ?_
          refine V_zretB (pc := 264) (p := false) dX5_readPart_264 rfl rfl (by first | decide | omega) (by first | decide | omega) ?_
          exact ⟨rfl, rfl, FrX5.rf.u (by omega), Or.inl ⟨rfl, rfl, k + 1, hk, h41, rfl⟩⟩
      · skip
        refine V_iload_n (pc := 141) dX5_readPart_141 rfl ?_
        refine V_iconst (pc := 142) (v := nI 2) dX5_readPart_142 (by decide) ?_
        refine V_icmp_neN (pc := 143) (tgt := 222) dX5_readPart_143 (by decide) (by omega) (by omega) (fun c143 => absurd c143 (by omega)) (fun n143 => ?_)
        refine V_aload_n (pc := 146) dX5_readPart_146 rfl ?_
        refine V_callVn (pc := 147) (ci := 5) (c_X5_goOn h5 hR hk) dX5_readPart_147 mlX5_78 mkX5_goOn rfl rfl h5.o ⟨by decide, rfl⟩ (rmS (by omega) (Nat.le_of_ble_eq_true rfl)) (Nat.le_of_ble_eq_true rfl) ⟨Nat.le_of_ble_eq_true rfl, Nat.le_of_ble_eq_true rfl⟩ ?_
        refine V_iload_n (pc := 150) dX5_readPart_150 rfl ?_
        refine V_bipush (pc := 151) (v := nI 12) dX5_readPart_151 (by decide) ?_
        refine V_icmp_neN (pc := 153) (tgt := 161) dX5_readPart_153 (by decide) (by omega) (by omega) (fun c153 => ?_) (fun n153 => ?_)
        · skip
          refine V_bipush (pc := 161) (v := nI 18) dX5_readPart_161 (by decide) ?_
          refine V_istore (pc := 163) (ls' := [(0, _), (1, _), (2, _), (4, _)]) dX5_readPart_163 (by decide) rfl ?_
          refine V_aload_n (pc := 165) dX5_readPart_165 rfl ?_
          refine V_getR (pc := 166) 5 1 dX5_readPart_166 flX5_17 (by decide) h5.o h5.R1 ?_
          refine V_aload_n (pc := 169) dX5_readPart_169 rfl ?_
          refine V_getIE (pc := 170) 5 4 dX5_readPart_170 flX5_27 (by decide) h5.o (h41) ?_
          refine V_ialoadE (pc := 173) dX5_readPart_173 h5.A1 (by first | decide | omega) (by omega) (htk2) ?_
          refine V_bipush (pc := 174) (v := nI 91) dX5_readPart_174 (by decide) ?_
          refine V_icmp_neN (pc := 176) (tgt := 217) dX5_readPart_176 (by decide) (by omega) (by omega) (fun c176 => absurd c176 (by omega)) (fun n176 => ?_)
          refine V_aload_n (pc := 179) dX5_readPart_179 rfl ?_
          refine V_getR (pc := 180) 5 2 dX5_readPart_180 flX5_20 (by decide) h5.o h5.R2 ?_
          refine V_aload_n (pc := 183) dX5_readPart_183 rfl ?_
          refine V_getIE (pc := 184) 5 4 dX5_readPart_184 flX5_27 (by decide) h5.o (h41) ?_
          refine V_ialoadE (pc := 187) dX5_readPart_187 h5.A2 (by first | decide | omega) (by omega) (hnu) ?_
          refine V_bipush (pc := 188) (v := nI 6) dX5_readPart_188 (by decide) ?_
          refine V_icmp_geN (pc := 190) (tgt := 217) dX5_readPart_190 (by decide) (by omega) (by omega) (fun c190 => ?_) (fun n190 => absurd n190 (by omega))
          refine V_iconst (pc := 217) (v := nI 0) dX5_readPart_217 (by decide) ?_
          refine V_istore_n (pc := 218) (ls' := [(0, _), (1, _), (2, _), (3, _), (4, _)]) dX5_readPart_218 (by decide) rfl ?_
          refine V_goto (pc := 219) (tgt := 245) dX5_readPart_219 (by decide) ?_
          refine V_iload_n (pc := 245) dX5_readPart_245 rfl ?_
          refine V_if_eqN (pc := 246) (tgt := 263) dX5_readPart_246 (by decide) (by omega) (fun c246 => ?_) (fun n246 => absurd n246 (by omega))
          refine V_iload_n (pc := 263) dX5_readPart_263 rfl ?_
          refine V_zretB (pc := 264) (p := false) dX5_readPart_264 rfl rfl (by first | decide | omega) (by first | decide | omega) ?_
          exact ⟨rfl, rfl, FrX5.rf.u (by omega), Or.inl ⟨rfl, rfl, k + 1, hk, h41, rfl⟩⟩
        · skip
          refine V_bipush (pc := 156) (v := nI 12) dX5_readPart_156 (by decide) ?_
          refine V_goto (pc := 158) (tgt := 163) dX5_readPart_158 (by decide) ?_
          refine V_istore (pc := 163) (ls' := [(0, _), (1, _), (2, _), (4, _)]) dX5_readPart_163 (by decide) rfl ?_
          refine V_aload_n (pc := 165) dX5_readPart_165 rfl ?_
          refine V_getR (pc := 166) 5 1 dX5_readPart_166 flX5_17 (by decide) h5.o h5.R1 ?_
          refine V_aload_n (pc := 169) dX5_readPart_169 rfl ?_
          refine V_getIE (pc := 170) 5 4 dX5_readPart_170 flX5_27 (by decide) h5.o (h41) ?_
          refine V_ialoadE (pc := 173) dX5_readPart_173 h5.A1 (by first | decide | omega) (by omega) (htk2) ?_
          refine V_bipush (pc := 174) (v := nI 91) dX5_readPart_174 (by decide) ?_
          refine V_icmp_neN (pc := 176) (tgt := 217) dX5_readPart_176 (by decide) (by omega) (by omega) (fun c176 => absurd c176 (by omega)) (fun n176 => ?_)
          refine V_aload_n (pc := 179) dX5_readPart_179 rfl ?_
          refine V_getR (pc := 180) 5 2 dX5_readPart_180 flX5_20 (by decide) h5.o h5.R2 ?_
          refine V_aload_n (pc := 183) dX5_readPart_183 rfl ?_
          refine V_getIE (pc := 184) 5 4 dX5_readPart_184 flX5_27 (by decide) h5.o (h41) ?_
          refine V_ialoadE (pc := 187) dX5_readPart_187 h5.A2 (by first | decide | omega) (by omega) (hnu) ?_
          refine V_bipush (pc := 188) (v := nI 6) dX5_readPart_188 (by decide) ?_
          refine V_icmp_geN (pc := 190) (tgt := 217) dX5_readPart_190 (by decide) (by omega) (by omega) (fun c190 => ?_) (fun n190 => absurd n190 (by omega))
          refine V_iconst (pc := 217) (v := nI 0) dX5_readPart_217 (by decide) ?_
          refine V_istore_n (pc := 218) (ls' := [(0, _), (1, _), (2, _), (3, _), (4, _)]) dX5_readPart_218 (by decide) rfl ?_
          refine V_goto (pc := 219) (tgt := 245) dX5_readPart_219 (by decide) ?_
          refine V_iload_n (pc := 245) dX5_readPart_245 rfl ?_
          refine V_if_eqN (pc := 246) (tgt := 263) dX5_readPart_246 (by decide) (by omega) (fun c246 => ?_) (fun n246 => absurd n246 (by omega))
          refine V_iload_n (pc := 263) dX5_readPart_263 rfl ?_
          refine V_zretB (pc := 264) (p := false) dX5_readPart_264 rfl rfl (by first | decide | omega) (by first | decide | omega) ?_
          exact ⟨rfl, rfl, FrX5.rf.u (by omega), Or.inl ⟨rfl, rfl, k + 1, hk, h41, rfl⟩⟩
  · rw [if_neg (fun z => h91 z.1)]
    rw [show nxt t n (pk t n k) = pk t n (k + 1) from rfl] at h91 ⊢
    refine V_aload_n (pc := 0) dX5_readPart_0 rfl ?_
    refine V_bipush (pc := 1) (v := nI 91) dX5_readPart_1 (by decide) ?_
    refine V_callVd (pc := 3) (ci := 5) (c_X5_isSign (x := 91) h5 hR hb (by omega)) dX5_readPart_3 mlX5_74 mkX5_isSign rfl rfl h5.o ⟨by decide, rfl⟩ (rmS (by omega) (Nat.le_of_ble_eq_true rfl)) (Nat.le_of_ble_eq_true rfl) ⟨Nat.le_of_ble_eq_true rfl, Nat.le_of_ble_eq_true rfl⟩ ?_
    refine V_if_eqB (pc := 6) (tgt := 49) dX5_readPart_6 (by decide) (fun c6 => ?_) (fun n6 => absurd n6 (by rcases hx with hx | hx <;> simp [hx]))
    refine V_aload_n (pc := 49) dX5_readPart_49 rfl ?_
    refine V_getIE (pc := 50) 5 5 dX5_readPart_50 flX5_30 (by decide) h5.o (h5p) ?_
    refine V_bipush (pc := 53) (v := nI 50) dX5_readPart_53 (by decide) ?_
    refine V_icmp_ltN (pc := 55) (tgt := 60) dX5_readPart_55 (by decide) (by omega) (by omega) (fun c55 => ?_) (fun n55 => absurd n55 (by omega))
    refine V_aload_n (pc := 60) dX5_readPart_60 rfl ?_
    refine V_getR (pc := 61) 5 1 dX5_readPart_61 flX5_17 (by decide) h5.o h5.R1 ?_
    refine V_aload_n (pc := 64) dX5_readPart_64 rfl ?_
    refine V_getIE (pc := 65) 5 4 dX5_readPart_65 flX5_27 (by decide) h5.o (h4) ?_
    refine V_ialoadE (pc := 68) dX5_readPart_68 h5.A1 (by first | decide | omega) (by omega) (htk) ?_
    refine V_bipush (pc := 69) (v := nI 16) dX5_readPart_69 (by decide) ?_
    refine V_isubN (pc := 71) dX5_readPart_71 (by omega) ?_
    refine V_istore_n (pc := 72) (ls' := [(0, _), (1, _), (2, _)]) dX5_readPart_72 (by decide) rfl ?_
    refine V_aload_n (pc := 73) dX5_readPart_73 rfl ?_
    refine V_getR (pc := 74) 5 1 dX5_readPart_74 flX5_17 (by decide) h5.o h5.R1 ?_
    refine V_aload_n (pc := 77) dX5_readPart_77 rfl ?_
    refine V_getIE (pc := 78) 5 4 dX5_readPart_78 flX5_27 (by decide) h5.o (h4) ?_
    refine V_ialoadE (pc := 81) dX5_readPart_81 h5.A1 (by first | decide | omega) (by omega) (htk) ?_
    refine V_bipush (pc := 82) (v := nI 91) dX5_readPart_82 (by decide) ?_
    refine V_icmp_neN (pc := 84) (tgt := 128) dX5_readPart_84 (by decide) (by omega) (by omega) (fun c84 => ?_) (fun n84 => absurd n84 (by omega))
    refine V_aload_n (pc := 128) dX5_readPart_128 rfl ?_
    refine V_getIE (pc := 129) 5 6 dX5_readPart_129 flX5_33 (by decide) h5.o (h6) ?_
    refine V_if_eqB (pc := 132) (tgt := 222) dX5_readPart_132 (by decide) (fun c132 => absurd c132 (by simp [ho])) (fun n132 => ?_)
    refine V_iload_n (pc := 135) dX5_readPart_135 rfl ?_
    refine V_bipush (pc := 136) (v := nI 12) dX5_readPart_136 (by decide) ?_
    refine V_icmp_eqN (pc := 138) (tgt := 146) dX5_readPart_138 (by decide) (by omega) (by omega) (fun c138 => ?_) (fun n138 => ?_)
    · skip
      refine V_aload_n (pc := 146) dX5_readPart_146 rfl ?_
      refine V_callVn (pc := 147) (ci := 5) (c_X5_goOn h5 hR hk) dX5_readPart_147 mlX5_78 mkX5_goOn rfl rfl h5.o ⟨by decide, rfl⟩ (rmS (by omega) (Nat.le_of_ble_eq_true rfl)) (Nat.le_of_ble_eq_true rfl) ⟨Nat.le_of_ble_eq_true rfl, Nat.le_of_ble_eq_true rfl⟩ ?_
      refine V_iload_n (pc := 150) dX5_readPart_150 rfl ?_
      refine V_bipush (pc := 151) (v := nI 12) dX5_readPart_151 (by decide) ?_
      refine V_icmp_neN (pc := 153) (tgt := 161) dX5_readPart_153 (by decide) (by omega) (by omega) (fun c153 => ?_) (fun n153 => ?_)
      · skip
        refine V_bipush (pc := 161) (v := nI 18) dX5_readPart_161 (by decide) ?_
        refine V_istore (pc := 163) (ls' := [(0, _), (1, _), (2, _), (4, _)]) dX5_readPart_163 (by decide) rfl ?_
        refine V_aload_n (pc := 165) dX5_readPart_165 rfl ?_
        refine V_getR (pc := 166) 5 1 dX5_readPart_166 flX5_17 (by decide) h5.o h5.R1 ?_
        refine V_aload_n (pc := 169) dX5_readPart_169 rfl ?_
        refine V_getIE (pc := 170) 5 4 dX5_readPart_170 flX5_27 (by decide) h5.o (h41) ?_
        refine V_ialoadE (pc := 173) dX5_readPart_173 h5.A1 (by first | decide | omega) (by omega) (htk1) ?_
        refine V_bipush (pc := 174) (v := nI 91) dX5_readPart_174 (by decide) ?_
        refine V_icmp_neN (pc := 176) (tgt := 217) dX5_readPart_176 (by decide) (by omega) (by omega) (fun c176 => ?_) (fun n176 => absurd n176 (by omega))
        refine V_iconst (pc := 217) (v := nI 0) dX5_readPart_217 (by decide) ?_
        refine V_istore_n (pc := 218) (ls' := [(0, _), (1, _), (2, _), (3, _), (4, _)]) dX5_readPart_218 (by decide) rfl ?_
        refine V_goto (pc := 219) (tgt := 245) dX5_readPart_219 (by decide) ?_
        refine V_iload_n (pc := 245) dX5_readPart_245 rfl ?_
        refine V_if_eqN (pc := 246) (tgt := 263) dX5_readPart_246 (by decide) (by omega) (fun c246 => ?_) (fun n246 => absurd n246 (by omega))
        refine V_iload_n (pc := 263) dX5_readPart_263 rfl ?_
        refine V_zretB (pc := 264) (p := false) dX5_readPart_264 rfl rfl (by first | decide | omega) (by first | decide | omega) ?_
        exact ⟨rfl, rfl, FrX5.rf.u (by omega), Or.inl ⟨rfl, rfl, k + 1, hk, h41, rfl⟩⟩
      · skip
        refine V_bipush (pc := 156) (v := nI 12) dX5_readPart_156 (by decide) ?_
        refine V_goto (pc := 158) (tgt := 163) dX5_readPart_158 (by decide) ?_
        refine V_istore (pc := 163) (ls' := [(0, _), (1, _), (2, _), (4, _)]) dX5_readPart_163 (by decide) rfl ?_
        refine V_aload_n (pc := 165) dX5_readPart_165 rfl ?_
        refine V_getR (pc := 166) 5 1 dX5_readPart_166 flX5_17 (by decide) h5.o h5.R1 ?_
        refine V_aload_n (pc := 169) dX5_readPart_169 rfl ?_
        refine V_getIE (pc := 170) 5 4 dX5_readPart_170 flX5_27 (by decide) h5.o (h41) ?_
        refine V_ialoadE (pc := 173) dX5_readPart_173 h5.A1 (by first | decide | omega) (by omega) (htk1) ?_
        refine V_bipush (pc := 174) (v := nI 91) dX5_readPart_174 (by decide) ?_
        refine V_icmp_neN (pc := 176) (tgt := 217) dX5_readPart_176 (by decide) (by omega) (by omega) (fun c176 => ?_) (fun n176 => absurd n176 (by omega))
        refine V_iconst (pc := 217) (v := nI 0) dX5_readPart_217 (by decide) ?_
        refine V_istore_n (pc := 218) (ls' := [(0, _), (1, _), (2, _), (3, _), (4, _)]) dX5_readPart_218 (by decide) rfl ?_
        refine V_goto (pc := 219) (tgt := 245) dX5_readPart_219 (by decide) ?_
        refine V_iload_n (pc := 245) dX5_readPart_245 rfl ?_
        refine V_if_eqN (pc := 246) (tgt := 263) dX5_readPart_246 (by decide) (by omega) (fun c246 => ?_) (fun n246 => absurd n246 (by omega))
        refine V_iload_n (pc := 263) dX5_readPart_263 rfl ?_
        refine V_zretB (pc := 264) (p := false) dX5_readPart_264 rfl rfl (by first | decide | omega) (by first | decide | omega) ?_
        exact ⟨rfl, rfl, FrX5.rf.u (by omega), Or.inl ⟨rfl, rfl, k + 1, hk, h41, rfl⟩⟩
    · skip
      refine V_iload_n (pc := 141) dX5_readPart_141 rfl ?_
      refine V_iconst (pc := 142) (v := nI 2) dX5_readPart_142 (by decide) ?_
      refine V_icmp_neN (pc := 143) (tgt := 222) dX5_readPart_143 (by decide) (by omega) (by omega) (fun c143 => absurd c143 (by omega)) (fun n143 => ?_)
      refine V_aload_n (pc := 146) dX5_readPart_146 rfl ?_
      refine V_callVn (pc := 147) (ci := 5) (c_X5_goOn h5 hR hk) dX5_readPart_147 mlX5_78 mkX5_goOn rfl rfl h5.o ⟨by decide, rfl⟩ (rmS (by omega) (Nat.le_of_ble_eq_true rfl)) (Nat.le_of_ble_eq_true rfl) ⟨Nat.le_of_ble_eq_true rfl, Nat.le_of_ble_eq_true rfl⟩ ?_
      refine V_iload_n (pc := 150) dX5_readPart_150 rfl ?_
      refine V_bipush (pc := 151) (v := nI 12) dX5_readPart_151 (by decide) ?_
      refine V_icmp_neN (pc := 153) (tgt := 161) dX5_readPart_153 (by decide) (by omega) (by omega) (fun c153 => ?_) (fun n153 => ?_)
      · skip
        refine V_bipush (pc := 161) (v := nI 18) dX5_readPart_161 (by decide) ?_
        refine V_istore (pc := 163) (ls' := [(0, _), (1, _), (2, _), (4, _)]) dX5_readPart_163 (by decide) rfl ?_
        refine V_aload_n (pc := 165) dX5_readPart_165 rfl ?_
        refine V_getR (pc := 166) 5 1 dX5_readPart_166 flX5_17 (by decide) h5.o h5.R1 ?_
        refine V_aload_n (pc := 169) dX5_readPart_169 rfl ?_
        refine V_getIE (pc := 170) 5 4 dX5_readPart_170 flX5_27 (by decide) h5.o (h41) ?_
        refine V_ialoadE (pc := 173) dX5_readPart_173 h5.A1 (by first | decide | omega) (by omega) (htk1) ?_
        refine V_bipush (pc := 174) (v := nI 91) dX5_readPart_174 (by decide) ?_
        refine V_icmp_neN (pc := 176) (tgt := 217) dX5_readPart_176 (by decide) (by omega) (by omega) (fun c176 => ?_) (fun n176 => absurd n176 (by omega))
        refine V_iconst (pc := 217) (v := nI 0) dX5_readPart_217 (by decide) ?_
        refine V_istore_n (pc := 218) (ls' := [(0, _), (1, _), (2, _), (3, _), (4, _)]) dX5_readPart_218 (by decide) rfl ?_
        refine V_goto (pc := 219) (tgt := 245) dX5_readPart_219 (by decide) ?_
        refine V_iload_n (pc := 245) dX5_readPart_245 rfl ?_
        refine V_if_eqN (pc := 246) (tgt := 263) dX5_readPart_246 (by decide) (by omega) (fun c246 => ?_) (fun n246 => absurd n246 (by omega))
        refine V_iload_n (pc := 263) dX5_readPart_263 rfl ?_
        refine V_zretB (pc := 264) (p := false) dX5_readPart_264 rfl rfl (by first | decide | omega) (by first | decide | omega) ?_
        exact ⟨rfl, rfl, FrX5.rf.u (by omega), Or.inl ⟨rfl, rfl, k + 1, hk, h41, rfl⟩⟩
      · skip
        refine V_bipush (pc := 156) (v := nI 12) dX5_readPart_156 (by decide) ?_
        refine V_goto (pc := 158) (tgt := 163) dX5_readPart_158 (by decide) ?_
        refine V_istore (pc := 163) (ls' := [(0, _), (1, _), (2, _), (4, _)]) dX5_readPart_163 (by decide) rfl ?_
        refine V_aload_n (pc := 165) dX5_readPart_165 rfl ?_
        refine V_getR (pc := 166) 5 1 dX5_readPart_166 flX5_17 (by decide) h5.o h5.R1 ?_
        refine V_aload_n (pc := 169) dX5_readPart_169 rfl ?_
        refine V_getIE (pc := 170) 5 4 dX5_readPart_170 flX5_27 (by decide) h5.o (h41) ?_
        refine V_ialoadE (pc := 173) dX5_readPart_173 h5.A1 (by first | decide | omega) (by omega) (htk1) ?_
        refine V_bipush (pc := 174) (v := nI 91) dX5_readPart_174 (by decide) ?_
        refine V_icmp_neN (pc := 176) (tgt := 217) dX5_readPart_176 (by decide) (by omega) (by omega) (fun c176 => ?_) (fun n176 => absurd n176 (by omega))
        refine V_iconst (pc := 217) (v := nI 0) dX5_readPart_217 (by decide) ?_
        refine V_istore_n (pc := 218) (ls' := [(0, _), (1, _), (2, _), (3, _), (4, _)]) dX5_readPart_218 (by decide) rfl ?_
        refine V_goto (pc := 219) (tgt := 245) dX5_readPart_219 (by decide) ?_
        refine V_iload_n (pc := 245) dX5_readPart_245 rfl ?_
        refine V_if_eqN (pc := 246) (tgt := 263) dX5_readPart_246 (by decide) (by omega) (fun c246 => ?_) (fun n246 => absurd n246 (by omega))
        refine V_iload_n (pc := 263) dX5_readPart_263 rfl ?_
        refine V_zretB (pc := 264) (p := false) dX5_readPart_264 rfl rfl (by first | decide | omega) (by first | decide | omega) ?_
        exact ⟨rfl, rfl, FrX5.rf.u (by omega), Or.inl ⟨rfl, rfl, k + 1, hk, h41, rfl⟩⟩
theorem clp_s (h5 : Lay5 E S o) (hb : ∀ i, i < n → t i < 256) (hS : CLS E S o t n m od 0 f) : CLP E S o t n m od (f + 1) := by
  intro d k l c I L F s hd hf hR hc hs hl
  by_cases h1 : tc t n (pk t n k) = 191
  · exact rp_br h5 hb hS hd hf hR hc hs hl h1
  by_cases h2 : tc t n (pk t n k) = 91
  · exact rp_nu h5 hb hd hR hc hs hl h2
  by_cases h3 : od = true ∧ (tc t n (pk t n k) = 28 ∨ tc t n (pk t n k) = 18)
  · exact rp_lf h5 hb hd hR hc hs hl h3.1 h3.2
  · exact rp_wo h5 hb hd hR hc hs hl h1 h2 h3
end RT
