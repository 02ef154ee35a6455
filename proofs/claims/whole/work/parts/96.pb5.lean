/-! THE CLASS's public methods, V: count, feed, row -/
theorem byt_u (v : BitVec 32) (n : Nat) : (v >>> n) &&& 255#32 = BitVec.ofNat 32 (v.toNat / 2 ^ n % 256) := by
  apply BitVec.eq_of_toNat_eq
  rw [BitVec.toNat_and, BitVec.toNat_ushiftRight, Nat.shiftRight_eq_div_pow, BitVec.toNat_ofNat, BitVec.toNat_ofNat, show 255 % 2 ^ 32 = 2 ^ 8 - 1 from rfl, Nat.and_two_pow_sub_one_eq_mod, show (2 : Nat) ^ 8 = 256 from rfl]
  have := Nat.mod_lt (v.toNat / 2 ^ n) (show 0 < 256 by omega)
  rw [Nat.mod_eq_of_lt (show v.toNat / 2 ^ n % 256 < 2 ^ 32 by omega)]
theorem byt_oku (v : Int32) : ∀ j, j < 4 → (v.toUInt32 >>> ((shf j).toUInt32 &&& Int32.toUInt32 31)).toInt32 &&& nI 255 = nI (byt v j) := by
  intro j hj
  apply Int32.toBitVec_inj.1
  have e := byt_u v.toBitVec (24 - 8 * j)
  have e2 : (UInt32.mod ((shf j).toUInt32 &&& Int32.toUInt32 31) 32).toBitVec.toNat = 24 - 8 * j := by
    rcases (by omega : j = 0 ∨ j = 1 ∨ j = 2 ∨ j = 3) with rfl | rfl | rfl | rfl <;> decide
  show (v.toBitVec >>> (UInt32.mod ((shf j).toUInt32 &&& Int32.toUInt32 31) 32).toBitVec) &&& 255#32 = _
  rw [BitVec.ushiftRight_eq', e2]
  exact e
def fourC (I : IT) (B n : Nat) (v : Int32) (j : Nat) : IT := up2 (upr I (B + 16) (cpy (fun i => nI (byt v i)) (I (B + 16)) 0 n j)) B 10 (nI (n + j))
theorem fourC_step {I : IT} {B n j : Nat} {v : Int32} : up2 (up2 (fourC I B n v j) (B + 16) (n + j) (nI (byt v j))) B 10 (nI (n + j + 1)) = fourC I B n v (j + 1) := by
  unfold fourC
  rw [up2_comm (a := B) (b := B + 16) (by omega), up2_up2]
  have e := upr_cpy_step (I := I) (a := B + 16) (fun i => nI (byt v i)) (I (B + 16)) 0 n j
  simp only [Nat.zero_add] at e
  rw [e]
  rfl
section CP
variable {E : EnT} {S : ST} {I : IT} {L : LT} {B : Nat} {A : AT}
theorem c_X11_count (h11 : Lay11 E S B) (hR : CR E S B I A) (hA : wfA A) {x : Int32} : Cc E kX11_count 1 [.ref B, .int x] S I L B (.int (spCount A x)) A := by
  have hq := hA.q
  have hv := hR.1
  have hx4 := hR.2.2.2.2.2.1.2.2.2.2
  by_cases hx : bnd x 16 = true
  · obtain ⟨k, hk, hxk⟩ := bnd_ex (by omega) hx
    have ev : spCount A x = cntV A k := by unfold spCount; rw [if_pos hx, hxk, cln_nI (by omega)]
    rw [ev]
    rw [hxk]
    obtain ⟨fh, -, hs0, -⟩ := hR.2.2.1
    refine C_of (by decide) (Nat.le_of_ble_eq_true rfl) ?_
    have hk7 : k = 0 ∨ k = 1 ∨ k = 2 ∨ k = 3 ∨ k = 4 ∨ k = 5 ∨ k = 6 ∨ k = 7 ∨ k = 8 ∨ k = 9 ∨ k = 10 ∨ k = 11 ∨ k = 12 ∨ k = 13 ∨ k = 14 ∨ k = 15 := by omega
    rcases hk7 with rfl | rfl | rfl | rfl | rfl | rfl | rfl | rfl | rfl | rfl | rfl | rfl | rfl | rfl | rfl | rfl
    · skip
      refine V_iload_n (pc := 0) dX11_count_0 rfl ?_
      refine V_tableIn (pc := 1) (off := 79) (tgt := 80) dX11_count_1 (by decide) (by decide) (by decide) (by decide) ?_
      refine V_aload_n (pc := 80) dX11_count_80 rfl ?_
      refine V_getR (pc := 81) 11 0 dX11_count_81 flX11_91 (by decide) h11.o h11.R0 ?_
      refine V_getR (pc := 84) 10 0 dX11_count_84 flX11_116 (by decide) h11.O0.o h11.O0.R0 ?_
      refine V_getIE (pc := 87) 9 0 dX11_count_87 flX11_120 (by decide) h11.O0.O0.o (hv.1.1) ?_
      refine V_iret (pc := 90) dX11_count_90 rfl (by first | decide | omega) (by first | decide | omega) ?_
      exact ⟨rfl, rfl, hR, FrC.rf⟩
    · skip
      refine V_iload_n (pc := 0) dX11_count_0 rfl ?_
      refine V_tableIn (pc := 1) (off := 90) (tgt := 91) dX11_count_1 (by decide) (by decide) (by decide) (by decide) ?_
      refine V_aload_n (pc := 91) dX11_count_91 rfl ?_
      refine V_getR (pc := 92) 11 0 dX11_count_92 flX11_91 (by decide) h11.o h11.R0 ?_
      refine V_getIE (pc := 95) 10 1 dX11_count_95 flX11_178 (by decide) h11.O0.o (hv.2.1) ?_
      refine V_iret (pc := 98) dX11_count_98 rfl (by first | decide | omega) (by first | decide | omega) ?_
      exact ⟨rfl, rfl, hR, FrC.rf⟩
    · skip
      refine V_iload_n (pc := 0) dX11_count_0 rfl ?_
      refine V_tableIn (pc := 1) (off := 98) (tgt := 99) dX11_count_1 (by decide) (by decide) (by decide) (by decide) ?_
      refine V_aload_n (pc := 99) dX11_count_99 rfl ?_
      refine V_getR (pc := 100) 11 0 dX11_count_100 flX11_91 (by decide) h11.o h11.R0 ?_
      refine V_getR (pc := 103) 10 0 dX11_count_103 flX11_116 (by decide) h11.O0.o h11.O0.R0 ?_
      refine V_callVd (pc := 106) (ci := 9) (c_X9_couples h11.O0.O0 hv.1 hq) dX11_count_106 mlX11_392 mkX9_couples rfl rfl h11.O0.O0.o ⟨by decide, rfl⟩ ⟨Nat.le_of_ble_eq_true rfl, Nat.le_of_ble_eq_true rfl⟩ (Nat.le_of_ble_eq_true rfl) ⟨Nat.le_of_ble_eq_true rfl, Nat.le_of_ble_eq_true rfl⟩ ?_
      refine V_iret (pc := 109) dX11_count_109 rfl (by first | decide | omega) (by first | decide | omega) ?_
      exact ⟨rfl, rfl, hR, FrC.rf⟩
    · skip
      refine V_iload_n (pc := 0) dX11_count_0 rfl ?_
      refine V_tableIn (pc := 1) (off := 109) (tgt := 110) dX11_count_1 (by decide) (by decide) (by decide) (by decide) ?_
      refine V_aload_n (pc := 110) dX11_count_110 rfl ?_
      refine V_getR (pc := 111) 11 0 dX11_count_111 flX11_91 (by decide) h11.o h11.R0 ?_
      refine V_getIE (pc := 114) 10 4 dX11_count_114 flX11_275 (by decide) h11.O0.o (hv.2.2.2.2.1) ?_
      refine V_iret (pc := 117) dX11_count_117 rfl (by first | decide | omega) (by first | decide | omega) ?_
      exact ⟨rfl, rfl, hR, FrC.rf⟩
    · skip
      refine V_iload_n (pc := 0) dX11_count_0 rfl ?_
      refine V_tableIn (pc := 1) (off := 117) (tgt := 118) dX11_count_1 (by decide) (by decide) (by decide) (by decide) ?_
      refine V_aload_n (pc := 118) dX11_count_118 rfl ?_
      refine V_getR (pc := 119) 11 0 dX11_count_119 flX11_91 (by decide) h11.o h11.R0 ?_
      refine V_getIE (pc := 122) 10 8 dX11_count_122 flX11_215 (by decide) h11.O0.o (hv.2.2.2.2.2.2.1) ?_
      refine V_iret (pc := 125) dX11_count_125 rfl (by first | decide | omega) (by first | decide | omega) ?_
      exact ⟨rfl, rfl, hR, FrC.rf⟩
    · skip
      refine V_iload_n (pc := 0) dX11_count_0 rfl ?_
      refine V_tableIn (pc := 1) (off := 125) (tgt := 126) dX11_count_1 (by decide) (by decide) (by decide) (by decide) ?_
      refine V_aload_n (pc := 126) dX11_count_126 rfl ?_
      refine V_getR (pc := 127) 11 4 dX11_count_127 flX11_99 (by decide) h11.o h11.R4 ?_
      refine V_getR (pc := 130) 0 3 dX11_count_130 flX11_125 (by decide) h11.O4.o h11.O4.R3 ?_
      refine V_getIE (pc := 133) 2 0 dX11_count_133 flX11_395 (by decide) h11.O4.O3.o (hs0) ?_
      refine V_iret (pc := 136) dX11_count_136 rfl (by first | decide | omega) (by first | decide | omega) ?_
      exact ⟨rfl, rfl, hR, FrC.rf⟩
    · skip
      refine V_iload_n (pc := 0) dX11_count_0 rfl ?_
      refine V_tableIn (pc := 1) (off := 136) (tgt := 137) dX11_count_1 (by decide) (by decide) (by decide) (by decide) ?_
      refine V_aload_n (pc := 137) dX11_count_137 rfl ?_
      refine V_getIE (pc := 138) 11 10 dX11_count_138 flX11_37 (by decide) h11.o (hR.2.2.2.2.1.1) ?_
      refine V_iret (pc := 141) dX11_count_141 rfl (by first | decide | omega) (by first | decide | omega) ?_
      exact ⟨rfl, rfl, hR, FrC.rf⟩
    · skip
      refine V_iload_n (pc := 0) dX11_count_0 rfl ?_
      refine V_tableIn (pc := 1) (off := 141) (tgt := 142) dX11_count_1 (by decide) (by decide) (by decide) (by decide) ?_
      refine V_aload_n (pc := 142) dX11_count_142 rfl ?_
      refine V_getR (pc := 143) 11 14 dX11_count_143 flX11_50 (by decide) h11.o h11.R14 ?_
      refine V_iconst (pc := 146) (v := nI 1) dX11_count_146 (by decide) ?_
      refine V_ialoadE (pc := 147) dX11_count_147 h11.A14 (by first | decide | omega) (by omega) (hx4 1 (by omega)) ?_
      refine V_iret (pc := 148) dX11_count_148 rfl (by first | decide | omega) (by first | decide | omega) ?_
      exact ⟨rfl, rfl, hR, FrC.rf⟩
    · skip
      refine V_iload_n (pc := 0) dX11_count_0 rfl ?_
      refine V_tableIn (pc := 1) (off := 148) (tgt := 149) dX11_count_1 (by decide) (by decide) (by decide) (by decide) ?_
      refine V_aload_n (pc := 149) dX11_count_149 rfl ?_
      refine V_getR (pc := 150) 11 14 dX11_count_150 flX11_50 (by decide) h11.o h11.R14 ?_
      refine V_iconst (pc := 153) (v := nI 2) dX11_count_153 (by decide) ?_
      refine V_ialoadE (pc := 154) dX11_count_154 h11.A14 (by first | decide | omega) (by omega) (hx4 2 (by omega)) ?_
      refine V_iret (pc := 155) dX11_count_155 rfl (by first | decide | omega) (by first | decide | omega) ?_
      exact ⟨rfl, rfl, hR, FrC.rf⟩
    · skip
      refine V_iload_n (pc := 0) dX11_count_0 rfl ?_
      refine V_tableIn (pc := 1) (off := 155) (tgt := 156) dX11_count_1 (by decide) (by decide) (by decide) (by decide) ?_
      refine V_aload_n (pc := 156) dX11_count_156 rfl ?_
      refine V_getR (pc := 157) 11 14 dX11_count_157 flX11_50 (by decide) h11.o h11.R14 ?_
      refine V_iconst (pc := 160) (v := nI 3) dX11_count_160 (by decide) ?_
      refine V_ialoadE (pc := 161) dX11_count_161 h11.A14 (by first | decide | omega) (by omega) (hx4 3 (by omega)) ?_
      refine V_iret (pc := 162) dX11_count_162 rfl (by first | decide | omega) (by first | decide | omega) ?_
      exact ⟨rfl, rfl, hR, FrC.rf⟩
    · skip
      refine V_iload_n (pc := 0) dX11_count_0 rfl ?_
      refine V_tableIn (pc := 1) (off := 162) (tgt := 163) dX11_count_1 (by decide) (by decide) (by decide) (by decide) ?_
      refine V_aload_n (pc := 163) dX11_count_163 rfl ?_
      refine V_getR (pc := 164) 11 14 dX11_count_164 flX11_50 (by decide) h11.o h11.R14 ?_
      refine V_iconst (pc := 167) (v := nI 5) dX11_count_167 (by decide) ?_
      refine V_ialoadE (pc := 168) dX11_count_168 h11.A14 (by first | decide | omega) (by omega) (hx4 5 (by omega)) ?_
      refine V_iret (pc := 169) dX11_count_169 rfl (by first | decide | omega) (by first | decide | omega) ?_
      exact ⟨rfl, rfl, hR, FrC.rf⟩
    · skip
      refine V_iload_n (pc := 0) dX11_count_0 rfl ?_
      refine V_tableIn (pc := 1) (off := 169) (tgt := 170) dX11_count_1 (by decide) (by decide) (by decide) (by decide) ?_
      refine V_aload_n (pc := 170) dX11_count_170 rfl ?_
      refine V_getR (pc := 171) 11 14 dX11_count_171 flX11_50 (by decide) h11.o h11.R14 ?_
      refine V_bipush (pc := 174) (v := nI 6) dX11_count_174 (by decide) ?_
      refine V_ialoadE (pc := 176) dX11_count_176 h11.A14 (by first | decide | omega) (by omega) (hx4 6 (by omega)) ?_
      refine V_iret (pc := 177) dX11_count_177 rfl (by first | decide | omega) (by first | decide | omega) ?_
      exact ⟨rfl, rfl, hR, FrC.rf⟩
    · skip
      refine V_iload_n (pc := 0) dX11_count_0 rfl ?_
      refine V_tableIn (pc := 1) (off := 177) (tgt := 178) dX11_count_1 (by decide) (by decide) (by decide) (by decide) ?_
      refine V_aload_n (pc := 178) dX11_count_178 rfl ?_
      refine V_getR (pc := 179) 11 0 dX11_count_179 flX11_91 (by decide) h11.o h11.R0 ?_
      refine V_getIE (pc := 182) 10 11 dX11_count_182 flX11_251 (by decide) h11.O0.o (hv.2.2.2.2.2.2.2) ?_
      refine V_iret (pc := 185) dX11_count_185 rfl (by first | decide | omega) (by first | decide | omega) ?_
      exact ⟨rfl, rfl, hR, FrC.rf⟩
    · skip
      refine V_iload_n (pc := 0) dX11_count_0 rfl ?_
      refine V_tableIn (pc := 1) (off := 185) (tgt := 186) dX11_count_1 (by decide) (by decide) (by decide) (by decide) ?_
      refine V_aload_n (pc := 186) dX11_count_186 rfl ?_
      refine V_getR (pc := 187) 11 0 dX11_count_187 flX11_91 (by decide) h11.o h11.R0 ?_
      refine V_getR (pc := 190) 10 0 dX11_count_190 flX11_116 (by decide) h11.O0.o h11.O0.R0 ?_
      refine V_getR (pc := 193) 9 6 dX11_count_193 flX11_208 (by decide) h11.O0.O0.o h11.O0.O0.R6 ?_
      refine V_iconst (pc := 196) (v := nI 0) dX11_count_196 (by decide) ?_
      refine V_ialoadE (pc := 197) dX11_count_197 h11.O0.O0.A6 (by first | decide | omega) (by omega) (hv.1.2.2.2.2.2.2 0 (by omega)) ?_
      refine V_iret (pc := 198) dX11_count_198 rfl (by first | decide | omega) (by first | decide | omega) ?_
      exact ⟨rfl, rfl, hR, FrC.rf⟩
    · skip
      refine V_iload_n (pc := 0) dX11_count_0 rfl ?_
      refine V_tableIn (pc := 1) (off := 198) (tgt := 199) dX11_count_1 (by decide) (by decide) (by decide) (by decide) ?_
      refine V_aload_n (pc := 199) dX11_count_199 rfl ?_
      refine V_getR (pc := 200) 11 0 dX11_count_200 flX11_91 (by decide) h11.o h11.R0 ?_
      refine V_getR (pc := 203) 10 0 dX11_count_203 flX11_116 (by decide) h11.O0.o h11.O0.R0 ?_
      refine V_getR (pc := 206) 9 6 dX11_count_206 flX11_208 (by decide) h11.O0.O0.o h11.O0.O0.R6 ?_
      refine V_iconst (pc := 209) (v := nI 1) dX11_count_209 (by decide) ?_
      refine V_ialoadE (pc := 210) dX11_count_210 h11.O0.O0.A6 (by first | decide | omega) (by omega) (hv.1.2.2.2.2.2.2 1 (by omega)) ?_
      refine V_iret (pc := 211) dX11_count_211 rfl (by first | decide | omega) (by first | decide | omega) ?_
      exact ⟨rfl, rfl, hR, FrC.rf⟩
    · skip
      refine V_iload_n (pc := 0) dX11_count_0 rfl ?_
      refine V_tableIn (pc := 1) (off := 211) (tgt := 212) dX11_count_1 (by decide) (by decide) (by decide) (by decide) ?_
      refine V_aload_n (pc := 212) dX11_count_212 rfl ?_
      refine V_getR (pc := 213) 11 0 dX11_count_213 flX11_91 (by decide) h11.o h11.R0 ?_
      refine V_getR (pc := 216) 10 0 dX11_count_216 flX11_116 (by decide) h11.O0.o h11.O0.R0 ?_
      refine V_getR (pc := 219) 9 6 dX11_count_219 flX11_208 (by decide) h11.O0.O0.o h11.O0.O0.R6 ?_
      refine V_iconst (pc := 222) (v := nI 2) dX11_count_222 (by decide) ?_
      refine V_ialoadE (pc := 223) dX11_count_223 h11.O0.O0.A6 (by first | decide | omega) (by omega) (hv.1.2.2.2.2.2.2 2 (by omega)) ?_
      refine V_iret (pc := 224) dX11_count_224 rfl (by first | decide | omega) (by first | decide | omega) ?_
      exact ⟨rfl, rfl, hR, FrC.rf⟩
  · rw [spCount, if_neg hx]
    refine C_of (by decide) (Nat.le_of_ble_eq_true rfl) ?_
    refine V_iload_n (pc := 0) dX11_count_0 rfl ?_
    refine V_tableOut (pc := 1) (tgt := 225) dX11_count_1 (out_of (m := 15) hx (by omega)) (by decide) ?_
    refine V_iconst (pc := 225) (v := (-1)) dX11_count_225 (by decide) ?_
    refine V_iret (pc := 226) dX11_count_226 rfl (by first | decide | omega) (by first | decide | omega) ?_
    exact ⟨rfl, rfl, hR, FrC.rf⟩
theorem c_X11_feedNumber (h11 : Lay11 E S B) {n : Nat} {v : Int32} (hn : n + 4 ≤ 400) (h10 : I B 10 = nI n) : Cn E kX11_feedNumber 0 0 0 [.ref B, .int v] S I L S (fourC I B n v 4) L := by
  refine C_of (by decide) (Nat.le_of_ble_eq_true rfl) ?_
  have e0 : I = fourC I B n v 0 := by unfold fourC; rw [cpy_0, upr_same, Nat.add_zero, up2_same h10]
  refine V_bipush (pc := 0) (v := nI 24) dX11_feedNumber_0 (by decide) ?_
  refine V_istore_n (pc := 2) (ls' := [(0, _), (1, _), (2, _)]) dX11_feedNumber_2 (by decide) rfl ?_
  refine (show V E _ _ _ _ _ _ (fourC I B n v 0) _ _ _ _ → V _ _ _ _ _ _ _ I _ _ _ _ from fun h => by rw [← e0] at h; exact h) ?_
  refine loopUp (P := fun j => V E kX11_feedNumber (rmOf 0 0 0) (Qn E S (fourC I B n v 4) L) 0 0 S (fourC I B n v j) L 3 [(0, .ref B), (1, .int v), (2, .int (shf j))] []) (n := 4) ?_ ?_ 0 (by omega)
  · skip
    refine V_iload_n (pc := 3) dX11_feedNumber_3 rfl ?_
    refine V_if_lt (pc := 4) (tgt := 49) dX11_feedNumber_4 (by decide) (fun c4 => ?_) (fun n4 => absurd n4 (by decide))
    refine V_vret (pc := 49) dX11_feedNumber_49 rfl (by first | decide | omega) (by first | decide | omega) ?_
    exact ⟨rfl, rfl, rfl, rfl⟩
  · intro j hj ih
    have hs : ¬ shf j < 0 := by rcases (by omega : j = 0 ∨ j = 1 ∨ j = 2 ∨ j = 3) with rfl | rfl | rfl | rfl <;> decide
    have hs2 : shf j + Int32.ofInt (-8) = shf (j + 1) := by rcases (by omega : j = 0 ∨ j = 1 ∨ j = 2 ∨ j = 3) with rfl | rfl | rfl | rfl <;> decide
    refine V_iload_n (pc := 3) dX11_feedNumber_3 rfl ?_
    refine V_if_lt (pc := 4) (tgt := 49) dX11_feedNumber_4 (by decide) (fun c4 => absurd c4 (by exact hs)) (fun n4 => ?_)
    refine V_aload_n (pc := 7) dX11_feedNumber_7 rfl ?_
    refine V_getIE (pc := 8) 11 10 dX11_feedNumber_8 flX11_37 (by decide) h11.o (show fourC I B n v j B 10 = nI (n + j) from up2_self) ?_
    refine V_sipush (pc := 11) (v := nI 400) dX11_feedNumber_11 (by decide) ?_
    refine V_icmp_geN (pc := 14) (tgt := 49) dX11_feedNumber_14 (by decide) (by omega) (by omega) (fun c14 => absurd c14 (by omega)) (fun n14 => ?_)
    refine V_aload_n (pc := 17) dX11_feedNumber_17 rfl ?_
    refine V_getR (pc := 18) 11 9 dX11_feedNumber_18 flX11_33 (by decide) h11.o h11.R9 ?_
    refine V_aload_n (pc := 21) dX11_feedNumber_21 rfl ?_
    refine V_getIE (pc := 22) 11 10 dX11_feedNumber_22 flX11_37 (by decide) h11.o (show fourC I B n v j B 10 = nI (n + j) from up2_self) ?_
    refine V_iload_n (pc := 25) dX11_feedNumber_25 rfl ?_
    refine V_iload_n (pc := 26) dX11_feedNumber_26 rfl ?_
    refine V_iushr (pc := 27) dX11_feedNumber_27 rfl ?_
    refine V_sipush (pc := 28) (v := nI 255) dX11_feedNumber_28 (by decide) ?_
    refine V_iand (pc := 31) dX11_feedNumber_31 ?_
    rw [byt_oku v j hj]
    refine V_iastore (pc := 32) dX11_feedNumber_32 h11.A9 (by first | decide | omega) (by omega) ?_
    refine V_aload_n (pc := 33) dX11_feedNumber_33 rfl ?_
    refine V_dup (pc := 34) dX11_feedNumber_34 rfl ?_
    refine V_getIE (pc := 35) 11 10 dX11_feedNumber_35 flX11_37 (by decide) h11.o (show up2 (fourC I B n v j) (B + 16) (n + j) (nI (byt v j)) B 10 = nI (n + j) by rw [up2_ne (by omega)]; exact up2_self) ?_
    refine V_iconst (pc := 38) (v := nI 1) dX11_feedNumber_38 (by decide) ?_
    refine V_iaddN (pc := 39) dX11_feedNumber_39 ?_
    refine V_putI (pc := 40) 11 10 dX11_feedNumber_40 flX11_37 (by decide) (by decide) (Or.inl rfl) rfl rfl h11.o ?_
    refine V_iinc (pc := 43) (ls' := [(0, _), (1, _), (2, _)]) dX11_feedNumber_43 rfl hs2 (by decide) rfl ?_
    rw [fourC_step]
    refine V_goto (pc := 46) (tgt := 3) dX11_feedNumber_46 (by decide) ?_
    exact ih
theorem CR.four {v : Int32} (h : CR E S B I A) : CR E S B (fourC I B (atp A).1 v 4) (stp A (put4 (atp A) v)) := by
  have ht := h.2.2.2.2.1
  refine h.tt (fun x a1 a2 => ?_) (fun i a1 a2 => ?_) ⟨up2_self, fun i hi => ?_⟩
  · unfold fourC; rw [up2_row a1, upr_row a2]
  · unfold fourC; rw [up2_nej (by omega), upr_row (by omega)]
  · unfold fourC
    rw [up2_ne (by omega), upr_self]
    unfold cpy
    have hi' : i < (atp A).1 + 4 := hi
    show _ = nI (if _ then _ else _)
    by_cases c : (atp A).1 ≤ i ∧ i < (atp A).1 + 4
    · rw [if_pos c, if_pos c, Nat.zero_add]
    · rw [if_neg c, if_neg c]; exact ht.2 i (by omega)
theorem FrC.four {I0 : IT} {L0 : LT} {n j : Nat} {v : Int32} (h : FrC B I I0 L L0) : FrC B (fourC I B n v j) I0 L L0 := fun x hx => ⟨by unfold fourC; rw [up2_row (by omega), upr_row (by omega)]; exact (h x hx).1, (h x hx).2⟩
theorem c_X11_feed (h11 : Lay11 E S B) (hR : CR E S B I A) (hA : wfA A) {a b c d e : Int32} : Cc E kX11_feed 1 [.ref B, .int a, .int b, .int c, .int d, .int e] S I L B (.int (spFeed A a b c d e).1) (spFeed A a b c d e).2 := by
  have ht : (atp A).1 ≤ 400 := hA.2.2.2.2.2.1
  have t1 := hR.2.2.2.2.1.1
  refine C_of (by decide) (Nat.le_of_ble_eq_true rfl) ?_
  by_cases h20 : (atp A).1 + 20 ≤ 400
  · rw [spFeed, if_pos h20]
    have m1 := hR.four (v := a)
    have m2 := m1.four (v := b)
    have m3 := m2.four (v := c)
    have m4 := m3.four (v := d)
    have m5 := m4.four (v := e)
    have p1 : fourC I B (atp A).1 a 4 B 10 = nI ((atp A).1 + 4) := up2_self
    refine V_aload_n (pc := 0) dX11_feed_0 rfl ?_
    refine V_getIE (pc := 1) 11 10 dX11_feed_1 flX11_37 (by decide) h11.o (t1) ?_
    refine V_bipush (pc := 4) (v := nI 20) dX11_feed_4 (by decide) ?_
    refine V_iaddN (pc := 6) dX11_feed_6 ?_
    refine V_sipush (pc := 7) (v := nI 400) dX11_feed_7 (by decide) ?_
    refine V_icmp_leN (pc := 10) (tgt := 15) dX11_feed_10 (by decide) (by omega) (by omega) (fun c10 => ?_) (fun n10 => absurd n10 (by omega))
    refine V_aload_n (pc := 15) dX11_feed_15 rfl ?_
    refine V_iload_n (pc := 16) dX11_feed_16 rfl ?_
    refine V_callVn (pc := 17) (ci := 11) (c_X11_feedNumber h11 (by omega) t1) dX11_feed_17 mlX11_211 mkX11_feedNumber rfl rfl h11.o ⟨by decide, rfl⟩ ⟨Nat.le_of_ble_eq_true rfl, Nat.le_of_ble_eq_true rfl⟩ (Nat.le_of_ble_eq_true rfl) ⟨Nat.le_of_ble_eq_true rfl, Nat.le_of_ble_eq_true rfl⟩ ?_
    refine V_aload_n (pc := 20) dX11_feed_20 rfl ?_
    refine V_iload_n (pc := 21) dX11_feed_21 rfl ?_
    refine V_callVn (pc := 22) (ci := 11) (c_X11_feedNumber (n := (atp A).1 + 4) h11 (by omega) up2_self) dX11_feed_22 mlX11_211 mkX11_feedNumber rfl rfl h11.o ⟨by decide, rfl⟩ ⟨Nat.le_of_ble_eq_true rfl, Nat.le_of_ble_eq_true rfl⟩ (Nat.le_of_ble_eq_true rfl) ⟨Nat.le_of_ble_eq_true rfl, Nat.le_of_ble_eq_true rfl⟩ ?_
    refine V_aload_n (pc := 25) dX11_feed_25 rfl ?_
    refine V_iload_n (pc := 26) dX11_feed_26 rfl ?_
    refine V_callVn (pc := 27) (ci := 11) (c_X11_feedNumber (n := (atp A).1 + 4 + 4) h11 (by omega) up2_self) dX11_feed_27 mlX11_211 mkX11_feedNumber rfl rfl h11.o ⟨by decide, rfl⟩ ⟨Nat.le_of_ble_eq_true rfl, Nat.le_of_ble_eq_true rfl⟩ (Nat.le_of_ble_eq_true rfl) ⟨Nat.le_of_ble_eq_true rfl, Nat.le_of_ble_eq_true rfl⟩ ?_
    refine V_aload_n (pc := 30) dX11_feed_30 rfl ?_
    refine V_iload (pc := 31) dX11_feed_31 rfl ?_
    refine V_callVn (pc := 33) (ci := 11) (c_X11_feedNumber (n := (atp A).1 + 4 + 4 + 4) h11 (by omega) up2_self) dX11_feed_33 mlX11_211 mkX11_feedNumber rfl rfl h11.o ⟨by decide, rfl⟩ ⟨Nat.le_of_ble_eq_true rfl, Nat.le_of_ble_eq_true rfl⟩ (Nat.le_of_ble_eq_true rfl) ⟨Nat.le_of_ble_eq_true rfl, Nat.le_of_ble_eq_true rfl⟩ ?_
    refine V_aload_n (pc := 36) dX11_feed_36 rfl ?_
    refine V_iload (pc := 37) dX11_feed_37 rfl ?_
    refine V_callVn (pc := 39) (ci := 11) (c_X11_feedNumber (n := (atp A).1 + 4 + 4 + 4 + 4) h11 (by omega) up2_self) dX11_feed_39 mlX11_211 mkX11_feedNumber rfl rfl h11.o ⟨by decide, rfl⟩ ⟨Nat.le_of_ble_eq_true rfl, Nat.le_of_ble_eq_true rfl⟩ (Nat.le_of_ble_eq_true rfl) ⟨Nat.le_of_ble_eq_true rfl, Nat.le_of_ble_eq_true rfl⟩ ?_
    refine V_aload_n (pc := 42) dX11_feed_42 rfl ?_
    refine V_getIE (pc := 43) 11 10 dX11_feed_43 flX11_37 (by decide) h11.o (up2_self) ?_
    refine V_iret (pc := 46) dX11_feed_46 rfl (by first | decide | omega) (by first | decide | omega) ?_
    exact ⟨rfl, rfl, m5, FrC.rf.four.four.four.four.four⟩
  · rw [spFeed, if_neg h20]
    refine V_aload_n (pc := 0) dX11_feed_0 rfl ?_
    refine V_getIE (pc := 1) 11 10 dX11_feed_1 flX11_37 (by decide) h11.o (t1) ?_
    refine V_bipush (pc := 4) (v := nI 20) dX11_feed_4 (by decide) ?_
    refine V_iaddN (pc := 6) dX11_feed_6 ?_
    refine V_sipush (pc := 7) (v := nI 400) dX11_feed_7 (by decide) ?_
    refine V_icmp_leN (pc := 10) (tgt := 15) dX11_feed_10 (by decide) (by omega) (by omega) (fun c10 => absurd c10 (by omega)) (fun n10 => ?_)
    refine V_iconst (pc := 13) (v := (-1)) dX11_feed_13 (by decide) ?_
    refine V_iret (pc := 14) dX11_feed_14 rfl (by first | decide | omega) (by first | decide | omega) ?_
    exact ⟨rfl, rfl, hR, FrC.rf⟩
theorem CR.srst {v : Int32} (h : CR E S B I A) : CR E S B (up2 I B 11 v) (srust A v) := by
  obtain ⟨x1, x2, x3, x4, x5⟩ := h.2.2.2.2.2.1
  exact h.tx (fun x a1 a2 a3 => up2_row a1) (up2_nej (by omega)) ⟨up2_self, (up2_ne (by omega)).trans x2, (up2_nej (by omega)).trans x3, (up2_nej (by omega)).trans x4, fun r hr => (up2_ne (by omega)).trans (x5 r hr)⟩
theorem c_X11_row (h11 : Lay11 E S B) (hR : CR E S B I A) (hA : wfA A) : Cc E kX11_row 2 [.ref B] S I L B (.int (spRow A).1) (spRow A).2 := by
  have hq := hA.q
  have hnb := hq.nb
  have hh : (atp A).1 ≤ 400 := hA.2.2.2.2.2.1
  have ht : ∀ i, i < (atp A).1 → (atp A).2 i < 256 := hA.2.2.2.2.2.2.1
  have t1 := hR.2.2.2.2.1.1
  refine C_of (by decide) (Nat.le_of_ble_eq_true rfl) ?_
  have key : ∀ m, m ≤ ((atp A).1 + 2) / 3 → ∀ J, CR E S B J (srust (sq (un0 A) (rws (atp A).2 (atp A).1 (aq A) m).1) (nI (rws (atp A).2 (atp A).1 (aq A) m).2.2)) → FrC B J I L L → ¬ (atp A).1 = 0 → V E kX11_row (rmOf 2 0 0) (QM E (fun r S' I' L' => r = some (.int (spRow A).1) ∧ S = S' ∧ CR E S B I' (spRow A).2 ∧ FrC B I' I L' L) 0 0) 0 0 S J L 33 [(0, .ref B), (1, .int (nI (rws (atp A).2 (atp A).1 (aq A) m).2.1)), (2, .int (nI (3 * m)))] [] := by
    refine loopUp (n := ((atp A).1 + 2) / 3) (P := fun m => ∀ J, CR E S B J (srust (sq (un0 A) (rws (atp A).2 (atp A).1 (aq A) m).1) (nI (rws (atp A).2 (atp A).1 (aq A) m).2.2)) → FrC B J I L L → ¬ (atp A).1 = 0 → V E kX11_row (rmOf 2 0 0) (QM E (fun r S' I' L' => r = some (.int (spRow A).1) ∧ S = S' ∧ CR E S B I' (spRow A).2 ∧ FrC B I' I L' L) 0 0) 0 0 S J L 33 [(0, .ref B), (1, .int (nI (rws (atp A).2 (atp A).1 (aq A) m).2.1)), (2, .int (nI (3 * m)))] []) ?_ ?_
    · intro J hJ hF h0
      have j1 : J B 10 = nI (atp A).1 := hJ.2.2.2.2.1.1
      refine V_iload_n (pc := 33) dX11_row_33 rfl ?_
      refine V_aload_n (pc := 34) dX11_row_34 rfl ?_
      refine V_getIE (pc := 35) 11 10 dX11_row_35 flX11_37 (by decide) h11.o (j1) ?_
      refine V_icmp_geN (pc := 38) (tgt := 143) dX11_row_38 (by decide) (by omega) (by omega) (fun c38 => ?_) (fun n38 => absurd n38 (by omega))
      refine V_aload_n (pc := 143) dX11_row_143 rfl ?_
      refine V_iconst (pc := 144) (v := nI 0) dX11_row_144 (by decide) ?_
      refine V_putI (pc := 145) 11 10 dX11_row_145 flX11_37 (by decide) (by decide) (Or.inl rfl) rfl rfl h11.o ?_
      refine V_aload_n (pc := 148) dX11_row_148 rfl ?_
      refine V_iload_n (pc := 149) dX11_row_149 rfl ?_
      refine V_callVd (pc := 150) (ci := 11) (c_X11_grant h11) dX11_row_150 mlX11_137 mkX11_grant rfl rfl h11.o ⟨by decide, rfl⟩ ⟨Nat.le_of_ble_eq_true rfl, Nat.le_of_ble_eq_true rfl⟩ (Nat.le_of_ble_eq_true rfl) ⟨Nat.le_of_ble_eq_true rfl, Nat.le_of_ble_eq_true rfl⟩ ?_
      refine V_iret (pc := 153) dX11_row_153 rfl (by first | decide | omega) (by first | decide | omega) ?_
      rw [spRow, if_neg h0]
      refine ⟨rfl, rfl, ?_, (hF.up (by omega)).up (by omega)⟩
      exact (hJ.tt (t' := (0, (atp A).2)) (fun x a1 a2 => up2_row a1) (fun i a1 a2 => up2_nej (by omega)) ⟨up2_self, fun i hi => absurd hi (Nat.not_lt_zero i)⟩).hok
    · intro m hm ih J hJ hF h0
      have hok := rws_ok hq ht m
      have hv : VgM J (B + 36) (rws (atp A).2 (atp A).1 (aq A) m).1 := hJ.1
      have j1 : J B 10 = nI (atp A).1 := hJ.2.2.2.2.1.1
      have ed : ∀ i, i < (atp A).1 → J (B + 16) i = nI ((atp A).2 i) := hJ.2.2.2.2.1.2
      have jr : J B 11 = nI (rws (atp A).2 (atp A).1 (aq A) m).2.2 := hJ.2.2.2.2.2.1.1
      have ei : nI (3 * m) + Int32.ofInt 3 = nI (3 * (m + 1)) := by rw [show Int32.ofInt 3 = nI 3 from rfl, nI_add]; rfl
      have hbx : ∀ x, x < 256 → bnd (nI x) ((rws (atp A).2 (atp A).1 (aq A) m).1 0) = decide (x < aq A 0) := fun x hx => by rw [hok.2.1]; exact bnd_nI (by omega)
      have e8 : ∀ b c, 8 + 8 * b + c = 8 + (b * 8 + c) := fun b c => by omega
      rw [rws] at ih
      refine V_iload_n (pc := 33) dX11_row_33 rfl ?_
      refine V_aload_n (pc := 34) dX11_row_34 rfl ?_
      refine V_getIE (pc := 35) 11 10 dX11_row_35 flX11_37 (by decide) h11.o (j1) ?_
      refine V_icmp_geN (pc := 38) (tgt := 143) dX11_row_38 (by decide) (by omega) (by omega) (fun c38 => absurd c38 (by omega)) (fun n38 => ?_)
      refine V_iload_n (pc := 41) dX11_row_41 rfl ?_
      refine V_iconst (pc := 42) (v := nI 2) dX11_row_42 (by decide) ?_
      refine V_iaddN (pc := 43) dX11_row_43 ?_
      refine V_aload_n (pc := 44) dX11_row_44 rfl ?_
      refine V_getIE (pc := 45) 11 10 dX11_row_45 flX11_37 (by decide) h11.o (j1) ?_
      refine V_icmp_geN (pc := 48) (tgt := 127) dX11_row_48 (by decide) (by omega) (by omega) (fun c48 => ?_) (fun n48 => ?_)
      · skip
        first
        | rw [if_neg (by omega)] at ih
        | (rw [hbx _ t0] at c67; rw [if_neg (fun w => of_decide_eq_false c67 w.2.1)] at ih)
        | (rw [bnd_nI (by omega)] at c81; rw [if_neg (fun w => of_decide_eq_false c81 w.2.2)] at ih)
        | fail
        refine V_aload_n (pc := 127) dX11_row_127 rfl ?_
        refine V_dup (pc := 128) dX11_row_128 rfl ?_
        refine V_getIE (pc := 129) 11 11 dX11_row_129 flX11_41 (by decide) h11.o (jr) ?_
        refine V_iconst (pc := 132) (v := nI 1) dX11_row_132 (by decide) ?_
        refine V_iaddN (pc := 133) dX11_row_133 ?_
        refine V_putI (pc := 134) 11 11 dX11_row_134 flX11_41 (by decide) (by decide) (Or.inl rfl) rfl rfl h11.o ?_
        refine V_iinc (pc := 137) (ls' := [(0, _), (1, _), (2, _)]) dX11_row_137 rfl ei (by decide) rfl ?_
        refine V_goto (pc := 140) (tgt := 33) dX11_row_140 (by decide) ?_
        first
        | exact ih _ (hJ.srst (v := nI ((rws (atp A).2 (atp A).1 (aq A) m).2.2 + 1))) (hF.up (by omega)) h0
        | (refine ih _ ?_ (hF.up (by omega)) h0
           have hq1 := hv.vl (hv.1.u1 (b := (atp A).2 (3 * m) * 8 + (atp A).2 (3 * m + 1)) (n := (atp A).2 (3 * m + 2)) (by omega)) (fun a a1 a2 => up2_row (by omega)) (fun i hi => setq_n (by omega))
           rw [← e8] at hq1
           exact hJ.tq (fun x hx => up2_row (by omega)) hq1 (setq_n (by omega)) (Or.inr rfl))
        | fail
      · skip
        have t0 := ht (3 * m) (by omega)
        have t1 := ht (3 * m + 1) (by omega)
        have t2 := ht (3 * m + 2) (by omega)
        refine V_aload_n (pc := 51) dX11_row_51 rfl ?_
        refine V_getR (pc := 52) 11 0 dX11_row_52 flX11_91 (by decide) h11.o h11.R0 ?_
        refine V_getR (pc := 55) 10 0 dX11_row_55 flX11_116 (by decide) h11.O0.o h11.O0.R0 ?_
        refine V_aload_n (pc := 58) dX11_row_58 rfl ?_
        refine V_getR (pc := 59) 11 9 dX11_row_59 flX11_33 (by decide) h11.o h11.R9 ?_
        refine V_iload_n (pc := 62) dX11_row_62 rfl ?_
        refine V_ialoadE (pc := 63) dX11_row_63 h11.A9 (by first | decide | omega) (by omega) (ed _ (by omega)) ?_
        refine V_callVd (pc := 64) (ci := 9) (c_X9_hasBox h11.O0.O0 hv.1 hok.1) dX11_row_64 mlX11_140 mkX9_hasBox rfl rfl h11.O0.O0.o ⟨by decide, rfl⟩ ⟨Nat.le_of_ble_eq_true rfl, Nat.le_of_ble_eq_true rfl⟩ (Nat.le_of_ble_eq_true rfl) ⟨Nat.le_of_ble_eq_true rfl, Nat.le_of_ble_eq_true rfl⟩ ?_
        refine V_if_eqB (pc := 67) (tgt := 127) dX11_row_67 (by decide) (fun c67 => ?_) (fun n67 => ?_)
        · skip
          first
          | rw [if_neg (by omega)] at ih
          | (rw [hbx _ t0] at c67; rw [if_neg (fun w => of_decide_eq_false c67 w.2.1)] at ih)
          | (rw [bnd_nI (by omega)] at c81; rw [if_neg (fun w => of_decide_eq_false c81 w.2.2)] at ih)
          | fail
          refine V_aload_n (pc := 127) dX11_row_127 rfl ?_
          refine V_dup (pc := 128) dX11_row_128 rfl ?_
          refine V_getIE (pc := 129) 11 11 dX11_row_129 flX11_41 (by decide) h11.o (jr) ?_
          refine V_iconst (pc := 132) (v := nI 1) dX11_row_132 (by decide) ?_
          refine V_iaddN (pc := 133) dX11_row_133 ?_
          refine V_putI (pc := 134) 11 11 dX11_row_134 flX11_41 (by decide) (by decide) (Or.inl rfl) rfl rfl h11.o ?_
          refine V_iinc (pc := 137) (ls' := [(0, _), (1, _), (2, _)]) dX11_row_137 rfl ei (by decide) rfl ?_
          refine V_goto (pc := 140) (tgt := 33) dX11_row_140 (by decide) ?_
          first
          | exact ih _ (hJ.srst (v := nI ((rws (atp A).2 (atp A).1 (aq A) m).2.2 + 1))) (hF.up (by omega)) h0
          | (refine ih _ ?_ (hF.up (by omega)) h0
             have hq1 := hv.vl (hv.1.u1 (b := (atp A).2 (3 * m) * 8 + (atp A).2 (3 * m + 1)) (n := (atp A).2 (3 * m + 2)) (by omega)) (fun a a1 a2 => up2_row (by omega)) (fun i hi => setq_n (by omega))
             rw [← e8] at hq1
             exact hJ.tq (fun x hx => up2_row (by omega)) hq1 (setq_n (by omega)) (Or.inr rfl))
          | fail
        · skip
          refine V_aload_n (pc := 70) dX11_row_70 rfl ?_
          refine V_getR (pc := 71) 11 9 dX11_row_71 flX11_33 (by decide) h11.o h11.R9 ?_
          refine V_iload_n (pc := 74) dX11_row_74 rfl ?_
          refine V_iconst (pc := 75) (v := nI 1) dX11_row_75 (by decide) ?_
          refine V_iaddN (pc := 76) dX11_row_76 ?_
          refine V_ialoadE (pc := 77) dX11_row_77 h11.A9 (by first | decide | omega) (by omega) (ed _ (by omega)) ?_
          refine V_callSd (pc := 78) (c_X11_isBar) dX11_row_78 mlX11_166 mkX11_isBar rfl rfl ⟨Nat.le_of_ble_eq_true rfl, Nat.le_of_ble_eq_true rfl⟩ (Nat.le_of_ble_eq_true rfl) ⟨Nat.le_of_ble_eq_true rfl, Nat.le_of_ble_eq_true rfl⟩ ?_
          refine V_if_eqB (pc := 81) (tgt := 127) dX11_row_81 (by decide) (fun c81 => ?_) (fun n81 => ?_)
          · skip
            first
            | rw [if_neg (by omega)] at ih
            | (rw [hbx _ t0] at c67; rw [if_neg (fun w => of_decide_eq_false c67 w.2.1)] at ih)
            | (rw [bnd_nI (by omega)] at c81; rw [if_neg (fun w => of_decide_eq_false c81 w.2.2)] at ih)
            | fail
            refine V_aload_n (pc := 127) dX11_row_127 rfl ?_
            refine V_dup (pc := 128) dX11_row_128 rfl ?_
            refine V_getIE (pc := 129) 11 11 dX11_row_129 flX11_41 (by decide) h11.o (jr) ?_
            refine V_iconst (pc := 132) (v := nI 1) dX11_row_132 (by decide) ?_
            refine V_iaddN (pc := 133) dX11_row_133 ?_
            refine V_putI (pc := 134) 11 11 dX11_row_134 flX11_41 (by decide) (by decide) (Or.inl rfl) rfl rfl h11.o ?_
            refine V_iinc (pc := 137) (ls' := [(0, _), (1, _), (2, _)]) dX11_row_137 rfl ei (by decide) rfl ?_
            refine V_goto (pc := 140) (tgt := 33) dX11_row_140 (by decide) ?_
            first
            | exact ih _ (hJ.srst (v := nI ((rws (atp A).2 (atp A).1 (aq A) m).2.2 + 1))) (hF.up (by omega)) h0
            | (refine ih _ ?_ (hF.up (by omega)) h0
               have hq1 := hv.vl (hv.1.u1 (b := (atp A).2 (3 * m) * 8 + (atp A).2 (3 * m + 1)) (n := (atp A).2 (3 * m + 2)) (by omega)) (fun a a1 a2 => up2_row (by omega)) (fun i hi => setq_n (by omega))
               rw [← e8] at hq1
               exact hJ.tq (fun x hx => up2_row (by omega)) hq1 (setq_n (by omega)) (Or.inr rfl))
            | fail
          · skip
            rw [hbx _ t0] at n67
            have b1 := of_decide_eq_true n67
            rw [bnd_nI (by omega)] at n81
            have b2 := of_decide_eq_true n81
            rw [if_pos ⟨by omega, b1, b2⟩] at ih
            refine V_aload_n (pc := 84) dX11_row_84 rfl ?_
            refine V_getR (pc := 85) 11 0 dX11_row_85 flX11_91 (by decide) h11.o h11.R0 ?_
            refine V_getR (pc := 88) 10 0 dX11_row_88 flX11_116 (by decide) h11.O0.o h11.O0.R0 ?_
            refine V_getR (pc := 91) 9 1 dX11_row_91 flX11_169 (by decide) h11.O0.O0.o h11.O0.O0.R1 ?_
            refine V_aload_n (pc := 94) dX11_row_94 rfl ?_
            refine V_getR (pc := 95) 11 9 dX11_row_95 flX11_33 (by decide) h11.o h11.R9 ?_
            refine V_iload_n (pc := 98) dX11_row_98 rfl ?_
            refine V_ialoadE (pc := 99) dX11_row_99 h11.A9 (by first | decide | omega) (by omega) (ed _ (by omega)) ?_
            refine V_bipush (pc := 100) (v := nI 8) dX11_row_100 (by decide) ?_
            refine V_imulN (pc := 102) dX11_row_102 ?_
            refine V_aload_n (pc := 103) dX11_row_103 rfl ?_
            refine V_getR (pc := 104) 11 9 dX11_row_104 flX11_33 (by decide) h11.o h11.R9 ?_
            refine V_iload_n (pc := 107) dX11_row_107 rfl ?_
            refine V_iconst (pc := 108) (v := nI 1) dX11_row_108 (by decide) ?_
            refine V_iaddN (pc := 109) dX11_row_109 ?_
            refine V_ialoadE (pc := 110) dX11_row_110 h11.A9 (by first | decide | omega) (by omega) (ed _ (by omega)) ?_
            refine V_iaddN (pc := 111) dX11_row_111 ?_
            refine V_aload_n (pc := 112) dX11_row_112 rfl ?_
            refine V_getR (pc := 113) 11 9 dX11_row_113 flX11_33 (by decide) h11.o h11.R9 ?_
            refine V_iload_n (pc := 116) dX11_row_116 rfl ?_
            refine V_iconst (pc := 117) (v := nI 2) dX11_row_117 (by decide) ?_
            refine V_iaddN (pc := 118) dX11_row_118 ?_
            refine V_ialoadE (pc := 119) dX11_row_119 h11.A9 (by first | decide | omega) (by omega) (ed _ (by omega)) ?_
            refine V_iastore (pc := 120) dX11_row_120 h11.O0.O0.A1 (by first | decide | omega) (by omega) ?_
            refine V_iinc1 (pc := 121) (ls' := [(0, _), (1, _), (2, _)]) dX11_row_121 rfl (by decide) rfl ?_
            refine V_goto (pc := 124) (tgt := 137) dX11_row_124 (by decide) ?_
            refine V_iinc (pc := 137) (ls' := [(0, _), (1, _), (2, _)]) dX11_row_137 rfl ei (by decide) rfl ?_
            refine V_goto (pc := 140) (tgt := 33) dX11_row_140 (by decide) ?_
            first
            | exact ih _ (hJ.srst (v := nI ((rws (atp A).2 (atp A).1 (aq A) m).2.2 + 1))) (hF.up (by omega)) h0
            | (refine ih _ ?_ (hF.up (by omega)) h0
               have hq1 := hv.vl (hv.1.u1 (b := (atp A).2 (3 * m) * 8 + (atp A).2 (3 * m + 1)) (n := (atp A).2 (3 * m + 2)) (by omega)) (fun a a1 a2 => up2_row (by omega)) (fun i hi => setq_n (by omega))
               rw [← e8] at hq1
               exact hJ.tq (fun x hx => up2_row (by omega)) hq1 (setq_n (by omega)) (Or.inr rfl))
            | fail
  refine V_aload_n (pc := 0) dX11_row_0 rfl ?_
  refine V_getIE (pc := 1) 11 10 dX11_row_1 flX11_37 (by decide) h11.o (t1) ?_
  refine V_if_neN (pc := 4) (tgt := 14) dX11_row_4 (by decide) (by omega) (fun c4 => ?_) (fun n4 => ?_)
  · skip
    refine V_aload_n (pc := 14) dX11_row_14 rfl ?_
    refine V_getR (pc := 15) 11 4 dX11_row_15 flX11_99 (by decide) h11.o h11.R4 ?_
    refine V_getR (pc := 18) 0 3 dX11_row_18 flX11_125 (by decide) h11.O4.o h11.O4.R3 ?_
    refine V_callV (pc := 21) (ci := 2) (c_X2_clear h11.O4.O3 hR.2.2.1) dX11_row_21 mlX11_129 mkX2_clear rfl rfl h11.O4.O3.o ⟨by decide, rfl⟩ ⟨Nat.le_of_ble_eq_true rfl, Nat.le_of_ble_eq_true rfl⟩ (Nat.le_of_ble_eq_true rfl) ⟨Nat.le_of_ble_eq_true rfl, Nat.le_of_ble_eq_true rfl⟩ (fun r S' I' L' hp => ?_)
    obtain ⟨rfl, rfl, rfl, hh, hf⟩ := hp
    have hR1 := hR.un hh hf
    have hF := FrC.rf (L := L) |>.h hf
    refine V_iconst (pc := 24) (v := nI 0) dX11_row_24 (by decide) ?_
    refine V_istore_n (pc := 25) (ls' := [(0, _), (1, _)]) dX11_row_25 (by decide) rfl ?_
    refine V_aload_n (pc := 26) dX11_row_26 rfl ?_
    refine V_iconst (pc := 27) (v := nI 0) dX11_row_27 (by decide) ?_
    refine V_putI (pc := 28) 11 11 dX11_row_28 flX11_41 (by decide) (by decide) (Or.inl rfl) rfl rfl h11.o ?_
    refine V_iconst (pc := 31) (v := nI 0) dX11_row_31 (by decide) ?_
    refine V_istore_n (pc := 32) (ls' := [(0, _), (1, _), (2, _)]) dX11_row_32 (by decide) rfl ?_
    exact key 0 (by omega) _ hR1.srst (hF.up (by omega)) c4
  · skip
    refine V_aload_n (pc := 7) dX11_row_7 rfl ?_
    refine V_bipush (pc := 8) (v := (-6)) dX11_row_8 (by decide) ?_
    refine V_callVd (pc := 10) (ci := 11) (c_X11_refuse (r := 6) h11 (by decide) (by decide) (by decide)) dX11_row_10 mlX11_112 mkX11_refuse rfl rfl h11.o ⟨by decide, rfl⟩ ⟨Nat.le_of_ble_eq_true rfl, Nat.le_of_ble_eq_true rfl⟩ (Nat.le_of_ble_eq_true rfl) ⟨Nat.le_of_ble_eq_true rfl, Nat.le_of_ble_eq_true rfl⟩ ?_
    refine V_iret (pc := 13) dX11_row_13 rfl (by first | decide | omega) (by first | decide | omega) ?_
    rw [spRow, if_pos n4]
    exact ⟨rfl, rfl, hR.hrf, rfuC_Fr FrC.rf⟩
end CP
