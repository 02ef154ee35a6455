/-! THE REFERENCE reads a clause of orders, II -/
section PQ
variable {E : EnT} {S : ST} {I I0 : IT} {L L0 : LT} {o n p l d : Nat} {t : Nat → Nat} {P : List (Nat × Nat)} {c : CT} {b : Option Nat} {Q : QT} {k kd : Nat}
theorem rb201 (h12 : Lay12 E S o) (hk : k < 12) (hkd : kd < 4) {post : Option Value → ST → IT → LT → Prop} {I1 : IT} {L1 : LT} {s : PT} {q : Nat} (hF : FQ o I1 I L1 L) (h : PS o t n I1 L1 I1 L1 (some q) s) (hp0 : ∀ I' L', FQ o I' I L' L → (∃ s, PS o t n I' L' I' L' (some q) s) → post none S I' L') : VO E (QM E post 0 0) S o k kd I1 L1 201 := by
  have e19 := h.2.2.2.2.2.2.1
  refine V_aload_n (pc := 201) dX12_readOrder_201 rfl ?_
  refine V_getR (pc := 202) 12 54 dX12_readOrder_202 flX12_163 (by decide) h12.o h12.R54 ?_
  refine V_iload_n (pc := 205) dX12_readOrder_205 rfl ?_
  refine V_bipush (pc := 206) (v := nI 7) dX12_readOrder_206 (by decide) ?_
  refine V_iaddN (pc := 208) dX12_readOrder_208 ?_
  refine V_aload_n (pc := 209) dX12_readOrder_209 rfl ?_
  refine V_getI (pc := 210) 12 23 dX12_readOrder_210 flX12_312 (by decide) h12.o ?_
  refine V_iastore (pc := 213) dX12_readOrder_213 h12.A54 (by first | decide | omega) (by omega) ?_
  refine V_aload_n (pc := 214) dX12_readOrder_214 rfl ?_
  refine V_getIE (pc := 215) 12 19 dX12_readOrder_215 flX12_275 (by decide) h12.o ((up2_ne (by omega)).trans e19) ?_
  refine V_if_neB (pc := 218) (tgt := 240) dX12_readOrder_218 (by decide) (fun c218 => ?_) (fun n218 => absurd n218 (by simp))
  refine V_aload_n (pc := 240) dX12_readOrder_240 rfl ?_
  refine V_getR (pc := 241) 12 54 dX12_readOrder_241 flX12_163 (by decide) h12.o h12.R54 ?_
  refine V_iload_n (pc := 244) dX12_readOrder_244 rfl ?_
  refine V_bipush (pc := 245) (v := nI 8) dX12_readOrder_245 (by decide) ?_
  refine V_iaddN (pc := 247) dX12_readOrder_247 ?_
  refine V_aload_n (pc := 248) dX12_readOrder_248 rfl ?_
  refine V_getI (pc := 249) 12 23 dX12_readOrder_249 flX12_312 (by decide) h12.o ?_
  refine V_iastore (pc := 252) dX12_readOrder_252 h12.A54 (by first | decide | omega) (by omega) ?_
  refine V_vret (pc := 253) dX12_readOrder_253 rfl (by first | decide | omega) (by first | decide | omega) ?_
  exact hp0 _ _ ((hF.row (Or.inr rfl)).row (Or.inr rfl)) ⟨s, (h.row (Or.inr rfl)).row (Or.inr rfl)⟩
theorem OST.mv {I1 I' : IT} {L1 L' : LT} {p1 l1 p2 l2 d2 : Nat} {P2 : List (Nat × Nat)} {c1 c2 : CT} (h : OST o t n I L k c kd p1 l1 c1 I1 L1) (hF : FQ o I' I1 L' L1) (h21 : I' o 21 = I1 o 21) (hr : ∀ i, i ≤ 10 * k → I' (o + 34) i = I1 (o + 34) i) (hP : PS o t n I' L' I' L' none (p2, l2, d2, P2, c2)) (hc : c2.2.2 ≤ p2) (hl : l2 ≤ 50) (hG : CG c2) (hcc : c1.2.2 ≤ c2.2.2) (hA : AG c1.2.2 c2 c1) : OST o t n I L k c kd p2 l2 c2 I' L' := by
  obtain ⟨a1, a2, a3, a4, a5, a6, a7, a8, a9, a10⟩ := h
  exact ⟨hF.tr a1, h21.trans a2, fun i hi => (hr i (by omega)).trans (a3 i hi), (hr _ (by omega)).trans a4, ⟨d2, P2, hP⟩, hc, hl, hG, by omega, (hA.w a9).tr a10⟩
theorem ro153 (h12 : Lay12 E S o) (hod : I o 20 = b2i true) (hK : KL L o) (hk : k < 12) (hkd : kd < 4) {post : Option Value → ST → IT → LT → Prop} {I1 : IT} {L1 : LT} {p1 l1 : Nat} {c1 : CT} {s3 : SF × SF × SF} (h : OST o t n I L k c kd p1 l1 c1 I1 L1) (hS : SM (I1 (o + 34)) c1 k kd s3)
    (hpost : ∀ I' L', ROw o t n I L k c (bq (oT t n p1 l1) fun p2 l2 tm => bq (oI t n p2 l2) fun p3 l3 T => (p3, l3, some (kd, tm, s3, T))) I' L' → post none S I' L') : VO E (QM E post 0 0) S o k kd I1 L1 153 := by
  have h0 := h
  obtain ⟨hF, h21, hrow, h0', ⟨d1, P1, hP⟩, hc1, hl1, hG1, hcc, hA⟩ := h
  have hn400 := hP.n400
  have hp1 : p1 ≤ n := hn400.2
  have hs2 := hP.row (a := o + 34) (i := 10 * k + 9) (v := nI 1) (Or.inr rfl)
  have hF1 : FQ o (up2 I1 (o + 34) (10 * k + 9) (nI 1)) I1 L1 L1 := FQ.rf.row (Or.inr rfl)
  have hm : ∀ i, i ≤ 10 * k → up2 I1 (o + 34) (10 * k + 9) (nI 1) (o + 34) i = I1 (o + 34) i := fun i hi => up2_nej (by omega)
  by_cases ht : tc t n p1 = 4
  · rw [oT, if_pos ht] at hpost
    have hx := nxt_lt (t := t) hp1 (by omega)
    by_cases hnm : tc t n (nxt t n p1) = 91 ∧ 1 ≤ nm t n (nxt t n p1) ∧ nm t n (nxt t n p1) ≤ 20
    · rw [if_pos hnm, bq_s rfl] at hpost
      have hy := nxt_lt (t := t) hx.2 (by omega)
      refine V_aload_n (pc := 153) dX12_readOrder_153 rfl ?_
      refine V_getR (pc := 154) 12 54 dX12_readOrder_154 flX12_163 (by decide) h12.o h12.R54 ?_
      refine V_iload_n (pc := 157) dX12_readOrder_157 rfl ?_
      refine V_bipush (pc := 158) (v := nI 9) dX12_readOrder_158 (by decide) ?_
      refine V_iaddN (pc := 160) dX12_readOrder_160 ?_
      refine V_iconst (pc := 161) (v := nI 1) dX12_readOrder_161 (by decide) ?_
      refine V_iastore (pc := 162) dX12_readOrder_162 h12.A54 (by first | decide | omega) (by omega) ?_
      refine V_aload_n (pc := 163) dX12_readOrder_163 rfl ?_
      refine V_getIE (pc := 164) 12 19 dX12_readOrder_164 flX12_275 (by decide) h12.o (hs2.2.2.2.2.2.2.1) ?_
      refine V_if_neB (pc := 167) (tgt := 201) dX12_readOrder_167 (by decide) (fun c167 => absurd c167 (by simp)) (fun n167 => ?_)
      refine V_aload_n (pc := 170) dX12_readOrder_170 rfl ?_
      refine V_ldc2 (pc := 171) dX12_readOrder_171 coX12_537 ?_
      refine V_callVd (pc := 174) (ci := 12) (c_X12_isWord (k := 4) h12 hs2.1 (by decide) (by decide)) dX12_readOrder_174 mlX12_331 mkX12_isWord rfl rfl h12.o ⟨by decide, rfl⟩ ⟨Nat.le_of_ble_eq_true rfl, Nat.le_of_ble_eq_true rfl⟩ (Nat.le_of_ble_eq_true rfl) ⟨Nat.le_of_ble_eq_true rfl, Nat.le_of_ble_eq_true rfl⟩ ?_
      refine V_if_eqB (pc := 177) (tgt := 201) dX12_readOrder_177 (by decide) (fun c177 => absurd c177 (by rw [decide_eq_true (show tc t n p1 = 4 from ht)]; decide)) (fun n177 => ?_)
      refine V_aload_n (pc := 180) dX12_readOrder_180 rfl ?_
      refine V_callV (pc := 181) (ci := 12) (c_X12_nextP h12 hs2) dX12_readOrder_181 mlX12_279 mkX12_next rfl rfl h12.o ⟨by decide, rfl⟩ ⟨Nat.le_of_ble_eq_true rfl, Nat.le_of_ble_eq_true rfl⟩ (Nat.le_of_ble_eq_true rfl) ⟨Nat.le_of_ble_eq_true rfl, Nat.le_of_ble_eq_true rfl⟩ (fun r S' I' L' hp => ?_)
      obtain ⟨rfl, rfl, hP2⟩ := hp
      refine V_aload_n (pc := 184) dX12_readOrder_184 rfl ?_
      refine V_getR (pc := 185) 12 54 dX12_readOrder_185 flX12_163 (by decide) h12.o h12.R54 ?_
      refine V_iload_n (pc := 188) dX12_readOrder_188 rfl ?_
      refine V_bipush (pc := 189) (v := nI 9) dX12_readOrder_189 (by decide) ?_
      refine V_iaddN (pc := 191) dX12_readOrder_191 ?_
      refine V_aload_n (pc := 192) dX12_readOrder_192 rfl ?_
      refine V_lconst (pc := 193) (v := lN 1) dX12_readOrder_193 (by decide) ?_
      refine V_ldc2 (pc := 194) dX12_readOrder_194 coX12_211 ?_
      refine V_callV (pc := 197) (ci := 12) (c_X12_number (lo := 1) (hi := 20) h12 hP2 (by omega) (by omega)) dX12_readOrder_197 mlX12_368 mkX12_number rfl rfl h12.o ⟨by decide, rfl⟩ ⟨Nat.le_of_ble_eq_true rfl, Nat.le_of_ble_eq_true rfl⟩ (Nat.le_of_ble_eq_true rfl) ⟨Nat.le_of_ble_eq_true rfl, Nat.le_of_ble_eq_true rfl⟩ (fun r S' I' L' hp => ?_)
      obtain ⟨v2, rfl, rfl, hn1, _⟩ := hp
      obtain ⟨rfl, hP3⟩ := hn1 hnm
      have hFP := hP3.2.2.2.2.2.2.2.2
      have r34 := hFP.1 (o + 34) (by omega) (by omega)
      refine V_iastore (pc := 200) dX12_readOrder_200 h12.A54 (by first | decide | omega) (by omega) ?_
      refine ro201 (tm := nm t n (nxt t n p1)) (s3 := s3) h12 hod hK hk hkd (h0.mv ((hFP.q.tr hF1).row (Or.inr rfl)) ?_ (fun i hi => ?_) (hP3.row (Or.inr rfl)) (show c1.2.2 ≤ nxt t n (nxt t n p1) by omega) hl1 hG1 (Nat.le_refl _) AG.rf) (hS.cg (fun i h1 h2 => ?_) (Nat.le_refl _) AG.rf) hnm.2.2 up2_self hpost
      · rw [up2_ne (by omega), hFP.2.1 21 (by omega), up2_ne (by omega)]
      · rw [up2_nej (by omega), r34]; exact hm i hi
      · rw [up2_nej (by omega), r34, up2_nej (by omega)]
    · rw [if_neg hnm, bq_n rfl] at hpost
      refine V_aload_n (pc := 153) dX12_readOrder_153 rfl ?_
      refine V_getR (pc := 154) 12 54 dX12_readOrder_154 flX12_163 (by decide) h12.o h12.R54 ?_
      refine V_iload_n (pc := 157) dX12_readOrder_157 rfl ?_
      refine V_bipush (pc := 158) (v := nI 9) dX12_readOrder_158 (by decide) ?_
      refine V_iaddN (pc := 160) dX12_readOrder_160 ?_
      refine V_iconst (pc := 161) (v := nI 1) dX12_readOrder_161 (by decide) ?_
      refine V_iastore (pc := 162) dX12_readOrder_162 h12.A54 (by first | decide | omega) (by omega) ?_
      refine V_aload_n (pc := 163) dX12_readOrder_163 rfl ?_
      refine V_getIE (pc := 164) 12 19 dX12_readOrder_164 flX12_275 (by decide) h12.o (hs2.2.2.2.2.2.2.1) ?_
      refine V_if_neB (pc := 167) (tgt := 201) dX12_readOrder_167 (by decide) (fun c167 => absurd c167 (by simp)) (fun n167 => ?_)
      refine V_aload_n (pc := 170) dX12_readOrder_170 rfl ?_
      refine V_ldc2 (pc := 171) dX12_readOrder_171 coX12_537 ?_
      refine V_callVd (pc := 174) (ci := 12) (c_X12_isWord (k := 4) h12 hs2.1 (by decide) (by decide)) dX12_readOrder_174 mlX12_331 mkX12_isWord rfl rfl h12.o ⟨by decide, rfl⟩ ⟨Nat.le_of_ble_eq_true rfl, Nat.le_of_ble_eq_true rfl⟩ (Nat.le_of_ble_eq_true rfl) ⟨Nat.le_of_ble_eq_true rfl, Nat.le_of_ble_eq_true rfl⟩ ?_
      refine V_if_eqB (pc := 177) (tgt := 201) dX12_readOrder_177 (by decide) (fun c177 => absurd c177 (by rw [decide_eq_true (show tc t n p1 = 4 from ht)]; decide)) (fun n177 => ?_)
      refine V_aload_n (pc := 180) dX12_readOrder_180 rfl ?_
      refine V_callV (pc := 181) (ci := 12) (c_X12_nextP h12 hs2) dX12_readOrder_181 mlX12_279 mkX12_next rfl rfl h12.o ⟨by decide, rfl⟩ ⟨Nat.le_of_ble_eq_true rfl, Nat.le_of_ble_eq_true rfl⟩ (Nat.le_of_ble_eq_true rfl) ⟨Nat.le_of_ble_eq_true rfl, Nat.le_of_ble_eq_true rfl⟩ (fun r S' I' L' hp => ?_)
      obtain ⟨rfl, rfl, hP2⟩ := hp
      refine V_aload_n (pc := 184) dX12_readOrder_184 rfl ?_
      refine V_getR (pc := 185) 12 54 dX12_readOrder_185 flX12_163 (by decide) h12.o h12.R54 ?_
      refine V_iload_n (pc := 188) dX12_readOrder_188 rfl ?_
      refine V_bipush (pc := 189) (v := nI 9) dX12_readOrder_189 (by decide) ?_
      refine V_iaddN (pc := 191) dX12_readOrder_191 ?_
      refine V_aload_n (pc := 192) dX12_readOrder_192 rfl ?_
      refine V_lconst (pc := 193) (v := lN 1) dX12_readOrder_193 (by decide) ?_
      refine V_ldc2 (pc := 194) dX12_readOrder_194 coX12_211 ?_
      refine V_callV (pc := 197) (ci := 12) (c_X12_number (lo := 1) (hi := 20) h12 hP2 (by omega) (by omega)) dX12_readOrder_197 mlX12_368 mkX12_number rfl rfl h12.o ⟨by decide, rfl⟩ ⟨Nat.le_of_ble_eq_true rfl, Nat.le_of_ble_eq_true rfl⟩ (Nat.le_of_ble_eq_true rfl) ⟨Nat.le_of_ble_eq_true rfl, Nat.le_of_ble_eq_true rfl⟩ (fun r S' I' L' hp => ?_)
      obtain ⟨v2, rfl, rfl, _, hn1⟩ := hp
      have hP3 := hn1 hnm
      have hFP := hP3.2.2.2.2.2.2.2.2
      refine V_iastore (pc := 200) dX12_readOrder_200 h12.A54 (by first | decide | omega) (by omega) ?_
      exact rb201 h12 hk hkd (((hFP.q.tr hF1).row (Or.inr rfl)).tr hF) (hP3.row (Or.inr rfl)) (fun I9 L9 z1 z2 => hpost _ _ ⟨z1, (fun _ => z2), fun x hx => by cases hx⟩)
  · rw [oT, if_neg ht, bq_s rfl] at hpost
    refine V_aload_n (pc := 153) dX12_readOrder_153 rfl ?_
    refine V_getR (pc := 154) 12 54 dX12_readOrder_154 flX12_163 (by decide) h12.o h12.R54 ?_
    refine V_iload_n (pc := 157) dX12_readOrder_157 rfl ?_
    refine V_bipush (pc := 158) (v := nI 9) dX12_readOrder_158 (by decide) ?_
    refine V_iaddN (pc := 160) dX12_readOrder_160 ?_
    refine V_iconst (pc := 161) (v := nI 1) dX12_readOrder_161 (by decide) ?_
    refine V_iastore (pc := 162) dX12_readOrder_162 h12.A54 (by first | decide | omega) (by omega) ?_
    refine V_aload_n (pc := 163) dX12_readOrder_163 rfl ?_
    refine V_getIE (pc := 164) 12 19 dX12_readOrder_164 flX12_275 (by decide) h12.o (hs2.2.2.2.2.2.2.1) ?_
    refine V_if_neB (pc := 167) (tgt := 201) dX12_readOrder_167 (by decide) (fun c167 => absurd c167 (by simp)) (fun n167 => ?_)
    refine V_aload_n (pc := 170) dX12_readOrder_170 rfl ?_
    refine V_ldc2 (pc := 171) dX12_readOrder_171 coX12_537 ?_
    refine V_callVd (pc := 174) (ci := 12) (c_X12_isWord (k := 4) h12 hs2.1 (by decide) (by decide)) dX12_readOrder_174 mlX12_331 mkX12_isWord rfl rfl h12.o ⟨by decide, rfl⟩ ⟨Nat.le_of_ble_eq_true rfl, Nat.le_of_ble_eq_true rfl⟩ (Nat.le_of_ble_eq_true rfl) ⟨Nat.le_of_ble_eq_true rfl, Nat.le_of_ble_eq_true rfl⟩ ?_
    refine V_if_eqB (pc := 177) (tgt := 201) dX12_readOrder_177 (by decide) (fun c177 => ?_) (fun n177 => absurd n177 (by rw [decide_eq_false (show ¬ tc t n p1 = 4 from ht)]; decide))
    exact ro201 (tm := 1) (s3 := s3) h12 hod hK hk hkd (h0.mv hF1 (up2_ne (by omega)) hm hs2 hc1 hl1 hG1 (Nat.le_refl _) AG.rf) (hS.cg (fun i h1 h2 => up2_nej (by omega)) (Nat.le_refl _) AG.rf) (by omega) up2_self hpost
theorem ro113 (h12 : Lay12 E S o) (hod : I o 20 = b2i true) (hK : KL L o) (hk : k < 12) (hkd : kd < 4) {post : Option Value → ST → IT → LT → Prop} {I1 : IT} {L1 : LT} {p1 l1 : Nat} {c1 : CT} (h : OST o t n I L k c kd p1 l1 c1 I1 L1) (hz : ∀ i, 10 * k < i → i < 10 * k + 10 → I1 (o + 34) i = nI 0)
    (hpost : ∀ I' L', ROw o t n I L k c (bq (oS t n kd p1 l1) fun p1 l1 s3 => bq (oT t n p1 l1) fun p2 l2 tm => bq (oI t n p2 l2) fun p3 l3 T => (p3, l3, some (kd, tm, s3, T))) I' L' → post none S I' L') : VO E (QM E post 0 0) S o k kd I1 L1 113 := by
  have h0 := h
  obtain ⟨hF, h21, hrow, h0', ⟨d1, P1, hP⟩, hc1, hl1, hG1, hcc, hA⟩ := h
  by_cases h3 : kd = 3
  · rw [oS, if_pos h3, bq_s rfl] at hpost
    refine V_iload_n (pc := 113) dX12_readOrder_113 rfl ?_
    refine V_iconst (pc := 114) (v := nI 3) dX12_readOrder_114 (by decide) ?_
    refine V_icmp_eqN (pc := 115) (tgt := 137) dX12_readOrder_115 (by decide) (by omega) (by omega) (fun c115 => ?_) (fun n115 => absurd n115 (by omega))
    refine V_iload_n (pc := 137) dX12_readOrder_137 rfl ?_
    refine V_if_neN (pc := 138) (tgt := 153) dX12_readOrder_138 (by decide) (by omega) (fun c138 => ?_) (fun n138 => absurd n138 (by omega))
    exact ro153 (s3 := (one, one, one)) h12 hod hK hk hkd h0 ⟨fun z => absurd h3 z, fun _ => ⟨⟨hz _ (by omega) (by omega), hz _ (by omega) (by omega)⟩, hz _ (by omega) (by omega), hz _ (by omega) (by omega)⟩, fun z => absurd z (by omega), fun _ => ⟨hz _ (by omega) (by omega), hz _ (by omega) (by omega)⟩⟩ hpost
  · rw [oS, if_neg h3] at hpost
    -- behind a fault
    have flt : ∀ {q : Nat} (X : Nat × Nat × Option OC), X.1 = q → X.2.2 = none → (∀ I' L', ROw o t n I L k c X I' L' → post none S I' L') → ∀ I' L', FQ o I' I L' L → (∃ s, PS o t n I' L' I' L' (some q) s) → post none S I' L' := by
      intro q X e1 e2 hX I' L' z1 z2
      subst e1
      exact hX _ _ ⟨z1, (fun _ => z2), fun x hx => by rw [e2] at hx; cases hx⟩
    refine V_iload_n (pc := 113) dX12_readOrder_113 rfl ?_
    refine V_iconst (pc := 114) (v := nI 3) dX12_readOrder_114 (by decide) ?_
    refine V_icmp_eqN (pc := 115) (tgt := 137) dX12_readOrder_115 (by decide) (by omega) (by omega) (fun c115 => absurd c115 (by omega)) (fun n115 => ?_)
    refine V_aload_n (pc := 118) dX12_readOrder_118 rfl ?_
    refine V_iload_n (pc := 119) dX12_readOrder_119 rfl ?_
    refine V_iconst (pc := 120) (v := nI 1) dX12_readOrder_120 (by decide) ?_
    refine V_iaddN (pc := 121) dX12_readOrder_121 ?_
    refine V_callV (pc := 122) (ci := 12) (c_X12_readSum h12 (by omega) ((hF.2.1 20 (by omega)).trans hod) (hF.t.kl hK) hP hc1 hl1 hG1) dX12_readOrder_122 mlX12_531 mkX12_readSum rfl rfl h12.o ⟨by decide, rfl⟩ ⟨Nat.le_of_ble_eq_true rfl, Nat.le_of_ble_eq_true rfl⟩ (Nat.le_of_ble_eq_true rfl) ⟨Nat.le_of_ble_eq_true rfl, Nat.le_of_ble_eq_true rfl⟩ (fun r S' I' L' hp => ?_)
    obtain ⟨rfl, rfl, e1, e2, e3, e4, e5⟩ := hp
    rcases hG2 : (oSum t n p1 l1).2.2 with _ | F
    skip
    · rw [bq_n (r := oSum t n p1 l1) hG2, bq_n rfl] at hpost
      obtain ⟨s, hs⟩ := e4 hG2
      exact (rb125 h12 hk hkd (e1.tr hF) hs (flt _ rfl rfl hpost)).2
    · rw [bq_s (r := oSum t n p1 l1) hG2] at hpost
      obtain ⟨c2, f1, f2, f3, f4, f5, f6, f7⟩ := e5 F hG2
      have hst := h0.mv e1 e2 (fun i hi => e3 i (by omega) (by omega)) f1 f2 f3 f4 f5 f6
      have hz2 : ∀ i, 10 * k + 2 < i → i < 10 * k + 10 → I' (o + 34) i = nI 0 := fun i g1 g2 => (e3 i (by omega) (by omega)).trans (hz i (by omega) g2)
      generalize hp2 : (oSum t n p1 l1).1 = p2 at *
      generalize hl2 : (oSum t n p1 l1).2.1 = l2 at *
      clear e3 e4 e5
      have hFx := e1.tr hF
      have hpn2 : p2 ≤ n := f1.n400.2
      refine V_aload_n (pc := 125) dX12_readOrder_125 rfl ?_
      refine V_iload_n (pc := 126) dX12_readOrder_126 rfl ?_
      have ho := h12.o
      by_cases hj : tc t n p2 = 5 + kd
      · rw [if_pos hj] at hpost
        have hx := nxt_lt (t := t) hpn2 (by omega)
        refine V_callV (pc := 127) (ci := 12) (c_X12_mustJoin h12 (by omega) (hFx.t.kl hK) f1) dX12_readOrder_127 mlX12_534 mkX12_mustJoin rfl rfl (by assumption) ⟨by decide, rfl⟩ ⟨Nat.le_of_ble_eq_true rfl, Nat.le_of_ble_eq_true rfl⟩ (Nat.le_of_ble_eq_true rfl) ⟨Nat.le_of_ble_eq_true rfl, Nat.le_of_ble_eq_true rfl⟩ (fun r S' I' L' hp => ?_)
        obtain ⟨rfl, rfl, g1, g2, _⟩ := hp
        have g2 := g2 hj
        have hst2 := hst.mv g1.q (g1.2.1 21 (by omega)) (fun i hi => by rw [g1.1 (o + 34) (by omega) (by omega)]) g2 (show c2.2.2 ≤ nxt t n p2 by omega) f3 f4 (Nat.le_refl _) AG.rf
        have r34 := g1.1 (o + 34) (by omega) (by omega)
        refine V_aload_n (pc := 130) dX12_readOrder_130 rfl ?_
        refine V_iload_n (pc := 131) dX12_readOrder_131 rfl ?_
        refine V_iconst (pc := 132) (v := nI 3) dX12_readOrder_132 (by decide) ?_
        refine V_iaddN (pc := 133) dX12_readOrder_133 ?_
        refine V_callV (pc := 134) (ci := 12) (c_X12_readSum h12 (by omega) ((hst2.1.2.1 20 (by omega)).trans hod) (hst2.1.t.kl hK) g2 (show c2.2.2 ≤ nxt t n p2 by omega) f3 f4) dX12_readOrder_134 mlX12_531 mkX12_readSum rfl rfl h12.o ⟨by decide, rfl⟩ ⟨Nat.le_of_ble_eq_true rfl, Nat.le_of_ble_eq_true rfl⟩ (Nat.le_of_ble_eq_true rfl) ⟨Nat.le_of_ble_eq_true rfl, Nat.le_of_ble_eq_true rfl⟩ (fun r S' I' L' hp => ?_)
        obtain ⟨rfl, rfl, k1, k2, k3, k4, k5⟩ := hp
        rcases hG3 : (oSum t n (nxt t n p2) l2).2.2 with _ | G
        skip
        · rw [bq_n (r := oSum t n (nxt t n p2) l2) hG3, bq_n rfl] at hpost
          obtain ⟨s, hs⟩ := k4 hG3
          exact rb137 h12 hk hkd (k1.tr hst2.1) hs (flt _ rfl rfl hpost)
        · rw [bq_s (r := oSum t n (nxt t n p2) l2) hG3] at hpost
          obtain ⟨c3, m1, m2, m3, m4, m5, m6, m7⟩ := k5 G hG3
          have hst3 := hst2.mv k1 k2 (fun i hi => k3 i (by omega) (by omega)) m1 m2 m3 m4 m5 m6
          have su1 : SU (I' (o + 34)) c3 (10 * k + 1) F := f7.cg (by rw [k3 _ (by omega) (by omega), r34]) (by rw [k3 _ (by omega) (by omega), r34]) m5 m6
          have hz3 : ∀ i, 10 * k + 4 < i → i < 10 * k + 10 → I' (o + 34) i = nI 0 := fun i g1 g2 => by rw [k3 i (by omega) (by omega), r34]; exact hz2 i (by omega) g2
          generalize hp4 : (oSum t n (nxt t n p2) l2).1 = p4 at *
          generalize hl4 : (oSum t n (nxt t n p2) l2).2.1 = l4 at *
          clear k3 k4 k5
          have hpn4 : p4 ≤ n := m1.n400.2
          by_cases hk0 : kd = 0
          · rw [if_pos hk0] at hpost
            by_cases hj2 : tc t n p4 = 6
            · rw [if_pos hj2] at hpost
              have hx4 := nxt_lt (t := t) hpn4 (by omega)
              refine V_iload_n (pc := 137) dX12_readOrder_137 rfl ?_
              refine V_if_neN (pc := 138) (tgt := 153) dX12_readOrder_138 (by decide) (by omega) (fun c138 => absurd c138 (by omega)) (fun n138 => ?_)
              refine V_aload_n (pc := 141) dX12_readOrder_141 rfl ?_
              refine V_iconst (pc := 142) (v := nI 1) dX12_readOrder_142 (by decide) ?_
              refine V_callV (pc := 143) (ci := 12) (c_X12_mustJoin (k := 1) h12 (by omega) (hst3.1.t.kl hK) m1) dX12_readOrder_143 mlX12_534 mkX12_mustJoin rfl rfl h12.o ⟨by decide, rfl⟩ ⟨Nat.le_of_ble_eq_true rfl, Nat.le_of_ble_eq_true rfl⟩ (Nat.le_of_ble_eq_true rfl) ⟨Nat.le_of_ble_eq_true rfl, Nat.le_of_ble_eq_true rfl⟩ (fun r S' I' L' hp => ?_)
              obtain ⟨rfl, rfl, u1, u2, _⟩ := hp
              have u2 := u2 hj2
              have hst4 := hst3.mv u1.q (u1.2.1 21 (by omega)) (fun i hi => by rw [u1.1 (o + 34) (by omega) (by omega)]) u2 (show c3.2.2 ≤ nxt t n p4 by omega) m3 m4 (Nat.le_refl _) AG.rf
              have r35 := u1.1 (o + 34) (by omega) (by omega)
              refine V_aload_n (pc := 146) dX12_readOrder_146 rfl ?_
              refine V_iload_n (pc := 147) dX12_readOrder_147 rfl ?_
              refine V_iconst (pc := 148) (v := nI 5) dX12_readOrder_148 (by decide) ?_
              refine V_iaddN (pc := 149) dX12_readOrder_149 ?_
              refine V_callV (pc := 150) (ci := 12) (c_X12_readSum h12 (by omega) ((hst4.1.2.1 20 (by omega)).trans hod) (hst4.1.t.kl hK) u2 (show c3.2.2 ≤ nxt t n p4 by omega) m3 m4) dX12_readOrder_150 mlX12_531 mkX12_readSum rfl rfl h12.o ⟨by decide, rfl⟩ ⟨Nat.le_of_ble_eq_true rfl, Nat.le_of_ble_eq_true rfl⟩ (Nat.le_of_ble_eq_true rfl) ⟨Nat.le_of_ble_eq_true rfl, Nat.le_of_ble_eq_true rfl⟩ (fun r S' I' L' hp => ?_)
              obtain ⟨rfl, rfl, v1, v2, v3, v4, v5⟩ := hp
              rcases hG4 : (oSum t n (nxt t n p4) l4).2.2 with _ | H
              skip
              · rw [bq_n (r := oSum t n (nxt t n p4) l4) hG4, bq_n rfl] at hpost
                obtain ⟨s, hs⟩ := v4 hG4
                exact rb153 h12 hk hkd (v1.tr hst4.1) hs (flt _ rfl rfl hpost)
              · rw [bq_s (r := oSum t n (nxt t n p4) l4) hG4, bq_s rfl] at hpost
                obtain ⟨c5, w1, w2, w3, w4, w5, w6, w7⟩ := v5 H hG4
                have hst5 := hst4.mv v1 v2 (fun i hi => v3 i (by omega) (by omega)) w1 w2 w3 w4 w5 w6
                exact ro153 (s3 := (F, G, H)) h12 hod hK hk hkd hst5 ⟨fun _ => ⟨su1.cg (by rw [v3 _ (by omega) (by omega), r35]) (by rw [v3 _ (by omega) (by omega), r35]) w5 w6, m7.cg (by rw [v3 _ (by omega) (by omega), r35]) (by rw [v3 _ (by omega) (by omega), r35]) w5 w6⟩, fun z => absurd z h3, fun _ => w7, fun z => absurd hk0 z⟩ hpost
            · rw [if_neg hj2, bq_n rfl] at hpost
              refine V_iload_n (pc := 137) dX12_readOrder_137 rfl ?_
              refine V_if_neN (pc := 138) (tgt := 153) dX12_readOrder_138 (by decide) (by omega) (fun c138 => absurd c138 (by omega)) (fun n138 => ?_)
              refine V_aload_n (pc := 141) dX12_readOrder_141 rfl ?_
              refine V_iconst (pc := 142) (v := nI 1) dX12_readOrder_142 (by decide) ?_
              refine V_callV (pc := 143) (ci := 12) (c_X12_mustJoin (k := 1) h12 (by omega) (hst3.1.t.kl hK) m1) dX12_readOrder_143 mlX12_534 mkX12_mustJoin rfl rfl h12.o ⟨by decide, rfl⟩ ⟨Nat.le_of_ble_eq_true rfl, Nat.le_of_ble_eq_true rfl⟩ (Nat.le_of_ble_eq_true rfl) ⟨Nat.le_of_ble_eq_true rfl, Nat.le_of_ble_eq_true rfl⟩ (fun r S' I' L' hp => ?_)
              obtain ⟨rfl, rfl, u1, _, u2⟩ := hp
              have u2 := u2 hj2
              refine V_aload_n (pc := 146) dX12_readOrder_146 rfl ?_
              refine V_iload_n (pc := 147) dX12_readOrder_147 rfl ?_
              refine V_iconst (pc := 148) (v := nI 5) dX12_readOrder_148 (by decide) ?_
              refine V_iaddN (pc := 149) dX12_readOrder_149 ?_
              refine V_callV (pc := 150) (ci := 12) (c_X12_readSum_b h12 (by omega) u2) dX12_readOrder_150 mlX12_531 mkX12_readSum rfl rfl h12.o ⟨by decide, rfl⟩ ⟨Nat.le_of_ble_eq_true rfl, Nat.le_of_ble_eq_true rfl⟩ (Nat.le_of_ble_eq_true rfl) ⟨Nat.le_of_ble_eq_true rfl, Nat.le_of_ble_eq_true rfl⟩ (fun r S' I' L' hp => ?_)
              obtain ⟨rfl, rfl, v1, v2⟩ := hp
              exact rb153 h12 hk hkd (v1.tr (u1.q.tr hst3.1)) v2 (flt _ rfl rfl hpost)
          · rw [if_neg hk0, bq_s rfl] at hpost
            refine V_iload_n (pc := 137) dX12_readOrder_137 rfl ?_
            refine V_if_neN (pc := 138) (tgt := 153) dX12_readOrder_138 (by decide) (by omega) (fun c138 => ?_) (fun n138 => absurd n138 (by omega))
            exact ro153 (s3 := (F, G, one)) h12 hod hK hk hkd hst3 ⟨fun _ => ⟨su1, m7⟩, fun z => absurd z h3, fun z => absurd z hk0, fun _ => ⟨hz3 _ (by omega) (by omega), hz3 _ (by omega) (by omega)⟩⟩ hpost
      · rw [if_neg hj, bq_n rfl] at hpost
        refine V_callV (pc := 127) (ci := 12) (c_X12_mustJoin h12 (by omega) (hFx.t.kl hK) f1) dX12_readOrder_127 mlX12_534 mkX12_mustJoin rfl rfl (by assumption) ⟨by decide, rfl⟩ ⟨Nat.le_of_ble_eq_true rfl, Nat.le_of_ble_eq_true rfl⟩ (Nat.le_of_ble_eq_true rfl) ⟨Nat.le_of_ble_eq_true rfl, Nat.le_of_ble_eq_true rfl⟩ (fun r S' I' L' hp => ?_)
        obtain ⟨rfl, rfl, g1, _, g2⟩ := hp
        have g2 := g2 hj
        exact (rb125 h12 hk hkd (g1.q.tr hFx) g2 (flt _ rfl rfl hpost)).1
theorem ac_w : ∀ k, k < 4 → 12 + k < 29 ∧ tcv (12 + k) = wrd4 k := by
  have h : ∀ k : Fin 4, 12 + k.1 < 29 ∧ tcv (12 + k.1) = wrd4 k.1 := by decide
  exact fun k hk => h ⟨k, hk⟩
theorem lp_ro1 (h12 : Lay12 E S o) (hT : TK o t n I L p) (hK : KL L o) (hk : V E kX12_readOrder (rmOf 8 0 0) Q 0 0 S I L 34 [(0, .ref o), (1, .int (pred1 (itk (fun k => 12 + k) (tc t n p) 4))), (2, .int (nI 4))] []) : V E kX12_readOrder (rmOf 8 0 0) Q 0 0 S I L 0 [(0, .ref o)] [] := by
  refine V_iconst (pc := 0) (v := (-1)) dX12_readOrder_0 (by decide) ?_
  refine V_istore_n (pc := 1) (ls' := [(0, _), (1, _)]) dX12_readOrder_1 (by decide) rfl ?_
  refine V_iconst (pc := 2) (v := nI 0) dX12_readOrder_2 (by decide) ?_
  refine V_istore_n (pc := 3) (ls' := [(0, _), (1, _), (2, _)]) dX12_readOrder_3 (by decide) rfl ?_
  refine loopUp (P := fun j => V E kX12_readOrder (rmOf 8 0 0) Q 0 0 S I L 4 [(0, .ref o), (1, .int (pred1 (itk (fun k => 12 + k) (tc t n p) j))), (2, .int (nI j))] []) (n := 4) ?_ ?_ 0 (by omega)
  · skip
    refine V_iload_n (pc := 4) dX12_readOrder_4 rfl ?_
    refine V_iconst (pc := 5) (v := nI 4) dX12_readOrder_5 (by decide) ?_
    refine V_icmp_geN (pc := 6) (tgt := 34) dX12_readOrder_6 (by decide) (by omega) (by omega) (fun c6 => ?_) (fun n6 => absurd n6 (by omega))
    exact hk
  · intro j hj ih
    rw [itk_s _ _ j] at ih
    refine V_iload_n (pc := 4) dX12_readOrder_4 rfl ?_
    refine V_iconst (pc := 5) (v := nI 4) dX12_readOrder_5 (by decide) ?_
    refine V_icmp_geN (pc := 6) (tgt := 34) dX12_readOrder_6 (by decide) (by omega) (by omega) (fun c6 => absurd c6 (by omega)) (fun n6 => ?_)
    refine V_aload_n (pc := 9) dX12_readOrder_9 rfl ?_
    refine V_aload_n (pc := 10) dX12_readOrder_10 rfl ?_
    refine V_getR (pc := 11) 12 52 dX12_readOrder_11 flX12_151 (by decide) h12.o h12.R52 ?_
    refine V_iload_n (pc := 14) dX12_readOrder_14 rfl ?_
    refine V_laloadE (pc := 15) dX12_readOrder_15 h12.A52 (by first | decide | omega) (by omega) (hK.2.2.2.1 j hj) ?_
    refine V_callVd (pc := 16) (ci := 12) (c_X12_isWord h12 hT (ac_w j hj).1 (ac_w j hj).2) dX12_readOrder_16 mlX12_331 mkX12_isWord rfl rfl h12.o ⟨by decide, rfl⟩ ⟨Nat.le_of_ble_eq_true rfl, Nat.le_of_ble_eq_true rfl⟩ (Nat.le_of_ble_eq_true rfl) ⟨Nat.le_of_ble_eq_true rfl, Nat.le_of_ble_eq_true rfl⟩ ?_
    refine V_if_eqB (pc := 19) (tgt := 26) dX12_readOrder_19 (by decide) (fun c19 => ?_) (fun n19 => ?_)
    · skip
      rw [if_neg (of_decide_eq_false c19)] at ih
      refine V_iload_n (pc := 26) dX12_readOrder_26 rfl ?_
      refine V_istore_n (pc := 27) (ls' := [(0, _), (1, _), (2, _)]) dX12_readOrder_27 (by decide) rfl ?_
      refine V_iinc1 (pc := 28) (ls' := [(0, _), (1, _), (2, _)]) dX12_readOrder_28 rfl (by decide) rfl ?_
      refine V_goto (pc := 31) (tgt := 4) dX12_readOrder_31 (by decide) ?_
      exact ih
    · skip
      rw [if_pos (of_decide_eq_true n19), pred1_s] at ih
      refine V_iload_n (pc := 22) dX12_readOrder_22 rfl ?_
      refine V_goto (pc := 23) (tgt := 27) dX12_readOrder_23 (by decide) ?_
      refine V_istore_n (pc := 27) (ls' := [(0, _), (1, _), (2, _)]) dX12_readOrder_27 (by decide) rfl ?_
      refine V_iinc1 (pc := 28) (ls' := [(0, _), (1, _), (2, _)]) dX12_readOrder_28 rfl (by decide) rfl ?_
      refine V_goto (pc := 31) (tgt := 4) dX12_readOrder_31 (by decide) ?_
      exact ih
def FZ0 (a q j : Nat) (I2 I : IT) : Prop := (∀ x, x ≠ a → I2 x = I x) ∧ (∀ i, i < q → I2 a i = I a i) ∧ ∀ i, i < j → I2 a (q + i) = nI 0
theorem lp_ro2 (h12 : Lay12 E S o) {a1 : Int32} (hk12 : k < 12) (hk : ∀ I2, FZ0 (o + 34) (10 * k) 10 I2 I → V E kX12_readOrder (rmOf 8 0 0) Q 0 0 S I2 L 106 [(0, .ref o), (1, .int a1), (2, .int (nI (10 * k))), (3, .int (nI 10))] []) : ∀ (m j : Nat) (I2 : IT), j + m = 10 → FZ0 (o + 34) (10 * k) j I2 I → V E kX12_readOrder (rmOf 8 0 0) Q 0 0 S I2 L 85 [(0, .ref o), (1, .int a1), (2, .int (nI (10 * k))), (3, .int (nI j))] [] := by
  intro m
  induction m with
  | zero =>
    intro j I2 hj hZ
    have e : j = 10 := by omega
    subst e
    refine V_iload_n (pc := 85) dX12_readOrder_85 rfl ?_
    refine V_bipush (pc := 86) (v := nI 10) dX12_readOrder_86 (by decide) ?_
    refine V_icmp_geN (pc := 88) (tgt := 106) dX12_readOrder_88 (by decide) (by omega) (by omega) (fun c88 => ?_) (fun n88 => absurd n88 (by omega))
    exact hk I2 hZ
  | succ m ih =>
    intro j I2 hj hZ
    refine V_iload_n (pc := 85) dX12_readOrder_85 rfl ?_
    refine V_bipush (pc := 86) (v := nI 10) dX12_readOrder_86 (by decide) ?_
    refine V_icmp_geN (pc := 88) (tgt := 106) dX12_readOrder_88 (by decide) (by omega) (by omega) (fun c88 => absurd c88 (by omega)) (fun n88 => ?_)
    refine V_aload_n (pc := 91) dX12_readOrder_91 rfl ?_
    refine V_getR (pc := 92) 12 54 dX12_readOrder_92 flX12_163 (by decide) h12.o h12.R54 ?_
    refine V_iload_n (pc := 95) dX12_readOrder_95 rfl ?_
    refine V_iload_n (pc := 96) dX12_readOrder_96 rfl ?_
    refine V_iaddN (pc := 97) dX12_readOrder_97 ?_
    refine V_iconst (pc := 98) (v := nI 0) dX12_readOrder_98 (by decide) ?_
    refine V_iastore (pc := 99) dX12_readOrder_99 h12.A54 (by first | decide | omega) (by omega) ?_
    refine V_iinc1 (pc := 100) (ls' := [(0, _), (1, _), (2, _), (3, _)]) dX12_readOrder_100 rfl (by decide) rfl ?_
    refine V_goto (pc := 103) (tgt := 85) dX12_readOrder_103 (by decide) ?_
    refine ih (j + 1) _ (by omega) ⟨fun x hx => ?_, fun i hi => ?_, fun i hi => ?_⟩
    · rw [up2_row hx]; exact hZ.1 x hx
    · rw [up2_nej (by omega)]; exact hZ.2.1 i hi
    · by_cases e : i = j
      · subst e; rw [up2_self]
      · rw [up2_nej (by omega)]; exact hZ.2.2 i (by omega)
theorem c_X12_readOrder (h12 : Lay12 E S o) (hod : I o 20 = b2i true) (hK : KL L o) (h : PS o t n I L I L none (p, l, d, P, c)) (h21 : I o 21 = nI k) (hk : k ≤ 12) (hc : c.2.2 ≤ p) (hl : l ≤ 50) (hG : CG c) : C E kX12_readOrder 8 0 0 [.ref o] S I L (fun rr S' I' L' => rr = none ∧ S = S' ∧ ROw o t n I L k c (if k < 12 then clO t n p l else (p, l, none)) I' L') := by
  have hn400 := h.n400
  have hp1 : p ≤ n := hn400.2
  have ho := h12.o
  refine C_of (by decide) (Nat.le_of_ble_eq_true rfl) ?_
  refine lp_ro1 h12 h.1 hK ?_
  rw [show (p, l, d, P, c).1 = p from rfl, itk4]
  have bad : ∀ (rr : Nat × Nat × Option OC) (a1 a2 : Int32), rr = (p, l, none) → V E kX12_readOrder (rmOf 8 0 0) (QM E (fun rz S' I' L' => rz = none ∧ S = S' ∧ ROw o t n I L k c rr I' L') 0 0) 0 0 S I L 53 [(0, .ref o), (1, .int a1), (2, .int a2)] [.ref o] := by
    intro rr a1 a2 hrr
    refine V_iconst (pc := 53) (v := nI 0) dX12_readOrder_53 (by decide) ?_
    refine V_callV (pc := 54) (ci := 12) (c_X12_must (q := false) h12 h) dX12_readOrder_54 mlX12_308 mkX12_must rfl rfl (by assumption) ⟨by decide, rfl⟩ ⟨Nat.le_of_ble_eq_true rfl, Nat.le_of_ble_eq_true rfl⟩ (Nat.le_of_ble_eq_true rfl) ⟨Nat.le_of_ble_eq_true rfl, Nat.le_of_ble_eq_true rfl⟩ (fun r S' I' L' hp => ?_)
    obtain ⟨rfl, rfl, _, hP⟩ := hp
    have hP := hP rfl
    refine V_aload_n (pc := 57) dX12_readOrder_57 rfl ?_
    refine V_getIE (pc := 58) 12 19 dX12_readOrder_58 flX12_275 (by decide) h12.o (hP.2.2.2.2.2.2.1) ?_
    refine V_if_eqB (pc := 61) (tgt := 65) dX12_readOrder_61 (by decide) (fun c61 => absurd c61 (by simp)) (fun n61 => ?_)
    refine V_vret (pc := 64) dX12_readOrder_64 rfl (by first | decide | omega) (by first | decide | omega) ?_
    subst hrr
    exact ⟨rfl, rfl, hP.2.2.2.2.2.2.2.2.q, (fun _ => ⟨_, hP.rb⟩), fun x h => by cases h⟩
  by_cases hh : 12 ≤ tc t n p ∧ tc t n p < 12 + 4
  · rw [if_pos hh, pred1_s]
    by_cases h12k : k < 12
    · rw [if_pos h12k]
      have hx := nxt_lt (t := t) hp1 (by omega)
      rw [clO, if_pos (by omega)]
      generalize hkd : tc t n p - 12 = kd
      refine V_aload_n (pc := 34) dX12_readOrder_34 rfl ?_
      refine V_iload_n (pc := 35) dX12_readOrder_35 rfl ?_
      refine V_iconst (pc := 36) (v := (-1)) dX12_readOrder_36 (by decide) ?_
      refine V_icmp_eq (pc := 37) (tgt := 53) dX12_readOrder_37 (by decide) (fun c37 => absurd c37 (by exact nI_nneg1 (by omega))) (fun n37 => ?_)
      refine V_aload_n (pc := 40) dX12_readOrder_40 rfl ?_
      refine V_getIE (pc := 41) 12 21 dX12_readOrder_41 flX12_404 (by decide) h12.o (h21) ?_
      refine V_bipush (pc := 44) (v := nI 12) dX12_readOrder_44 (by decide) ?_
      refine V_icmp_geN (pc := 46) (tgt := 53) dX12_readOrder_46 (by decide) (by omega) (by omega) (fun c46 => absurd c46 (by omega)) (fun n46 => ?_)
      refine V_iconst (pc := 49) (v := nI 1) dX12_readOrder_49 (by decide) ?_
      refine V_goto (pc := 50) (tgt := 54) dX12_readOrder_50 (by decide) ?_
      refine V_callV (pc := 54) (ci := 12) (c_X12_must (q := true) h12 h) dX12_readOrder_54 mlX12_308 mkX12_must rfl rfl h12.o ⟨by decide, rfl⟩ ⟨Nat.le_of_ble_eq_true rfl, Nat.le_of_ble_eq_true rfl⟩ (Nat.le_of_ble_eq_true rfl) ⟨Nat.le_of_ble_eq_true rfl, Nat.le_of_ble_eq_true rfl⟩ (fun r S' I' L' hp => ?_)
      obtain ⟨rfl, rfl, hP, _⟩ := hp
      have hP := hP rfl
      have hFP := hP.2.2.2.2.2.2.2.2
      refine V_aload_n (pc := 57) dX12_readOrder_57 rfl ?_
      refine V_getIE (pc := 58) 12 19 dX12_readOrder_58 flX12_275 (by decide) h12.o (hP.2.2.2.2.2.2.1) ?_
      refine V_if_eqB (pc := 61) (tgt := 65) dX12_readOrder_61 (by decide) (fun c61 => ?_) (fun n61 => absurd n61 (by simp))
      refine V_bipush (pc := 65) (v := nI 10) dX12_readOrder_65 (by decide) ?_
      refine V_aload_n (pc := 67) dX12_readOrder_67 rfl ?_
      refine V_getIE (pc := 68) 12 21 dX12_readOrder_68 flX12_404 (by decide) h12.o ((hFP.2.1 21 (by omega)).trans h21) ?_
      refine V_imulN (pc := 71) dX12_readOrder_71 ?_
      refine V_istore_n (pc := 72) (ls' := [(0, _), (1, _), (2, _)]) dX12_readOrder_72 (by decide) rfl ?_
      refine V_aload_n (pc := 73) dX12_readOrder_73 rfl ?_
      refine V_dup (pc := 74) dX12_readOrder_74 rfl ?_
      refine V_getIE (pc := 75) 12 21 dX12_readOrder_75 flX12_404 (by decide) h12.o ((hFP.2.1 21 (by omega)).trans h21) ?_
      refine V_iconst (pc := 78) (v := nI 1) dX12_readOrder_78 (by decide) ?_
      refine V_iaddN (pc := 79) dX12_readOrder_79 ?_
      refine V_putI (pc := 80) 12 21 dX12_readOrder_80 flX12_404 (by decide) (by decide) (Or.inl rfl) rfl rfl h12.o ?_
      refine V_iconst (pc := 83) (v := nI 0) dX12_readOrder_83 (by decide) ?_
      refine V_istore_n (pc := 84) (ls' := [(0, _), (1, _), (2, _), (3, _)]) dX12_readOrder_84 (by decide) rfl ?_
      refine lp_ro2 (I := up2 I' o 21 (nI (k + 1))) h12 h12k (fun I2 hZ => ?_) 10 0 _ rfl ⟨fun _ _ => rfl, fun _ _ => rfl, fun i hi => absurd hi (Nat.not_lt_zero i)⟩
      have hP2 : PS o t n I2 L' I2 L' none (nxt t n p, l, d, P, c) := (hP.b21 (v := nI (k + 1))).base (fun a ha => hZ.1 a (by omega)) (fun i _ _ _ _ => by rw [hZ.1 o (by omega)])
      have eFQ : FQ o I2 I L' L := by
        refine FQ.tr ⟨fun a h1 h2 => hZ.1 a (by omega), fun i _ => by rw [hZ.1 o (by omega)], fun _ _ => rfl, fun _ _ => rfl⟩ (hFP.q.fld (by omega))
      refine V_aload_n (pc := 106) dX12_readOrder_106 rfl ?_
      refine V_getR (pc := 107) 12 54 dX12_readOrder_107 flX12_163 (by decide) h12.o h12.R54 ?_
      refine V_iload_n (pc := 110) dX12_readOrder_110 rfl ?_
      refine V_iload_n (pc := 111) dX12_readOrder_111 rfl ?_
      refine V_iastore (pc := 112) dX12_readOrder_112 h12.A54 (by first | decide | omega) (by omega) ?_
      refine ro113 (c1 := c) h12 hod hK h12k (by omega) ⟨eFQ.row (Or.inr rfl), ?_, fun i hi => ?_, up2_self, ⟨d, P, hP2.row (Or.inr rfl)⟩, (show c.2.2 ≤ nxt t n p by omega), hl, hG, Nat.le_refl _, AG.rf⟩ (fun i h1 h2 => ?_) (fun I' L' hz => ⟨rfl, rfl, hz⟩)
      · rw [up2_ne (by omega), hZ.1 o (by omega), up2_self]
      · rw [up2_nej (by omega), hZ.2.1 i hi, up2_ne (by omega), hFP.1 (o + 34) (by omega) (by omega)]
      · have e := hZ.2.2 (i - 10 * k) (by omega)
        rw [show 10 * k + (i - 10 * k) = i from by omega] at e
        rw [up2_nej (by omega)]; exact e
    · rw [if_neg h12k]
      refine V_aload_n (pc := 34) dX12_readOrder_34 rfl ?_
      refine V_iload_n (pc := 35) dX12_readOrder_35 rfl ?_
      refine V_iconst (pc := 36) (v := (-1)) dX12_readOrder_36 (by decide) ?_
      refine V_icmp_eq (pc := 37) (tgt := 53) dX12_readOrder_37 (by decide) (fun c37 => absurd c37 (by exact nI_nneg1 (by omega))) (fun n37 => ?_)
      refine V_aload_n (pc := 40) dX12_readOrder_40 rfl ?_
      refine V_getIE (pc := 41) 12 21 dX12_readOrder_41 flX12_404 (by decide) h12.o (h21) ?_
      refine V_bipush (pc := 44) (v := nI 12) dX12_readOrder_44 (by decide) ?_
      refine V_icmp_geN (pc := 46) (tgt := 53) dX12_readOrder_46 (by decide) (by omega) (by omega) (fun c46 => ?_) (fun n46 => absurd n46 (by omega))
      exact bad _ _ _ rfl
  · rw [if_neg hh, pred1_0]
    have er : (if k < 12 then clO t n p l else (p, l, none)) = (p, l, none) := by
      split
      · rw [clO, if_neg (by omega)]
      · rfl
    rw [er]
    refine V_aload_n (pc := 34) dX12_readOrder_34 rfl ?_
    refine V_iload_n (pc := 35) dX12_readOrder_35 rfl ?_
    refine V_iconst (pc := 36) (v := (-1)) dX12_readOrder_36 (by decide) ?_
    refine V_icmp_eq (pc := 37) (tgt := 53) dX12_readOrder_37 (by decide) (fun c37 => ?_) (fun n37 => absurd n37 (by decide))
    exact bad _ _ _ rfl
end PQ
