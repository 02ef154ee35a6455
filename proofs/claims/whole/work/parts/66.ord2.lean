/-! THE REFERENCE reads a clause of orders -/
def ROw (o : Nat) (t : Nat → Nat) (n : Nat) (I : IT) (L : LT) (k : Nat) (c : CT) (r : Nat × Nat × Option OC) (I' : IT) (L' : LT) : Prop := FQ o I' I L' L ∧ (r.2.2 = none → ∃ s, PS o t n I' L' I' L' (some r.1) s) ∧ ∀ x, r.2.2 = some x → I' o 21 = nI (k + 1) ∧ (∀ i, i < 10 * k → I' (o + 34) i = I (o + 34) i) ∧ ∃ d' P' c', PS o t n I' L' I' L' none (r.1, r.2.1, d', P', c') ∧ c'.2.2 ≤ r.1 ∧ r.2.1 ≤ 50 ∧ CG c' ∧ c.2.2 ≤ c'.2.2 ∧ AG c.2.2 c' c ∧ OM1 (I' (o + 34)) c' k x
def OST (o : Nat) (t : Nat → Nat) (n : Nat) (I : IT) (L : LT) (k : Nat) (c : CT) (kd p1 l1 : Nat) (c1 : CT) (I1 : IT) (L1 : LT) : Prop := FQ o I1 I L1 L ∧ I1 o 21 = nI (k + 1) ∧ (∀ i, i < 10 * k → I1 (o + 34) i = I (o + 34) i) ∧ I1 (o + 34) (10 * k) = nI kd ∧ (∃ d1 P1, PS o t n I1 L1 I1 L1 none (p1, l1, d1, P1, c1)) ∧ c1.2.2 ≤ p1 ∧ l1 ≤ 50 ∧ CG c1 ∧ c.2.2 ≤ c1.2.2 ∧ AG c.2.2 c1 c
abbrev VO (E : EnT) (Q : QT) (S : ST) (o k kd : Nat) (I : IT) (L : LT) (pc : Nat) : Prop := V E kX12_readOrder (rmOf 8 0 0) Q 0 0 S I L pc [(0, .ref o), (1, .int (nI kd)), (2, .int (nI (10 * k))), (3, .int (nI 10))] []
section PP
variable {E : EnT} {S : ST} {I I0 : IT} {L L0 : LT} {o n p l d : Nat} {t : Nat → Nat} {P : List (Nat × Nat)} {c : CT} {b : Option Nat} {Q : QT} {k kd : Nat}
theorem rb153 (h12 : Lay12 E S o) (hk : k < 12) (hkd : kd < 4) {post : Option Value → ST → IT → LT → Prop} {I1 : IT} {L1 : LT} {s : PT} {q : Nat} (hF : FQ o I1 I L1 L) (h : PS o t n I1 L1 I1 L1 (some q) s) (hp0 : ∀ I' L', FQ o I' I L' L → (∃ s, PS o t n I' L' I' L' (some q) s) → post none S I' L') : VO E (QM E post 0 0) S o k kd I1 L1 153 := by
  have e19 := h.2.2.2.2.2.2.1
  refine V_aload_n (pc := 153) dX12_readOrder_153 rfl ?_
  refine V_getR (pc := 154) 12 54 dX12_readOrder_154 flX12_163 (by decide) h12.o h12.R54 ?_
  refine V_iload_n (pc := 157) dX12_readOrder_157 rfl ?_
  refine V_bipush (pc := 158) (v := nI 9) dX12_readOrder_158 (by decide) ?_
  refine V_iaddN (pc := 160) dX12_readOrder_160 ?_
  refine V_iconst (pc := 161) (v := nI 1) dX12_readOrder_161 (by decide) ?_
  refine V_iastore (pc := 162) dX12_readOrder_162 h12.A54 (by first | decide | omega) (by omega) ?_
  refine V_aload_n (pc := 163) dX12_readOrder_163 rfl ?_
  refine V_getIE (pc := 164) 12 19 dX12_readOrder_164 flX12_275 (by decide) h12.o ((up2_ne (by omega)).trans e19) ?_
  refine V_if_neB (pc := 167) (tgt := 201) dX12_readOrder_167 (by decide) (fun c167 => ?_) (fun n167 => absurd n167 (by simp))
  refine V_aload_n (pc := 201) dX12_readOrder_201 rfl ?_
  refine V_getR (pc := 202) 12 54 dX12_readOrder_202 flX12_163 (by decide) h12.o h12.R54 ?_
  refine V_iload_n (pc := 205) dX12_readOrder_205 rfl ?_
  refine V_bipush (pc := 206) (v := nI 7) dX12_readOrder_206 (by decide) ?_
  refine V_iaddN (pc := 208) dX12_readOrder_208 ?_
  refine V_aload_n (pc := 209) dX12_readOrder_209 rfl ?_
  refine V_getI (pc := 210) 12 23 dX12_readOrder_210 flX12_312 (by decide) h12.o ?_
  refine V_iastore (pc := 213) dX12_readOrder_213 h12.A54 (by first | decide | omega) (by omega) ?_
  refine V_aload_n (pc := 214) dX12_readOrder_214 rfl ?_
  refine V_getIE (pc := 215) 12 19 dX12_readOrder_215 flX12_275 (by decide) h12.o ((up2_ne (by omega)).trans ((up2_ne (by omega)).trans e19)) ?_
  refine V_if_neB (pc := 218) (tgt := 240) dX12_readOrder_218 (by decide) (fun c218 => ?_) (fun n218 => absurd n218 (by simp))
  refine V_aload_n (pc := 240) dX12_readOrder_240 rfl ?_
  refine V_getR (pc := 241) 12 54 dX12_readOrder_241 flX12_163 (by decide) h12.o h12.R54 ?_
  refine V_iload_n (pc := 244) dX12_readOrder_244 rfl ?_
  refine V_bipush (pc := 245) (v := nI 8) dX12_readOrder_245 (by decide) ?_
  refine V_iaddN (pc := 247) dX12_readOrder_247 ?_
  refine V_aload_n (pc := 248) dX12_readOrder_248 rfl ?_
  refine V_getI (pc := 249) 12 23 dX12_readOrder_249 flX12_312 (by decide) h12.o ?_
  refine V_iastore (pc := 252) dX12_readOrder_252 h12.A54 (by first | decide | omega) (by omega) ?_
  refine V_vret (pc := 253) dX12_readOrder_253 rfl (by first | decide | omega) (by first | decide | omega) ?_
  exact hp0 _ _ (((hF.row (Or.inr rfl)).row (Or.inr rfl)).row (Or.inr rfl)) ⟨s, ((h.row (Or.inr rfl)).row (Or.inr rfl)).row (Or.inr rfl)⟩
theorem rb137 (h12 : Lay12 E S o) (hk : k < 12) (hkd : kd < 4) {post : Option Value → ST → IT → LT → Prop} {I1 : IT} {L1 : LT} {s : PT} {q : Nat} (hF : FQ o I1 I L1 L) (h : PS o t n I1 L1 I1 L1 (some q) s) (hp0 : ∀ I' L', FQ o I' I L' L → (∃ s, PS o t n I' L' I' L' (some q) s) → post none S I' L') : VO E (QM E post 0 0) S o k kd I1 L1 137 := by
  refine V_iload_n (pc := 137) dX12_readOrder_137 rfl ?_
  refine V_if_neN (pc := 138) (tgt := 153) dX12_readOrder_138 (by decide) (by omega) (fun c138 => ?_) (fun n138 => ?_)
  · skip
    first | exact rb153 h12 hk hkd (hF2.tr hF) h2 hp0 | exact rb153 h12 hk hkd hF h hp0
  · skip
    refine V_aload_n (pc := 141) dX12_readOrder_141 rfl ?_
    refine V_iconst (pc := 142) (v := nI 1) dX12_readOrder_142 (by decide) ?_
    refine V_callV (pc := 143) (ci := 12) (c_X12_mustJoin_b h12 h) dX12_readOrder_143 mlX12_534 mkX12_mustJoin rfl rfl h12.o ⟨by decide, rfl⟩ ⟨Nat.le_of_ble_eq_true rfl, Nat.le_of_ble_eq_true rfl⟩ (Nat.le_of_ble_eq_true rfl) ⟨Nat.le_of_ble_eq_true rfl, Nat.le_of_ble_eq_true rfl⟩ (fun r S' I' L' hp => ?_)
    obtain ⟨rfl, rfl, rfl, rfl⟩ := hp
    refine V_aload_n (pc := 146) dX12_readOrder_146 rfl ?_
    refine V_iload_n (pc := 147) dX12_readOrder_147 rfl ?_
    refine V_iconst (pc := 148) (v := nI 5) dX12_readOrder_148 (by decide) ?_
    refine V_iaddN (pc := 149) dX12_readOrder_149 ?_
    refine V_callV (pc := 150) (ci := 12) (c_X12_readSum_b h12 (by omega) h) dX12_readOrder_150 mlX12_531 mkX12_readSum rfl rfl h12.o ⟨by decide, rfl⟩ ⟨Nat.le_of_ble_eq_true rfl, Nat.le_of_ble_eq_true rfl⟩ (Nat.le_of_ble_eq_true rfl) ⟨Nat.le_of_ble_eq_true rfl, Nat.le_of_ble_eq_true rfl⟩ (fun r S' I' L' hp => ?_)
    obtain ⟨rfl, rfl, hF2, h2⟩ := hp
    first | exact rb153 h12 hk hkd (hF2.tr hF) h2 hp0 | exact rb153 h12 hk hkd hF h hp0
theorem rb125 (h12 : Lay12 E S o) (hk : k < 12) (hkd : kd < 4) {post : Option Value → ST → IT → LT → Prop} {I1 : IT} {L1 : LT} {s : PT} {q : Nat} (hF : FQ o I1 I L1 L) (h : PS o t n I1 L1 I1 L1 (some q) s) (hp0 : ∀ I' L', FQ o I' I L' L → (∃ s, PS o t n I' L' I' L' (some q) s) → post none S I' L') : VO E (QM E post 0 0) S o k kd I1 L1 130 ∧ VO E (QM E post 0 0) S o k kd I1 L1 125 := by
  have h130 : ∀ (I1 : IT) (L1 : LT), FQ o I1 I L1 L → PS o t n I1 L1 I1 L1 (some q) s → VO E (QM E post 0 0) S o k kd I1 L1 130 := by
    intro I1 L1 hF h
    refine V_aload_n (pc := 130) dX12_readOrder_130 rfl ?_
    refine V_iload_n (pc := 131) dX12_readOrder_131 rfl ?_
    refine V_iconst (pc := 132) (v := nI 3) dX12_readOrder_132 (by decide) ?_
    refine V_iaddN (pc := 133) dX12_readOrder_133 ?_
    refine V_callV (pc := 134) (ci := 12) (c_X12_readSum_b h12 (by omega) h) dX12_readOrder_134 mlX12_531 mkX12_readSum rfl rfl h12.o ⟨by decide, rfl⟩ ⟨Nat.le_of_ble_eq_true rfl, Nat.le_of_ble_eq_true rfl⟩ (Nat.le_of_ble_eq_true rfl) ⟨Nat.le_of_ble_eq_true rfl, Nat.le_of_ble_eq_true rfl⟩ (fun r S' I' L' hp => ?_)
    obtain ⟨rfl, rfl, hF2, h2⟩ := hp
    exact rb137 h12 hk hkd (hF2.tr hF) h2 hp0
  refine ⟨h130 I1 L1 hF h, ?_⟩
  refine V_aload_n (pc := 125) dX12_readOrder_125 rfl ?_
  refine V_iload_n (pc := 126) dX12_readOrder_126 rfl ?_
  refine V_callV (pc := 127) (ci := 12) (c_X12_mustJoin_b h12 h) dX12_readOrder_127 mlX12_534 mkX12_mustJoin rfl rfl h12.o ⟨by decide, rfl⟩ ⟨Nat.le_of_ble_eq_true rfl, Nat.le_of_ble_eq_true rfl⟩ (Nat.le_of_ble_eq_true rfl) ⟨Nat.le_of_ble_eq_true rfl, Nat.le_of_ble_eq_true rfl⟩ (fun r S' I' L' hp => ?_)
  obtain ⟨rfl, rfl, rfl, rfl⟩ := hp
  exact h130 _ _ hF h
/-- the test -/
theorem ro201 (h12 : Lay12 E S o) (hod : I o 20 = b2i true) (hK : KL L o) (hk : k < 12) (hkd : kd < 4) {post : Option Value → ST → IT → LT → Prop} {I1 : IT} {L1 : LT} {p1 l1 tm : Nat} {c1 : CT} {s3 : SF × SF × SF} (h : OST o t n I L k c kd p1 l1 c1 I1 L1) (hS : SM (I1 (o + 34)) c1 k kd s3) (htm : tm ≤ 20) (h9 : I1 (o + 34) (10 * k + 9) = nI tm)
    (hpost : ∀ I' L', ROw o t n I L k c (bq (oI t n p1 l1) fun p3 l3 T => (p3, l3, some (kd, tm, s3, T))) I' L' → post none S I' L') : VO E (QM E post 0 0) S o k kd I1 L1 201 := by
  obtain ⟨hF, h21, hrow, h0, ⟨d1, P1, hP⟩, hc1, hl1, hG1, hcc, hA⟩ := h
  have hn400 := hP.n400
  have hp1 : p1 ≤ n := hn400.2
  have g23 : I1 o 23 = nI c1.2.2 := hP.2.2.2.2.2.1.1
  have hs2 := hP.row (a := o + 34) (i := 10 * k + 7) (v := nI c1.2.2) (Or.inr rfl)
  have hF1 := hF.row (a := o + 34) (i := 10 * k + 7) (v := nI c1.2.2) (Or.inr rfl)
  by_cases ht : tc t n p1 = 0
  · rw [oI, if_pos ht] at hpost
    have hx := nxt_lt (t := t) hp1 (by omega)
    refine V_aload_n (pc := 201) dX12_readOrder_201 rfl ?_
    refine V_getR (pc := 202) 12 54 dX12_readOrder_202 flX12_163 (by decide) h12.o h12.R54 ?_
    refine V_iload_n (pc := 205) dX12_readOrder_205 rfl ?_
    refine V_bipush (pc := 206) (v := nI 7) dX12_readOrder_206 (by decide) ?_
    refine V_iaddN (pc := 208) dX12_readOrder_208 ?_
    refine V_aload_n (pc := 209) dX12_readOrder_209 rfl ?_
    refine V_getIE (pc := 210) 12 23 dX12_readOrder_210 flX12_312 (by decide) h12.o (g23) ?_
    refine V_iastore (pc := 213) dX12_readOrder_213 h12.A54 (by first | decide | omega) (by omega) ?_
    refine V_aload_n (pc := 214) dX12_readOrder_214 rfl ?_
    refine V_getIE (pc := 215) 12 19 dX12_readOrder_215 flX12_275 (by decide) h12.o (hs2.2.2.2.2.2.2.1) ?_
    refine V_if_neB (pc := 218) (tgt := 240) dX12_readOrder_218 (by decide) (fun c218 => absurd c218 (by simp)) (fun n218 => ?_)
    refine V_aload_n (pc := 221) dX12_readOrder_221 rfl ?_
    refine V_ldc2 (pc := 222) dX12_readOrder_222 coX12_410 ?_
    refine V_callVd (pc := 225) (ci := 12) (c_X12_isWord (k := 0) h12 hs2.1 (by decide) (by decide)) dX12_readOrder_225 mlX12_331 mkX12_isWord rfl rfl h12.o ⟨by decide, rfl⟩ ⟨Nat.le_of_ble_eq_true rfl, Nat.le_of_ble_eq_true rfl⟩ (Nat.le_of_ble_eq_true rfl) ⟨Nat.le_of_ble_eq_true rfl, Nat.le_of_ble_eq_true rfl⟩ ?_
    refine V_if_eqB (pc := 228) (tgt := 240) dX12_readOrder_228 (by decide) (fun c228 => absurd c228 (by rw [decide_eq_true (show tc t n p1 = 0 from ht)]; decide)) (fun n228 => ?_)
    refine V_aload_n (pc := 231) dX12_readOrder_231 rfl ?_
    refine V_callV (pc := 232) (ci := 12) (c_X12_nextP h12 hs2) dX12_readOrder_232 mlX12_279 mkX12_next rfl rfl h12.o ⟨by decide, rfl⟩ ⟨Nat.le_of_ble_eq_true rfl, Nat.le_of_ble_eq_true rfl⟩ (Nat.le_of_ble_eq_true rfl) ⟨Nat.le_of_ble_eq_true rfl, Nat.le_of_ble_eq_true rfl⟩ (fun r S' I' L' hp => ?_)
    obtain ⟨rfl, rfl, hP2⟩ := hp
    refine V_aload_n (pc := 235) dX12_readOrder_235 rfl ?_
    refine V_iconst (pc := 236) (v := nI 1) dX12_readOrder_236 (by decide) ?_
    refine V_callV (pc := 237) (ci := 12) (c_X12_rexp_test h12 ((hF1.2.1 20 (by omega)).trans hod) (hF.t.kl hK) hP2 (show c1.2.2 ≤ nxt t n p1 by omega) hl1 hG1 one) dX12_readOrder_237 mlX12_407 mkX12_readExpression rfl rfl h12.o ⟨by decide, rfl⟩ ⟨Nat.le_of_ble_eq_true rfl, Nat.le_of_ble_eq_true rfl⟩ (Nat.le_of_ble_eq_true rfl) ⟨Nat.le_of_ble_eq_true rfl, Nat.le_of_ble_eq_true rfl⟩ (fun r S' I' L' hp => ?_)
    obtain ⟨rfl, rfl, hR1, hR2⟩ := hp
    generalize ps t n true (FU n) 3 0 (nxt t n p1) l1 one = r at hpost hR1 hR2
    rcases hG2 : r.2.2 with _ | T
    skip
    · rw [bq_n hG2] at hpost
      obtain ⟨s, hP3⟩ := hR1 hG2
      have hFP := hP3.2.2.2.2.2.2.2.2
      refine V_aload_n (pc := 240) dX12_readOrder_240 rfl ?_
      refine V_getR (pc := 241) 12 54 dX12_readOrder_241 flX12_163 (by decide) h12.o h12.R54 ?_
      refine V_iload_n (pc := 244) dX12_readOrder_244 rfl ?_
      refine V_bipush (pc := 245) (v := nI 8) dX12_readOrder_245 (by decide) ?_
      refine V_iaddN (pc := 247) dX12_readOrder_247 ?_
      refine V_aload_n (pc := 248) dX12_readOrder_248 rfl ?_
      refine V_getI (pc := 249) 12 23 dX12_readOrder_249 flX12_312 (by decide) h12.o ?_
      refine V_iastore (pc := 252) dX12_readOrder_252 h12.A54 (by first | decide | omega) (by omega) ?_
      refine V_vret (pc := 253) dX12_readOrder_253 rfl (by first | decide | omega) (by first | decide | omega) ?_
      exact hpost _ _ ⟨(hFP.q.tr hF1).row (Or.inr rfl), (fun _ => ⟨s, hP3.row (Or.inr rfl)⟩), fun x hx => by cases hx⟩
    · rw [bq_s hG2] at hpost
      obtain ⟨c', m, q1, q2, q3, q4, q5, q6, q7, q8, q9⟩ := hR2 T hG2
      have hFP := q1.2.2.2.2.2.2.2.2
      have hp2 : r.1 ≤ n := q1.n400.2
      have r34 := hFP.1 (o + 34) (by omega) (by omega)
      refine V_aload_n (pc := 240) dX12_readOrder_240 rfl ?_
      refine V_getR (pc := 241) 12 54 dX12_readOrder_241 flX12_163 (by decide) h12.o h12.R54 ?_
      refine V_iload_n (pc := 244) dX12_readOrder_244 rfl ?_
      refine V_bipush (pc := 245) (v := nI 8) dX12_readOrder_245 (by decide) ?_
      refine V_iaddN (pc := 247) dX12_readOrder_247 ?_
      refine V_aload_n (pc := 248) dX12_readOrder_248 rfl ?_
      refine V_getIE (pc := 249) 12 23 dX12_readOrder_249 flX12_312 (by decide) h12.o ((show I' o 23 = nI c'.2.2 from q1.2.2.2.2.2.1.1)) ?_
      refine V_iastore (pc := 252) dX12_readOrder_252 h12.A54 (by first | decide | omega) (by omega) ?_
      refine V_vret (pc := 253) dX12_readOrder_253 rfl (by first | decide | omega) (by first | decide | omega) ?_
      refine hpost _ _ ⟨(hFP.q.tr hF1).row (Or.inr rfl), (fun z => by cases z), fun x hx => ?_⟩
      have hx : (kd, tm, s3, T) = x := Option.some.inj hx
      subst hx
      refine ⟨?_, fun i hi => ?_, 0, [], c', q1.row (Or.inr rfl), q2, q3, q4, by omega, AG.tr (q6.w hcc) hA, hkd, ?_, hS.cg (fun i h1 h2 => ?_) (by omega) q6, htm, ?_, c1.2.2, c'.2.2, by omega, Nat.le_refl _, ?_, up2_self, (fun _ => ⟨⟨m, by omega, q7⟩, q9 rfl⟩), fun z => absurd q5 z⟩
      · rw [up2_ne (by omega), hFP.2.1 21 (by omega), up2_ne (by omega)]; exact h21
      · rw [up2_nej (by omega), r34, up2_nej (by omega)]; exact hrow i hi
      · rw [up2_nej (by omega), r34, up2_nej (by omega)]; exact h0
      · rw [up2_nej (by omega), r34, up2_nej (by omega)]
      · rw [up2_nej (by omega), r34, up2_nej (by omega)]; exact h9
      · rw [up2_nej (by omega), r34, up2_self]
  · rw [oI, if_neg ht] at hpost
    refine V_aload_n (pc := 201) dX12_readOrder_201 rfl ?_
    refine V_getR (pc := 202) 12 54 dX12_readOrder_202 flX12_163 (by decide) h12.o h12.R54 ?_
    refine V_iload_n (pc := 205) dX12_readOrder_205 rfl ?_
    refine V_bipush (pc := 206) (v := nI 7) dX12_readOrder_206 (by decide) ?_
    refine V_iaddN (pc := 208) dX12_readOrder_208 ?_
    refine V_aload_n (pc := 209) dX12_readOrder_209 rfl ?_
    refine V_getIE (pc := 210) 12 23 dX12_readOrder_210 flX12_312 (by decide) h12.o (g23) ?_
    refine V_iastore (pc := 213) dX12_readOrder_213 h12.A54 (by first | decide | omega) (by omega) ?_
    refine V_aload_n (pc := 214) dX12_readOrder_214 rfl ?_
    refine V_getIE (pc := 215) 12 19 dX12_readOrder_215 flX12_275 (by decide) h12.o (hs2.2.2.2.2.2.2.1) ?_
    refine V_if_neB (pc := 218) (tgt := 240) dX12_readOrder_218 (by decide) (fun c218 => absurd c218 (by simp)) (fun n218 => ?_)
    refine V_aload_n (pc := 221) dX12_readOrder_221 rfl ?_
    refine V_ldc2 (pc := 222) dX12_readOrder_222 coX12_410 ?_
    refine V_callVd (pc := 225) (ci := 12) (c_X12_isWord (k := 0) h12 hs2.1 (by decide) (by decide)) dX12_readOrder_225 mlX12_331 mkX12_isWord rfl rfl h12.o ⟨by decide, rfl⟩ ⟨Nat.le_of_ble_eq_true rfl, Nat.le_of_ble_eq_true rfl⟩ (Nat.le_of_ble_eq_true rfl) ⟨Nat.le_of_ble_eq_true rfl, Nat.le_of_ble_eq_true rfl⟩ ?_
    refine V_if_eqB (pc := 228) (tgt := 240) dX12_readOrder_228 (by decide) (fun c228 => ?_) (fun n228 => absurd n228 (by rw [decide_eq_false (show ¬ tc t n p1 = 0 from ht)]; decide))
    refine V_aload_n (pc := 240) dX12_readOrder_240 rfl ?_
    refine V_getR (pc := 241) 12 54 dX12_readOrder_241 flX12_163 (by decide) h12.o h12.R54 ?_
    refine V_iload_n (pc := 244) dX12_readOrder_244 rfl ?_
    refine V_bipush (pc := 245) (v := nI 8) dX12_readOrder_245 (by decide) ?_
    refine V_iaddN (pc := 247) dX12_readOrder_247 ?_
    refine V_aload_n (pc := 248) dX12_readOrder_248 rfl ?_
    refine V_getIE (pc := 249) 12 23 dX12_readOrder_249 flX12_312 (by decide) h12.o ((up2_ne (by omega)).trans g23) ?_
    refine V_iastore (pc := 252) dX12_readOrder_252 h12.A54 (by first | decide | omega) (by omega) ?_
    refine V_vret (pc := 253) dX12_readOrder_253 rfl (by first | decide | omega) (by first | decide | omega) ?_
    refine hpost _ _ ⟨hF1.row (Or.inr rfl), (fun z => by cases z), fun x hx => ?_⟩
    have hx : (kd, tm, s3, one) = x := Option.some.inj hx
    subst hx
    refine ⟨?_, fun i hi => ?_, d1, P1, c1, hs2.row (Or.inr rfl), hc1, hl1, hG1, hcc, hA, hkd, ?_, hS.cg (fun i h1 h2 => ?_) (Nat.le_refl _) AG.rf, htm, ?_, c1.2.2, c1.2.2, by omega, Nat.le_refl _, ?_, up2_self, (fun z => absurd z (by omega)), fun z => rfl⟩
    · rw [up2_ne (by omega), up2_ne (by omega)]; exact h21
    · rw [up2_nej (by omega), up2_nej (by omega)]; exact hrow i hi
    · rw [up2_nej (by omega), up2_nej (by omega)]; exact h0
    · rw [up2_nej (by omega), up2_nej (by omega)]
    · rw [up2_nej (by omega), up2_nej (by omega)]; exact h9
    · rw [up2_nej (by omega), up2_self]
end PP
