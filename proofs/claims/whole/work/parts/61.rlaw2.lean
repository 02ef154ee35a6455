/-! THE REFERENCE reads a law's clause, II -/
def RLw (o : Nat) (t : Nat → Nat) (n : Nat) (I : IT) (L : LT) (k : Nat) (c : CT) (r : Nat × Nat × Option (Nat × SF × SF)) (I' : IT) (L' : LT) : Prop := FQ o I' I L' L ∧ (r.2.2 = none → ∃ s, PS o t n I' L' I' L' (some r.1) s) ∧ ∀ kd F T, r.2.2 = some (kd, F, T) → I' o 21 = nI (k + 1) ∧ (∀ i, i < 8 * k → I' (o + 10) i = I (o + 10) i) ∧ ∃ d' P' c', PS o t n I' L' I' L' none (r.1, r.2.1, d', P', c') ∧ c'.2.2 ≤ r.1 ∧ r.2.1 ≤ 50 ∧ CG c' ∧ c.2.2 ≤ c'.2.2 ∧ AG c.2.2 c' c ∧ CM1 (I' (o + 10)) c' k kd F T
section PK
variable {E : EnT} {S : ST} {I I0 : IT} {L L0 : LT} {o n p l d : Nat} {t : Nat → Nat} {P : List (Nat × Nat)} {c : CT} {b : Option Nat}
theorem PS.rb {s : PT} (h : PS o t n I0 L0 I L b s) : PS o t n I L I L b s := h.base (fun _ _ => rfl) (fun _ _ _ _ _ => rfl)
theorem rl_tail (h12 : Lay12 E S o) {post : Option Value → ST → IT → LT → Prop} {I1 : IT} {L1 : LT} {k kd p1 l1 d1 : Nat} {P1 : List (Nat × Nat)} {c1 : CT} {F : SF} (hk : k < 12) (hkd : kd < 4) (hod : I1 o 20 = b2i false) (hK : KL L1 o) (hFQ : FQ o I1 I L1 L) (h21 : I1 o 21 = nI (k + 1)) (hrow : ∀ i, i < 8 * k → I1 (o + 10) i = I (o + 10) i) (g0 : I1 (o + 10) (8 * k) = nI kd) (g3 : I1 (o + 10) (8 * k + 3) = nI c.2.2) (hs : PS o t n I1 L1 I1 L1 none (p1, l1, d1, P1, c1)) (hc1 : c1.2.2 ≤ p1) (hl1 : l1 ≤ 50) (hG1 : CG c1) (hcc : c.2.2 ≤ c1.2.2) (hA : AG c.2.2 c1 c) (hF1 : kd ≠ 3 → ∃ m, m ≤ 50 ∧ Rn (lfA false) c1.1 c1.2.1 c.2.2 c1.2.2 m F) (hF2 : kd = 3 → F = one)
    (hpost : ∀ I' L', RLw o t n I L k c (if tc t n p1 = 0 then clC kd F (ps t n false (FU n) 3 0 (nxt t n p1) l1 one) else (p1, l1, some (kd, F, one))) I' L' → post none S I' L') : V E kX12_readLaw (rmOf 7 0 0) (QM E post 0 0) 0 0 S I1 L1 135 [(0, .ref o), (1, .int (nI kd)), (2, .int (nI (8 * k))), (3, .int (nI 8))] [] := by
  have hn400 := hs.n400
  have hp1 : p1 ≤ n := hn400.2
  have g23 : I1 o 23 = nI c1.2.2 := hs.2.2.2.2.2.1.1
  have hs2 : PS o t n _ L1 (up2 (up2 I1 (o + 10) (8 * k + 4) (nI c1.2.2)) (o + 10) (8 * k + 5) (nI c1.2.2)) L1 none (p1, l1, d1, P1, c1) := (hs.row (a := o + 10) (i := 8 * k + 4) (v := nI c1.2.2) (Or.inl rfl)).row (a := o + 10) (i := 8 * k + 5) (v := nI c1.2.2) (Or.inl rfl)
  by_cases h0 : tc t n p1 = 0
  · rw [if_pos h0] at hpost
    have hx := nxt_lt (t := t) hp1 (by omega)
    refine V_aload_n (pc := 135) dX12_readLaw_135 rfl ?_
    refine V_getR (pc := 136) 12 22 dX12_readLaw_136 flX12_42 (by decide) h12.o h12.R22 ?_
    refine V_iload_n (pc := 139) dX12_readLaw_139 rfl ?_
    refine V_iconst (pc := 140) (v := nI 4) dX12_readLaw_140 (by decide) ?_
    refine V_iaddN (pc := 141) dX12_readLaw_141 ?_
    refine V_aload_n (pc := 142) dX12_readLaw_142 rfl ?_
    refine V_getIE (pc := 143) 12 23 dX12_readLaw_143 flX12_312 (by decide) h12.o (g23) ?_
    refine V_iastore (pc := 146) dX12_readLaw_146 h12.A22 (by first | decide | omega) (by omega) ?_
    refine V_aload_n (pc := 147) dX12_readLaw_147 rfl ?_
    refine V_getR (pc := 148) 12 22 dX12_readLaw_148 flX12_42 (by decide) h12.o h12.R22 ?_
    refine V_iload_n (pc := 151) dX12_readLaw_151 rfl ?_
    refine V_iconst (pc := 152) (v := nI 5) dX12_readLaw_152 (by decide) ?_
    refine V_iaddN (pc := 153) dX12_readLaw_153 ?_
    refine V_aload_n (pc := 154) dX12_readLaw_154 rfl ?_
    refine V_getIE (pc := 155) 12 23 dX12_readLaw_155 flX12_312 (by decide) h12.o ((up2_ne (by omega)).trans g23) ?_
    refine V_iastore (pc := 158) dX12_readLaw_158 h12.A22 (by first | decide | omega) (by omega) ?_
    refine V_aload_n (pc := 159) dX12_readLaw_159 rfl ?_
    refine V_getIE (pc := 160) 12 19 dX12_readLaw_160 flX12_275 (by decide) h12.o (hs2.2.2.2.2.2.2.1) ?_
    refine V_if_neB (pc := 163) (tgt := 185) dX12_readLaw_163 (by decide) (fun c163 => absurd c163 (by simp)) (fun n163 => ?_)
    refine V_aload_n (pc := 166) dX12_readLaw_166 rfl ?_
    refine V_ldc2 (pc := 167) dX12_readLaw_167 coX12_410 ?_
    refine V_callVd (pc := 170) (ci := 12) (c_X12_isWord (k := 0) h12 hs2.1 (by decide) (by decide)) dX12_readLaw_170 mlX12_331 mkX12_isWord rfl rfl h12.o ⟨by decide, rfl⟩ ⟨Nat.le_of_ble_eq_true rfl, Nat.le_of_ble_eq_true rfl⟩ (Nat.le_of_ble_eq_true rfl) ⟨Nat.le_of_ble_eq_true rfl, Nat.le_of_ble_eq_true rfl⟩ ?_
    refine V_if_eqB (pc := 173) (tgt := 185) dX12_readLaw_173 (by decide) (fun c173 => absurd c173 (by rw [decide_eq_true (show tc t n p1 = 0 from h0)]; decide)) (fun n173 => ?_)
    refine V_aload_n (pc := 176) dX12_readLaw_176 rfl ?_
    refine V_callV (pc := 177) (ci := 12) (c_X12_nextP h12 hs2) dX12_readLaw_177 mlX12_279 mkX12_next rfl rfl h12.o ⟨by decide, rfl⟩ ⟨Nat.le_of_ble_eq_true rfl, Nat.le_of_ble_eq_true rfl⟩ (Nat.le_of_ble_eq_true rfl) ⟨Nat.le_of_ble_eq_true rfl, Nat.le_of_ble_eq_true rfl⟩ (fun r S' I' L' hp => ?_)
    obtain ⟨rfl, rfl, hP⟩ := hp
    have hod2 : up2 (up2 I1 (o + 10) (8 * k + 4) (nI c1.2.2)) (o + 10) (8 * k + 5) (nI c1.2.2) o 20 = b2i false := (up2_ne (by omega)).trans ((up2_ne (by omega)).trans hod)
    refine V_aload_n (pc := 180) dX12_readLaw_180 rfl ?_
    refine V_iconst (pc := 181) (v := nI 1) dX12_readLaw_181 (by decide) ?_
    refine V_callV (pc := 182) (ci := 12) (c_X12_rexp_test h12 hod2 hK hP (show c1.2.2 ≤ nxt t n p1 by omega) hl1 hG1 one) dX12_readLaw_182 mlX12_407 mkX12_readExpression rfl rfl h12.o ⟨by decide, rfl⟩ ⟨Nat.le_of_ble_eq_true rfl, Nat.le_of_ble_eq_true rfl⟩ (Nat.le_of_ble_eq_true rfl) ⟨Nat.le_of_ble_eq_true rfl, Nat.le_of_ble_eq_true rfl⟩ (fun r S' I' L' hp => ?_)
    obtain ⟨rfl, rfl, hR1, hR2⟩ := hp
    generalize ps t n false (FU n) 3 0 (nxt t n p1) l1 one = r at hpost hR1 hR2
    rcases hG2 : r.2.2 with _ | T
    skip
    · have hcn : (clC kd F r).2.2 = none := by unfold clC; rw [hG2]; rfl
      obtain ⟨s, hP2⟩ := hR1 hG2
      have hFP := hP2.2.2.2.2.2.2.2.2
      refine V_aload_n (pc := 185) dX12_readLaw_185 rfl ?_
      refine V_getR (pc := 186) 12 22 dX12_readLaw_186 flX12_42 (by decide) h12.o h12.R22 ?_
      refine V_iload_n (pc := 189) dX12_readLaw_189 rfl ?_
      refine V_bipush (pc := 190) (v := nI 6) dX12_readLaw_190 (by decide) ?_
      refine V_iaddN (pc := 192) dX12_readLaw_192 ?_
      refine V_aload_n (pc := 193) dX12_readLaw_193 rfl ?_
      refine V_getI (pc := 194) 12 23 dX12_readLaw_194 flX12_312 (by decide) h12.o ?_
      refine V_iastore (pc := 197) dX12_readLaw_197 h12.A22 (by first | decide | omega) (by omega) ?_
      refine V_vret (pc := 198) dX12_readLaw_198 rfl (by first | decide | omega) (by first | decide | omega) ?_
      refine hpost _ _ ⟨(hFP.q.tr ((hFQ.row (Or.inl rfl)).row (Or.inl rfl))).row (Or.inl rfl), fun _ => ⟨s, (hP2.row (Or.inl rfl))⟩, fun kd F T h => by rw [hcn] at h; cases h⟩
    · have hcs : (clC kd F r).2.2 = some (kd, F, T) := by unfold clC; rw [hG2]; rfl
      obtain ⟨c', m, q1, q2, q3, q4, q5, q6, q7, q8, q9⟩ := hR2 T hG2
      have hFP := q1.2.2.2.2.2.2.2.2
      have hp2 : r.1 ≤ n := q1.n400.2
      have r21 : I' o 21 = nI (k + 1) := (hFP.2.1 21 (by omega)).trans ((up2_ne (by omega)).trans ((up2_ne (by omega)).trans h21))
      have r10 : I' (o + 10) = up2 (up2 I1 (o + 10) (8 * k + 4) (nI c1.2.2)) (o + 10) (8 * k + 5) (nI c1.2.2) (o + 10) := hFP.1 _ (by omega) (by omega)
      refine V_aload_n (pc := 185) dX12_readLaw_185 rfl ?_
      refine V_getR (pc := 186) 12 22 dX12_readLaw_186 flX12_42 (by decide) h12.o h12.R22 ?_
      refine V_iload_n (pc := 189) dX12_readLaw_189 rfl ?_
      refine V_bipush (pc := 190) (v := nI 6) dX12_readLaw_190 (by decide) ?_
      refine V_iaddN (pc := 192) dX12_readLaw_192 ?_
      refine V_aload_n (pc := 193) dX12_readLaw_193 rfl ?_
      refine V_getIE (pc := 194) 12 23 dX12_readLaw_194 flX12_312 (by decide) h12.o ((show I' o 23 = nI c'.2.2 from q1.2.2.2.2.2.1.1)) ?_
      refine V_iastore (pc := 197) dX12_readLaw_197 h12.A22 (by first | decide | omega) (by omega) ?_
      refine V_vret (pc := 198) dX12_readLaw_198 rfl (by first | decide | omega) (by first | decide | omega) ?_
      refine hpost _ _ ⟨(hFP.q.tr ((hFQ.row (Or.inl rfl)).row (Or.inl rfl))).row (Or.inl rfl), (fun h => by rw [hcs] at h; cases h), fun kd1 F1 T1 h => ?_⟩
      obtain ⟨rfl, rfl, rfl⟩ : kd = kd1 ∧ F = F1 ∧ T = T1 := by rw [hcs] at h; cases h; exact ⟨rfl, rfl, rfl⟩
      refine ⟨(up2_ne (by omega)).trans r21, fun i hi => ?_, 0, [], c', q1.row (Or.inl rfl), q2, q3, q4, by omega, AG.tr (q6.w hcc) hA, hkd, ?_, c.2.2, c1.2.2, c1.2.2, c'.2.2, by omega, by omega, by omega, Nat.le_refl _, ?_, ?_, ?_, up2_self, fun z => ?_, hF2, fun z => ⟨⟨m, by omega, q7⟩, q9 rfl⟩, fun z => absurd q5 z⟩
      · rw [up2_nej (by omega), r10, up2_nej (by omega), up2_nej (by omega)]; exact hrow i hi
      · rw [up2_nej (by omega), r10, up2_nej (by omega), up2_nej (by omega)]; exact g0
      · rw [up2_nej (by omega), r10, up2_nej (by omega), up2_nej (by omega)]; exact g3
      · rw [up2_nej (by omega), r10, up2_nej (by omega), up2_self]
      · rw [up2_nej (by omega), r10, up2_self]
      · obtain ⟨m3, m4, m5⟩ := hF1 z
        exact ⟨m3, m4, m5.cg fun j _ hj => q6 j hj⟩
  · rw [if_neg h0] at hpost
    refine V_aload_n (pc := 135) dX12_readLaw_135 rfl ?_
    refine V_getR (pc := 136) 12 22 dX12_readLaw_136 flX12_42 (by decide) h12.o h12.R22 ?_
    refine V_iload_n (pc := 139) dX12_readLaw_139 rfl ?_
    refine V_iconst (pc := 140) (v := nI 4) dX12_readLaw_140 (by decide) ?_
    refine V_iaddN (pc := 141) dX12_readLaw_141 ?_
    refine V_aload_n (pc := 142) dX12_readLaw_142 rfl ?_
    refine V_getIE (pc := 143) 12 23 dX12_readLaw_143 flX12_312 (by decide) h12.o (g23) ?_
    refine V_iastore (pc := 146) dX12_readLaw_146 h12.A22 (by first | decide | omega) (by omega) ?_
    refine V_aload_n (pc := 147) dX12_readLaw_147 rfl ?_
    refine V_getR (pc := 148) 12 22 dX12_readLaw_148 flX12_42 (by decide) h12.o h12.R22 ?_
    refine V_iload_n (pc := 151) dX12_readLaw_151 rfl ?_
    refine V_iconst (pc := 152) (v := nI 5) dX12_readLaw_152 (by decide) ?_
    refine V_iaddN (pc := 153) dX12_readLaw_153 ?_
    refine V_aload_n (pc := 154) dX12_readLaw_154 rfl ?_
    refine V_getIE (pc := 155) 12 23 dX12_readLaw_155 flX12_312 (by decide) h12.o ((up2_ne (by omega)).trans g23) ?_
    refine V_iastore (pc := 158) dX12_readLaw_158 h12.A22 (by first | decide | omega) (by omega) ?_
    refine V_aload_n (pc := 159) dX12_readLaw_159 rfl ?_
    refine V_getIE (pc := 160) 12 19 dX12_readLaw_160 flX12_275 (by decide) h12.o (hs2.2.2.2.2.2.2.1) ?_
    refine V_if_neB (pc := 163) (tgt := 185) dX12_readLaw_163 (by decide) (fun c163 => absurd c163 (by simp)) (fun n163 => ?_)
    refine V_aload_n (pc := 166) dX12_readLaw_166 rfl ?_
    refine V_ldc2 (pc := 167) dX12_readLaw_167 coX12_410 ?_
    refine V_callVd (pc := 170) (ci := 12) (c_X12_isWord (k := 0) h12 hs2.1 (by decide) (by decide)) dX12_readLaw_170 mlX12_331 mkX12_isWord rfl rfl h12.o ⟨by decide, rfl⟩ ⟨Nat.le_of_ble_eq_true rfl, Nat.le_of_ble_eq_true rfl⟩ (Nat.le_of_ble_eq_true rfl) ⟨Nat.le_of_ble_eq_true rfl, Nat.le_of_ble_eq_true rfl⟩ ?_
    refine V_if_eqB (pc := 173) (tgt := 185) dX12_readLaw_173 (by decide) (fun c173 => ?_) (fun n173 => absurd n173 (by rw [decide_eq_false (show ¬ tc t n p1 = 0 from h0)]; decide))
    refine V_aload_n (pc := 185) dX12_readLaw_185 rfl ?_
    refine V_getR (pc := 186) 12 22 dX12_readLaw_186 flX12_42 (by decide) h12.o h12.R22 ?_
    refine V_iload_n (pc := 189) dX12_readLaw_189 rfl ?_
    refine V_bipush (pc := 190) (v := nI 6) dX12_readLaw_190 (by decide) ?_
    refine V_iaddN (pc := 192) dX12_readLaw_192 ?_
    refine V_aload_n (pc := 193) dX12_readLaw_193 rfl ?_
    refine V_getIE (pc := 194) 12 23 dX12_readLaw_194 flX12_312 (by decide) h12.o ((up2_ne (by omega)).trans ((up2_ne (by omega)).trans g23)) ?_
    refine V_iastore (pc := 197) dX12_readLaw_197 h12.A22 (by first | decide | omega) (by omega) ?_
    refine V_vret (pc := 198) dX12_readLaw_198 rfl (by first | decide | omega) (by first | decide | omega) ?_
    refine hpost _ _ ⟨((hFQ.row (Or.inl rfl)).row (Or.inl rfl)).row (Or.inl rfl), (fun h => by cases h), fun kd1 F1 T1 h => ?_⟩
    obtain ⟨rfl, rfl, rfl⟩ : kd = kd1 ∧ F = F1 ∧ one = T1 := by cases h; exact ⟨rfl, rfl, rfl⟩
    refine ⟨(up2_ne (by omega)).trans ((up2_ne (by omega)).trans ((up2_ne (by omega)).trans h21)), fun i hi => ?_, d1, P1, c1, hs2.row (Or.inl rfl), hc1, hl1, hG1, hcc, hA, hkd, ?_, c.2.2, c1.2.2, c1.2.2, c1.2.2, by omega, Nat.le_refl _, by omega, Nat.le_refl _, ?_, ?_, ?_, up2_self, hF1, hF2, fun z => absurd z (by omega), fun _ => rfl⟩
    · rw [up2_nej (by omega), up2_nej (by omega), up2_nej (by omega)]; exact hrow i hi
    · rw [up2_nej (by omega), up2_nej (by omega), up2_nej (by omega)]; exact g0
    · rw [up2_nej (by omega), up2_nej (by omega), up2_nej (by omega)]; exact g3
    · rw [up2_nej (by omega), up2_nej (by omega), up2_self]
    · rw [up2_nej (by omega), up2_self]
theorem c_X12_readLaw (h12 : Lay12 E S o) {k : Nat} (hod : I o 20 = b2i false) (hK : KL L o) (h : PS o t n I L I L none (p, l, d, P, c)) (h21 : I o 21 = nI k) (hk : k ≤ 12) (hc : c.2.2 ≤ p) (hl : l ≤ 50) (hG : CG c) : C E kX12_readLaw 7 0 0 [.ref o] S I L (fun rr S' I' L' => rr = none ∧ S = S' ∧ RLw o t n I L k c (if k < 12 then clL t n p l else (p, l, none)) I' L') := by
  have hn400 := h.n400
  have hp1 : p ≤ n := hn400.2
  have ho := h12.o
  refine C_of (by decide) (Nat.le_of_ble_eq_true rfl) ?_
  refine lp_rl1 h12 h.1 hK ?_
  rw [show (p, l, d, P, c).1 = p from rfl, itk4]
  have bad : ∀ (rr : Nat × Nat × Option (Nat × SF × SF)) (a1 a2 : Int32), rr = (p, l, none) → V E kX12_readLaw (rmOf 7 0 0) (QM E (fun rz S' I' L' => rz = none ∧ S = S' ∧ RLw o t n I L k c rr I' L') 0 0) 0 0 S I L 53 [(0, .ref o), (1, .int a1), (2, .int a2)] [.ref o] := by
    intro rr a1 a2 hrr
    refine V_iconst (pc := 53) (v := nI 0) dX12_readLaw_53 (by decide) ?_
    refine V_callV (pc := 54) (ci := 12) (c_X12_must (q := false) h12 h) dX12_readLaw_54 mlX12_308 mkX12_must rfl rfl (by assumption) ⟨by decide, rfl⟩ ⟨Nat.le_of_ble_eq_true rfl, Nat.le_of_ble_eq_true rfl⟩ (Nat.le_of_ble_eq_true rfl) ⟨Nat.le_of_ble_eq_true rfl, Nat.le_of_ble_eq_true rfl⟩ (fun r S' I' L' hp => ?_)
    obtain ⟨rfl, rfl, _, hP⟩ := hp
    have hP := hP rfl
    refine V_aload_n (pc := 57) dX12_readLaw_57 rfl ?_
    refine V_getIE (pc := 58) 12 19 dX12_readLaw_58 flX12_275 (by decide) h12.o (hP.2.2.2.2.2.2.1) ?_
    refine V_if_eqB (pc := 61) (tgt := 65) dX12_readLaw_61 (by decide) (fun c61 => absurd c61 (by simp)) (fun n61 => ?_)
    refine V_vret (pc := 64) dX12_readLaw_64 rfl (by first | decide | omega) (by first | decide | omega) ?_
    subst hrr
    exact ⟨rfl, rfl, hP.2.2.2.2.2.2.2.2.q, (fun _ => ⟨_, hP.rb⟩), fun kd F T h => by cases h⟩
  by_cases hh : 8 ≤ tc t n p ∧ tc t n p < 8 + 4
  · rw [if_pos hh, pred1_s]
    by_cases h12k : k < 12
    · rw [if_pos h12k]
      have hx := nxt_lt (t := t) hp1 (by omega)
      rw [clL, if_pos (by omega)]
      generalize hrz : (if tc t n p = 11 then (nxt t n p, l, some one) else ps t n false (FU n) 0 0 (nxt t n p) l one : PR) = rz
      have fin : ∀ I' L', RLw o t n I L k c (clB t n (tc t n p - 8) rz) I' L' → (fun (rr : Option Value) (S' : ST) (I' : IT) (L' : LT) => rr = none ∧ S = S' ∧ RLw o t n I L k c (clB t n (tc t n p - 8) rz) I' L') none S I' L' := fun I' L' hz => ⟨rfl, rfl, hz⟩
      generalize (fun (rr : Option Value) (S' : ST) (I' : IT) (L' : LT) => rr = none ∧ S = S' ∧ RLw o t n I L k c (clB t n (tc t n p - 8) rz) I' L') = post at fin
      refine V_aload_n (pc := 34) dX12_readLaw_34 rfl ?_
      refine V_iload_n (pc := 35) dX12_readLaw_35 rfl ?_
      refine V_iconst (pc := 36) (v := (-1)) dX12_readLaw_36 (by decide) ?_
      refine V_icmp_eq (pc := 37) (tgt := 53) dX12_readLaw_37 (by decide) (fun c37 => absurd c37 (by exact nI_nneg1 (by omega))) (fun n37 => ?_)
      refine V_aload_n (pc := 40) dX12_readLaw_40 rfl ?_
      refine V_getIE (pc := 41) 12 21 dX12_readLaw_41 flX12_404 (by decide) h12.o (h21) ?_
      refine V_bipush (pc := 44) (v := nI 12) dX12_readLaw_44 (by decide) ?_
      refine V_icmp_geN (pc := 46) (tgt := 53) dX12_readLaw_46 (by decide) (by omega) (by omega) (fun c46 => absurd c46 (by omega)) (fun n46 => ?_)
      refine V_iconst (pc := 49) (v := nI 1) dX12_readLaw_49 (by decide) ?_
      refine V_goto (pc := 50) (tgt := 54) dX12_readLaw_50 (by decide) ?_
      refine V_callV (pc := 54) (ci := 12) (c_X12_must (q := true) h12 h) dX12_readLaw_54 mlX12_308 mkX12_must rfl rfl h12.o ⟨by decide, rfl⟩ ⟨Nat.le_of_ble_eq_true rfl, Nat.le_of_ble_eq_true rfl⟩ (Nat.le_of_ble_eq_true rfl) ⟨Nat.le_of_ble_eq_true rfl, Nat.le_of_ble_eq_true rfl⟩ (fun r S' I' L' hp => ?_)
      obtain ⟨rfl, rfl, hP, _⟩ := hp
      have hP := hP rfl
      refine V_aload_n (pc := 57) dX12_readLaw_57 rfl ?_
      refine V_getIE (pc := 58) 12 19 dX12_readLaw_58 flX12_275 (by decide) h12.o (hP.2.2.2.2.2.2.1) ?_
      refine V_if_eqB (pc := 61) (tgt := 65) dX12_readLaw_61 (by decide) (fun c61 => ?_) (fun n61 => absurd n61 (by simp))
      refine V_bipush (pc := 65) (v := nI 8) dX12_readLaw_65 (by decide) ?_
      refine V_aload_n (pc := 67) dX12_readLaw_67 rfl ?_
      refine V_getIE (pc := 68) 12 21 dX12_readLaw_68 flX12_404 (by decide) h12.o ((hP.2.2.2.2.2.2.2.2.2.1 21 (by omega)).trans h21) ?_
      refine V_imulN (pc := 71) dX12_readLaw_71 ?_
      refine V_istore_n (pc := 72) (ls' := [(0, _), (1, _), (2, _)]) dX12_readLaw_72 (by decide) rfl ?_
      refine V_iconst (pc := 73) (v := nI 0) dX12_readLaw_73 (by decide) ?_
      refine V_istore_n (pc := 74) (ls' := [(0, _), (1, _), (2, _), (3, _)]) dX12_readLaw_74 (by decide) rfl ?_
      refine lp_rl2 h12 h12k (fun I2 hZ => ?_) 8 0 I' rfl ⟨fun _ _ => rfl, fun _ _ => rfl⟩
      have hP2 : PS o t n I2 L' I2 L' none (nxt t n p, l, d, P, c) := hP.base (fun a ha => hZ.1 a (by omega)) (fun i _ _ _ _ => by rw [hZ.1 o (by omega)])
      have hFP := hP.2.2.2.2.2.2.2.2
      have e21 : I2 o 21 = nI k := by rw [hZ.1 o (by omega)]; exact (hFP.2.1 21 (by omega)).trans h21
      have eFQ : FQ o I2 I L' L := by
        refine FQ.tr ⟨fun a h1 h2 => hZ.1 a (by omega), fun i _ => by rw [hZ.1 o (by omega)], fun _ _ => rfl, fun _ _ => rfl⟩ hFP.q
      have e10 : ∀ i, i < 8 * k → I2 (o + 10) i = I (o + 10) i := fun i hi => (hZ.2 i hi).trans (by rw [hFP.1 (o + 10) (by omega) (by omega)])
      have hK2 : KL L' o := hP.kl hK
      have hod2 : I2 o 20 = b2i false := (eFQ.2.1 20 (by omega)).trans hod
      have hP3 : PS o t n _ L' (up2 (up2 (up2 I2 (o + 10) (8 * k) (nI (tc t n p - 8))) o 21 (nI (k + 1))) (o + 10) (8 * k + 3) (nI c.2.2)) L' none (nxt t n p, l, d, P, c) := ((hP2.row (a := o + 10) (i := 8 * k) (v := nI (tc t n p - 8)) (Or.inl rfl)).b21 (v := nI (k + 1))).row (a := o + 10) (i := 8 * k + 3) (v := nI c.2.2) (Or.inl rfl)
      have eF3 : FQ o (up2 (up2 (up2 I2 (o + 10) (8 * k) (nI (tc t n p - 8))) o 21 (nI (k + 1))) (o + 10) (8 * k + 3) (nI c.2.2)) I L' L := ((eFQ.row (Or.inl rfl)).fld (by omega)).row (Or.inl rfl)
      have g20 : up2 (up2 (up2 I2 (o + 10) (8 * k) (nI (tc t n p - 8))) o 21 (nI (k + 1))) (o + 10) (8 * k + 3) (nI c.2.2) o 20 = b2i false := (eF3.2.1 20 (by omega)).trans hod
      have g21 : up2 (up2 (up2 I2 (o + 10) (8 * k) (nI (tc t n p - 8))) o 21 (nI (k + 1))) (o + 10) (8 * k + 3) (nI c.2.2) o 21 = nI (k + 1) := (up2_ne (by omega)).trans up2_self
      have gr : ∀ i, i < 8 * k → up2 (up2 (up2 I2 (o + 10) (8 * k) (nI (tc t n p - 8))) o 21 (nI (k + 1))) (o + 10) (8 * k + 3) (nI c.2.2) (o + 10) i = I (o + 10) i := fun i hi => by rw [up2_nej (by omega), up2_ne (by omega), up2_nej (by omega)]; exact e10 i hi
      have g0 : up2 (up2 (up2 I2 (o + 10) (8 * k) (nI (tc t n p - 8))) o 21 (nI (k + 1))) (o + 10) (8 * k + 3) (nI c.2.2) (o + 10) (8 * k) = nI (tc t n p - 8) := by rw [up2_nej (by omega), up2_ne (by omega), up2_self]
      have g3 : up2 (up2 (up2 I2 (o + 10) (8 * k) (nI (tc t n p - 8))) o 21 (nI (k + 1))) (o + 10) (8 * k + 3) (nI c.2.2) (o + 10) (8 * k + 3) = nI c.2.2 := up2_self
      by_cases h11 : tc t n p = 11
      · rw [if_pos h11] at hrz
        subst hrz
        rw [clB_s rfl] at fin
        refine V_aload_n (pc := 96) dX12_readLaw_96 rfl ?_
        refine V_getR (pc := 97) 12 22 dX12_readLaw_97 flX12_42 (by decide) h12.o h12.R22 ?_
        refine V_iload_n (pc := 100) dX12_readLaw_100 rfl ?_
        refine V_iload_n (pc := 101) dX12_readLaw_101 rfl ?_
        refine V_iastore (pc := 102) dX12_readLaw_102 h12.A22 (by first | decide | omega) (by omega) ?_
        refine V_aload_n (pc := 103) dX12_readLaw_103 rfl ?_
        refine V_dup (pc := 104) dX12_readLaw_104 rfl ?_
        refine V_getIE (pc := 105) 12 21 dX12_readLaw_105 flX12_404 (by decide) h12.o ((up2_ne (by omega)).trans e21) ?_
        refine V_iconst (pc := 108) (v := nI 1) dX12_readLaw_108 (by decide) ?_
        refine V_iaddN (pc := 109) dX12_readLaw_109 ?_
        refine V_putI (pc := 110) 12 21 dX12_readLaw_110 flX12_404 (by decide) (by decide) (Or.inl rfl) rfl rfl h12.o ?_
        refine V_aload_n (pc := 113) dX12_readLaw_113 rfl ?_
        refine V_getR (pc := 114) 12 22 dX12_readLaw_114 flX12_42 (by decide) h12.o h12.R22 ?_
        refine V_iload_n (pc := 117) dX12_readLaw_117 rfl ?_
        refine V_iconst (pc := 118) (v := nI 3) dX12_readLaw_118 (by decide) ?_
        refine V_iaddN (pc := 119) dX12_readLaw_119 ?_
        refine V_aload_n (pc := 120) dX12_readLaw_120 rfl ?_
        refine V_getIE (pc := 121) 12 23 dX12_readLaw_121 flX12_312 (by decide) h12.o ((up2_nej (by omega)).trans ((up2_ne (by omega)).trans hP2.2.2.2.2.2.1.1)) ?_
        refine V_iastore (pc := 124) dX12_readLaw_124 h12.A22 (by first | decide | omega) (by omega) ?_
        refine V_iload_n (pc := 125) dX12_readLaw_125 rfl ?_
        refine V_iconst (pc := 126) (v := nI 3) dX12_readLaw_126 (by decide) ?_
        refine V_icmp_eqN (pc := 127) (tgt := 135) dX12_readLaw_127 (by decide) (by omega) (by omega) (fun c127 => ?_) (fun n127 => absurd n127 (by omega))
        refine rl_tail (I := I) (L := L) (c := c) (F := one) h12 h12k (by omega) g20 hK2 eF3 g21 gr g0 g3 hP3 (by omega) hl hG (Nat.le_refl _) AG.rf (fun z => absurd h11 (by omega)) (fun _ => rfl) fin
      · rw [if_neg h11] at hrz
        generalize hI3 : up2 (up2 (up2 I2 (o + 10) (8 * k) (nI (tc t n p - 8))) o 21 (nI (k + 1))) (o + 10) (8 * k + 3) (nI c.2.2) = I3 at hP3 eF3 g20 g21 gr g0 g3
        refine V_aload_n (pc := 96) dX12_readLaw_96 rfl ?_
        refine V_getR (pc := 97) 12 22 dX12_readLaw_97 flX12_42 (by decide) h12.o h12.R22 ?_
        refine V_iload_n (pc := 100) dX12_readLaw_100 rfl ?_
        refine V_iload_n (pc := 101) dX12_readLaw_101 rfl ?_
        refine V_iastore (pc := 102) dX12_readLaw_102 h12.A22 (by first | decide | omega) (by omega) ?_
        refine V_aload_n (pc := 103) dX12_readLaw_103 rfl ?_
        refine V_dup (pc := 104) dX12_readLaw_104 rfl ?_
        refine V_getIE (pc := 105) 12 21 dX12_readLaw_105 flX12_404 (by decide) h12.o ((up2_ne (by omega)).trans e21) ?_
        refine V_iconst (pc := 108) (v := nI 1) dX12_readLaw_108 (by decide) ?_
        refine V_iaddN (pc := 109) dX12_readLaw_109 ?_
        refine V_putI (pc := 110) 12 21 dX12_readLaw_110 flX12_404 (by decide) (by decide) (Or.inl rfl) rfl rfl h12.o ?_
        refine V_aload_n (pc := 113) dX12_readLaw_113 rfl ?_
        refine V_getR (pc := 114) 12 22 dX12_readLaw_114 flX12_42 (by decide) h12.o h12.R22 ?_
        refine V_iload_n (pc := 117) dX12_readLaw_117 rfl ?_
        refine V_iconst (pc := 118) (v := nI 3) dX12_readLaw_118 (by decide) ?_
        refine V_iaddN (pc := 119) dX12_readLaw_119 ?_
        refine V_aload_n (pc := 120) dX12_readLaw_120 rfl ?_
        refine V_getIE (pc := 121) 12 23 dX12_readLaw_121 flX12_312 (by decide) h12.o ((up2_nej (by omega)).trans ((up2_ne (by omega)).trans hP2.2.2.2.2.2.1.1)) ?_
        refine V_iastore (pc := 124) dX12_readLaw_124 h12.A22 (by first | decide | omega) (by omega) ?_
        refine V_iload_n (pc := 125) dX12_readLaw_125 rfl ?_
        refine V_iconst (pc := 126) (v := nI 3) dX12_readLaw_126 (by decide) ?_
        refine V_icmp_eqN (pc := 127) (tgt := 135) dX12_readLaw_127 (by decide) (by omega) (by omega) (fun c127 => absurd c127 (by omega)) (fun n127 => ?_)
        rw [hI3]
        refine V_aload_n (pc := 130) dX12_readLaw_130 rfl ?_
        refine V_iconst (pc := 131) (v := nI 0) dX12_readLaw_131 (by decide) ?_
        refine V_callV (pc := 132) (ci := 12) (c_X12_rexp_sum h12 g20 hK2 hP3 (show c.2.2 ≤ nxt t n p by omega) hl hG one) dX12_readLaw_132 mlX12_407 mkX12_readExpression rfl rfl h12.o ⟨by decide, rfl⟩ ⟨Nat.le_of_ble_eq_true rfl, Nat.le_of_ble_eq_true rfl⟩ (Nat.le_of_ble_eq_true rfl) ⟨Nat.le_of_ble_eq_true rfl, Nat.le_of_ble_eq_true rfl⟩ (fun r S' I' L' hp => ?_)
        obtain ⟨rfl, rfl, hR1, hR2⟩ := hp
        rw [hrz] at hR1 hR2
        rcases hG2 : rz.2.2 with _ | F
        skip
        · rw [clB_n hG2] at fin
          obtain ⟨s, hP4⟩ := hR1 hG2
          have hFP4 := hP4.2.2.2.2.2.2.2.2
          refine V_aload_n (pc := 135) dX12_readLaw_135 rfl ?_
          refine V_getR (pc := 136) 12 22 dX12_readLaw_136 flX12_42 (by decide) h12.o h12.R22 ?_
          refine V_iload_n (pc := 139) dX12_readLaw_139 rfl ?_
          refine V_iconst (pc := 140) (v := nI 4) dX12_readLaw_140 (by decide) ?_
          refine V_iaddN (pc := 141) dX12_readLaw_141 ?_
          refine V_aload_n (pc := 142) dX12_readLaw_142 rfl ?_
          refine V_getI (pc := 143) 12 23 dX12_readLaw_143 flX12_312 (by decide) h12.o ?_
          refine V_iastore (pc := 146) dX12_readLaw_146 h12.A22 (by first | decide | omega) (by omega) ?_
          refine V_aload_n (pc := 147) dX12_readLaw_147 rfl ?_
          refine V_getR (pc := 148) 12 22 dX12_readLaw_148 flX12_42 (by decide) h12.o h12.R22 ?_
          refine V_iload_n (pc := 151) dX12_readLaw_151 rfl ?_
          refine V_iconst (pc := 152) (v := nI 5) dX12_readLaw_152 (by decide) ?_
          refine V_iaddN (pc := 153) dX12_readLaw_153 ?_
          refine V_aload_n (pc := 154) dX12_readLaw_154 rfl ?_
          refine V_getI (pc := 155) 12 23 dX12_readLaw_155 flX12_312 (by decide) h12.o ?_
          refine V_iastore (pc := 158) dX12_readLaw_158 h12.A22 (by first | decide | omega) (by omega) ?_
          refine V_aload_n (pc := 159) dX12_readLaw_159 rfl ?_
          refine V_getIE (pc := 160) 12 19 dX12_readLaw_160 flX12_275 (by decide) h12.o ((up2_ne (by omega)).trans ((up2_ne (by omega)).trans hP4.2.2.2.2.2.2.1)) ?_
          refine V_if_neB (pc := 163) (tgt := 185) dX12_readLaw_163 (by decide) (fun c163 => ?_) (fun n163 => absurd n163 (by simp))
          refine V_aload_n (pc := 185) dX12_readLaw_185 rfl ?_
          refine V_getR (pc := 186) 12 22 dX12_readLaw_186 flX12_42 (by decide) h12.o h12.R22 ?_
          refine V_iload_n (pc := 189) dX12_readLaw_189 rfl ?_
          refine V_bipush (pc := 190) (v := nI 6) dX12_readLaw_190 (by decide) ?_
          refine V_iaddN (pc := 192) dX12_readLaw_192 ?_
          refine V_aload_n (pc := 193) dX12_readLaw_193 rfl ?_
          refine V_getI (pc := 194) 12 23 dX12_readLaw_194 flX12_312 (by decide) h12.o ?_
          refine V_iastore (pc := 197) dX12_readLaw_197 h12.A22 (by first | decide | omega) (by omega) ?_
          refine V_vret (pc := 198) dX12_readLaw_198 rfl (by first | decide | omega) (by first | decide | omega) ?_
          exact fin _ _ ⟨(((hFP4.q.tr eF3).row (Or.inl rfl)).row (Or.inl rfl)).row (Or.inl rfl), (fun _ => ⟨s, ((hP4.row (Or.inl rfl)).row (Or.inl rfl)).row (Or.inl rfl)⟩), fun kd F T h => by cases h⟩
        · rw [clB_s hG2] at fin
          obtain ⟨c', m, q1, q2, q3, q4, q5, q6, q7, q8, q9⟩ := hR2 F hG2
          have hFP4 := q1.2.2.2.2.2.2.2.2
          have r10 := hFP4.1 (o + 10) (by omega) (by omega)
          refine rl_tail (I := I) (L := L) (c := c) (F := F) h12 h12k (by omega) ((hFP4.2.1 20 (by omega)).trans g20) (q1.kl hK2) (hFP4.q.tr eF3) ((hFP4.2.1 21 (by omega)).trans g21) (fun i hi => by rw [r10]; exact gr i hi) (by rw [r10]; exact g0) (by rw [r10]; exact g3) q1.rb q2 q3 q4 (by omega) q6 (fun _ => ⟨m, by omega, q7⟩) (fun z => absurd z (by omega)) fin
    · rw [if_neg h12k]
      refine V_aload_n (pc := 34) dX12_readLaw_34 rfl ?_
      refine V_iload_n (pc := 35) dX12_readLaw_35 rfl ?_
      refine V_iconst (pc := 36) (v := (-1)) dX12_readLaw_36 (by decide) ?_
      refine V_icmp_eq (pc := 37) (tgt := 53) dX12_readLaw_37 (by decide) (fun c37 => absurd c37 (by exact nI_nneg1 (by omega))) (fun n37 => ?_)
      refine V_aload_n (pc := 40) dX12_readLaw_40 rfl ?_
      refine V_getIE (pc := 41) 12 21 dX12_readLaw_41 flX12_404 (by decide) h12.o (h21) ?_
      refine V_bipush (pc := 44) (v := nI 12) dX12_readLaw_44 (by decide) ?_
      refine V_icmp_geN (pc := 46) (tgt := 53) dX12_readLaw_46 (by decide) (by omega) (by omega) (fun c46 => ?_) (fun n46 => absurd n46 (by omega))
      exact bad _ _ _ rfl
  · rw [if_neg hh, pred1_0]
    have er : (if k < 12 then clL t n p l else (p, l, none)) = (p, l, none) := by
      split
      · rw [clL, if_neg (by omega)]
      · rfl
    rw [er]
    refine V_aload_n (pc := 34) dX12_readLaw_34 rfl ?_
    refine V_iload_n (pc := 35) dX12_readLaw_35 rfl ?_
    refine V_iconst (pc := 36) (v := (-1)) dX12_readLaw_36 (by decide) ?_
    refine V_icmp_eq (pc := 37) (tgt := 53) dX12_readLaw_37 (by decide) (fun c37 => ?_) (fun n37 => absurd n37 (by decide))
    exact bad _ _ _ rfl
end PK
