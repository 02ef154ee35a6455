/-! THE READER: the test of a clause -/
def rdI (t : Nat → Nat) (n : Nat) (od : Bool) (p l : Nat) : PR := if tc t n p = 0 then ps t n od (FU n) 3 0 (nxt t n p) l one else (p, l, some one)
def PTe (o : Nat) (t : Nat → Nat) (n m : Nat) (od : Bool) (S : ST) (L : LT) (I0 : IT) (cl k0 : Nat) (c0 : CT) (r0 : PR) (r : Option Value) (S' : ST) (I' : IT) (L' : LT) : Prop := S = S' ∧ L = L' ∧ FrY o I' I0 ∧ ((r0.2.2 = none ∧ r = some (.int (b2i false)) ∧ ∃ k', k' ≤ m ∧ I' o 4 = nI k' ∧ pk t n k' = r0.1) ∨ ∃ T, r0.2.2 = some T ∧ r = some (.int (b2i true)) ∧ r0.2.1 ≤ 50 ∧ ∃ k' c', RS I' o t n m od k' r0.2.1 c' ∧ pk t n k' = r0.1 ∧ k0 ≤ k' ∧ c0.2.2 ≤ c'.2.2 ∧ AG c0.2.2 c' c0 ∧ c'.2.2 + k0 ≤ c0.2.2 + k' + 1 ∧ ((I' (o + 6) (cl * 4 + 3) = I0 (o + 6) (cl * 4 + 3) ∧ T = one) ∨ ∃ s e, I' (o + 6) (cl * 4 + 3) = nI s ∧ SgC c'.1 c'.2.1 c'.2.2 s e T ∧ TFo T) ∧ ∀ z, z ≠ cl * 4 + 3 → I' (o + 6) z = I0 (o + 6) z)
section RZ
variable {E : EnT} {S : ST} {L : LT} {o n m cl : Nat} {t : Nat → Nat} {od : Bool}
theorem rc_if {k l s : Nat} {c : CT} {I : IT} {v2 : Int32} (h5 : Lay5 E S o) (hb : ∀ i, i < n → t i < 256) (hcl : cl < 12) (hR : RS I o t n m od k l c) (hc : c.2.2 ≤ k + s) (hs : s ≤ 47) (hl : l ≤ 50) {post : Option Value → ST → IT → LT → Prop} (hpost : ∀ r S' I' L', PTe o t n m od S L I cl k c (rdI t n od (pk t n k) l) r S' I' L' → post r S' I' L') : V E kX5_readClause (rmOf 31 0 0) (QM E post 0 0) 0 0 S I L 169 [(0, .ref o), (1, .int (nI cl)), (2, .int v2)] [] := by
  have h400 := hR.1.2.2.1
  have h4 := hR.2.2.1
  have htk := hR.tk
  have hkm := hR.2.1
  have hlt := tc_lt (n := n) hb (hR.1.pn hkm)
  unfold rdI at hpost
  by_cases h0 : tc t n (pk t n k) = 0
  · rw [if_pos h0] at hpost
    have hk := hR.lt (by omega)
    have hpp := pkm_lt hR.1 hk
    have hR1 := hR.go hk
    have h12 := hR1.2.2.2.2.2.1
    have hR2 := hR1.row (r := o + 6) (i := cl * 4 + 3) (v := nI c.2.2) (by omega)
    have hF2 : FrY o (up2 (up2 I o 4 (nI (k + 1))) (o + 6) (cl * 4 + 3) (nI c.2.2)) I := (FrX5.rf.u (i := 4) (by omega)).y.u6
    have hC := (clt_all (m := m) (od := od) h5 hb (FU n)).1 0 (k + 1) l c _ L one s (by omega) (by rw [show rkn (3 + 0) = 6 from rfl]; unfold FU; omega) hR2 (by omega) hs hl
    have hPL := ps_le (t := t) (od := od) (FU n) 3 0 (pk t n (k + 1)) l one hpp.2
    rw [pk_s] at hC hPL
    rw [show 3 + 0 = 3 from rfl] at hC
    generalize ps t n od (FU n) 3 0 (nxt t n (pk t n k)) l one = r1 at hC hPL hpost
    refine V_aload_n (pc := 169) dX5_readClause_169 rfl ?_
    refine V_getR (pc := 170) 5 1 dX5_readClause_170 flX5_17 (by decide) h5.o h5.R1 ?_
    refine V_aload_n (pc := 173) dX5_readClause_173 rfl ?_
    refine V_getIE (pc := 174) 5 4 dX5_readClause_174 flX5_27 (by decide) h5.o (h4) ?_
    refine V_ialoadE (pc := 177) dX5_readClause_177 h5.A1 (by first | decide | omega) (by omega) (htk) ?_
    refine V_if_eqN (pc := 178) (tgt := 183) dX5_readClause_178 (by decide) (by omega) (fun c178 => ?_) (fun n178 => absurd n178 (by omega))
    refine V_aload_n (pc := 183) dX5_readClause_183 rfl ?_
    refine V_callVn (pc := 184) (ci := 5) (c_X5_goOn h5 hR hk) dX5_readClause_184 mlX5_78 mkX5_goOn rfl rfl h5.o ⟨by decide, rfl⟩ ⟨Nat.le_of_ble_eq_true rfl, Nat.le_of_ble_eq_true rfl⟩ (Nat.le_of_ble_eq_true rfl) ⟨Nat.le_of_ble_eq_true rfl, Nat.le_of_ble_eq_true rfl⟩ ?_
    refine V_aload_n (pc := 187) dX5_readClause_187 rfl ?_
    refine V_getR (pc := 188) 5 9 dX5_readClause_188 flX5_43 (by decide) h5.o h5.R9 ?_
    refine V_iload_n (pc := 191) dX5_readClause_191 rfl ?_
    refine V_iconst (pc := 192) (v := nI 4) dX5_readClause_192 (by decide) ?_
    refine V_imulN (pc := 193) dX5_readClause_193 ?_
    refine V_iconst (pc := 194) (v := nI 3) dX5_readClause_194 (by decide) ?_
    refine V_iaddN (pc := 195) dX5_readClause_195 ?_
    refine V_aload_n (pc := 196) dX5_readClause_196 rfl ?_
    refine V_getIE (pc := 197) 5 12 dX5_readClause_197 flX5_52 (by decide) h5.o (h12) ?_
    refine V_iastore (pc := 200) dX5_readClause_200 h5.A9 (by first | decide | omega) (by omega) ?_
    refine V_aload_n (pc := 201) dX5_readClause_201 rfl ?_
    refine V_iconst (pc := 202) (v := nI 0) dX5_readClause_202 (by decide) ?_
    refine V_iconst (pc := 203) (v := nI 0) dX5_readClause_203 (by decide) ?_
    refine V_callV (pc := 204) (ci := 5) hC dX5_readClause_204 mlX5_125 mkX5_readTest rfl rfl h5.o ⟨by decide, rfl⟩ ⟨Nat.le_of_ble_eq_true rfl, Nat.le_of_ble_eq_true rfl⟩ (Nat.le_of_ble_eq_true rfl) ⟨Nat.le_of_ble_eq_true rfl, Nat.le_of_ble_eq_true rfl⟩ (fun r S' I' L' hp => ?_)
    skip
    obtain ⟨rfl, rfl, hFr, ⟨g1, rfl, k', hk', h4', hp'⟩ | ⟨G, g1, rfl, k', c', hR', hp', hkk, hcc, hsg, hTG⟩⟩ := hp
    · skip
      refine V_if_eqB (pc := 207) (tgt := 223) dX5_readClause_207 (by decide) (fun c207 => ?_) (fun n207 => absurd n207 (by decide))
      refine V_iconst (pc := 223) (v := nI 0) dX5_readClause_223 (by decide) ?_
      refine V_zretB (pc := 224) (p := false) dX5_readClause_224 rfl rfl (by first | decide | omega) (by first | decide | omega) ?_
      exact hpost _ _ _ _ ⟨rfl, rfl, hFr.y.tr hF2, Or.inl ⟨g1, rfl, k', hk', h4', hp'⟩⟩
    · obtain ⟨p1, p2, p3, p4, p5⟩ := hPL
      have hkm' := hR'.2.1
      have hRp := hR'.put (a := 0) (x := 31) (b := 0) rfl (by unfold opC; omega) (by omega) (fun z => by omega)
      have hsl : c.2.2 < c'.2.2 := hsg.2.2.choose_spec.2.1
      have hFp : FrY o (putW I' o c'.2.2 0 0) I := hFr.pw.y.tr hF2
      have hA1 : ∀ z, z < c.2.2 → (pc1 c' 31 0).1 z = c.1 z ∧ (pc1 c' 31 0).2.1 z = c.2.1 z := fun z hz => ⟨(if_neg (by omega)).trans (hsg.1 z hz).1, (if_neg (by omega)).trans (hsg.1 z hz).2⟩
      have r6 : ∀ z, putW I' o c'.2.2 0 0 (o + 6) z = up2 (up2 I o 4 (nI (k + 1))) (o + 6) (cl * 4 + 3) (nI c.2.2) (o + 6) z := fun z => congrFun (hFr.pw.1 (o + 6) (by omega) (by omega) (by omega)) z
      refine V_if_eqB (pc := 207) (tgt := 223) dX5_readClause_207 (by decide) (fun c207 => absurd c207 (by decide)) (fun n207 => ?_)
      refine V_aload_n (pc := 210) dX5_readClause_210 rfl ?_
      refine V_iconst (pc := 211) (v := nI 0) dX5_readClause_211 (by decide) ?_
      refine V_iconst (pc := 212) (v := nI 0) dX5_readClause_212 (by decide) ?_
      refine V_callVd (pc := 213) (ci := 5) (c_X5_put (a := 0) (b := 0) h5 hR' (by omega)) dX5_readClause_213 mlX5_131 mkX5_put rfl rfl h5.o ⟨by decide, rfl⟩ ⟨Nat.le_of_ble_eq_true rfl, Nat.le_of_ble_eq_true rfl⟩ (Nat.le_of_ble_eq_true rfl) ⟨Nat.le_of_ble_eq_true rfl, Nat.le_of_ble_eq_true rfl⟩ ?_
      refine V_if_eqB (pc := 216) (tgt := 223) dX5_readClause_216 (by decide) (fun c216 => absurd c216 (by decide)) (fun n216 => ?_)
      refine V_iconst (pc := 219) (v := nI 1) dX5_readClause_219 (by decide) ?_
      refine V_goto (pc := 220) (tgt := 224) dX5_readClause_220 (by decide) ?_
      refine V_zretB (pc := 224) (p := true) dX5_readClause_224 rfl rfl (by first | decide | omega) (by first | decide | omega) ?_
      refine hpost _ _ _ _ ⟨rfl, rfl, hFp, Or.inr ⟨G, g1, rfl, p4 hl, k', _, hRp, hp', by omega, ?_, hA1, ?_, Or.inr ⟨c.2.2, c'.2.2, (r6 _).trans up2_self, hsg.stp (p4 hl), hTG (by omega)⟩, fun z hz => ?_⟩⟩
      · show c.2.2 ≤ c'.2.2 + 1; omega
      · show c'.2.2 + 1 + k ≤ c.2.2 + k' + 1; omega
      · rw [r6, up2_nej hz, up2_ne (by omega)]
  · rw [if_neg h0] at hpost
    refine V_aload_n (pc := 169) dX5_readClause_169 rfl ?_
    refine V_getR (pc := 170) 5 1 dX5_readClause_170 flX5_17 (by decide) h5.o h5.R1 ?_
    refine V_aload_n (pc := 173) dX5_readClause_173 rfl ?_
    refine V_getIE (pc := 174) 5 4 dX5_readClause_174 flX5_27 (by decide) h5.o (h4) ?_
    refine V_ialoadE (pc := 177) dX5_readClause_177 h5.A1 (by first | decide | omega) (by omega) (htk) ?_
    refine V_if_eqN (pc := 178) (tgt := 183) dX5_readClause_178 (by decide) (by omega) (fun c178 => absurd c178 (by omega)) (fun n178 => ?_)
    refine V_iconst (pc := 181) (v := nI 1) dX5_readClause_181 (by decide) ?_
    refine V_zretB (pc := 182) (p := true) dX5_readClause_182 rfl rfl (by first | decide | omega) (by first | decide | omega) ?_
    exact hpost _ _ _ _ ⟨rfl, rfl, FrX5.rf.y, Or.inr ⟨one, rfl, rfl, hl, k, c, hR, rfl, Nat.le_refl _, Nat.le_refl _, fun _ _ => ⟨rfl, rfl⟩, by omega, Or.inl ⟨rfl, rfl⟩, fun _ _ => rfl⟩⟩
end RZ
