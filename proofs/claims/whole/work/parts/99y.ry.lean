/-! THE READER: the sums of a clause, read -/
theorem rdS_f {t : Nat → Nat} {n : Nat} {od : Bool} {kd j i p l : Nat} (h : ¬ (i = 0 ∨ tc t n p = whd kd i)) : rdS t n od kd (j + 1) i p l = (p, l, none) := by rw [rdS, if_neg h]
theorem rdS_n {t : Nat → Nat} {n : Nat} {od : Bool} {kd j i p l p1 : Nat} {r1 : PR} (h : i = 0 ∨ tc t n p = whd kd i) (hp : p1 = if i = 0 then p else nxt t n p) (hr : ps t n od (FU n) 0 0 p1 l one = r1) (h1 : r1.2.2 = none) : rdS t n od kd (j + 1) i p l = (r1.1, r1.2.1, none) := by
  rw [rdS, if_pos h, ← hp, hr, h1]
theorem rdS_sn {t : Nat → Nat} {n : Nat} {od : Bool} {kd j i p l p1 : Nat} {r1 : PR} {F : SF} (h : i = 0 ∨ tc t n p = whd kd i) (hp : p1 = if i = 0 then p else nxt t n p) (hr : ps t n od (FU n) 0 0 p1 l one = r1) (h1 : r1.2.2 = some F) (h2 : (rdS t n od kd j (i + 1) r1.1 r1.2.1).2.2 = none) : rdS t n od kd (j + 1) i p l = ((rdS t n od kd j (i + 1) r1.1 r1.2.1).1, (rdS t n od kd j (i + 1) r1.1 r1.2.1).2.1, none) := by
  rw [rdS, if_pos h, ← hp, hr, h1]
  show (match (rdS t n od kd j (i + 1) r1.1 r1.2.1).2.2 with | none => _ | some fs => _) = _
  rw [h2]
theorem rdS_ss {t : Nat → Nat} {n : Nat} {od : Bool} {kd j i p l p1 : Nat} {r1 : PR} {F : SF} {fs : List SF} (h : i = 0 ∨ tc t n p = whd kd i) (hp : p1 = if i = 0 then p else nxt t n p) (hr : ps t n od (FU n) 0 0 p1 l one = r1) (h1 : r1.2.2 = some F) (h2 : (rdS t n od kd j (i + 1) r1.1 r1.2.1).2.2 = some fs) : rdS t n od kd (j + 1) i p l = ((rdS t n od kd j (i + 1) r1.1 r1.2.1).1, (rdS t n od kd j (i + 1) r1.1 r1.2.1).2.1, some (F :: fs)) := by
  rw [rdS, if_pos h, ← hp, hr, h1]
  show (match (rdS t n od kd j (i + 1) r1.1 r1.2.1).2.2 with | none => _ | some fs => _) = _
  rw [h2]
def PSm (o : Nat) (t : Nat → Nat) (n m : Nat) (od : Bool) (S : ST) (L : LT) (I0 : IT) (cl i0 k0 : Nat) (c0 : CT) (r0 : Nat × Nat × Option (List SF)) (r : Option Value) (S' : ST) (I' : IT) (L' : LT) : Prop := S = S' ∧ L = L' ∧ FrY o I' I0 ∧ ((r0.2.2 = none ∧ r = some (.int (b2i false)) ∧ ∃ k', k' ≤ m ∧ I' o 4 = nI k' ∧ pk t n k' = r0.1) ∨ ∃ fs, r0.2.2 = some fs ∧ r = some (.int (b2i true)) ∧ r0.2.1 ≤ 50 ∧ ∃ k' c', RS I' o t n m od k' r0.2.1 c' ∧ pk t n k' = r0.1 ∧ k0 ≤ k' ∧ c0.2.2 ≤ c'.2.2 ∧ AG c0.2.2 c' c0 ∧ c'.2.2 + k0 ≤ c0.2.2 + k' + fs.length ∧ (∀ q, q < fs.length → ∃ s e, I' (o + 6) (cl * 4 + i0 + q) = nI s ∧ SgC c'.1 c'.2.1 c'.2.2 s e (fs.getD q one)) ∧ ∀ z, (z < cl * 4 + i0 ∨ cl * 4 + i0 + fs.length ≤ z) → I' (o + 6) z = I0 (o + 6) z)
section RY
variable {E : EnT} {S : ST} {L : LT} {o n m cl kd : Nat} {t : Nat → Nat} {od : Bool}
theorem lp_sms (h5 : Lay5 E S o) (hb : ∀ i, i < n → t i < 256) (hn : n ≤ 400) (hcl : cl < 12) (hkd : kd < 4) {post : Option Value → ST → IT → LT → Prop} : ∀ (j i k l : Nat) (c : CT) (I : IT) (s : Nat), i + j = sms od kd → RS I o t n m od k l c → I (o + 4) cl = nI kd → c.2.2 ≤ k + s → s + j ≤ 48 → l ≤ 50 → (∀ r S' I' L', PSm o t n m od S L I cl i k c (rdS t n od kd j i (pk t n k) l) r S' I' L' → post r S' I' L') → V E kX5_readSums (rmOf 28 0 0) (QM E post 0 0) 0 0 S I L 13 [(0, .ref o), (1, .int (nI cl)), (2, .int (nI (sms od kd))), (3, .int (nI i))] [] := by
  have hsm : sms od kd ≤ 3 := by unfold sms; split; split; omega; split <;> omega; split <;> omega
  intro j
  induction j with
  | zero =>
    intro i k l c I s hij hR hK hc hs hl hpost
    refine V_iload_n (pc := 13) dX5_readSums_13 rfl ?_
    refine V_iload_n (pc := 14) dX5_readSums_14 rfl ?_
    refine V_icmp_geN (pc := 15) (tgt := 90) dX5_readSums_15 (by decide) (by omega) (by omega) (fun c15 => ?_) (fun n15 => absurd n15 (by omega))
    refine V_iconst (pc := 90) (v := nI 1) dX5_readSums_90 (by decide) ?_
    refine V_zretB (pc := 91) (p := true) dX5_readSums_91 rfl rfl (by first | decide | omega) (by first | decide | omega) ?_
    refine hpost _ _ _ _ ⟨rfl, rfl, FrX5.rf.y, Or.inr ⟨[], rfl, rfl, hl, k, c, hR, rfl, Nat.le_refl _, Nat.le_refl _, fun _ _ => ⟨rfl, rfl⟩, ?_, fun q hq => absurd hq (Nat.not_lt_zero q), fun _ _ => rfl⟩⟩
    show c.2.2 + k ≤ c.2.2 + k + 0; omega
  | succ j ih =>
    intro i k l c I s hij hR hK hc hs hl hpost
    have h400 := hR.1.2.2.1
    have mid : ∀ (k1 : Nat) (I1 : IT), (i = 0 ∨ tc t n (pk t n k) = whd kd i) → pk t n k1 = (if i = 0 then pk t n k else nxt t n (pk t n k)) → RS I1 o t n m od k1 l c → FrX5 o I1 I → k ≤ k1 → V E kX5_readSums (rmOf 28 0 0) (QM E post 0 0) 0 0 S I1 L 50 [(0, .ref o), (1, .int (nI cl)), (2, .int (nI (sms od kd))), (3, .int (nI i))] [] := by
      intro k1 I1 hW hpk hR1 hF1 hk1
      have h12 := hR1.2.2.2.2.2.1
      have hR2 := hR1.row (r := o + 6) (i := cl * 4 + i) (v := nI c.2.2) (by omega)
      have hpn := hR1.1.pn hR1.2.1
      have hF2 : FrY o (up2 I1 (o + 6) (cl * 4 + i) (nI c.2.2)) I := hF1.y.u6
      have hC := (cls_all (m := m) (od := od) h5 hb (FU n)).1 0 k1 l c _ L one s (by omega) (by rw [show rkn 0 = 3 from rfl]; unfold FU; omega) hR2 (by omega) (by omega) hl
      have hPL := ps_le (t := t) (od := od) (FU n) 0 0 (pk t n k1) l one hpn
      generalize hr1 : ps t n od (FU n) 0 0 (pk t n k1) l one = r1 at hC hPL
      refine V_aload_n (pc := 50) dX5_readSums_50 rfl ?_
      refine V_getR (pc := 51) 5 9 dX5_readSums_51 flX5_43 (by decide) h5.o h5.R9 ?_
      refine V_iload_n (pc := 54) dX5_readSums_54 rfl ?_
      refine V_iconst (pc := 55) (v := nI 4) dX5_readSums_55 (by decide) ?_
      refine V_imulN (pc := 56) dX5_readSums_56 ?_
      refine V_iload_n (pc := 57) dX5_readSums_57 rfl ?_
      refine V_iaddN (pc := 58) dX5_readSums_58 ?_
      refine V_aload_n (pc := 59) dX5_readSums_59 rfl ?_
      refine V_getIE (pc := 60) 5 12 dX5_readSums_60 flX5_52 (by decide) h5.o (h12) ?_
      refine V_iastore (pc := 63) dX5_readSums_63 h5.A9 (by first | decide | omega) (by omega) ?_
      refine V_aload_n (pc := 64) dX5_readSums_64 rfl ?_
      refine V_iconst (pc := 65) (v := nI 0) dX5_readSums_65 (by decide) ?_
      refine V_iconst (pc := 66) (v := nI 0) dX5_readSums_66 (by decide) ?_
      refine V_callV (pc := 67) (ci := 5) hC dX5_readSums_67 mlX5_141 mkX5_readSum rfl rfl h5.o ⟨by decide, rfl⟩ ⟨Nat.le_of_ble_eq_true rfl, Nat.le_of_ble_eq_true rfl⟩ (Nat.le_of_ble_eq_true rfl) ⟨Nat.le_of_ble_eq_true rfl, Nat.le_of_ble_eq_true rfl⟩ (fun r S' I' L' hp => ?_)
      skip
      obtain ⟨rfl, rfl, hFr, ⟨g1, rfl, k', hk', h4', hp'⟩ | ⟨G, g1, rfl, k', c', hR', hp', hkk, hcc, hsg, -⟩⟩ := hp
      · rw [rdS_n hW hpk hr1 g1] at hpost
        refine V_if_eqB (pc := 70) (tgt := 82) dX5_readSums_70 (by decide) (fun c70 => ?_) (fun n70 => absurd n70 (by decide))
        refine V_iconst (pc := 82) (v := nI 0) dX5_readSums_82 (by decide) ?_
        refine V_zretB (pc := 83) (p := false) dX5_readSums_83 rfl rfl (by first | decide | omega) (by first | decide | omega) ?_
        exact hpost _ _ _ _ ⟨rfl, rfl, hFr.y.tr hF2, Or.inl ⟨rfl, rfl, k', hk', h4', hp'⟩⟩
      · obtain ⟨p1, p2, p3, p4, p5⟩ := hPL
        have hkm' := hR'.2.1
        have hRp := hR'.put (a := 0) (x := 31) (b := 0) rfl (by unfold opC; omega) (by omega) (fun z => by omega)
        have hsl : c.2.2 < c'.2.2 := hsg.2.2.choose_spec.2.1
        have hFp : FrY o (putW I' o c'.2.2 0 0) I := hFr.pw.y.tr hF2
        have hstp := hsg.stp (p4 hl)
        have hA1 : ∀ z, z < c.2.2 → (pc1 c' 31 0).1 z = c.1 z ∧ (pc1 c' 31 0).2.1 z = c.2.1 z := fun z hz => ⟨(if_neg (by omega)).trans (hsg.1 z hz).1, (if_neg (by omega)).trans (hsg.1 z hz).2⟩
        have r6 : ∀ z, putW I' o c'.2.2 0 0 (o + 6) z = up2 I1 (o + 6) (cl * 4 + i) (nI c.2.2) (o + 6) z := fun z => congrFun (hFr.pw.1 (o + 6) (by omega) (by omega) (by omega)) z
        have key := ih (i + 1) k' r1.2.1 (pc1 c' 31 0) (putW I' o c'.2.2 0 0) (s + 1) (by omega) hRp (by rw [hFp.1 (o + 4) (by omega) (by omega) (by omega) (by omega)]; exact hK) (by show c'.2.2 + 1 ≤ _; omega) (by omega) (p4 hl) (fun r S' I3 L' hq => hpost r S' I3 L' (by
          obtain ⟨q1, q2, q3, ⟨w1, w2, w3⟩ | ⟨fs, w1, w2, w3, k3, c3, v1, v2, v3, v4, v5, v6, v7, v8⟩⟩ := hq
          · rw [hp'] at w1 w3
            rw [rdS_sn hW hpk hr1 g1 w1]
            exact ⟨q1, q2, q3.tr hFp, Or.inl ⟨rfl, w2, w3⟩⟩
          · rw [hp'] at w1 w3 v1 v2
            rw [rdS_ss hW hpk hr1 g1 w1]
            have v4' : c'.2.2 + 1 ≤ c3.2.2 := v4
            have v6' : c3.2.2 + k' ≤ c'.2.2 + 1 + k3 + fs.length := v6
            refine ⟨q1, q2, q3.tr hFp, Or.inr ⟨G :: fs, rfl, w2, w3, k3, c3, v1, v2, by omega, by omega, fun z hz => ?_, ?_, fun q hq => ?_, fun z hz => ?_⟩⟩
            · have a1 := v5 z (by show z < c'.2.2 + 1; omega)
              have a2 := hA1 z hz
              exact ⟨a1.1.trans a2.1, a1.2.trans a2.2⟩
            · show c3.2.2 + k ≤ c.2.2 + k3 + (fs.length + 1); omega
            · cases q with
              | zero =>
                refine ⟨c.2.2, c'.2.2, ?_, hstp.ag v4 v5⟩
                rw [v8 _ (by omega), r6]
                exact up2_self
              | succ q =>
                obtain ⟨s', e', u1, u2⟩ := v7 q (by simpa using hq)
                exact ⟨s', e', by rw [show cl * 4 + i + (q + 1) = cl * 4 + (i + 1) + q from by omega]; exact u1, u2⟩
            · have hz' : z < cl * 4 + i ∨ cl * 4 + i + (fs.length + 1) ≤ z := hz
              rw [v8 z (by omega), r6, up2_nej (by omega)]
              exact congrFun (hF1.1 (o + 6) (by omega) (by omega) (by omega)) z))
        refine V_if_eqB (pc := 70) (tgt := 82) dX5_readSums_70 (by decide) (fun c70 => absurd c70 (by decide)) (fun n70 => ?_)
        refine V_aload_n (pc := 73) dX5_readSums_73 rfl ?_
        refine V_iconst (pc := 74) (v := nI 0) dX5_readSums_74 (by decide) ?_
        refine V_iconst (pc := 75) (v := nI 0) dX5_readSums_75 (by decide) ?_
        refine V_callVd (pc := 76) (ci := 5) (c_X5_put (a := 0) (b := 0) h5 hR' (by omega)) dX5_readSums_76 mlX5_131 mkX5_put rfl rfl h5.o ⟨by decide, rfl⟩ ⟨Nat.le_of_ble_eq_true rfl, Nat.le_of_ble_eq_true rfl⟩ (Nat.le_of_ble_eq_true rfl) ⟨Nat.le_of_ble_eq_true rfl, Nat.le_of_ble_eq_true rfl⟩ ?_
        refine V_if_neB (pc := 79) (tgt := 84) dX5_readSums_79 (by decide) (fun c79 => ?_) (fun n79 => absurd n79 (by decide))
        refine V_iinc1 (pc := 84) (ls' := [(0, _), (1, _), (2, _), (3, _)]) dX5_readSums_84 rfl (by decide) rfl ?_
        refine V_goto (pc := 87) (tgt := 13) dX5_readSums_87 (by decide) ?_
        exact key
    have h4 := hR.2.2.1
    have htk := hR.tk
    have hkm := hR.2.1
    have hlt := tc_lt (n := n) hb (hR.1.pn hkm)
    by_cases hi0 : i = 0
    · skip
      refine V_iload_n (pc := 13) dX5_readSums_13 rfl ?_
      refine V_iload_n (pc := 14) dX5_readSums_14 rfl ?_
      refine V_icmp_geN (pc := 15) (tgt := 90) dX5_readSums_15 (by decide) (by omega) (by omega) (fun c15 => absurd c15 (by omega)) (fun n15 => ?_)
      refine V_iload_n (pc := 18) dX5_readSums_18 rfl ?_
      refine V_if_leN (pc := 19) (tgt := 50) dX5_readSums_19 (by decide) (by omega) (fun c19 => ?_) (fun n19 => absurd n19 (by omega))
      exact mid k I (Or.inl hi0) (by rw [if_pos hi0]) hR FrX5.rf (Nat.le_refl k)
    · have hwl : whd kd i ≤ 7 := by unfold whd; split; omega; split <;> omega
      by_cases hw : tc t n (pk t n k) = whd kd i
      · have hk := hR.lt (by omega)
        refine V_iload_n (pc := 13) dX5_readSums_13 rfl ?_
        refine V_iload_n (pc := 14) dX5_readSums_14 rfl ?_
        refine V_icmp_geN (pc := 15) (tgt := 90) dX5_readSums_15 (by decide) (by omega) (by omega) (fun c15 => absurd c15 (by omega)) (fun n15 => ?_)
        refine V_iload_n (pc := 18) dX5_readSums_18 rfl ?_
        refine V_if_leN (pc := 19) (tgt := 50) dX5_readSums_19 (by decide) (by omega) (fun c19 => absurd c19 (by omega)) (fun n19 => ?_)
        refine V_aload_n (pc := 22) dX5_readSums_22 rfl ?_
        refine V_getR (pc := 23) 5 1 dX5_readSums_23 flX5_17 (by decide) h5.o h5.R1 ?_
        refine V_aload_n (pc := 26) dX5_readSums_26 rfl ?_
        refine V_getIE (pc := 27) 5 4 dX5_readSums_27 flX5_27 (by decide) h5.o (h4) ?_
        refine V_ialoadE (pc := 30) dX5_readSums_30 h5.A1 (by first | decide | omega) (by omega) (htk) ?_
        refine V_aload_n (pc := 31) dX5_readSums_31 rfl ?_
        refine V_getR (pc := 32) 5 7 dX5_readSums_32 flX5_37 (by decide) h5.o h5.R7 ?_
        refine V_iload_n (pc := 35) dX5_readSums_35 rfl ?_
        refine V_ialoadE (pc := 36) dX5_readSums_36 h5.A7 (by first | decide | omega) (by omega) (hK) ?_
        refine V_iload_n (pc := 37) dX5_readSums_37 rfl ?_
        refine V_callSd (pc := 38) (c_X5_wordAhead hkd (by omega)) dX5_readSums_38 mlX5_138 mkX5_wordAhead rfl rfl ⟨Nat.le_of_ble_eq_true rfl, Nat.le_of_ble_eq_true rfl⟩ (Nat.le_of_ble_eq_true rfl) ⟨Nat.le_of_ble_eq_true rfl, Nat.le_of_ble_eq_true rfl⟩ ?_
        refine V_icmp_eqN (pc := 41) (tgt := 46) dX5_readSums_41 (by decide) (by omega) (by omega) (fun c41 => ?_) (fun n41 => absurd n41 (by omega))
        refine V_aload_n (pc := 46) dX5_readSums_46 rfl ?_
        refine V_callVn (pc := 47) (ci := 5) (c_X5_goOn h5 hR hk) dX5_readSums_47 mlX5_78 mkX5_goOn rfl rfl h5.o ⟨by decide, rfl⟩ ⟨Nat.le_of_ble_eq_true rfl, Nat.le_of_ble_eq_true rfl⟩ (Nat.le_of_ble_eq_true rfl) ⟨Nat.le_of_ble_eq_true rfl, Nat.le_of_ble_eq_true rfl⟩ ?_
        exact mid (k + 1) _ (Or.inr hw) (by rw [if_neg hi0]; rfl) (hR.go hk) (FrX5.rf.u (by omega)) (by omega)
      · rw [rdS_f (by omega)] at hpost
        refine V_iload_n (pc := 13) dX5_readSums_13 rfl ?_
        refine V_iload_n (pc := 14) dX5_readSums_14 rfl ?_
        refine V_icmp_geN (pc := 15) (tgt := 90) dX5_readSums_15 (by decide) (by omega) (by omega) (fun c15 => absurd c15 (by omega)) (fun n15 => ?_)
        refine V_iload_n (pc := 18) dX5_readSums_18 rfl ?_
        refine V_if_leN (pc := 19) (tgt := 50) dX5_readSums_19 (by decide) (by omega) (fun c19 => absurd c19 (by omega)) (fun n19 => ?_)
        refine V_aload_n (pc := 22) dX5_readSums_22 rfl ?_
        refine V_getR (pc := 23) 5 1 dX5_readSums_23 flX5_17 (by decide) h5.o h5.R1 ?_
        refine V_aload_n (pc := 26) dX5_readSums_26 rfl ?_
        refine V_getIE (pc := 27) 5 4 dX5_readSums_27 flX5_27 (by decide) h5.o (h4) ?_
        refine V_ialoadE (pc := 30) dX5_readSums_30 h5.A1 (by first | decide | omega) (by omega) (htk) ?_
        refine V_aload_n (pc := 31) dX5_readSums_31 rfl ?_
        refine V_getR (pc := 32) 5 7 dX5_readSums_32 flX5_37 (by decide) h5.o h5.R7 ?_
        refine V_iload_n (pc := 35) dX5_readSums_35 rfl ?_
        refine V_ialoadE (pc := 36) dX5_readSums_36 h5.A7 (by first | decide | omega) (by omega) (hK) ?_
        refine V_iload_n (pc := 37) dX5_readSums_37 rfl ?_
        refine V_callSd (pc := 38) (c_X5_wordAhead hkd (by omega)) dX5_readSums_38 mlX5_138 mkX5_wordAhead rfl rfl ⟨Nat.le_of_ble_eq_true rfl, Nat.le_of_ble_eq_true rfl⟩ (Nat.le_of_ble_eq_true rfl) ⟨Nat.le_of_ble_eq_true rfl, Nat.le_of_ble_eq_true rfl⟩ ?_
        refine V_icmp_eqN (pc := 41) (tgt := 46) dX5_readSums_41 (by decide) (by omega) (by omega) (fun c41 => absurd c41 (by omega)) (fun n41 => ?_)
        refine V_iconst (pc := 44) (v := nI 0) dX5_readSums_44 (by decide) ?_
        refine V_zretB (pc := 45) (p := false) dX5_readSums_45 rfl rfl (by first | decide | omega) (by first | decide | omega) ?_
        exact hpost _ _ _ _ ⟨rfl, rfl, FrX5.rf.y, Or.inl ⟨rfl, rfl, k, hkm, h4, rfl⟩⟩
theorem c_X5_readSums {k l s : Nat} {c : CT} {I : IT} (h5 : Lay5 E S o) (hb : ∀ i, i < n → t i < 256) (hn : n ≤ 400) (hcl : cl < 12) (hkd : kd < 4) (hR : RS I o t n m od k l c) (hK : I (o + 4) cl = nI kd) (hc : c.2.2 ≤ k + s) (hs : s + sms od kd ≤ 48) (hl : l ≤ 50) : C E kX5_readSums 28 0 0 [.ref o, .int (nI cl)] S I L (PSm o t n m od S L I cl 0 k c (rdS t n od kd (sms od kd) 0 (pk t n k) l)) := by
  refine C_of (by decide) (Nat.le_of_ble_eq_true rfl) ?_
  refine V_aload_n (pc := 0) dX5_readSums_0 rfl ?_
  refine V_aload_n (pc := 1) dX5_readSums_1 rfl ?_
  refine V_getR (pc := 2) 5 7 dX5_readSums_2 flX5_37 (by decide) h5.o h5.R7 ?_
  refine V_iload_n (pc := 5) dX5_readSums_5 rfl ?_
  refine V_ialoadE (pc := 6) dX5_readSums_6 h5.A7 (by first | decide | omega) (by omega) (hK) ?_
  refine V_callVd (pc := 7) (ci := 5) (c_X5_sumsOf h5 hR.2.2.2.2.1 hkd) dX5_readSums_7 mlX5_134 mkX5_sumsOf rfl rfl h5.o ⟨by decide, rfl⟩ ⟨Nat.le_of_ble_eq_true rfl, Nat.le_of_ble_eq_true rfl⟩ (Nat.le_of_ble_eq_true rfl) ⟨Nat.le_of_ble_eq_true rfl, Nat.le_of_ble_eq_true rfl⟩ ?_
  refine V_istore_n (pc := 10) (ls' := [(0, _), (1, _), (2, _)]) dX5_readSums_10 (by decide) rfl ?_
  refine V_iconst (pc := 11) (v := nI 0) dX5_readSums_11 (by decide) ?_
  refine V_istore_n (pc := 12) (ls' := [(0, _), (1, _), (2, _), (3, _)]) dX5_readSums_12 (by decide) rfl ?_
  exact lp_sms h5 hb hn hcl hkd (sms od kd) 0 k l c I s (by omega) hR hK hc hs hl (fun _ _ _ _ h => h)
end RY
