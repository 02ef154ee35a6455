/-! THE READER: tests -/
def pat (c : CT) (j v : Nat) : CT := (c.1, fun i => if i = j then v else c.2.1 i, c.2.2)
section RW
variable {E : EnT} {S : ST} {I : IT} {L : LT} {o n m k l d f s : Nat} {t : Nat → Nat} {od : Bool} {c : CT} {F : SF}
theorem RS.pa {j v : Nat} (h : RS I o t n m od k l c) (hv : v ≤ 1000) (h1' : c.1 j ≠ 1) : RS (up2 I (o + 8) j (nI v)) o t n m od k l (pat c j v) := by
  obtain ⟨h1, h2, h3, h4, h5, h6, h7⟩ := h
  refine ⟨h1.fr (FrX5.rf.u7 (by omega)), h2, (up2_ne (by omega)).trans h3, (up2_ne (by omega)).trans h4, (up2_ne (by omega)).trans h5, (up2_ne (by omega)).trans h6, fun i hi => ?_⟩
  obtain ⟨a1, a2, a3, a4, a5⟩ := h7 i hi
  show up2 I (o + 8) j (nI v) (o + 7) i = nI (itC (c.1 i)) ∧ up2 I (o + 8) j (nI v) (o + 8) i = nI (if i = j then v else c.2.1 i) ∧ opC (c.1 i) ∧ (if i = j then v else c.2.1 i) ≤ 1000 ∧ (c.1 i = 1 → wdk od (if i = j then v else c.2.1 i))
  rw [up2_ne (by omega)]
  by_cases e : i = j
  · subst e
    rw [up2_self, if_pos rfl]
    exact ⟨a1, rfl, a3, hv, fun z => absurd z h1'⟩
  · rw [up2_nej e, if_neg e]
    exact ⟨a1, a2, a3, a4, a5⟩
def lgS (x : Nat) (F G : SF) : SF := if x = 30 then orS F G else andS F G
theorem SgR.lg {s0 l0 l l' x : Nat} {c0 c c' : CT} {F G : SF} (h : SgR s0 c0 c l0 l F) (g : SgR (c.2.2 + 1) (pc1 c x 0) c' l l' G) (hx : x = 29 ∨ x = 30) : SgR s0 c0 (pat c' c.2.2 c'.2.2) l0 l' (lgS x F G) := by
  obtain ⟨h1, h2, a, ha, hF⟩ := h
  obtain ⟨g1, g2, b, hb, hG⟩ := g
  have hs := hF.1
  have hs2 := hG.1
  have e0 : c'.1 c.2.2 = x := (g1 c.2.2 (by omega)).1.trans (if_pos rfl)
  have e1 : ∀ j, j < c.2.2 → c'.1 j = c.1 j ∧ c'.2.1 j = c.2.1 j := fun j hj => ⟨(g1 j (by omega)).1.trans (if_neg (by omega)), (g1 j (by omega)).2.trans (if_neg (by omega))⟩
  have p0 : (pat c' c.2.2 c'.2.2).2.1 c.2.2 = c'.2.2 := if_pos rfl
  have p1 : ∀ j, j ≠ c.2.2 → (pat c' c.2.2 c'.2.2).2.1 j = c'.2.1 j := fun j hj => if_neg hj
  have q0 : ∀ j, j < c.2.2 → (pat c' c.2.2 c'.2.2).1 j = c.1 j ∧ (pat c' c.2.2 c'.2.2).2.1 j = c.2.1 j := fun j hj => ⟨(e1 j hj).1, (p1 j (by omega)).trans (e1 j hj).2⟩
  refine ⟨fun j hj => ?_, fun j j1 j2 => ?_, a + b, by omega, ?_⟩
  · have q1 := q0 j (by omega); have q3 := h1 j hj
    exact ⟨q1.1.trans q3.1, q1.2.trans q3.2⟩
  · have j3 : j < c'.2.2 := j2
    show c'.1 j ≠ 31 ∧ ((c'.1 j = 29 ∨ c'.1 j = 30) → j < (pat c' c.2.2 c'.2.2).2.1 j ∧ (pat c' c.2.2 c'.2.2).2.1 j ≤ c'.2.2)
    by_cases q : j = c.2.2
    · rw [q, e0, p0]; exact ⟨by omega, fun z => by omega⟩
    · by_cases q4 : j < c.2.2
      · have q5 := h2 j j1 q4
        have q6 := q0 j q4
        rw [q6.2, (e1 j q4).1]
        exact ⟨q5.1, fun z => by have := q5.2 z; omega⟩
      · rw [p1 j q]
        exact g2 j (by omega) j3
  · have hF' : Rn lfC (pat c' c.2.2 c'.2.2).1 (pat c' c.2.2 c'.2.2).2.1 s0 c.2.2 a F := hF.cg fun j j1 j2 => q0 j j2
    have hG' : Rn lfC (pat c' c.2.2 c'.2.2).1 (pat c' c.2.2 c'.2.2).2.1 (c.2.2 + 1) c'.2.2 b G := hG.cg fun j j1 j2 => ⟨rfl, p1 j (by omega)⟩
    rcases hx with rfl | rfl
    · exact hF'.an hG' e0 p0
    · exact hF'.or hG' e0 p0
theorem TFo.lg {x : Nat} {F G : SF} (hF : TFo F) (hG : TFo G) : TFo (lgS x F G) := by unfold lgS; split; exact hF.or hG; exact hF.an hG
def TLT (E : EnT) (S : ST) (o : Nat) (t : Nat → Nat) (n m : Nat) (od : Bool) (lv f : Nat) : Prop := ∀ (d k l : Nat) (c : CT) (I : IT) (L : LT) (F : SF) (s k0 l0 : Nat) (c0 : CT) (I0 : IT) (N : Nat) (jv v5 : Int32), d ≤ 8 → 1 + 8 * (n - pk t n k) ≤ f → RS I o t n m od k l c → c.2.2 ≤ k + s → s ≤ 47 → l ≤ 50 → N < k → k0 < k → c.2.2 + k0 ≤ c0.2.2 + k → SgR c0.2.2 c0 c l0 l F → TFo F → FrX5 o I I0 → V E kX5_readTest (rmOf (3 * (8 - d) + rkn (3 + lv)) 0 0) (QM E (PO o t n m od S L I0 k0 l0 c0 (3 + lv) (ps t n od f (8 + lv) d (pk t n k) l F)) 0 0) 0 0 S I L 55 [(0, .ref o), (1, .int (nI lv)), (2, .int (nI d)), (3, .int jv), (4, .int (nI N)), (5, .int v5)] []
def CLN0 (E : EnT) (S : ST) (o : Nat) (t : Nat → Nat) (n m : Nat) (od : Bool) (f : Nat) : Prop := ∀ (d k l : Nat) (c : CT) (I : IT) (L : LT) (F : SF) (s : Nat), d ≤ 8 → rkn 5 + 8 * (n - pk t n k) ≤ f → RS I o t n m od k l c → c.2.2 ≤ k + s → s ≤ 47 → l ≤ 50 → C E kX5_readPlain (3 * (8 - d) + 4) 0 0 [.ref o, .int (nI d)] S I L (PO o t n m od S L I k l c 5 (ps t n od f 5 d (pk t n k) l F))
theorem cln0 (h : CLN E S o t n m od f) : CLN0 E S o t n m od f := by
  intro d k l c I L F s hd hf hR hc hs hl
  have key := h d k l c I L F s k I false 0 hd hf hR hc hs hl (Nat.zero_le _) (Nat.le_refl _) (fun z => by cases z) FrX5.rf
  refine C_of (by decide) (Nat.le_of_ble_eq_true rfl) ?_
  refine V_iconst (pc := 0) (v := nI 0) dX5_readPlain_0 (by decide) ?_
  refine V_istore_n (pc := 1) (ls' := [(0, _), (1, _), (2, _)]) dX5_readPlain_1 (by decide) rfl ?_
  refine V_iconst (pc := 2) (v := nI 0) dX5_readPlain_2 (by decide) ?_
  refine V_istore_n (pc := 3) (ls' := [(0, _), (1, _), (2, _), (3, _)]) dX5_readPlain_3 (by decide) rfl ?_
  exact key
theorem tlt_0 (h5 : Lay5 E S o) (hb : ∀ i, i < n → t i < 256) (hS : CLT E S o t n m od 1 f) (hT : TLT E S o t n m od 0 f) : TLT E S o t n m od 0 (f + 1) := by
  intro d k l c I L F s k0 l0 c0 I0 N jv v5 hd hf hR hc hs hl hN hk0 hc0 hsg hTF hF
  have h400 := hR.1.2.2.1
  have hkm := hR.2.1
  have h4 := hR.2.2.1
  have h12 := hR.2.2.2.2.2.1
  have htk := hR.tk
  have hlt := tc_lt (n := n) hb (hR.1.pn hkm)
  rw [show 8 + 0 = 8 from rfl, ps_8]
  by_cases h0 : tc t n (pk t n k) = 1
  · rw [if_pos h0]
    have hk := hR.lt (by omega)
    have hpp := pkm_lt hR.1 hk
    have hpp2 := hpp
    rw [pk_s] at hpp2
    have hRp := hR.put (a := 13) (x := 30) (b := 0) rfl (by unfold opC; omega) (by omega) (fun z => by omega)
    have hR1 := hRp.go hk
    have hC := hS d (k + 1) l (pc1 c 30 0) (up2 (putW I o c.2.2 13 0) o 4 (nI (k + 1))) L F s hd (by rw [show rkn (3 + 1) = 5 from rfl]; omega) hR1 (by show c.2.2 + 1 ≤ _; omega) hs hl
    have hPL := ps_le (t := t) (od := od) f 4 d (pk t n (k + 1)) l F hpp.2
    rw [pk_s] at hC hPL
    rw [show 3 + 1 = 4 from rfl] at hC
    generalize ps t n od f 4 d (nxt t n (pk t n k)) l F = r1 at hC hPL ⊢
    refine V_aload_n (pc := 55) dX5_readTest_55 rfl ?_
    refine V_getR (pc := 56) 5 1 dX5_readTest_56 flX5_17 (by decide) h5.o h5.R1 ?_
    refine V_aload_n (pc := 59) dX5_readTest_59 rfl ?_
    refine V_getIE (pc := 60) 5 4 dX5_readTest_60 flX5_27 (by decide) h5.o (h4) ?_
    refine V_ialoadE (pc := 63) dX5_readTest_63 h5.A1 (by first | decide | omega) (by omega) (htk) ?_
    refine V_iload_n (pc := 64) dX5_readTest_64 rfl ?_
    refine V_if_neN (pc := 65) (tgt := 72) dX5_readTest_65 (by decide) (by omega) (fun c65 => absurd c65 (by omega)) (fun n65 => ?_)
    refine V_iconst (pc := 68) (v := nI 1) dX5_readTest_68 (by decide) ?_
    refine V_goto (pc := 69) (tgt := 73) dX5_readTest_69 (by decide) ?_
    refine V_icmp_eqN (pc := 73) (tgt := 78) dX5_readTest_73 (by decide) (by omega) (by omega) (fun c73 => ?_) (fun n73 => absurd n73 (by omega))
    refine V_aload_n (pc := 78) dX5_readTest_78 rfl ?_
    refine V_getIE (pc := 79) 5 12 dX5_readTest_79 flX5_52 (by decide) h5.o (h12) ?_
    refine V_istore_n (pc := 82) (ls' := [(0, _), (1, _), (2, _), (3, _), (4, _), (5, _)]) dX5_readTest_82 (by decide) rfl ?_
    refine V_aload_n (pc := 83) dX5_readTest_83 rfl ?_
    refine V_iload_n (pc := 84) dX5_readTest_84 rfl ?_
    refine V_if_neN (pc := 85) (tgt := 93) dX5_readTest_85 (by decide) (by omega) (fun c85 => absurd c85 (by omega)) (fun n85 => ?_)
    refine V_bipush (pc := 88) (v := nI 13) dX5_readTest_88 (by decide) ?_
    refine V_goto (pc := 90) (tgt := 95) dX5_readTest_90 (by decide) ?_
    refine V_iconst (pc := 95) (v := nI 0) dX5_readTest_95 (by decide) ?_
    refine V_callVd (pc := 96) (ci := 5) (c_X5_put (a := 13) h5 hR (by omega)) dX5_readTest_96 mlX5_131 mkX5_put rfl rfl h5.o ⟨by decide, rfl⟩ (rmS (by show _ ≤ 3 * (8 - d) + 6; first | omega | (show _ + 5 + 1 ≤ _; omega)) (Nat.le_of_ble_eq_true rfl)) (Nat.le_of_ble_eq_true rfl) ⟨Nat.le_of_ble_eq_true rfl, Nat.le_of_ble_eq_true rfl⟩ ?_
    refine V_if_neB (pc := 99) (tgt := 104) dX5_readTest_99 (by decide) (fun c99 => ?_) (fun n99 => absurd n99 (by decide))
    refine V_aload_n (pc := 104) dX5_readTest_104 rfl ?_
    refine V_callVn (pc := 105) (ci := 5) (c_X5_goOn h5 hRp hk) dX5_readTest_105 mlX5_78 mkX5_goOn rfl rfl h5.o ⟨by decide, rfl⟩ (rmS (by show _ ≤ 3 * (8 - d) + 6; first | omega | (show _ + 5 + 1 ≤ _; omega)) (Nat.le_of_ble_eq_true rfl)) (Nat.le_of_ble_eq_true rfl) ⟨Nat.le_of_ble_eq_true rfl, Nat.le_of_ble_eq_true rfl⟩ ?_
    refine V_iinc1 (pc := 108) (ls' := [(0, _), (1, _), (2, _), (3, _), (4, _), (5, _)]) dX5_readTest_108 rfl (by decide) rfl ?_
    refine V_goto (pc := 111) (tgt := 5) dX5_readTest_111 (by decide) ?_
    refine V_iload (pc := 5) dX5_readTest_5 rfl ?_
    refine V_sipush (pc := 7) (v := nI 400) dX5_readTest_7 (by decide) ?_
    refine V_icmp_gtN (pc := 10) (tgt := 114) dX5_readTest_10 (by decide) (by omega) (by omega) (fun c10 => absurd c10 (by omega)) (fun n10 => ?_)
    refine V_iload_n (pc := 13) dX5_readTest_13 rfl ?_
    refine V_if_neN (pc := 14) (tgt := 26) dX5_readTest_14 (by decide) (by omega) (fun c14 => absurd c14 (by omega)) (fun n14 => ?_)
    refine V_aload_n (pc := 17) dX5_readTest_17 rfl ?_
    refine V_iconst (pc := 18) (v := nI 1) dX5_readTest_18 (by decide) ?_
    refine V_iload_n (pc := 19) dX5_readTest_19 rfl ?_
    refine V_callV (pc := 20) (ci := 5) hC dX5_readTest_20 mlX5_125 mkX5_readTest rfl rfl h5.o ⟨by decide, rfl⟩ (rmS (by show _ ≤ 3 * (8 - d) + 6; first | omega | (show _ + 5 + 1 ≤ _; omega)) (Nat.le_of_ble_eq_true rfl)) (Nat.le_of_ble_eq_true rfl) ⟨Nat.le_of_ble_eq_true rfl, Nat.le_of_ble_eq_true rfl⟩ (fun r S' I' L' hp => ?_)
    refine V_goto (pc := 23) (tgt := 31) dX5_readTest_23 (by decide) ?_
    skip
    obtain ⟨rfl, rfl, hFr, ⟨g1, rfl, k', hk', h4', hp'⟩ | ⟨G, g1, rfl, k', c', hR', hp', hkk, hcc, hsg', hTG⟩⟩ := hp
    · rw [bd_n g1]
      refine V_istore (pc := 31) (ls' := [(0, _), (1, _), (2, _), (3, _), (4, _), (5, _)]) dX5_readTest_31 (by decide) rfl ?_
      refine V_iload (pc := 33) dX5_readTest_33 rfl ?_
      refine V_if_neB (pc := 35) (tgt := 40) dX5_readTest_35 (by decide) (fun c35 => absurd c35 (by decide)) (fun n35 => ?_)
      refine V_iconst (pc := 38) (v := nI 0) dX5_readTest_38 (by decide) ?_
      refine V_zretB (pc := 39) (p := false) dX5_readTest_39 rfl rfl (by first | decide | omega) (by first | decide | omega) ?_
      exact ⟨rfl, rfl, (hFr.tr (FrX5.rf.u (by omega))).tr hF.pw, Or.inl ⟨g1, rfl, k', hk', h4', hp'⟩⟩
    · rw [bd_s g1]
      obtain ⟨p1, p2, p3, p4, p5⟩ := hPL
      have p6 := p5 G g1
      rw [if_pos (by decide)] at p6
      have hkm' := hR'.2.1
      have h12' := hR'.2.2.2.2.2.1
      have hcc' : c'.2.2 + (k + 1) ≤ c.2.2 + 1 + k' := hcc
      have hsl : c.2.2 + 1 < c'.2.2 := hsg'.2.2.choose_spec.2.1
      have e0 : c'.1 c.2.2 = 30 := (hsg'.1 c.2.2 (by show c.2.2 < c.2.2 + 1; omega)).1.trans (if_pos rfl)
      have hRa := hR'.pa (j := c.2.2) (v := c'.2.2) (by omega) (by omega)
      have hFp : FrX5 o (up2 I' (o + 8) c.2.2 (nI c'.2.2)) I0 := ((hFr.tr (FrX5.rf.u (by omega))).tr hF.pw).u7 (by omega)
      have key := fun jv v5 => hT d k' r1.2.1 (pat c' c.2.2 c'.2.2) (up2 I' (o + 8) c.2.2 (nI c'.2.2)) L (orS F G) s k0 l0 c0 I0 (N + 1) jv v5 hd (by rw [hp']; omega) hRa (by show c'.2.2 ≤ _; omega) hs (p4 hl) (by omega) (by omega) (by show c'.2.2 + _ ≤ _; omega) (hsg.lg (x := 30) hsg' (by omega)) (TFo.lg (x := 30) hTF (hTG (by omega))) hFp
      rw [hp'] at key
      refine V_istore (pc := 31) (ls' := [(0, _), (1, _), (2, _), (3, _), (4, _), (5, _)]) dX5_readTest_31 (by decide) rfl ?_
      refine V_iload (pc := 33) dX5_readTest_33 rfl ?_
      refine V_if_neB (pc := 35) (tgt := 40) dX5_readTest_35 (by decide) (fun c35 => ?_) (fun n35 => absurd n35 (by decide))
      refine V_iload_n (pc := 40) dX5_readTest_40 rfl ?_
      refine V_iconst (pc := 41) (v := (-1)) dX5_readTest_41 (by decide) ?_
      refine V_icmp_eq (pc := 42) (tgt := 55) dX5_readTest_42 (by decide) (fun c42 => absurd c42 (by exact nI_m1 (by omega))) (fun n42 => ?_)
      refine V_aload_n (pc := 45) dX5_readTest_45 rfl ?_
      refine V_getR (pc := 46) 5 11 dX5_readTest_46 flX5_49 (by decide) h5.o h5.R11 ?_
      refine V_iload_n (pc := 49) dX5_readTest_49 rfl ?_
      refine V_aload_n (pc := 50) dX5_readTest_50 rfl ?_
      refine V_getIE (pc := 51) 5 12 dX5_readTest_51 flX5_52 (by decide) h5.o (h12') ?_
      refine V_iastore (pc := 54) dX5_readTest_54 h5.A11 (by first | decide | omega) (by omega) ?_
      exact key _ _
  · rw [if_neg h0]
    refine V_aload_n (pc := 55) dX5_readTest_55 rfl ?_
    refine V_getR (pc := 56) 5 1 dX5_readTest_56 flX5_17 (by decide) h5.o h5.R1 ?_
    refine V_aload_n (pc := 59) dX5_readTest_59 rfl ?_
    refine V_getIE (pc := 60) 5 4 dX5_readTest_60 flX5_27 (by decide) h5.o (h4) ?_
    refine V_ialoadE (pc := 63) dX5_readTest_63 h5.A1 (by first | decide | omega) (by omega) (htk) ?_
    refine V_iload_n (pc := 64) dX5_readTest_64 rfl ?_
    refine V_if_neN (pc := 65) (tgt := 72) dX5_readTest_65 (by decide) (by omega) (fun c65 => absurd c65 (by omega)) (fun n65 => ?_)
    refine V_iconst (pc := 68) (v := nI 1) dX5_readTest_68 (by decide) ?_
    refine V_goto (pc := 69) (tgt := 73) dX5_readTest_69 (by decide) ?_
    refine V_icmp_eqN (pc := 73) (tgt := 78) dX5_readTest_73 (by decide) (by omega) (by omega) (fun c73 => absurd c73 (by omega)) (fun n73 => ?_)
    refine V_iconst (pc := 76) (v := nI 1) dX5_readTest_76 (by decide) ?_
    refine V_zretB (pc := 77) (p := true) dX5_readTest_77 rfl rfl (by first | decide | omega) (by first | decide | omega) ?_
    exact ⟨rfl, rfl, hF, Or.inr ⟨F, rfl, rfl, k, c, hR, rfl, hk0, hc0, hsg, fun _ => hTF⟩⟩
theorem clt_0 (h5 : Lay5 E S o) (hS : CLT E S o t n m od 1 f) (hT : TLT E S o t n m od 0 f) : CLT E S o t n m od 0 (f + 1) := by
  intro d k l c I L F s hd hf hR hc hs hl
  rw [show rkn (3 + 0) = 6 from rfl] at hf
  have h400 := hR.1.2.2.1
  have hkm := hR.2.1
  have hpn := hR.1.pn hkm
  have hC := hS d k l c I L F s hd (by rw [show rkn (3 + 1) = 5 from rfl]; omega) hR hc hs hl
  have hPL := ps_le (t := t) (od := od) f 4 d (pk t n k) l F hpn
  rw [show 3 + 1 = 4 from rfl] at hC
  rw [show 3 + 0 = 3 from rfl, ps_3]
  generalize ps t n od f 4 d (pk t n k) l F = r1 at hC hPL ⊢
  refine C_of (by decide) (Nat.le_of_ble_eq_true rfl) ?_
  refine V_iconst (pc := 0) (v := (-1)) dX5_readTest_0 (by decide) ?_
  refine V_istore_n (pc := 1) (ls' := [(0, _), (1, _), (2, _), (3, _)]) dX5_readTest_1 (by decide) rfl ?_
  refine V_iconst (pc := 2) (v := nI 0) dX5_readTest_2 (by decide) ?_
  refine V_istore (pc := 3) (ls' := [(0, _), (1, _), (2, _), (3, _), (4, _)]) dX5_readTest_3 (by decide) rfl ?_
  refine V_iload (pc := 5) dX5_readTest_5 rfl ?_
  refine V_sipush (pc := 7) (v := nI 400) dX5_readTest_7 (by decide) ?_
  refine V_icmp_gtN (pc := 10) (tgt := 114) dX5_readTest_10 (by decide) (by omega) (by omega) (fun c10 => absurd c10 (by omega)) (fun n10 => ?_)
  refine V_iload_n (pc := 13) dX5_readTest_13 rfl ?_
  refine V_if_neN (pc := 14) (tgt := 26) dX5_readTest_14 (by decide) (by omega) (fun c14 => absurd c14 (by omega)) (fun n14 => ?_)
  refine V_aload_n (pc := 17) dX5_readTest_17 rfl ?_
  refine V_iconst (pc := 18) (v := nI 1) dX5_readTest_18 (by decide) ?_
  refine V_iload_n (pc := 19) dX5_readTest_19 rfl ?_
  refine V_callV (pc := 20) (ci := 5) hC dX5_readTest_20 mlX5_125 mkX5_readTest rfl rfl h5.o ⟨by decide, rfl⟩ (rmS (by show _ ≤ 3 * (8 - d) + 6; first | omega | (show _ + 5 + 1 ≤ _; omega)) (Nat.le_of_ble_eq_true rfl)) (Nat.le_of_ble_eq_true rfl) ⟨Nat.le_of_ble_eq_true rfl, Nat.le_of_ble_eq_true rfl⟩ (fun r S' I' L' hp => ?_)
  refine V_goto (pc := 23) (tgt := 31) dX5_readTest_23 (by decide) ?_
  skip
  obtain ⟨rfl, rfl, hFr, ⟨g1, rfl, k', hk', h4', hp'⟩ | ⟨G, g1, rfl, k', c', hR', hp', hkk, hcc, hsg', hTG⟩⟩ := hp
  · rw [bd_n g1]
    refine V_istore (pc := 31) (ls' := [(0, _), (1, _), (2, _), (3, _), (4, _), (5, _)]) dX5_readTest_31 (by decide) rfl ?_
    refine V_iload (pc := 33) dX5_readTest_33 rfl ?_
    refine V_if_neB (pc := 35) (tgt := 40) dX5_readTest_35 (by decide) (fun c35 => absurd c35 (by decide)) (fun n35 => ?_)
    refine V_iconst (pc := 38) (v := nI 0) dX5_readTest_38 (by decide) ?_
    refine V_zretB (pc := 39) (p := false) dX5_readTest_39 rfl rfl (by first | decide | omega) (by first | decide | omega) ?_
    exact ⟨rfl, rfl, hFr, Or.inl ⟨g1, rfl, k', hk', h4', hp'⟩⟩
  · rw [bd_s g1]
    obtain ⟨p1, p2, p3, p4, p5⟩ := hPL
    have p6 := p5 G g1
    rw [if_pos (by decide)] at p6
    have hkm' := hR'.2.1
    have key := fun jv v5 => hT d k' r1.2.1 c' I' L G s k l c I 0 jv v5 hd (by rw [hp']; omega) hR' (by omega) hs (p4 hl) (by omega) hkk hcc hsg' (hTG (by omega)) hFr
    rw [hp'] at key
    refine V_istore (pc := 31) (ls' := [(0, _), (1, _), (2, _), (3, _), (4, _), (5, _)]) dX5_readTest_31 (by decide) rfl ?_
    refine V_iload (pc := 33) dX5_readTest_33 rfl ?_
    refine V_if_neB (pc := 35) (tgt := 40) dX5_readTest_35 (by decide) (fun c35 => ?_) (fun n35 => absurd n35 (by decide))
    refine V_iload_n (pc := 40) dX5_readTest_40 rfl ?_
    refine V_iconst (pc := 41) (v := (-1)) dX5_readTest_41 (by decide) ?_
    refine V_icmp_eq (pc := 42) (tgt := 55) dX5_readTest_42 (by decide) (fun c42 => ?_) (fun n42 => absurd n42 (by exact not_not_intro rfl))
    exact key _ _
theorem tlt_1 (h5 : Lay5 E S o) (hb : ∀ i, i < n → t i < 256) (hS : CLN0 E S o t n m od f) (hT : TLT E S o t n m od 1 f) : TLT E S o t n m od 1 (f + 1) := by
  intro d k l c I L F s k0 l0 c0 I0 N jv v5 hd hf hR hc hs hl hN hk0 hc0 hsg hTF hF
  have h400 := hR.1.2.2.1
  have hkm := hR.2.1
  have h4 := hR.2.2.1
  have h12 := hR.2.2.2.2.2.1
  have htk := hR.tk
  have hlt := tc_lt (n := n) hb (hR.1.pn hkm)
  rw [show 8 + 1 = 9 from rfl, ps_9]
  by_cases h0 : tc t n (pk t n k) = 2
  · rw [if_pos h0]
    have hk := hR.lt (by omega)
    have hpp := pkm_lt hR.1 hk
    have hpp2 := hpp
    rw [pk_s] at hpp2
    have hRp := hR.put (a := 12) (x := 29) (b := 0) rfl (by unfold opC; omega) (by omega) (fun z => by omega)
    have hR1 := hRp.go hk
    have hC := hS d (k + 1) l (pc1 c 29 0) (up2 (putW I o c.2.2 12 0) o 4 (nI (k + 1))) L F s hd (by rw [show rkn 5 = 4 from rfl]; omega) hR1 (by show c.2.2 + 1 ≤ _; omega) hs hl
    have hPL := ps_le (t := t) (od := od) f 5 d (pk t n (k + 1)) l F hpp.2
    rw [pk_s] at hC hPL
    skip
    generalize ps t n od f 5 d (nxt t n (pk t n k)) l F = r1 at hC hPL ⊢
    refine V_aload_n (pc := 55) dX5_readTest_55 rfl ?_
    refine V_getR (pc := 56) 5 1 dX5_readTest_56 flX5_17 (by decide) h5.o h5.R1 ?_
    refine V_aload_n (pc := 59) dX5_readTest_59 rfl ?_
    refine V_getIE (pc := 60) 5 4 dX5_readTest_60 flX5_27 (by decide) h5.o (h4) ?_
    refine V_ialoadE (pc := 63) dX5_readTest_63 h5.A1 (by first | decide | omega) (by omega) (htk) ?_
    refine V_iload_n (pc := 64) dX5_readTest_64 rfl ?_
    refine V_if_neN (pc := 65) (tgt := 72) dX5_readTest_65 (by decide) (by omega) (fun c65 => ?_) (fun n65 => absurd n65 (by omega))
    refine V_iconst (pc := 72) (v := nI 2) dX5_readTest_72 (by decide) ?_
    refine V_icmp_eqN (pc := 73) (tgt := 78) dX5_readTest_73 (by decide) (by omega) (by omega) (fun c73 => ?_) (fun n73 => absurd n73 (by omega))
    refine V_aload_n (pc := 78) dX5_readTest_78 rfl ?_
    refine V_getIE (pc := 79) 5 12 dX5_readTest_79 flX5_52 (by decide) h5.o (h12) ?_
    refine V_istore_n (pc := 82) (ls' := [(0, _), (1, _), (2, _), (3, _), (4, _), (5, _)]) dX5_readTest_82 (by decide) rfl ?_
    refine V_aload_n (pc := 83) dX5_readTest_83 rfl ?_
    refine V_iload_n (pc := 84) dX5_readTest_84 rfl ?_
    refine V_if_neN (pc := 85) (tgt := 93) dX5_readTest_85 (by decide) (by omega) (fun c85 => ?_) (fun n85 => absurd n85 (by omega))
    refine V_bipush (pc := 93) (v := nI 12) dX5_readTest_93 (by decide) ?_
    refine V_iconst (pc := 95) (v := nI 0) dX5_readTest_95 (by decide) ?_
    refine V_callVd (pc := 96) (ci := 5) (c_X5_put (a := 12) h5 hR (by omega)) dX5_readTest_96 mlX5_131 mkX5_put rfl rfl h5.o ⟨by decide, rfl⟩ (rmS (by show _ ≤ 3 * (8 - d) + 5; first | omega | (show _ + 4 + 1 ≤ _; omega)) (Nat.le_of_ble_eq_true rfl)) (Nat.le_of_ble_eq_true rfl) ⟨Nat.le_of_ble_eq_true rfl, Nat.le_of_ble_eq_true rfl⟩ ?_
    refine V_if_neB (pc := 99) (tgt := 104) dX5_readTest_99 (by decide) (fun c99 => ?_) (fun n99 => absurd n99 (by decide))
    refine V_aload_n (pc := 104) dX5_readTest_104 rfl ?_
    refine V_callVn (pc := 105) (ci := 5) (c_X5_goOn h5 hRp hk) dX5_readTest_105 mlX5_78 mkX5_goOn rfl rfl h5.o ⟨by decide, rfl⟩ (rmS (by show _ ≤ 3 * (8 - d) + 5; first | omega | (show _ + 4 + 1 ≤ _; omega)) (Nat.le_of_ble_eq_true rfl)) (Nat.le_of_ble_eq_true rfl) ⟨Nat.le_of_ble_eq_true rfl, Nat.le_of_ble_eq_true rfl⟩ ?_
    refine V_iinc1 (pc := 108) (ls' := [(0, _), (1, _), (2, _), (3, _), (4, _), (5, _)]) dX5_readTest_108 rfl (by decide) rfl ?_
    refine V_goto (pc := 111) (tgt := 5) dX5_readTest_111 (by decide) ?_
    refine V_iload (pc := 5) dX5_readTest_5 rfl ?_
    refine V_sipush (pc := 7) (v := nI 400) dX5_readTest_7 (by decide) ?_
    refine V_icmp_gtN (pc := 10) (tgt := 114) dX5_readTest_10 (by decide) (by omega) (by omega) (fun c10 => absurd c10 (by omega)) (fun n10 => ?_)
    refine V_iload_n (pc := 13) dX5_readTest_13 rfl ?_
    refine V_if_neN (pc := 14) (tgt := 26) dX5_readTest_14 (by decide) (by omega) (fun c14 => ?_) (fun n14 => absurd n14 (by omega))
    refine V_aload_n (pc := 26) dX5_readTest_26 rfl ?_
    refine V_iload_n (pc := 27) dX5_readTest_27 rfl ?_
    refine V_callV (pc := 28) (ci := 5) hC dX5_readTest_28 mlX5_144 mkX5_readPlain rfl rfl h5.o ⟨by decide, rfl⟩ (rmS (by show _ ≤ 3 * (8 - d) + 5; first | omega | (show _ + 4 + 1 ≤ _; omega)) (Nat.le_of_ble_eq_true rfl)) (Nat.le_of_ble_eq_true rfl) ⟨Nat.le_of_ble_eq_true rfl, Nat.le_of_ble_eq_true rfl⟩ (fun r S' I' L' hp => ?_)
    skip
    obtain ⟨rfl, rfl, hFr, ⟨g1, rfl, k', hk', h4', hp'⟩ | ⟨G, g1, rfl, k', c', hR', hp', hkk, hcc, hsg', hTG⟩⟩ := hp
    · rw [bd_n g1]
      refine V_istore (pc := 31) (ls' := [(0, _), (1, _), (2, _), (3, _), (4, _), (5, _)]) dX5_readTest_31 (by decide) rfl ?_
      refine V_iload (pc := 33) dX5_readTest_33 rfl ?_
      refine V_if_neB (pc := 35) (tgt := 40) dX5_readTest_35 (by decide) (fun c35 => absurd c35 (by decide)) (fun n35 => ?_)
      refine V_iconst (pc := 38) (v := nI 0) dX5_readTest_38 (by decide) ?_
      refine V_zretB (pc := 39) (p := false) dX5_readTest_39 rfl rfl (by first | decide | omega) (by first | decide | omega) ?_
      exact ⟨rfl, rfl, (hFr.tr (FrX5.rf.u (by omega))).tr hF.pw, Or.inl ⟨g1, rfl, k', hk', h4', hp'⟩⟩
    · rw [bd_s g1]
      obtain ⟨p1, p2, p3, p4, p5⟩ := hPL
      have p6 := p5 G g1
      rw [if_pos (by decide)] at p6
      have hkm' := hR'.2.1
      have h12' := hR'.2.2.2.2.2.1
      have hcc' : c'.2.2 + (k + 1) ≤ c.2.2 + 1 + k' := hcc
      have hsl : c.2.2 + 1 < c'.2.2 := hsg'.2.2.choose_spec.2.1
      have e0 : c'.1 c.2.2 = 29 := (hsg'.1 c.2.2 (by show c.2.2 < c.2.2 + 1; omega)).1.trans (if_pos rfl)
      have hRa := hR'.pa (j := c.2.2) (v := c'.2.2) (by omega) (by omega)
      have hFp : FrX5 o (up2 I' (o + 8) c.2.2 (nI c'.2.2)) I0 := ((hFr.tr (FrX5.rf.u (by omega))).tr hF.pw).u7 (by omega)
      have key := fun jv v5 => hT d k' r1.2.1 (pat c' c.2.2 c'.2.2) (up2 I' (o + 8) c.2.2 (nI c'.2.2)) L (andS F G) s k0 l0 c0 I0 (N + 1) jv v5 hd (by rw [hp']; omega) hRa (by show c'.2.2 ≤ _; omega) hs (p4 hl) (by omega) (by omega) (by show c'.2.2 + _ ≤ _; omega) (hsg.lg (x := 29) hsg' (by omega)) (TFo.lg (x := 29) hTF (hTG (by omega))) hFp
      rw [hp'] at key
      refine V_istore (pc := 31) (ls' := [(0, _), (1, _), (2, _), (3, _), (4, _), (5, _)]) dX5_readTest_31 (by decide) rfl ?_
      refine V_iload (pc := 33) dX5_readTest_33 rfl ?_
      refine V_if_neB (pc := 35) (tgt := 40) dX5_readTest_35 (by decide) (fun c35 => ?_) (fun n35 => absurd n35 (by decide))
      refine V_iload_n (pc := 40) dX5_readTest_40 rfl ?_
      refine V_iconst (pc := 41) (v := (-1)) dX5_readTest_41 (by decide) ?_
      refine V_icmp_eq (pc := 42) (tgt := 55) dX5_readTest_42 (by decide) (fun c42 => absurd c42 (by exact nI_m1 (by omega))) (fun n42 => ?_)
      refine V_aload_n (pc := 45) dX5_readTest_45 rfl ?_
      refine V_getR (pc := 46) 5 11 dX5_readTest_46 flX5_49 (by decide) h5.o h5.R11 ?_
      refine V_iload_n (pc := 49) dX5_readTest_49 rfl ?_
      refine V_aload_n (pc := 50) dX5_readTest_50 rfl ?_
      refine V_getIE (pc := 51) 5 12 dX5_readTest_51 flX5_52 (by decide) h5.o (h12') ?_
      refine V_iastore (pc := 54) dX5_readTest_54 h5.A11 (by first | decide | omega) (by omega) ?_
      exact key _ _
  · rw [if_neg h0]
    refine V_aload_n (pc := 55) dX5_readTest_55 rfl ?_
    refine V_getR (pc := 56) 5 1 dX5_readTest_56 flX5_17 (by decide) h5.o h5.R1 ?_
    refine V_aload_n (pc := 59) dX5_readTest_59 rfl ?_
    refine V_getIE (pc := 60) 5 4 dX5_readTest_60 flX5_27 (by decide) h5.o (h4) ?_
    refine V_ialoadE (pc := 63) dX5_readTest_63 h5.A1 (by first | decide | omega) (by omega) (htk) ?_
    refine V_iload_n (pc := 64) dX5_readTest_64 rfl ?_
    refine V_if_neN (pc := 65) (tgt := 72) dX5_readTest_65 (by decide) (by omega) (fun c65 => ?_) (fun n65 => absurd n65 (by omega))
    refine V_iconst (pc := 72) (v := nI 2) dX5_readTest_72 (by decide) ?_
    refine V_icmp_eqN (pc := 73) (tgt := 78) dX5_readTest_73 (by decide) (by omega) (by omega) (fun c73 => absurd c73 (by omega)) (fun n73 => ?_)
    refine V_iconst (pc := 76) (v := nI 1) dX5_readTest_76 (by decide) ?_
    refine V_zretB (pc := 77) (p := true) dX5_readTest_77 rfl rfl (by first | decide | omega) (by first | decide | omega) ?_
    exact ⟨rfl, rfl, hF, Or.inr ⟨F, rfl, rfl, k, c, hR, rfl, hk0, hc0, hsg, fun _ => hTF⟩⟩
theorem clt_1 (h5 : Lay5 E S o) (hS : CLN0 E S o t n m od f) (hT : TLT E S o t n m od 1 f) : CLT E S o t n m od 1 (f + 1) := by
  intro d k l c I L F s hd hf hR hc hs hl
  rw [show rkn (3 + 1) = 5 from rfl] at hf
  have h400 := hR.1.2.2.1
  have hkm := hR.2.1
  have hpn := hR.1.pn hkm
  have hC := hS d k l c I L F s hd (by rw [show rkn 5 = 4 from rfl]; omega) hR hc hs hl
  have hPL := ps_le (t := t) (od := od) f 5 d (pk t n k) l F hpn
  skip
  rw [show 3 + 1 = 4 from rfl, ps_4]
  generalize ps t n od f 5 d (pk t n k) l F = r1 at hC hPL ⊢
  refine C_of (by decide) (Nat.le_of_ble_eq_true rfl) ?_
  refine V_iconst (pc := 0) (v := (-1)) dX5_readTest_0 (by decide) ?_
  refine V_istore_n (pc := 1) (ls' := [(0, _), (1, _), (2, _), (3, _)]) dX5_readTest_1 (by decide) rfl ?_
  refine V_iconst (pc := 2) (v := nI 0) dX5_readTest_2 (by decide) ?_
  refine V_istore (pc := 3) (ls' := [(0, _), (1, _), (2, _), (3, _), (4, _)]) dX5_readTest_3 (by decide) rfl ?_
  refine V_iload (pc := 5) dX5_readTest_5 rfl ?_
  refine V_sipush (pc := 7) (v := nI 400) dX5_readTest_7 (by decide) ?_
  refine V_icmp_gtN (pc := 10) (tgt := 114) dX5_readTest_10 (by decide) (by omega) (by omega) (fun c10 => absurd c10 (by omega)) (fun n10 => ?_)
  refine V_iload_n (pc := 13) dX5_readTest_13 rfl ?_
  refine V_if_neN (pc := 14) (tgt := 26) dX5_readTest_14 (by decide) (by omega) (fun c14 => ?_) (fun n14 => absurd n14 (by omega))
  refine V_aload_n (pc := 26) dX5_readTest_26 rfl ?_
  refine V_iload_n (pc := 27) dX5_readTest_27 rfl ?_
  refine V_callV (pc := 28) (ci := 5) hC dX5_readTest_28 mlX5_144 mkX5_readPlain rfl rfl h5.o ⟨by decide, rfl⟩ (rmS (by show _ ≤ 3 * (8 - d) + 5; first | omega | (show _ + 4 + 1 ≤ _; omega)) (Nat.le_of_ble_eq_true rfl)) (Nat.le_of_ble_eq_true rfl) ⟨Nat.le_of_ble_eq_true rfl, Nat.le_of_ble_eq_true rfl⟩ (fun r S' I' L' hp => ?_)
  skip
  obtain ⟨rfl, rfl, hFr, ⟨g1, rfl, k', hk', h4', hp'⟩ | ⟨G, g1, rfl, k', c', hR', hp', hkk, hcc, hsg', hTG⟩⟩ := hp
  · rw [bd_n g1]
    refine V_istore (pc := 31) (ls' := [(0, _), (1, _), (2, _), (3, _), (4, _), (5, _)]) dX5_readTest_31 (by decide) rfl ?_
    refine V_iload (pc := 33) dX5_readTest_33 rfl ?_
    refine V_if_neB (pc := 35) (tgt := 40) dX5_readTest_35 (by decide) (fun c35 => absurd c35 (by decide)) (fun n35 => ?_)
    refine V_iconst (pc := 38) (v := nI 0) dX5_readTest_38 (by decide) ?_
    refine V_zretB (pc := 39) (p := false) dX5_readTest_39 rfl rfl (by first | decide | omega) (by first | decide | omega) ?_
    exact ⟨rfl, rfl, hFr, Or.inl ⟨g1, rfl, k', hk', h4', hp'⟩⟩
  · rw [bd_s g1]
    obtain ⟨p1, p2, p3, p4, p5⟩ := hPL
    have p6 := p5 G g1
    rw [if_pos (by decide)] at p6
    have hkm' := hR'.2.1
    have key := fun jv v5 => hT d k' r1.2.1 c' I' L G s k l c I 0 jv v5 hd (by rw [hp']; omega) hR' (by omega) hs (p4 hl) (by omega) hkk hcc hsg' (hTG (by omega)) hFr
    rw [hp'] at key
    refine V_istore (pc := 31) (ls' := [(0, _), (1, _), (2, _), (3, _), (4, _), (5, _)]) dX5_readTest_31 (by decide) rfl ?_
    refine V_iload (pc := 33) dX5_readTest_33 rfl ?_
    refine V_if_neB (pc := 35) (tgt := 40) dX5_readTest_35 (by decide) (fun c35 => ?_) (fun n35 => absurd n35 (by decide))
    refine V_iload_n (pc := 40) dX5_readTest_40 rfl ?_
    refine V_iconst (pc := 41) (v := (-1)) dX5_readTest_41 (by decide) ?_
    refine V_icmp_eq (pc := 42) (tgt := 55) dX5_readTest_42 (by decide) (fun c42 => ?_) (fun n42 => absurd n42 (by exact not_not_intro rfl))
    exact key _ _
theorem clt_all (h5 : Lay5 E S o) (hb : ∀ i, i < n → t i < 256) : ∀ f, CLT E S o t n m od 0 f ∧ CLT E S o t n m od 1 f ∧ CLN E S o t n m od f ∧ TLT E S o t n m od 0 f ∧ TLT E S o t n m od 1 f := by
  intro f
  induction f with
  | zero =>
    refine ⟨?_, ?_, ?_, ?_, ?_⟩
    · intro d k l c I L F s hd hf; exact absurd hf (by rw [show rkn (3 + 0) = 6 from rfl]; omega)
    · intro d k l c I L F s hd hf; exact absurd hf (by rw [show rkn (3 + 1) = 5 from rfl]; omega)
    · intro d k l c I L F s k0 I0 dn N hd hf; exact absurd hf (by rw [show rkn 5 = 4 from rfl]; omega)
    · intro d k l c I L F s k0 l0 c0 I0 N jv v5 hd hf; exact absurd hf (by omega)
    · intro d k l c I L F s k0 l0 c0 I0 N jv v5 hd hf; exact absurd hf (by omega)
  | succ f ih =>
    obtain ⟨h1, h2, h3, h4, h6⟩ := ih
    exact ⟨clt_0 h5 h2 h4, clt_1 h5 (cln0 h3) h6, cln_s h5 hb (cls_all h5 hb f).1 h1 h3, tlt_0 h5 hb h2 h4, tlt_1 h5 hb (cln0 h3) h6⟩
end RW
