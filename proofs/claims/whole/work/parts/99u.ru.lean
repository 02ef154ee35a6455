/-! THE READER: sums -/
section RU
variable {E : EnT} {S : ST} {I : IT} {L : LT} {o n m k l d f s : Nat} {t : Nat → Nat} {od : Bool} {c : CT} {F : SF}
theorem SgR.bin {s0 l0 l l' x : Nat} {c0 c c' : CT} {F G : SF} (h : SgR s0 c0 c l0 l F) (g : SgR c.2.2 c c' l l' G) (hx : 20 ≤ x) (hx2 : x < 28) : SgR s0 c0 (pc1 c' x 0) l0 l' (binS x F G) := by
  obtain ⟨h1, h2, a, ha, hF⟩ := h
  obtain ⟨g1, g2, b, hb, hG⟩ := g
  have hs := hF.1
  have hs2 := hG.1
  have e0 : (pc1 c' x 0).1 c'.2.2 = x := if_pos rfl
  have e1 : ∀ j, j < c'.2.2 → (pc1 c' x 0).1 j = c'.1 j ∧ (pc1 c' x 0).2.1 j = c'.2.1 j := fun j hj => ⟨if_neg (by omega), if_neg (by omega)⟩
  refine ⟨fun j hj => ?_, fun j j1 j2 => ?_, a + b, by omega, ?_⟩
  · have q1 := e1 j (by omega); have q2 := g1 j (by omega); have q3 := h1 j hj
    exact ⟨q1.1.trans (q2.1.trans q3.1), q1.2.trans (q2.2.trans q3.2)⟩
  · have j3 : j < c'.2.2 + 1 := j2
    show _ ∧ (_ → _ ∧ _ ≤ c'.2.2 + 1)
    by_cases q : j = c'.2.2
    · rw [q, e0]; exact ⟨by omega, fun z => by omega⟩
    · have q1 := e1 j (by omega)
      rw [q1.1, q1.2]
      by_cases q4 : c.2.2 ≤ j
      · have q5 := g2 j q4 (by omega)
        exact ⟨q5.1, fun z => by have := q5.2 z; omega⟩
      · have q2 := g1 j (by omega)
        rw [q2.1, q2.2]
        have q5 := h2 j j1 (by omega)
        exact ⟨q5.1, fun z => by have := q5.2 z; omega⟩
  · refine Rn.bin (m1 := c.2.2) (m2 := c'.2.2) (hF.cg fun j j1 j2 => ?_) (hG.cg fun j j1 j2 => e1 j j2) e0 hx hx2
    have q1 := e1 j (by omega); have q2 := g1 j (by omega)
    exact ⟨q1.1.trans q2.1, q1.2.trans q2.2⟩
theorem jn_r {lv x : Nat} (h : ¬ jn lv x = 0) : 20 ≤ jn lv x ∧ jn lv x < 28 := by
  unfold jn at h ⊢
  split
  · rename_i h0; rw [if_pos h0] at h; split; omega; rename_i h1; rw [if_neg h1] at h; split; omega; rename_i h2; rw [if_neg h2] at h; omega
  · rename_i h0; rw [if_neg h0] at h; split; omega; rename_i h1; rw [if_neg h1] at h; split; omega; rename_i h2; rw [if_neg h2] at h; split; omega; rename_i h3; rw [if_neg h3] at h; omega
def TLS (E : EnT) (S : ST) (o : Nat) (t : Nat → Nat) (n m : Nat) (od : Bool) (lv f : Nat) : Prop := ∀ (d k l : Nat) (c : CT) (I : IT) (L : LT) (F : SF) (s k0 l0 : Nat) (c0 : CT) (I0 : IT) (N : Nat) (jv v5 : Int32), d ≤ 8 → 1 + 8 * (n - pk t n k) ≤ f → RS I o t n m od k l c → c.2.2 ≤ k + s → s ≤ 47 → l ≤ 50 → N < k → k0 < k → c.2.2 + k0 ≤ c0.2.2 + k → SgR c0.2.2 c0 c l0 l F → FrX5 o I I0 → V E kX5_readSum (rmOf (3 * (8 - d) + rkn lv) 0 0) (QM E (PO o t n m od S L I0 k0 l0 c0 lv (ps t n od f (6 + lv) d (pk t n k) l F)) 0 0) 0 0 S I L 53 [(0, .ref o), (1, .int (nI lv)), (2, .int (nI d)), (3, .int jv), (4, .int (nI N)), (5, .int v5)] []
theorem tls_0 (h5 : Lay5 E S o) (hb : ∀ i, i < n → t i < 256) (hS : CLS E S o t n m od 1 f) (hT : TLS E S o t n m od 0 f) : TLS E S o t n m od 0 (f + 1) := by
  intro d k l c I L F s k0 l0 c0 I0 N jv v5 hd hf hR hc hs hl hN hk0 hc0 hsg hF
  have h400 := hR.1.2.2.1
  have hkm := hR.2.1
  rw [ps_6]
  by_cases h0 : jn 0 (tc t n (pk t n k)) = 0
  · rw [if_pos h0]
    have hjh := c_X5_joinHere (E := E) (S := S) (L := L) (lv := 0) h5 hR hb (by omega)
    rw [h0] at hjh
    refine V_aload_n (pc := 53) dX5_readSum_53 rfl ?_
    refine V_iload_n (pc := 54) dX5_readSum_54 rfl ?_
    refine V_callVd (pc := 55) (ci := 5) hjh dX5_readSum_55 mlX5_153 mkX5_joinHere rfl rfl h5.o ⟨by decide, rfl⟩ (rmS (by show _ ≤ 3 * (8 - d) + 3; omega) (Nat.le_of_ble_eq_true rfl)) (Nat.le_of_ble_eq_true rfl) ⟨Nat.le_of_ble_eq_true rfl, Nat.le_of_ble_eq_true rfl⟩ ?_
    refine V_istore_n (pc := 58) (ls' := [(0, _), (1, _), (2, _), (3, _), (4, _), (5, _)]) dX5_readSum_58 (by decide) rfl ?_
    refine V_iload_n (pc := 59) dX5_readSum_59 rfl ?_
    refine V_if_neN (pc := 60) (tgt := 65) dX5_readSum_60 (by decide) (by omega) (fun c60 => absurd c60 (by omega)) (fun n60 => ?_)
    refine V_iconst (pc := 63) (v := nI 1) dX5_readSum_63 (by decide) ?_
    refine V_zretB (pc := 64) (p := true) dX5_readSum_64 rfl rfl (by first | decide | omega) (by first | decide | omega) ?_
    exact ⟨rfl, rfl, hF, Or.inr ⟨F, rfl, rfl, k, c, hR, rfl, hk0, hc0, hsg, fun h => absurd h (by omega)⟩⟩
  · rw [if_neg h0]
    have hjr := jn_r h0
    have hk := hR.lt (jn_n92 h0)
    have hpp := pkm_lt hR.1 hk
    have hpp2 := hpp
    rw [pk_s] at hpp2
    have hjh := c_X5_joinHere (E := E) (S := S) (L := L) (lv := 0) h5 hR hb (by omega)
    have hC := hS d (k + 1) l c (up2 I o 4 (nI (k + 1))) L F s hd (by rw [show rkn 1 = 2 from rfl]; omega) (hR.go hk) (by omega) hs hl
    have hPL := ps_le (t := t) (od := od) f 1 d (pk t n (k + 1)) l F hpp.2
    rw [pk_s] at hC hPL
    generalize jn 0 (tc t n (pk t n k)) = x at hjh hjr h0 ⊢
    generalize ps t n od f 1 d (nxt t n (pk t n k)) l F = r1 at hC hPL ⊢
    refine V_aload_n (pc := 53) dX5_readSum_53 rfl ?_
    refine V_iload_n (pc := 54) dX5_readSum_54 rfl ?_
    refine V_callVd (pc := 55) (ci := 5) hjh dX5_readSum_55 mlX5_153 mkX5_joinHere rfl rfl h5.o ⟨by decide, rfl⟩ (rmS (by show _ ≤ 3 * (8 - d) + 3; first | omega | (show _ + 2 + 1 ≤ _; omega)) (Nat.le_of_ble_eq_true rfl)) (Nat.le_of_ble_eq_true rfl) ⟨Nat.le_of_ble_eq_true rfl, Nat.le_of_ble_eq_true rfl⟩ ?_
    refine V_istore_n (pc := 58) (ls' := [(0, _), (1, _), (2, _), (3, _), (4, _), (5, _)]) dX5_readSum_58 (by decide) rfl ?_
    refine V_iload_n (pc := 59) dX5_readSum_59 rfl ?_
    refine V_if_neN (pc := 60) (tgt := 65) dX5_readSum_60 (by decide) (by omega) (fun c60 => ?_) (fun n60 => absurd n60 (by omega))
    refine V_aload_n (pc := 65) dX5_readSum_65 rfl ?_
    refine V_callVn (pc := 66) (ci := 5) (c_X5_goOn h5 hR hk) dX5_readSum_66 mlX5_78 mkX5_goOn rfl rfl h5.o ⟨by decide, rfl⟩ (rmS (by show _ ≤ 3 * (8 - d) + 3; first | omega | (show _ + 2 + 1 ≤ _; omega)) (Nat.le_of_ble_eq_true rfl)) (Nat.le_of_ble_eq_true rfl) ⟨Nat.le_of_ble_eq_true rfl, Nat.le_of_ble_eq_true rfl⟩ ?_
    refine V_iinc1 (pc := 69) (ls' := [(0, _), (1, _), (2, _), (3, _), (4, _), (5, _)]) dX5_readSum_69 rfl (by decide) rfl ?_
    refine V_goto (pc := 72) (tgt := 5) dX5_readSum_72 (by decide) ?_
    refine V_iload (pc := 5) dX5_readSum_5 rfl ?_
    refine V_sipush (pc := 7) (v := nI 400) dX5_readSum_7 (by decide) ?_
    refine V_icmp_gtN (pc := 10) (tgt := 75) dX5_readSum_10 (by decide) (by omega) (by omega) (fun c10 => absurd c10 (by omega)) (fun n10 => ?_)
    refine V_iload_n (pc := 13) dX5_readSum_13 rfl ?_
    refine V_if_neN (pc := 14) (tgt := 26) dX5_readSum_14 (by decide) (by omega) (fun c14 => absurd c14 (by omega)) (fun n14 => ?_)
    refine V_aload_n (pc := 17) dX5_readSum_17 rfl ?_
    refine V_iconst (pc := 18) (v := nI 1) dX5_readSum_18 (by decide) ?_
    refine V_iload_n (pc := 19) dX5_readSum_19 rfl ?_
    refine V_callV (pc := 20) (ci := 5) hC dX5_readSum_20 mlX5_141 mkX5_readSum rfl rfl h5.o ⟨by decide, rfl⟩ (rmS (by show _ ≤ 3 * (8 - d) + 3; first | omega | (show _ + 2 + 1 ≤ _; omega)) (Nat.le_of_ble_eq_true rfl)) (Nat.le_of_ble_eq_true rfl) ⟨Nat.le_of_ble_eq_true rfl, Nat.le_of_ble_eq_true rfl⟩ (fun r S' I' L' hp => ?_)
    refine V_goto (pc := 23) (tgt := 31) dX5_readSum_23 (by decide) ?_
    skip
    obtain ⟨rfl, rfl, hFr, ⟨g1, rfl, k', hk', h4', hp'⟩ | ⟨G, g1, rfl, k', c', hR', hp', hkk, hcc, hsg', -⟩⟩ := hp
    · rw [bd_n g1]
      refine V_istore (pc := 31) (ls' := [(0, _), (1, _), (2, _), (3, _), (4, _), (5, _)]) dX5_readSum_31 (by decide) rfl ?_
      refine V_iload (pc := 33) dX5_readSum_33 rfl ?_
      refine V_if_eqB (pc := 35) (tgt := 51) dX5_readSum_35 (by decide) (fun c35 => ?_) (fun n35 => absurd n35 (by decide))
      refine V_iconst (pc := 51) (v := nI 0) dX5_readSum_51 (by decide) ?_
      refine V_zretB (pc := 52) (p := false) dX5_readSum_52 rfl rfl (by first | decide | omega) (by first | decide | omega) ?_
      exact ⟨rfl, rfl, (hFr.tr (FrX5.rf.u (by omega))).tr hF, Or.inl ⟨g1, rfl, k', hk', h4', hp'⟩⟩
    · rw [bd_s g1]
      obtain ⟨p1, p2, p3, p4, p5⟩ := hPL
      have p6 := p5 G g1
      rw [if_pos (by decide)] at p6
      have hkm' := hR'.2.1
      have hRp := hR'.put (a := x - 17) (x := x) (b := 0) (by unfold itC; rw [if_neg (by omega), if_neg (by omega), if_pos (by omega)]) (by unfold opC; omega) (by omega) (fun z => by omega)
      have hFp : FrX5 o (putW I' o c'.2.2 (x - 17) 0) I0 := FrX5.pw ((hFr.tr (FrX5.rf.u (by omega))).tr hF)
      have key := fun jv v5 => hT d k' r1.2.1 (pc1 c' x 0) (putW I' o c'.2.2 (x - 17) 0) L (binS x F G) s k0 l0 c0 I0 (N + 1) jv v5 hd (by rw [hp']; omega) hRp (by show c'.2.2 + 1 ≤ _; omega) hs (p4 hl) (by omega) (by omega) (by show c'.2.2 + 1 + _ ≤ _; omega) (hsg.bin hsg' hjr.1 hjr.2) hFp
      rw [hp'] at key
      refine V_istore (pc := 31) (ls' := [(0, _), (1, _), (2, _), (3, _), (4, _), (5, _)]) dX5_readSum_31 (by decide) rfl ?_
      refine V_iload (pc := 33) dX5_readSum_33 rfl ?_
      refine V_if_eqB (pc := 35) (tgt := 51) dX5_readSum_35 (by decide) (fun c35 => absurd c35 (by decide)) (fun n35 => ?_)
      refine V_iload_n (pc := 38) dX5_readSum_38 rfl ?_
      refine V_if_eqN (pc := 39) (tgt := 53) dX5_readSum_39 (by decide) (by omega) (fun c39 => absurd c39 (by omega)) (fun n39 => ?_)
      refine V_aload_n (pc := 42) dX5_readSum_42 rfl ?_
      refine V_iload_n (pc := 43) dX5_readSum_43 rfl ?_
      refine V_iconst (pc := 44) (v := nI 0) dX5_readSum_44 (by decide) ?_
      refine V_callVd (pc := 45) (ci := 5) (c_X5_put (a := x - 17) h5 hR' (by omega)) dX5_readSum_45 mlX5_131 mkX5_put rfl rfl h5.o ⟨by decide, rfl⟩ (rmS (by show _ ≤ 3 * (8 - d) + 3; omega) (Nat.le_of_ble_eq_true rfl)) (Nat.le_of_ble_eq_true rfl) ⟨Nat.le_of_ble_eq_true rfl, Nat.le_of_ble_eq_true rfl⟩ ?_
      refine V_if_neB (pc := 48) (tgt := 53) dX5_readSum_48 (by decide) (fun c48 => ?_) (fun n48 => absurd n48 (by decide))
      exact key _ _
theorem cls_0 (h5 : Lay5 E S o) (hS : CLS E S o t n m od 1 f) (hT : TLS E S o t n m od 0 f) : CLS E S o t n m od 0 (f + 1) := by
  intro d k l c I L F s hd hf hR hc hs hl
  rw [show rkn 0 = 3 from rfl] at hf
  have h400 := hR.1.2.2.1
  have hkm := hR.2.1
  have hpn := hR.1.pn hkm
  have hC := hS d k l c I L F s hd (by rw [show rkn 1 = 2 from rfl]; omega) hR hc hs hl
  have hPL := ps_le (t := t) (od := od) f 1 d (pk t n k) l F hpn
  rw [ps_0]
  generalize ps t n od f 1 d (pk t n k) l F = r1 at hC hPL ⊢
  refine C_of (by decide) (Nat.le_of_ble_eq_true rfl) ?_
  refine V_iconst (pc := 0) (v := nI 0) dX5_readSum_0 (by decide) ?_
  refine V_istore_n (pc := 1) (ls' := [(0, _), (1, _), (2, _), (3, _)]) dX5_readSum_1 (by decide) rfl ?_
  refine V_iconst (pc := 2) (v := nI 0) dX5_readSum_2 (by decide) ?_
  refine V_istore (pc := 3) (ls' := [(0, _), (1, _), (2, _), (3, _), (4, _)]) dX5_readSum_3 (by decide) rfl ?_
  refine V_iload (pc := 5) dX5_readSum_5 rfl ?_
  refine V_sipush (pc := 7) (v := nI 400) dX5_readSum_7 (by decide) ?_
  refine V_icmp_gtN (pc := 10) (tgt := 75) dX5_readSum_10 (by decide) (by omega) (by omega) (fun c10 => absurd c10 (by omega)) (fun n10 => ?_)
  refine V_iload_n (pc := 13) dX5_readSum_13 rfl ?_
  refine V_if_neN (pc := 14) (tgt := 26) dX5_readSum_14 (by decide) (by omega) (fun c14 => absurd c14 (by omega)) (fun n14 => ?_)
  refine V_aload_n (pc := 17) dX5_readSum_17 rfl ?_
  refine V_iconst (pc := 18) (v := nI 1) dX5_readSum_18 (by decide) ?_
  refine V_iload_n (pc := 19) dX5_readSum_19 rfl ?_
  refine V_callV (pc := 20) (ci := 5) hC dX5_readSum_20 mlX5_141 mkX5_readSum rfl rfl h5.o ⟨by decide, rfl⟩ (rmS (by show _ ≤ 3 * (8 - d) + 3; first | omega | (show _ + 2 + 1 ≤ _; omega)) (Nat.le_of_ble_eq_true rfl)) (Nat.le_of_ble_eq_true rfl) ⟨Nat.le_of_ble_eq_true rfl, Nat.le_of_ble_eq_true rfl⟩ (fun r S' I' L' hp => ?_)
  refine V_goto (pc := 23) (tgt := 31) dX5_readSum_23 (by decide) ?_
  skip
  obtain ⟨rfl, rfl, hFr, ⟨g1, rfl, k', hk', h4', hp'⟩ | ⟨G, g1, rfl, k', c', hR', hp', hkk, hcc, hsg', -⟩⟩ := hp
  · rw [bd_n g1]
    refine V_istore (pc := 31) (ls' := [(0, _), (1, _), (2, _), (3, _), (4, _), (5, _)]) dX5_readSum_31 (by decide) rfl ?_
    refine V_iload (pc := 33) dX5_readSum_33 rfl ?_
    refine V_if_eqB (pc := 35) (tgt := 51) dX5_readSum_35 (by decide) (fun c35 => ?_) (fun n35 => absurd n35 (by decide))
    refine V_iconst (pc := 51) (v := nI 0) dX5_readSum_51 (by decide) ?_
    refine V_zretB (pc := 52) (p := false) dX5_readSum_52 rfl rfl (by first | decide | omega) (by first | decide | omega) ?_
    exact ⟨rfl, rfl, hFr, Or.inl ⟨g1, rfl, k', hk', h4', hp'⟩⟩
  · rw [bd_s g1]
    obtain ⟨p1, p2, p3, p4, p5⟩ := hPL
    have p6 := p5 G g1
    rw [if_pos (by decide)] at p6
    have hkm' := hR'.2.1
    have key := fun jv v5 => hT d k' r1.2.1 c' I' L G s k l c I 0 jv v5 hd (by rw [hp']; omega) hR' (by omega) hs (p4 hl) (by omega) hkk hcc hsg' hFr
    rw [hp'] at key
    refine V_istore (pc := 31) (ls' := [(0, _), (1, _), (2, _), (3, _), (4, _), (5, _)]) dX5_readSum_31 (by decide) rfl ?_
    refine V_iload (pc := 33) dX5_readSum_33 rfl ?_
    refine V_if_eqB (pc := 35) (tgt := 51) dX5_readSum_35 (by decide) (fun c35 => absurd c35 (by decide)) (fun n35 => ?_)
    refine V_iload_n (pc := 38) dX5_readSum_38 rfl ?_
    refine V_if_eqN (pc := 39) (tgt := 53) dX5_readSum_39 (by decide) (by omega) (fun c39 => ?_) (fun n39 => absurd n39 (by omega))
    exact key _ _
theorem tls_1 (h5 : Lay5 E S o) (hb : ∀ i, i < n → t i < 256) (hS : CLP E S o t n m od f) (hT : TLS E S o t n m od 1 f) : TLS E S o t n m od 1 (f + 1) := by
  intro d k l c I L F s k0 l0 c0 I0 N jv v5 hd hf hR hc hs hl hN hk0 hc0 hsg hF
  have h400 := hR.1.2.2.1
  have hkm := hR.2.1
  rw [ps_7]
  by_cases h0 : jn 1 (tc t n (pk t n k)) = 0
  · rw [if_pos h0]
    have hjh := c_X5_joinHere (E := E) (S := S) (L := L) (lv := 1) h5 hR hb (by omega)
    rw [h0] at hjh
    refine V_aload_n (pc := 53) dX5_readSum_53 rfl ?_
    refine V_iload_n (pc := 54) dX5_readSum_54 rfl ?_
    refine V_callVd (pc := 55) (ci := 5) hjh dX5_readSum_55 mlX5_153 mkX5_joinHere rfl rfl h5.o ⟨by decide, rfl⟩ (rmS (by show _ ≤ 3 * (8 - d) + 2; omega) (Nat.le_of_ble_eq_true rfl)) (Nat.le_of_ble_eq_true rfl) ⟨Nat.le_of_ble_eq_true rfl, Nat.le_of_ble_eq_true rfl⟩ ?_
    refine V_istore_n (pc := 58) (ls' := [(0, _), (1, _), (2, _), (3, _), (4, _), (5, _)]) dX5_readSum_58 (by decide) rfl ?_
    refine V_iload_n (pc := 59) dX5_readSum_59 rfl ?_
    refine V_if_neN (pc := 60) (tgt := 65) dX5_readSum_60 (by decide) (by omega) (fun c60 => absurd c60 (by omega)) (fun n60 => ?_)
    refine V_iconst (pc := 63) (v := nI 1) dX5_readSum_63 (by decide) ?_
    refine V_zretB (pc := 64) (p := true) dX5_readSum_64 rfl rfl (by first | decide | omega) (by first | decide | omega) ?_
    exact ⟨rfl, rfl, hF, Or.inr ⟨F, rfl, rfl, k, c, hR, rfl, hk0, hc0, hsg, fun h => absurd h (by omega)⟩⟩
  · rw [if_neg h0]
    have hjr := jn_r h0
    have hk := hR.lt (jn_n92 h0)
    have hpp := pkm_lt hR.1 hk
    have hpp2 := hpp
    rw [pk_s] at hpp2
    have hjh := c_X5_joinHere (E := E) (S := S) (L := L) (lv := 1) h5 hR hb (by omega)
    have hC := hS d (k + 1) l c (up2 I o 4 (nI (k + 1))) L F s hd (by rw [show rkn 2 = 1 from rfl]; omega) (hR.go hk) (by omega) hs hl
    have hPL := ps_le (t := t) (od := od) f 2 d (pk t n (k + 1)) l F hpp.2
    rw [pk_s] at hC hPL
    generalize jn 1 (tc t n (pk t n k)) = x at hjh hjr h0 ⊢
    generalize ps t n od f 2 d (nxt t n (pk t n k)) l F = r1 at hC hPL ⊢
    refine V_aload_n (pc := 53) dX5_readSum_53 rfl ?_
    refine V_iload_n (pc := 54) dX5_readSum_54 rfl ?_
    refine V_callVd (pc := 55) (ci := 5) hjh dX5_readSum_55 mlX5_153 mkX5_joinHere rfl rfl h5.o ⟨by decide, rfl⟩ (rmS (by show _ ≤ 3 * (8 - d) + 2; first | omega | (show _ + 1 + 1 ≤ _; omega)) (Nat.le_of_ble_eq_true rfl)) (Nat.le_of_ble_eq_true rfl) ⟨Nat.le_of_ble_eq_true rfl, Nat.le_of_ble_eq_true rfl⟩ ?_
    refine V_istore_n (pc := 58) (ls' := [(0, _), (1, _), (2, _), (3, _), (4, _), (5, _)]) dX5_readSum_58 (by decide) rfl ?_
    refine V_iload_n (pc := 59) dX5_readSum_59 rfl ?_
    refine V_if_neN (pc := 60) (tgt := 65) dX5_readSum_60 (by decide) (by omega) (fun c60 => ?_) (fun n60 => absurd n60 (by omega))
    refine V_aload_n (pc := 65) dX5_readSum_65 rfl ?_
    refine V_callVn (pc := 66) (ci := 5) (c_X5_goOn h5 hR hk) dX5_readSum_66 mlX5_78 mkX5_goOn rfl rfl h5.o ⟨by decide, rfl⟩ (rmS (by show _ ≤ 3 * (8 - d) + 2; first | omega | (show _ + 1 + 1 ≤ _; omega)) (Nat.le_of_ble_eq_true rfl)) (Nat.le_of_ble_eq_true rfl) ⟨Nat.le_of_ble_eq_true rfl, Nat.le_of_ble_eq_true rfl⟩ ?_
    refine V_iinc1 (pc := 69) (ls' := [(0, _), (1, _), (2, _), (3, _), (4, _), (5, _)]) dX5_readSum_69 rfl (by decide) rfl ?_
    refine V_goto (pc := 72) (tgt := 5) dX5_readSum_72 (by decide) ?_
    refine V_iload (pc := 5) dX5_readSum_5 rfl ?_
    refine V_sipush (pc := 7) (v := nI 400) dX5_readSum_7 (by decide) ?_
    refine V_icmp_gtN (pc := 10) (tgt := 75) dX5_readSum_10 (by decide) (by omega) (by omega) (fun c10 => absurd c10 (by omega)) (fun n10 => ?_)
    refine V_iload_n (pc := 13) dX5_readSum_13 rfl ?_
    refine V_if_neN (pc := 14) (tgt := 26) dX5_readSum_14 (by decide) (by omega) (fun c14 => ?_) (fun n14 => absurd n14 (by omega))
    refine V_aload_n (pc := 26) dX5_readSum_26 rfl ?_
    refine V_iload_n (pc := 27) dX5_readSum_27 rfl ?_
    refine V_callV (pc := 28) (ci := 5) hC dX5_readSum_28 mlX5_150 mkX5_readPart rfl rfl h5.o ⟨by decide, rfl⟩ (rmS (by show _ ≤ 3 * (8 - d) + 2; first | omega | (show _ + 1 + 1 ≤ _; omega)) (Nat.le_of_ble_eq_true rfl)) (Nat.le_of_ble_eq_true rfl) ⟨Nat.le_of_ble_eq_true rfl, Nat.le_of_ble_eq_true rfl⟩ (fun r S' I' L' hp => ?_)
    skip
    obtain ⟨rfl, rfl, hFr, ⟨g1, rfl, k', hk', h4', hp'⟩ | ⟨G, g1, rfl, k', c', hR', hp', hkk, hcc, hsg', -⟩⟩ := hp
    · rw [bd_n g1]
      refine V_istore (pc := 31) (ls' := [(0, _), (1, _), (2, _), (3, _), (4, _), (5, _)]) dX5_readSum_31 (by decide) rfl ?_
      refine V_iload (pc := 33) dX5_readSum_33 rfl ?_
      refine V_if_eqB (pc := 35) (tgt := 51) dX5_readSum_35 (by decide) (fun c35 => ?_) (fun n35 => absurd n35 (by decide))
      refine V_iconst (pc := 51) (v := nI 0) dX5_readSum_51 (by decide) ?_
      refine V_zretB (pc := 52) (p := false) dX5_readSum_52 rfl rfl (by first | decide | omega) (by first | decide | omega) ?_
      exact ⟨rfl, rfl, (hFr.tr (FrX5.rf.u (by omega))).tr hF, Or.inl ⟨g1, rfl, k', hk', h4', hp'⟩⟩
    · rw [bd_s g1]
      obtain ⟨p1, p2, p3, p4, p5⟩ := hPL
      have p6 := p5 G g1
      rw [if_pos (by decide)] at p6
      have hkm' := hR'.2.1
      have hRp := hR'.put (a := x - 17) (x := x) (b := 0) (by unfold itC; rw [if_neg (by omega), if_neg (by omega), if_pos (by omega)]) (by unfold opC; omega) (by omega) (fun z => by omega)
      have hFp : FrX5 o (putW I' o c'.2.2 (x - 17) 0) I0 := FrX5.pw ((hFr.tr (FrX5.rf.u (by omega))).tr hF)
      have key := fun jv v5 => hT d k' r1.2.1 (pc1 c' x 0) (putW I' o c'.2.2 (x - 17) 0) L (binS x F G) s k0 l0 c0 I0 (N + 1) jv v5 hd (by rw [hp']; omega) hRp (by show c'.2.2 + 1 ≤ _; omega) hs (p4 hl) (by omega) (by omega) (by show c'.2.2 + 1 + _ ≤ _; omega) (hsg.bin hsg' hjr.1 hjr.2) hFp
      rw [hp'] at key
      refine V_istore (pc := 31) (ls' := [(0, _), (1, _), (2, _), (3, _), (4, _), (5, _)]) dX5_readSum_31 (by decide) rfl ?_
      refine V_iload (pc := 33) dX5_readSum_33 rfl ?_
      refine V_if_eqB (pc := 35) (tgt := 51) dX5_readSum_35 (by decide) (fun c35 => absurd c35 (by decide)) (fun n35 => ?_)
      refine V_iload_n (pc := 38) dX5_readSum_38 rfl ?_
      refine V_if_eqN (pc := 39) (tgt := 53) dX5_readSum_39 (by decide) (by omega) (fun c39 => absurd c39 (by omega)) (fun n39 => ?_)
      refine V_aload_n (pc := 42) dX5_readSum_42 rfl ?_
      refine V_iload_n (pc := 43) dX5_readSum_43 rfl ?_
      refine V_iconst (pc := 44) (v := nI 0) dX5_readSum_44 (by decide) ?_
      refine V_callVd (pc := 45) (ci := 5) (c_X5_put (a := x - 17) h5 hR' (by omega)) dX5_readSum_45 mlX5_131 mkX5_put rfl rfl h5.o ⟨by decide, rfl⟩ (rmS (by show _ ≤ 3 * (8 - d) + 2; omega) (Nat.le_of_ble_eq_true rfl)) (Nat.le_of_ble_eq_true rfl) ⟨Nat.le_of_ble_eq_true rfl, Nat.le_of_ble_eq_true rfl⟩ ?_
      refine V_if_neB (pc := 48) (tgt := 53) dX5_readSum_48 (by decide) (fun c48 => ?_) (fun n48 => absurd n48 (by decide))
      exact key _ _
theorem cls_1 (h5 : Lay5 E S o) (hS : CLP E S o t n m od f) (hT : TLS E S o t n m od 1 f) : CLS E S o t n m od 1 (f + 1) := by
  intro d k l c I L F s hd hf hR hc hs hl
  rw [show rkn 1 = 2 from rfl] at hf
  have h400 := hR.1.2.2.1
  have hkm := hR.2.1
  have hpn := hR.1.pn hkm
  have hC := hS d k l c I L F s hd (by rw [show rkn 2 = 1 from rfl]; omega) hR hc hs hl
  have hPL := ps_le (t := t) (od := od) f 2 d (pk t n k) l F hpn
  rw [ps_1]
  generalize ps t n od f 2 d (pk t n k) l F = r1 at hC hPL ⊢
  refine C_of (by decide) (Nat.le_of_ble_eq_true rfl) ?_
  refine V_iconst (pc := 0) (v := nI 0) dX5_readSum_0 (by decide) ?_
  refine V_istore_n (pc := 1) (ls' := [(0, _), (1, _), (2, _), (3, _)]) dX5_readSum_1 (by decide) rfl ?_
  refine V_iconst (pc := 2) (v := nI 0) dX5_readSum_2 (by decide) ?_
  refine V_istore (pc := 3) (ls' := [(0, _), (1, _), (2, _), (3, _), (4, _)]) dX5_readSum_3 (by decide) rfl ?_
  refine V_iload (pc := 5) dX5_readSum_5 rfl ?_
  refine V_sipush (pc := 7) (v := nI 400) dX5_readSum_7 (by decide) ?_
  refine V_icmp_gtN (pc := 10) (tgt := 75) dX5_readSum_10 (by decide) (by omega) (by omega) (fun c10 => absurd c10 (by omega)) (fun n10 => ?_)
  refine V_iload_n (pc := 13) dX5_readSum_13 rfl ?_
  refine V_if_neN (pc := 14) (tgt := 26) dX5_readSum_14 (by decide) (by omega) (fun c14 => ?_) (fun n14 => absurd n14 (by omega))
  refine V_aload_n (pc := 26) dX5_readSum_26 rfl ?_
  refine V_iload_n (pc := 27) dX5_readSum_27 rfl ?_
  refine V_callV (pc := 28) (ci := 5) hC dX5_readSum_28 mlX5_150 mkX5_readPart rfl rfl h5.o ⟨by decide, rfl⟩ (rmS (by show _ ≤ 3 * (8 - d) + 2; first | omega | (show _ + 1 + 1 ≤ _; omega)) (Nat.le_of_ble_eq_true rfl)) (Nat.le_of_ble_eq_true rfl) ⟨Nat.le_of_ble_eq_true rfl, Nat.le_of_ble_eq_true rfl⟩ (fun r S' I' L' hp => ?_)
  skip
  obtain ⟨rfl, rfl, hFr, ⟨g1, rfl, k', hk', h4', hp'⟩ | ⟨G, g1, rfl, k', c', hR', hp', hkk, hcc, hsg', -⟩⟩ := hp
  · rw [bd_n g1]
    refine V_istore (pc := 31) (ls' := [(0, _), (1, _), (2, _), (3, _), (4, _), (5, _)]) dX5_readSum_31 (by decide) rfl ?_
    refine V_iload (pc := 33) dX5_readSum_33 rfl ?_
    refine V_if_eqB (pc := 35) (tgt := 51) dX5_readSum_35 (by decide) (fun c35 => ?_) (fun n35 => absurd n35 (by decide))
    refine V_iconst (pc := 51) (v := nI 0) dX5_readSum_51 (by decide) ?_
    refine V_zretB (pc := 52) (p := false) dX5_readSum_52 rfl rfl (by first | decide | omega) (by first | decide | omega) ?_
    exact ⟨rfl, rfl, hFr, Or.inl ⟨g1, rfl, k', hk', h4', hp'⟩⟩
  · rw [bd_s g1]
    obtain ⟨p1, p2, p3, p4, p5⟩ := hPL
    have p6 := p5 G g1
    rw [if_pos (by decide)] at p6
    have hkm' := hR'.2.1
    have key := fun jv v5 => hT d k' r1.2.1 c' I' L G s k l c I 0 jv v5 hd (by rw [hp']; omega) hR' (by omega) hs (p4 hl) (by omega) hkk hcc hsg' hFr
    rw [hp'] at key
    refine V_istore (pc := 31) (ls' := [(0, _), (1, _), (2, _), (3, _), (4, _), (5, _)]) dX5_readSum_31 (by decide) rfl ?_
    refine V_iload (pc := 33) dX5_readSum_33 rfl ?_
    refine V_if_eqB (pc := 35) (tgt := 51) dX5_readSum_35 (by decide) (fun c35 => absurd c35 (by decide)) (fun n35 => ?_)
    refine V_iload_n (pc := 38) dX5_readSum_38 rfl ?_
    refine V_if_eqN (pc := 39) (tgt := 53) dX5_readSum_39 (by decide) (by omega) (fun c39 => ?_) (fun n39 => absurd n39 (by omega))
    exact key _ _
theorem cls_all (h5 : Lay5 E S o) (hb : ∀ i, i < n → t i < 256) : ∀ f, CLS E S o t n m od 0 f ∧ CLS E S o t n m od 1 f ∧ CLP E S o t n m od f ∧ TLS E S o t n m od 0 f ∧ TLS E S o t n m od 1 f := by
  intro f
  induction f with
  | zero =>
    refine ⟨?_, ?_, ?_, ?_, ?_⟩
    · intro d k l c I L F s hd hf; exact absurd hf (by rw [show rkn 0 = 3 from rfl]; omega)
    · intro d k l c I L F s hd hf; exact absurd hf (by rw [show rkn 1 = 2 from rfl]; omega)
    · intro d k l c I L F s hd hf; exact absurd hf (by rw [show rkn 2 = 1 from rfl]; omega)
    · intro d k l c I L F s k0 l0 c0 I0 N jv v5 hd hf; exact absurd hf (by omega)
    · intro d k l c I L F s k0 l0 c0 I0 N jv v5 hd hf; exact absurd hf (by omega)
  | succ f ih =>
    obtain ⟨h1, h2, h3, h4, h6⟩ := ih
    exact ⟨cls_0 h5 h2 h4, cls_1 h5 h3 h6, clp_s h5 hb h1, tls_0 h5 hb h2 h4, tls_1 h5 hb h3 h6⟩
end RU
